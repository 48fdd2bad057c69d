section
-- ===== PART A: goes FIRST, ahead of the names: the tables' words, and 'selects' of the private methods out of them =====
/-- a private method of a class that the tables say can be made, by its rows of tables_1 -/
def lw_okq (q : MethodName × Nat) : Prop := (q.1.cls ≠ "java/lang/invoke/MethodHandle" ∧ q.1.cls ≠ "java/lang/invoke/VarHandle") ∧ Cond.instantiable q.1.cls q.2 ∈ tables_1 ∧ Cond.privateMethod q.1 ∈ tables_1 ∧ Cond.instanceMethod q.1 ∈ tables_1
theorem lw_p0 : lw_okq (⟨"SightRows", "stepBetween", "(II)I"⟩, 13) := ⟨⟨by decide +kernel, by decide +kernel⟩, List.mem_of_getElem? (i := 6) (by decide +kernel), List.mem_of_getElem? (i := 108) (by decide +kernel), List.mem_of_getElem? (i := 109) (by decide +kernel)⟩
theorem lw_p1 : lw_okq (⟨"SightRows", "squareBetween", "(II)J"⟩, 13) := ⟨⟨by decide +kernel, by decide +kernel⟩, List.mem_of_getElem? (i := 6) (by decide +kernel), List.mem_of_getElem? (i := 112) (by decide +kernel), List.mem_of_getElem? (i := 113) (by decide +kernel)⟩
theorem lw_p2 : lw_okq (⟨"SightRows", "isStation", "(I)Z"⟩, 13) := ⟨⟨by decide +kernel, by decide +kernel⟩, List.mem_of_getElem? (i := 6) (by decide +kernel), List.mem_of_getElem? (i := 133) (by decide +kernel), List.mem_of_getElem? (i := 134) (by decide +kernel)⟩
theorem lw_p3 : lw_okq (⟨"SightRows$Boxes", "add", "(IIIII)I"⟩, 10) := ⟨⟨by decide +kernel, by decide +kernel⟩, List.mem_of_getElem? (i := 14) (by decide +kernel), List.mem_of_getElem? (i := 144) (by decide +kernel), List.mem_of_getElem? (i := 145) (by decide +kernel)⟩
theorem lw_p4 : lw_okq (⟨"SightRows", "interruption", "(II)I"⟩, 13) := ⟨⟨by decide +kernel, by decide +kernel⟩, List.mem_of_getElem? (i := 6) (by decide +kernel), List.mem_of_getElem? (i := 164) (by decide +kernel), List.mem_of_getElem? (i := 165) (by decide +kernel)⟩
theorem lw_p5 : lw_okq (⟨"SightRows", "isGroundAbove", "(III)Z"⟩, 13) := ⟨⟨by decide +kernel, by decide +kernel⟩, List.mem_of_getElem? (i := 6) (by decide +kernel), List.mem_of_getElem? (i := 171) (by decide +kernel), List.mem_of_getElem? (i := 172) (by decide +kernel)⟩
theorem lw_p6 : lw_okq (⟨"SightRows", "isBankInWay", "(III)Z"⟩, 13) := ⟨⟨by decide +kernel, by decide +kernel⟩, List.mem_of_getElem? (i := 6) (by decide +kernel), List.mem_of_getElem? (i := 178) (by decide +kernel), List.mem_of_getElem? (i := 179) (by decide +kernel)⟩
theorem lw_p7 : lw_okq (⟨"SightRows", "crossAt", "(III)J"⟩, 13) := ⟨⟨by decide +kernel, by decide +kernel⟩, List.mem_of_getElem? (i := 6) (by decide +kernel), List.mem_of_getElem? (i := 182) (by decide +kernel), List.mem_of_getElem? (i := 183) (by decide +kernel)⟩
theorem lw_p8 : lw_okq (⟨"SightRows$Boxes", "firstAcross", "(IIIIII)I"⟩, 10) := ⟨⟨by decide +kernel, by decide +kernel⟩, List.mem_of_getElem? (i := 14) (by decide +kernel), List.mem_of_getElem? (i := 192) (by decide +kernel), List.mem_of_getElem? (i := 193) (by decide +kernel)⟩
theorem lw_p9 : lw_okq (⟨"SightRows$Boxes", "takeWhole", "()V"⟩, 10) := ⟨⟨by decide +kernel, by decide +kernel⟩, List.mem_of_getElem? (i := 14) (by decide +kernel), List.mem_of_getElem? (i := 196) (by decide +kernel), List.mem_of_getElem? (i := 197) (by decide +kernel)⟩
theorem lw_p10 : lw_okq (⟨"SightRows$Boxes", "narrow", "(IIII)Z"⟩, 10) := ⟨⟨by decide +kernel, by decide +kernel⟩, List.mem_of_getElem? (i := 14) (by decide +kernel), List.mem_of_getElem? (i := 200) (by decide +kernel), List.mem_of_getElem? (i := 201) (by decide +kernel)⟩
theorem lw_p11 : lw_okq (⟨"SightRows$Boxes", "dipsBelow", "(JJJ)Z"⟩, 10) := ⟨⟨by decide +kernel, by decide +kernel⟩, List.mem_of_getElem? (i := 14) (by decide +kernel), List.mem_of_getElem? (i := 205) (by decide +kernel), List.mem_of_getElem? (i := 206) (by decide +kernel)⟩
theorem lw_p12 : lw_okq (⟨"SightRows", "sightFrom", "(IZ)I"⟩, 13) := ⟨⟨by decide +kernel, by decide +kernel⟩, List.mem_of_getElem? (i := 6) (by decide +kernel), List.mem_of_getElem? (i := 213) (by decide +kernel), List.mem_of_getElem? (i := 214) (by decide +kernel)⟩
theorem lw_p13 : lw_okq (⟨"SightRows", "needWith", "(IZI)I"⟩, 13) := ⟨⟨by decide +kernel, by decide +kernel⟩, List.mem_of_getElem? (i := 6) (by decide +kernel), List.mem_of_getElem? (i := 221) (by decide +kernel), List.mem_of_getElem? (i := 222) (by decide +kernel)⟩
theorem lw_p14 : lw_okq (⟨"SightRows", "slopeBeyond", "(IZ)J"⟩, 13) := ⟨⟨by decide +kernel, by decide +kernel⟩, List.mem_of_getElem? (i := 6) (by decide +kernel), List.mem_of_getElem? (i := 228) (by decide +kernel), List.mem_of_getElem? (i := 229) (by decide +kernel)⟩
theorem lw_p15 : lw_okq (⟨"SightRows", "isBlind", "(IZ)Z"⟩, 13) := ⟨⟨by decide +kernel, by decide +kernel⟩, List.mem_of_getElem? (i := 6) (by decide +kernel), List.mem_of_getElem? (i := 242) (by decide +kernel), List.mem_of_getElem? (i := 243) (by decide +kernel)⟩
def lw_privs_1 : List (MethodName × Nat) := [(⟨"SightRows", "stepBetween", "(II)I"⟩, 13), (⟨"SightRows", "squareBetween", "(II)J"⟩, 13), (⟨"SightRows", "isStation", "(I)Z"⟩, 13), (⟨"SightRows$Boxes", "add", "(IIIII)I"⟩, 10), (⟨"SightRows", "interruption", "(II)I"⟩, 13), (⟨"SightRows", "isGroundAbove", "(III)Z"⟩, 13), (⟨"SightRows", "isBankInWay", "(III)Z"⟩, 13), (⟨"SightRows", "crossAt", "(III)J"⟩, 13), (⟨"SightRows$Boxes", "firstAcross", "(IIIIII)I"⟩, 10), (⟨"SightRows$Boxes", "takeWhole", "()V"⟩, 10), (⟨"SightRows$Boxes", "narrow", "(IIII)Z"⟩, 10), (⟨"SightRows$Boxes", "dipsBelow", "(JJJ)Z"⟩, 10), (⟨"SightRows", "sightFrom", "(IZ)I"⟩, 13), (⟨"SightRows", "needWith", "(IZI)I"⟩, 13), (⟨"SightRows", "slopeBeyond", "(IZ)J"⟩, 13), (⟨"SightRows", "isBlind", "(IZ)Z"⟩, 13)]
theorem lw_r1 : ∀ q ∈ lw_privs_1, lw_okq q := List.forall_mem_cons.mpr ⟨lw_p0, List.forall_mem_cons.mpr ⟨lw_p1, List.forall_mem_cons.mpr ⟨lw_p2, List.forall_mem_cons.mpr ⟨lw_p3, List.forall_mem_cons.mpr ⟨lw_p4, List.forall_mem_cons.mpr ⟨lw_p5, List.forall_mem_cons.mpr ⟨lw_p6, List.forall_mem_cons.mpr ⟨lw_p7, List.forall_mem_cons.mpr ⟨lw_p8, List.forall_mem_cons.mpr ⟨lw_p9, List.forall_mem_cons.mpr ⟨lw_p10, List.forall_mem_cons.mpr ⟨lw_p11, List.forall_mem_cons.mpr ⟨lw_p12, List.forall_mem_cons.mpr ⟨lw_p13, List.forall_mem_cons.mpr ⟨lw_p14, List.forall_mem_cons.mpr ⟨lw_p15, fun _ h => absurd h List.not_mem_nil⟩⟩⟩⟩⟩⟩⟩⟩⟩⟩⟩⟩⟩⟩⟩⟩
theorem lw_p16 : lw_okq (⟨"SightRows", "roadBeyond", "(IZ)I"⟩, 13) := ⟨⟨by decide +kernel, by decide +kernel⟩, List.mem_of_getElem? (i := 6) (by decide +kernel), List.mem_of_getElem? (i := 246) (by decide +kernel), List.mem_of_getElem? (i := 247) (by decide +kernel)⟩
theorem lw_p17 : lw_okq (⟨"SightRows", "widened", "(IIIII)I"⟩, 13) := ⟨⟨by decide +kernel, by decide +kernel⟩, List.mem_of_getElem? (i := 6) (by decide +kernel), List.mem_of_getElem? (i := 254) (by decide +kernel), List.mem_of_getElem? (i := 255) (by decide +kernel)⟩
theorem lw_p18 : lw_okq (⟨"SightRows", "freeViews", "()I"⟩, 13) := ⟨⟨by decide +kernel, by decide +kernel⟩, List.mem_of_getElem? (i := 6) (by decide +kernel), List.mem_of_getElem? (i := 281) (by decide +kernel), List.mem_of_getElem? (i := 282) (by decide +kernel)⟩
theorem lw_p19 : lw_okq (⟨"SightRows", "blindStations", "(Z)I"⟩, 13) := ⟨⟨by decide +kernel, by decide +kernel⟩, List.mem_of_getElem? (i := 6) (by decide +kernel), List.mem_of_getElem? (i := 285) (by decide +kernel), List.mem_of_getElem? (i := 286) (by decide +kernel)⟩
theorem lw_p20 : lw_okq (⟨"SightRowsModel", "isStation", "(I)Z"⟩, 17) := ⟨⟨by decide +kernel, by decide +kernel⟩, List.mem_of_getElem? (i := 289) (by decide +kernel), List.mem_of_getElem? (i := 375) (by decide +kernel), List.mem_of_getElem? (i := 376) (by decide +kernel)⟩
theorem lw_p21 : lw_okq (⟨"SightRowsModel", "interrupter", "(II)I"⟩, 17) := ⟨⟨by decide +kernel, by decide +kernel⟩, List.mem_of_getElem? (i := 289) (by decide +kernel), List.mem_of_getElem? (i := 399) (by decide +kernel), List.mem_of_getElem? (i := 400) (by decide +kernel)⟩
theorem lw_p22 : lw_okq (⟨"SightRowsModel", "isAbove", "(III)Z"⟩, 17) := ⟨⟨by decide +kernel, by decide +kernel⟩, List.mem_of_getElem? (i := 289) (by decide +kernel), List.mem_of_getElem? (i := 403) (by decide +kernel), List.mem_of_getElem? (i := 404) (by decide +kernel)⟩
theorem lw_p23 : lw_okq (⟨"SightRowsModel", "isBanked", "(III)Z"⟩, 17) := ⟨⟨by decide +kernel, by decide +kernel⟩, List.mem_of_getElem? (i := 289) (by decide +kernel), List.mem_of_getElem? (i := 407) (by decide +kernel), List.mem_of_getElem? (i := 408) (by decide +kernel)⟩
theorem lw_p24 : lw_okq (⟨"SightRowsModel", "beside", "(III)J"⟩, 17) := ⟨⟨by decide +kernel, by decide +kernel⟩, List.mem_of_getElem? (i := 289) (by decide +kernel), List.mem_of_getElem? (i := 411) (by decide +kernel), List.mem_of_getElem? (i := 412) (by decide +kernel)⟩
theorem lw_p25 : lw_okq (⟨"SightRowsModel", "lengthSquare", "(II)J"⟩, 17) := ⟨⟨by decide +kernel, by decide +kernel⟩, List.mem_of_getElem? (i := 289) (by decide +kernel), List.mem_of_getElem? (i := 415) (by decide +kernel), List.mem_of_getElem? (i := 416) (by decide +kernel)⟩
theorem lw_p26 : lw_okq (⟨"SightRowsModel", "isBoxed", "(IIIIIII)Z"⟩, 17) := ⟨⟨by decide +kernel, by decide +kernel⟩, List.mem_of_getElem? (i := 289) (by decide +kernel), List.mem_of_getElem? (i := 419) (by decide +kernel), List.mem_of_getElem? (i := 420) (by decide +kernel)⟩
theorem lw_p27 : lw_okq (⟨"SightRowsModel", "cut", "(IIII)Z"⟩, 17) := ⟨⟨by decide +kernel, by decide +kernel⟩, List.mem_of_getElem? (i := 289) (by decide +kernel), List.mem_of_getElem? (i := 423) (by decide +kernel), List.mem_of_getElem? (i := 424) (by decide +kernel)⟩
theorem lw_p28 : lw_okq (⟨"SightRowsModel", "sightOf", "(IZ)I"⟩, 17) := ⟨⟨by decide +kernel, by decide +kernel⟩, List.mem_of_getElem? (i := 289) (by decide +kernel), List.mem_of_getElem? (i := 434) (by decide +kernel), List.mem_of_getElem? (i := 435) (by decide +kernel)⟩
theorem lw_p29 : lw_okq (⟨"SightRowsModel", "needOf", "(IZI)I"⟩, 17) := ⟨⟨by decide +kernel, by decide +kernel⟩, List.mem_of_getElem? (i := 289) (by decide +kernel), List.mem_of_getElem? (i := 442) (by decide +kernel), List.mem_of_getElem? (i := 443) (by decide +kernel)⟩
theorem lw_p30 : lw_okq (⟨"SightRowsModel", "isBlind", "(IZ)Z"⟩, 17) := ⟨⟨by decide +kernel, by decide +kernel⟩, List.mem_of_getElem? (i := 289) (by decide +kernel), List.mem_of_getElem? (i := 454) (by decide +kernel), List.mem_of_getElem? (i := 455) (by decide +kernel)⟩
theorem lw_p31 : lw_okq (⟨"SightRowsModel", "remaining", "(IZ)I"⟩, 17) := ⟨⟨by decide +kernel, by decide +kernel⟩, List.mem_of_getElem? (i := 289) (by decide +kernel), List.mem_of_getElem? (i := 458) (by decide +kernel), List.mem_of_getElem? (i := 459) (by decide +kernel)⟩
def lw_privs_2 : List (MethodName × Nat) := [(⟨"SightRows", "roadBeyond", "(IZ)I"⟩, 13), (⟨"SightRows", "widened", "(IIIII)I"⟩, 13), (⟨"SightRows", "freeViews", "()I"⟩, 13), (⟨"SightRows", "blindStations", "(Z)I"⟩, 13), (⟨"SightRowsModel", "isStation", "(I)Z"⟩, 17), (⟨"SightRowsModel", "interrupter", "(II)I"⟩, 17), (⟨"SightRowsModel", "isAbove", "(III)Z"⟩, 17), (⟨"SightRowsModel", "isBanked", "(III)Z"⟩, 17), (⟨"SightRowsModel", "beside", "(III)J"⟩, 17), (⟨"SightRowsModel", "lengthSquare", "(II)J"⟩, 17), (⟨"SightRowsModel", "isBoxed", "(IIIIIII)Z"⟩, 17), (⟨"SightRowsModel", "cut", "(IIII)Z"⟩, 17), (⟨"SightRowsModel", "sightOf", "(IZ)I"⟩, 17), (⟨"SightRowsModel", "needOf", "(IZI)I"⟩, 17), (⟨"SightRowsModel", "isBlind", "(IZ)Z"⟩, 17), (⟨"SightRowsModel", "remaining", "(IZ)I"⟩, 17)]
theorem lw_r2 : ∀ q ∈ lw_privs_2, lw_okq q := List.forall_mem_cons.mpr ⟨lw_p16, List.forall_mem_cons.mpr ⟨lw_p17, List.forall_mem_cons.mpr ⟨lw_p18, List.forall_mem_cons.mpr ⟨lw_p19, List.forall_mem_cons.mpr ⟨lw_p20, List.forall_mem_cons.mpr ⟨lw_p21, List.forall_mem_cons.mpr ⟨lw_p22, List.forall_mem_cons.mpr ⟨lw_p23, List.forall_mem_cons.mpr ⟨lw_p24, List.forall_mem_cons.mpr ⟨lw_p25, List.forall_mem_cons.mpr ⟨lw_p26, List.forall_mem_cons.mpr ⟨lw_p27, List.forall_mem_cons.mpr ⟨lw_p28, List.forall_mem_cons.mpr ⟨lw_p29, List.forall_mem_cons.mpr ⟨lw_p30, List.forall_mem_cons.mpr ⟨lw_p31, fun _ h => absurd h List.not_mem_nil⟩⟩⟩⟩⟩⟩⟩⟩⟩⟩⟩⟩⟩⟩⟩⟩
def lw_privs : List (MethodName × Nat) := lw_privs_1 ++ (lw_privs_2)
def lw_tbl : List Cond := k2_sels lw_privs ++ tables_1
theorem lw_privs_ok : ∀ q ∈ lw_privs, lw_okq q := by
  show ∀ q ∈ lw_privs_1 ++ (lw_privs_2), lw_okq q
  exact List.forall_mem_append.mpr ⟨lw_r1, lw_r2⟩
end
section
/-! ints and longs by whole numbers: zi a, zl a; what a walk's rows say of them -/
def zi (a : Int) : Int32 := Int32.ofInt a
def zl (a : Int) : Int64 := Int64.ofInt a
def zI (a : Int) : Prop := -2147483648 ≤ a ∧ a < 2147483648
def zL (a : Int) : Prop := -9223372036854775808 ≤ a ∧ a < 9223372036854775808
def zB (lo hi a : Int) : Prop := lo ≤ a ∧ a ≤ hi
theorem zi_t {a : Int} (h : zI a) : (zi a).toInt = a := Int32.toInt_ofInt_of_le (by have := h.1; omega) (by have := h.2; omega)
theorem zl_t {a : Int} (h : zL a) : (zl a).toInt = a := Int64.toInt_ofInt_of_le (by have := h.1; omega) (by have := h.2; omega)
theorem zi_of (x : Int32) : zi x.toInt = x := Int32.ofInt_toInt x
theorem zl_of (x : Int64) : zl x.toInt = x := Int64.ofInt_toInt x
theorem zI_of (x : Int32) : zI x.toInt := ⟨by have := Int32.le_toInt x; omega, by have := Int32.toInt_lt x; omega⟩
theorem zi_add (a b : Int) : zi a + zi b = zi (a + b) := (Int32.ofInt_add a b).symm
theorem zi_sub (a b : Int) : zi a - zi b = zi (a - b) := (Int32.ofInt_sub a b).symm
theorem zi_mul (a b : Int) : zi a * zi b = zi (a * b) := (Int32.ofInt_mul a b).symm
theorem zi_neg (a : Int) : -zi a = zi (-a) := Int32.neg_ofInt
theorem zl_add (a b : Int) : zl a + zl b = zl (a + b) := (Int64.ofInt_add a b).symm
theorem zl_sub (a b : Int) : zl a - zl b = zl (a - b) := (Int64.ofInt_sub a b).symm
theorem zl_mul (a b : Int) : zl a * zl b = zl (a * b) := (Int64.ofInt_mul a b).symm
theorem zl_neg (a : Int) : -zl a = zl (-a) := Int64.neg_ofInt
theorem zi_lt {a b : Int} (ha : zI a) (hb : zI b) : zi a < zi b ↔ a < b := by rw [Int32.lt_iff_toInt_lt, zi_t ha, zi_t hb]
theorem zi_le {a b : Int} (ha : zI a) (hb : zI b) : zi a ≤ zi b ↔ a ≤ b := by rw [Int32.le_iff_toInt_le, zi_t ha, zi_t hb]
theorem zi_eq {a b : Int} (ha : zI a) (hb : zI b) : zi a = zi b ↔ a = b := ⟨fun h => by rw [← zi_t ha, ← zi_t hb, h], fun h => by rw [h]⟩
theorem zl_lt {a b : Int} (ha : zL a) (hb : zL b) : zl a < zl b ↔ a < b := by rw [Int64.lt_iff_toInt_lt, zl_t ha, zl_t hb]
theorem zl_le {a b : Int} (ha : zL a) (hb : zL b) : zl a ≤ zl b ↔ a ≤ b := by rw [Int64.le_iff_toInt_le, zl_t ha, zl_t hb]
theorem zl_eq {a b : Int} (ha : zL a) (hb : zL b) : zl a = zl b ↔ a = b := ⟨fun h => by rw [← zl_t ha, ← zl_t hb, h], fun h => by rw [h]⟩
theorem zi_0 : zi 0 = 0 := rfl
theorem zl_0 : zl 0 = 0 := rfl
theorem zI_0 : zI 0 := ⟨by decide, by decide⟩
theorem zi_l {a : Int} (h : zI a) : (zi a).toInt64 = zl a := Int64.toInt_inj.mp (by rw [Int32.toInt_toInt64, zi_t h, zl_t ⟨by have := h.1; omega, by have := h.2; omega⟩])
theorem zl_i (a : Int) : (zl a).toInt32 = zi a := Int64.toInt32_ofInt
-- intervals
theorem zB.I {lo hi a : Int} (h : zB lo hi a) (h1 : -2147483648 ≤ lo) (h2 : hi < 2147483648) : zI a := ⟨Int.le_trans h1 h.1, Int.lt_of_le_of_lt h.2 h2⟩
theorem zB.L {lo hi a : Int} (h : zB lo hi a) (h1 : -9223372036854775808 ≤ lo) (h2 : hi < 9223372036854775808) : zL a := ⟨Int.le_trans h1 h.1, Int.lt_of_le_of_lt h.2 h2⟩
theorem zB.w {lo hi lo' hi' a : Int} (h : zB lo hi a) (h1 : lo' ≤ lo) (h2 : hi ≤ hi') : zB lo' hi' a := ⟨Int.le_trans h1 h.1, Int.le_trans h.2 h2⟩
theorem zb_c (a : Int) : zB a a a := ⟨Int.le_refl a, Int.le_refl a⟩
theorem zb_add {a b c d x y : Int} (h : zB a b x) (g : zB c d y) : zB (a + c) (b + d) (x + y) := ⟨Int.add_le_add h.1 g.1, Int.add_le_add h.2 g.2⟩
theorem zb_sub {a b c d x y : Int} (h : zB a b x) (g : zB c d y) : zB (a - d) (b - c) (x - y) := ⟨Int.sub_le_sub h.1 g.2, Int.sub_le_sub h.2 g.1⟩
theorem zb_neg {a b x : Int} (h : zB a b x) : zB (-b) (-a) (-x) := ⟨Int.neg_le_neg h.2, Int.neg_le_neg h.1⟩
theorem zb_abs {A x : Int} (h : zB (-A) A x) : x.natAbs ≤ A.toNat := by
  obtain ⟨h1, h2⟩ := h
  omega
theorem zb_mul {A B x y : Int} (h : zB (-A) A x) (g : zB (-B) B y) : zB (-(A * B)) (A * B) (x * y) := by
  have hA : 0 ≤ A := by have := h.1; have := h.2; omega
  have hB : 0 ≤ B := by have := g.1; have := g.2; omega
  have h1 := zb_abs h
  have h2 := zb_abs g
  have h3 : (x * y).natAbs ≤ A.toNat * B.toNat := by rw [Int.natAbs_mul]; exact Nat.mul_le_mul h1 h2
  have h4 : ((A.toNat * B.toNat : Nat) : Int) = A * B := by rw [Int.natCast_mul, Int.toNat_of_nonneg hA, Int.toNat_of_nonneg hB]
  have h5 : ((x * y).natAbs : Int) ≤ A * B := by rw [← h4]; exact Int.ofNat_le.mpr h3
  constructor <;> omega
theorem zb_mulp {a b c d x y : Int} (h : zB a b x) (g : zB c d y) (ha : 0 ≤ a) (hc : 0 ≤ c) : zB 0 (b * d) (x * y) := by
  obtain ⟨h1, h2⟩ := h
  obtain ⟨g1, g2⟩ := g
  have hx : 0 ≤ x := Int.le_trans ha h1
  have hy : 0 ≤ y := Int.le_trans hc g1
  exact ⟨Int.mul_nonneg hx hy, Int.mul_le_mul h2 g2 hy (Int.le_trans hx h2)⟩
theorem zb_sq {A x : Int} (h : zB (-A) A x) : zB 0 (A * A) (x * x) := by
  refine ⟨?_, (zb_mul h h).2⟩
  rcases Int.le_total 0 x with q | q
  · exact Int.mul_nonneg q q
  · exact Int.mul_nonneg_of_nonpos_of_nonpos q q
-- arrays of ints
def zA (g : Int → Int) : Nat → Int32 := fun j => zi (g (j : Int))
def zu (g : Int → Int) (i v : Int) : Int → Int := fun j => if j = i then v else g j
theorem zu_s (g : Int → Int) (i v : Int) : zu g i v i = v := if_pos rfl
theorem zu_n {g : Int → Int} {i v j : Int} (h : ¬ j = i) : zu g i v j = g j := if_neg h
theorem zp_in {i : Int} {n : Nat} (h0 : 0 ≤ i) (h1 : i < (n : Int)) (hn : (n : Int) ≤ 2147483647) : vp_in (zi i) n := by
  rw [vp_in_iff, zi_t ⟨by omega, by omega⟩]
  exact ⟨h0, h1⟩
theorem zp_cl {i : Int} (h0 : 0 ≤ i) (h1 : i < 2147483648) : (zi i).toNatClampNeg = i.toNat := by
  rw [← Int32.toNat_toInt, zi_t ⟨by omega, h1⟩]
theorem zA_at (g : Int → Int) {i : Int} (h0 : 0 ≤ i) (h1 : i < 2147483648) : zA g (zi i).toNatClampNeg = zi (g i) := by
  rw [zp_cl h0 h1]
  show zi (g ((i.toNat : Nat) : Int)) = _
  rw [Int.toNat_of_nonneg h0]
theorem zA_up (g : Int → Int) {i v : Int} (h0 : 0 ≤ i) (h1 : i < 2147483648) : upd (zA g) (zi i).toNatClampNeg (zi v) = zA (zu g i v) := by
  rw [zp_cl h0 h1]
  funext j
  show (if j = i.toNat then zi v else zi (g (j : Int))) = zi (if (j : Int) = i then v else g (j : Int))
  by_cases h : j = i.toNat
  · have : (j : Int) = i := by omega
    rw [if_pos h, if_pos this]
  · have : ¬ (j : Int) = i := by omega
    rw [if_neg h, if_neg this]
theorem zA_0 : zA (fun _ => 0) = fun _ => 0 := rfl
section ZR
variable {p : Program} {l : Launch} {e : Env} {R : Room} {s : State} {m : MethodId} {args : Array Value} {below : List Frame} {meth : Method} {c : Code} {H : Heap} {locs : List Loc} {cells slots : Nat} {Q : State → Prop}
variable {cc : ByteArray} {pc : Nat} {ls : Array Slot} {rest : List Value}
theorem zr_iadd (hx : p.tables.exec = Jvm.exec) (hb : c.code = cc) {a b : Int} (hd : decode cc pc = .ok (.iadd, 1)) (k : W p l e R s m args below meth c H locs cells slots Q (F0 m (pc + 1) ls (.int (zi (a + b)) :: rest))) : W p l e R s m args below meth c H locs cells slots Q (F0 m pc ls (.int (zi b) :: .int (zi a) :: rest)) := lv_iadd hx hb hd (by rw [zi_add]; exact k)
theorem zr_isub (hx : p.tables.exec = Jvm.exec) (hb : c.code = cc) {a b : Int} (hd : decode cc pc = .ok (.isub, 1)) (k : W p l e R s m args below meth c H locs cells slots Q (F0 m (pc + 1) ls (.int (zi (a - b)) :: rest))) : W p l e R s m args below meth c H locs cells slots Q (F0 m pc ls (.int (zi b) :: .int (zi a) :: rest)) := lv_isub hx hb hd (by rw [zi_sub]; exact k)
theorem zr_imul (hx : p.tables.exec = Jvm.exec) (hb : c.code = cc) {a b : Int} (hd : decode cc pc = .ok (.imul, 1)) (k : W p l e R s m args below meth c H locs cells slots Q (F0 m (pc + 1) ls (.int (zi (a * b)) :: rest))) : W p l e R s m args below meth c H locs cells slots Q (F0 m pc ls (.int (zi b) :: .int (zi a) :: rest)) := lv_imul hx hb hd (by rw [zi_mul]; exact k)
theorem zr_ineg (hx : p.tables.exec = Jvm.exec) (hb : c.code = cc) {a : Int} (hd : decode cc pc = .ok (.ineg, 1)) (k : W p l e R s m args below meth c H locs cells slots Q (F0 m (pc + 1) ls (.int (zi (-a)) :: rest))) : W p l e R s m args below meth c H locs cells slots Q (F0 m pc ls (.int (zi a) :: rest)) := lv_ineg hx hb hd (by rw [zi_neg]; exact k)
theorem zr_ladd (hx : p.tables.exec = Jvm.exec) (hb : c.code = cc) {a b : Int} (hd : decode cc pc = .ok (.ladd, 1)) (k : W p l e R s m args below meth c H locs cells slots Q (F0 m (pc + 1) ls (.long (zl (a + b)) :: rest))) : W p l e R s m args below meth c H locs cells slots Q (F0 m pc ls (.long (zl b) :: .long (zl a) :: rest)) := lv_ladd hx hb hd (by rw [zl_add]; exact k)
theorem zr_lsub (hx : p.tables.exec = Jvm.exec) (hb : c.code = cc) {a b : Int} (hd : decode cc pc = .ok (.lsub, 1)) (k : W p l e R s m args below meth c H locs cells slots Q (F0 m (pc + 1) ls (.long (zl (a - b)) :: rest))) : W p l e R s m args below meth c H locs cells slots Q (F0 m pc ls (.long (zl b) :: .long (zl a) :: rest)) := lv_lsub hx hb hd (by rw [zl_sub]; exact k)
theorem zr_lmul (hx : p.tables.exec = Jvm.exec) (hb : c.code = cc) {a b : Int} (hd : decode cc pc = .ok (.lmul, 1)) (k : W p l e R s m args below meth c H locs cells slots Q (F0 m (pc + 1) ls (.long (zl (a * b)) :: rest))) : W p l e R s m args below meth c H locs cells slots Q (F0 m pc ls (.long (zl b) :: .long (zl a) :: rest)) := lv_lmul hx hb hd (by rw [zl_mul]; exact k)
theorem zr_lneg (hx : p.tables.exec = Jvm.exec) (hb : c.code = cc) {a : Int} (hd : decode cc pc = .ok (.lneg, 1)) (k : W p l e R s m args below meth c H locs cells slots Q (F0 m (pc + 1) ls (.long (zl (-a)) :: rest))) : W p l e R s m args below meth c H locs cells slots Q (F0 m pc ls (.long (zl a) :: rest)) := lv_lneg hx hb hd (by rw [zl_neg]; exact k)
theorem zr_i2l (hx : p.tables.exec = Jvm.exec) (hb : c.code = cc) {a : Int} (h : zI a) (hd : decode cc pc = .ok (.i2l, 1)) (k : W p l e R s m args below meth c H locs cells slots Q (F0 m (pc + 1) ls (.long (zl a) :: rest))) : W p l e R s m args below meth c H locs cells slots Q (F0 m pc ls (.int (zi a) :: rest)) := lv_i2l hx hb hd (zi_l h) k
theorem zr_l2i (hx : p.tables.exec = Jvm.exec) (hb : c.code = cc) {a : Int} (hd : decode cc pc = .ok (.l2i, 1)) (k : W p l e R s m args below meth c H locs cells slots Q (F0 m (pc + 1) ls (.int (zi a) :: rest))) : W p l e R s m args below meth c H locs cells slots Q (F0 m pc ls (.long (zl a) :: rest)) := lv_l2i hx hb hd (zl_i a) k
theorem zi_div {a b : Int} (ha : zI a) (hb : zI b) (h0 : 0 < b) : zi a / zi b = zi (a.tdiv b) := by
  have hne : zi b ≠ -1 := fun h => by
    have h2 := zi_t hb
    rw [h] at h2
    have : (-1 : Int32).toInt = -1 := by decide
    omega
  have h1 := Int32.toInt_div_of_ne_right (zi a) (zi b) hne
  rw [zi_t ha, zi_t hb] at h1
  rw [← h1, zi_of]
theorem zl_div {a b : Int} (ha : zL a) (hb : zL b) (h0 : 0 < b) : zl a / zl b = zl (a.tdiv b) := by
  have hne : zl b ≠ -1 := fun h => by
    have h2 := zl_t hb
    rw [h] at h2
    have : (-1 : Int64).toInt = -1 := by decide
    omega
  have h1 := Int64.toInt_div_of_ne_right (zl a) (zl b) hne
  rw [zl_t ha, zl_t hb] at h1
  rw [← h1, zl_of]
theorem zi_rem {a b : Int} (ha : zI a) (hb : zI b) (h0 : 0 < b) : zi a - zi a / zi b * zi b = zi (a.tmod b) := by
  rw [zi_div ha hb h0, zi_mul, zi_sub]
  have := Int.tdiv_mul_add_tmod a b
  congr 1
  omega
theorem zl_rem {a b : Int} (ha : zL a) (hb : zL b) (h0 : 0 < b) : zl a - zl a / zl b * zl b = zl (a.tmod b) := by
  rw [zl_div ha hb h0, zl_mul, zl_sub]
  have := Int.tdiv_mul_add_tmod a b
  congr 1
  omega
theorem zi_ne0 {b : Int} (hb : zI b) (h0 : 0 < b) : ¬ zi b = 0 := fun h => by
  have h2 := zi_t hb
  rw [h, Int32.toInt_zero] at h2
  omega
theorem zl_ne0 {b : Int} (hb : zL b) (h0 : 0 < b) : ¬ zl b = 0 := fun h => by
  have h2 := zl_t hb
  rw [h, Int64.toInt_zero] at h2
  omega
theorem zb_tdiv {A a b : Int} (h : zB (-A) A a) : zB (-A) A (a.tdiv b) := by
  have h1 := zb_abs h
  have h2 := Int.natAbs_tdiv_le_natAbs a b
  have := h.1
  have := h.2
  constructor <;> omega
theorem zr_idiv (hx : p.tables.exec = Jvm.exec) (hb : c.code = cc) {a b : Int} (ha : zI a) (hb' : zI b) (h0 : 0 < b) (hd : decode cc pc = .ok (.idiv, 1)) (k : W p l e R s m args below meth c H locs cells slots Q (F0 m (pc + 1) ls (.int (zi (a.tdiv b)) :: rest))) : W p l e R s m args below meth c H locs cells slots Q (F0 m pc ls (.int (zi b) :: .int (zi a) :: rest)) := lv_idiv hx hb hd (zi_ne0 hb' h0) (by rw [zi_div ha hb' h0]; exact k)
theorem zr_irem (hx : p.tables.exec = Jvm.exec) (hb : c.code = cc) {a b : Int} (ha : zI a) (hb' : zI b) (h0 : 0 < b) (hd : decode cc pc = .ok (.irem, 1)) (k : W p l e R s m args below meth c H locs cells slots Q (F0 m (pc + 1) ls (.int (zi (a.tmod b)) :: rest))) : W p l e R s m args below meth c H locs cells slots Q (F0 m pc ls (.int (zi b) :: .int (zi a) :: rest)) := lv_irem hx hb hd (zi_ne0 hb' h0) (by rw [zi_rem ha hb' h0]; exact k)
theorem zr_ldiv (hx : p.tables.exec = Jvm.exec) (hb : c.code = cc) {a b : Int} (ha : zL a) (hb' : zL b) (h0 : 0 < b) (hd : decode cc pc = .ok (.ldiv, 1)) (k : W p l e R s m args below meth c H locs cells slots Q (F0 m (pc + 1) ls (.long (zl (a.tdiv b)) :: rest))) : W p l e R s m args below meth c H locs cells slots Q (F0 m pc ls (.long (zl b) :: .long (zl a) :: rest)) := lv_ldiv hx hb hd (zl_ne0 hb' h0) (by rw [zl_div ha hb' h0]; exact k)
theorem zr_lrem (hx : p.tables.exec = Jvm.exec) (hb : c.code = cc) {a b : Int} (ha : zL a) (hb' : zL b) (h0 : 0 < b) (hd : decode cc pc = .ok (.lrem, 1)) (k : W p l e R s m args below meth c H locs cells slots Q (F0 m (pc + 1) ls (.long (zl (a.tmod b)) :: rest))) : W p l e R s m args below meth c H locs cells slots Q (F0 m pc ls (.long (zl b) :: .long (zl a) :: rest)) := lv_lrem hx hb hd (zl_ne0 hb' h0) (by rw [zl_rem ha hb' h0]; exact k)
theorem zr_icmp_lt (hx : p.tables.exec = Jvm.exec) (hb : c.code = cc) {a b off : Int} {tgt : Nat} (ha : zI a) (hb' : zI b) (hd : decode cc pc = .ok (.if_icmp .lt off, 3)) (ht : (pc : Int) + off = (tgt : Int)) (kt : a < b → W p l e R s m args below meth c H locs cells slots Q (F0 m tgt ls rest)) (kf : ¬ a < b → W p l e R s m args below meth c H locs cells slots Q (F0 m (pc + 3) ls rest)) : W p l e R s m args below meth c H locs cells slots Q (F0 m pc ls (.int (zi b) :: .int (zi a) :: rest)) := lv_icmp_lt hx hb hd ht (fun h => kt ((zi_lt ha hb').mp h)) (fun h => kf (fun q => h ((zi_lt ha hb').mpr q)))
theorem zr_if_lt (hx : p.tables.exec = Jvm.exec) (hb : c.code = cc) {a off : Int} {tgt : Nat} (ha : zI a) (hd : decode cc pc = .ok (.ifCond .lt off, 3)) (ht : (pc : Int) + off = (tgt : Int)) (kt : a < 0 → W p l e R s m args below meth c H locs cells slots Q (F0 m tgt ls rest)) (kf : ¬ a < 0 → W p l e R s m args below meth c H locs cells slots Q (F0 m (pc + 3) ls rest)) : W p l e R s m args below meth c H locs cells slots Q (F0 m pc ls (.int (zi a) :: rest)) := by
  have hb' : zI 0 := zI_0
  exact lv_if_lt hx hb hd ht (fun h => kt ((zi_lt ha hb').mp h)) (fun h => kf (fun q => h ((zi_lt ha hb').mpr q)))
theorem zr_icmp_ge (hx : p.tables.exec = Jvm.exec) (hb : c.code = cc) {a b off : Int} {tgt : Nat} (ha : zI a) (hb' : zI b) (hd : decode cc pc = .ok (.if_icmp .ge off, 3)) (ht : (pc : Int) + off = (tgt : Int)) (kt : ¬ a < b → W p l e R s m args below meth c H locs cells slots Q (F0 m tgt ls rest)) (kf : a < b → W p l e R s m args below meth c H locs cells slots Q (F0 m (pc + 3) ls rest)) : W p l e R s m args below meth c H locs cells slots Q (F0 m pc ls (.int (zi b) :: .int (zi a) :: rest)) := lv_icmp_ge hx hb hd ht (fun h => kt (Int.not_lt.mpr ((zi_le hb' ha).mp h))) (fun h => kf (Int.not_le.mp (fun q => h ((zi_le hb' ha).mpr q))))
theorem zr_if_ge (hx : p.tables.exec = Jvm.exec) (hb : c.code = cc) {a off : Int} {tgt : Nat} (ha : zI a) (hd : decode cc pc = .ok (.ifCond .ge off, 3)) (ht : (pc : Int) + off = (tgt : Int)) (kt : ¬ a < 0 → W p l e R s m args below meth c H locs cells slots Q (F0 m tgt ls rest)) (kf : a < 0 → W p l e R s m args below meth c H locs cells slots Q (F0 m (pc + 3) ls rest)) : W p l e R s m args below meth c H locs cells slots Q (F0 m pc ls (.int (zi a) :: rest)) := by
  have hb' : zI 0 := zI_0
  exact lv_if_ge hx hb hd ht (fun h => kt (Int.not_lt.mpr ((zi_le hb' ha).mp h))) (fun h => kf (Int.not_le.mp (fun q => h ((zi_le hb' ha).mpr q))))
theorem zr_icmp_gt (hx : p.tables.exec = Jvm.exec) (hb : c.code = cc) {a b off : Int} {tgt : Nat} (ha : zI a) (hb' : zI b) (hd : decode cc pc = .ok (.if_icmp .gt off, 3)) (ht : (pc : Int) + off = (tgt : Int)) (kt : b < a → W p l e R s m args below meth c H locs cells slots Q (F0 m tgt ls rest)) (kf : ¬ b < a → W p l e R s m args below meth c H locs cells slots Q (F0 m (pc + 3) ls rest)) : W p l e R s m args below meth c H locs cells slots Q (F0 m pc ls (.int (zi b) :: .int (zi a) :: rest)) := lv_icmp_gt hx hb hd ht (fun h => kt ((zi_lt hb' ha).mp h)) (fun h => kf (fun q => h ((zi_lt hb' ha).mpr q)))
theorem zr_if_gt (hx : p.tables.exec = Jvm.exec) (hb : c.code = cc) {a off : Int} {tgt : Nat} (ha : zI a) (hd : decode cc pc = .ok (.ifCond .gt off, 3)) (ht : (pc : Int) + off = (tgt : Int)) (kt : 0 < a → W p l e R s m args below meth c H locs cells slots Q (F0 m tgt ls rest)) (kf : ¬ 0 < a → W p l e R s m args below meth c H locs cells slots Q (F0 m (pc + 3) ls rest)) : W p l e R s m args below meth c H locs cells slots Q (F0 m pc ls (.int (zi a) :: rest)) := by
  have hb' : zI 0 := zI_0
  exact lv_if_gt hx hb hd ht (fun h => kt ((zi_lt hb' ha).mp h)) (fun h => kf (fun q => h ((zi_lt hb' ha).mpr q)))
theorem zr_icmp_le (hx : p.tables.exec = Jvm.exec) (hb : c.code = cc) {a b off : Int} {tgt : Nat} (ha : zI a) (hb' : zI b) (hd : decode cc pc = .ok (.if_icmp .le off, 3)) (ht : (pc : Int) + off = (tgt : Int)) (kt : ¬ b < a → W p l e R s m args below meth c H locs cells slots Q (F0 m tgt ls rest)) (kf : b < a → W p l e R s m args below meth c H locs cells slots Q (F0 m (pc + 3) ls rest)) : W p l e R s m args below meth c H locs cells slots Q (F0 m pc ls (.int (zi b) :: .int (zi a) :: rest)) := lv_icmp_le hx hb hd ht (fun h => kt (Int.not_lt.mpr ((zi_le ha hb').mp h))) (fun h => kf (Int.not_le.mp (fun q => h ((zi_le ha hb').mpr q))))
theorem zr_if_le (hx : p.tables.exec = Jvm.exec) (hb : c.code = cc) {a off : Int} {tgt : Nat} (ha : zI a) (hd : decode cc pc = .ok (.ifCond .le off, 3)) (ht : (pc : Int) + off = (tgt : Int)) (kt : ¬ 0 < a → W p l e R s m args below meth c H locs cells slots Q (F0 m tgt ls rest)) (kf : 0 < a → W p l e R s m args below meth c H locs cells slots Q (F0 m (pc + 3) ls rest)) : W p l e R s m args below meth c H locs cells slots Q (F0 m pc ls (.int (zi a) :: rest)) := by
  have hb' : zI 0 := zI_0
  exact lv_if_le hx hb hd ht (fun h => kt (Int.not_lt.mpr ((zi_le ha hb').mp h))) (fun h => kf (Int.not_le.mp (fun q => h ((zi_le ha hb').mpr q))))
theorem zr_icmp_eq (hx : p.tables.exec = Jvm.exec) (hb : c.code = cc) {a b off : Int} {tgt : Nat} (ha : zI a) (hb' : zI b) (hd : decode cc pc = .ok (.if_icmp .eq off, 3)) (ht : (pc : Int) + off = (tgt : Int)) (kt : a = b → W p l e R s m args below meth c H locs cells slots Q (F0 m tgt ls rest)) (kf : ¬ a = b → W p l e R s m args below meth c H locs cells slots Q (F0 m (pc + 3) ls rest)) : W p l e R s m args below meth c H locs cells slots Q (F0 m pc ls (.int (zi b) :: .int (zi a) :: rest)) := lv_icmp_eq hx hb hd ht (fun h => kt ((zi_eq ha hb').mp h)) (fun h => kf (fun q => h ((zi_eq ha hb').mpr q)))
theorem zr_if_eq (hx : p.tables.exec = Jvm.exec) (hb : c.code = cc) {a off : Int} {tgt : Nat} (ha : zI a) (hd : decode cc pc = .ok (.ifCond .eq off, 3)) (ht : (pc : Int) + off = (tgt : Int)) (kt : a = 0 → W p l e R s m args below meth c H locs cells slots Q (F0 m tgt ls rest)) (kf : ¬ a = 0 → W p l e R s m args below meth c H locs cells slots Q (F0 m (pc + 3) ls rest)) : W p l e R s m args below meth c H locs cells slots Q (F0 m pc ls (.int (zi a) :: rest)) := by
  have hb' : zI 0 := zI_0
  exact lv_if_eq hx hb hd ht (fun h => kt ((zi_eq ha hb').mp h)) (fun h => kf (fun q => h ((zi_eq ha hb').mpr q)))
theorem zr_icmp_ne (hx : p.tables.exec = Jvm.exec) (hb : c.code = cc) {a b off : Int} {tgt : Nat} (ha : zI a) (hb' : zI b) (hd : decode cc pc = .ok (.if_icmp .ne off, 3)) (ht : (pc : Int) + off = (tgt : Int)) (kt : ¬ a = b → W p l e R s m args below meth c H locs cells slots Q (F0 m tgt ls rest)) (kf : a = b → W p l e R s m args below meth c H locs cells slots Q (F0 m (pc + 3) ls rest)) : W p l e R s m args below meth c H locs cells slots Q (F0 m pc ls (.int (zi b) :: .int (zi a) :: rest)) := lv_icmp_ne hx hb hd ht (fun h => kt (fun q => h ((zi_eq ha hb').mpr q))) (fun h => kf ((zi_eq ha hb').mp h))
theorem zr_if_ne (hx : p.tables.exec = Jvm.exec) (hb : c.code = cc) {a off : Int} {tgt : Nat} (ha : zI a) (hd : decode cc pc = .ok (.ifCond .ne off, 3)) (ht : (pc : Int) + off = (tgt : Int)) (kt : ¬ a = 0 → W p l e R s m args below meth c H locs cells slots Q (F0 m tgt ls rest)) (kf : a = 0 → W p l e R s m args below meth c H locs cells slots Q (F0 m (pc + 3) ls rest)) : W p l e R s m args below meth c H locs cells slots Q (F0 m pc ls (.int (zi a) :: rest)) := by
  have hb' : zI 0 := zI_0
  exact lv_if_ne hx hb hd ht (fun h => kt (fun q => h ((zi_eq ha hb').mpr q))) (fun h => kf ((zi_eq ha hb').mp h))
theorem zl_cmp {a b : Int} (ha : zL a) (hb : zL b) : (lg_cmp (zl a) (zl b) < 0 ↔ a < b) ∧ (0 < lg_cmp (zl a) (zl b) ↔ b < a) ∧ (lg_cmp (zl a) (zl b) = 0 ↔ a = b) ∧ (0 ≤ lg_cmp (zl a) (zl b) ↔ ¬ a < b) ∧ (lg_cmp (zl a) (zl b) ≤ 0 ↔ ¬ b < a) := by
  have h1 := zl_lt hb ha
  have h2 := zl_eq ha hb
  by_cases q1 : b < a
  · have e1 : lg_cmp (zl a) (zl b) = 1 := by simp [lg_cmp, h1.mpr q1]
    rw [e1]
    refine ⟨⟨fun h => absurd h (by decide), fun h => by omega⟩, ⟨fun _ => q1, fun _ => by decide⟩, ⟨fun h => absurd h (by decide), fun h => by omega⟩, ⟨fun _ => by omega, fun _ => by decide⟩, ⟨fun h => absurd h (by decide), fun h => absurd q1 h⟩⟩
  · have n1 : ¬ zl b < zl a := fun h => q1 (h1.mp h)
    by_cases q2 : a = b
    · have e1 : lg_cmp (zl a) (zl b) = 0 := by rw [q2]; simp [lg_cmp]
      rw [e1]
      refine ⟨⟨fun h => absurd h (by decide), fun h => by omega⟩, ⟨fun h => absurd h (by decide), fun h => by omega⟩, ⟨fun _ => q2, fun _ => rfl⟩, ⟨fun _ => by omega, fun _ => by decide⟩, ⟨fun _ => q1, fun _ => by decide⟩⟩
    · have n2 : ¬ zl a = zl b := fun h => q2 (h2.mp h)
      have e1 : lg_cmp (zl a) (zl b) = -1 := by simp [lg_cmp, n1, n2]
      rw [e1]
      refine ⟨⟨fun _ => by omega, fun _ => by decide⟩, ⟨fun h => absurd h (by decide), fun h => by omega⟩, ⟨fun h => absurd h (by decide), fun h => by omega⟩, ⟨fun h => absurd h (by decide), fun h => by omega⟩, ⟨fun _ => q1, fun _ => by decide⟩⟩
theorem zr_lcmp_lt (hx : p.tables.exec = Jvm.exec) (hb : c.code = cc) {a b off : Int} {tgt : Nat} (ha : zL a) (hb' : zL b) (hc : decode cc pc = .ok (.lcmp, 1)) (hd : decode cc (pc + 1) = .ok (.ifCond .lt off, 3)) (ht : ((pc + 1 : Nat) : Int) + off = (tgt : Int)) (kt : a < b → W p l e R s m args below meth c H locs cells slots Q (F0 m tgt ls rest)) (kf : ¬ a < b → W p l e R s m args below meth c H locs cells slots Q (F0 m (pc + 4) ls rest)) : W p l e R s m args below meth c H locs cells slots Q (F0 m pc ls (.long (zl b) :: .long (zl a) :: rest)) := W.lcmp hx hb hc (lv_if_lt hx hb hd ht (fun h => kt ((zl_cmp ha hb').1.mp h)) (fun h => kf (fun q => h ((zl_cmp ha hb').1.mpr q))))
theorem zr_lcmp_ge (hx : p.tables.exec = Jvm.exec) (hb : c.code = cc) {a b off : Int} {tgt : Nat} (ha : zL a) (hb' : zL b) (hc : decode cc pc = .ok (.lcmp, 1)) (hd : decode cc (pc + 1) = .ok (.ifCond .ge off, 3)) (ht : ((pc + 1 : Nat) : Int) + off = (tgt : Int)) (kt : ¬ a < b → W p l e R s m args below meth c H locs cells slots Q (F0 m tgt ls rest)) (kf : a < b → W p l e R s m args below meth c H locs cells slots Q (F0 m (pc + 4) ls rest)) : W p l e R s m args below meth c H locs cells slots Q (F0 m pc ls (.long (zl b) :: .long (zl a) :: rest)) := W.lcmp hx hb hc (lv_if_ge hx hb hd ht (fun h => kt ((zl_cmp ha hb').2.2.2.1.mp h)) (fun h => kf (Decidable.byContradiction (fun q => h ((zl_cmp ha hb').2.2.2.1.mpr q)))))
theorem zr_lcmp_gt (hx : p.tables.exec = Jvm.exec) (hb : c.code = cc) {a b off : Int} {tgt : Nat} (ha : zL a) (hb' : zL b) (hc : decode cc pc = .ok (.lcmp, 1)) (hd : decode cc (pc + 1) = .ok (.ifCond .gt off, 3)) (ht : ((pc + 1 : Nat) : Int) + off = (tgt : Int)) (kt : b < a → W p l e R s m args below meth c H locs cells slots Q (F0 m tgt ls rest)) (kf : ¬ b < a → W p l e R s m args below meth c H locs cells slots Q (F0 m (pc + 4) ls rest)) : W p l e R s m args below meth c H locs cells slots Q (F0 m pc ls (.long (zl b) :: .long (zl a) :: rest)) := W.lcmp hx hb hc (lv_if_gt hx hb hd ht (fun h => kt ((zl_cmp ha hb').2.1.mp h)) (fun h => kf (fun q => h ((zl_cmp ha hb').2.1.mpr q))))
theorem zr_lcmp_le (hx : p.tables.exec = Jvm.exec) (hb : c.code = cc) {a b off : Int} {tgt : Nat} (ha : zL a) (hb' : zL b) (hc : decode cc pc = .ok (.lcmp, 1)) (hd : decode cc (pc + 1) = .ok (.ifCond .le off, 3)) (ht : ((pc + 1 : Nat) : Int) + off = (tgt : Int)) (kt : ¬ b < a → W p l e R s m args below meth c H locs cells slots Q (F0 m tgt ls rest)) (kf : b < a → W p l e R s m args below meth c H locs cells slots Q (F0 m (pc + 4) ls rest)) : W p l e R s m args below meth c H locs cells slots Q (F0 m pc ls (.long (zl b) :: .long (zl a) :: rest)) := W.lcmp hx hb hc (lv_if_le hx hb hd ht (fun h => kt ((zl_cmp ha hb').2.2.2.2.mp h)) (fun h => kf (Decidable.byContradiction (fun q => h ((zl_cmp ha hb').2.2.2.2.mpr q)))))
theorem zr_lcmp_eq (hx : p.tables.exec = Jvm.exec) (hb : c.code = cc) {a b off : Int} {tgt : Nat} (ha : zL a) (hb' : zL b) (hc : decode cc pc = .ok (.lcmp, 1)) (hd : decode cc (pc + 1) = .ok (.ifCond .eq off, 3)) (ht : ((pc + 1 : Nat) : Int) + off = (tgt : Int)) (kt : a = b → W p l e R s m args below meth c H locs cells slots Q (F0 m tgt ls rest)) (kf : ¬ a = b → W p l e R s m args below meth c H locs cells slots Q (F0 m (pc + 4) ls rest)) : W p l e R s m args below meth c H locs cells slots Q (F0 m pc ls (.long (zl b) :: .long (zl a) :: rest)) := W.lcmp hx hb hc (lv_if_eq hx hb hd ht (fun h => kt ((zl_cmp ha hb').2.2.1.mp h)) (fun h => kf (fun q => h ((zl_cmp ha hb').2.2.1.mpr q))))
theorem zr_lcmp_ne (hx : p.tables.exec = Jvm.exec) (hb : c.code = cc) {a b off : Int} {tgt : Nat} (ha : zL a) (hb' : zL b) (hc : decode cc pc = .ok (.lcmp, 1)) (hd : decode cc (pc + 1) = .ok (.ifCond .ne off, 3)) (ht : ((pc + 1 : Nat) : Int) + off = (tgt : Int)) (kt : ¬ a = b → W p l e R s m args below meth c H locs cells slots Q (F0 m tgt ls rest)) (kf : a = b → W p l e R s m args below meth c H locs cells slots Q (F0 m (pc + 4) ls rest)) : W p l e R s m args below meth c H locs cells slots Q (F0 m pc ls (.long (zl b) :: .long (zl a) :: rest)) := W.lcmp hx hb hc (lv_if_ne hx hb hd ht (fun h => kt (fun q => h ((zl_cmp ha hb').2.2.1.mpr q))) (fun h => kf ((zl_cmp ha hb').2.2.1.mp h)))
theorem zr_iald (hx : p.tables.exec = Jvm.exec) (hb : c.code = cc) {D : va_G} {cl : List vw_C} {tys : List (ClassId × FieldType)} {ws : va_W} {q : Nat} (hK : va_K D cl tys s) (hP : va_P D cl ws H) (q0 t0 : Nat) {cA : ClassId} {n : Nat} {g : Int → Int} (ha : ws[q0]? = some (q, .inl (cA, n, .inl (zA g)))) (ht : tys[t0]? = some (cA, .int)) {i : Int} (h0 : 0 ≤ i) (h1 : i < (n : Int)) (hn : (n : Int) ≤ 2147483647) (hd : decode cc pc = .ok (.iaload, 1)) (k : W p l e R s m args below meth c H locs cells slots Q (F0 m (pc + 1) ls (.int (zi (g i)) :: rest))) : W p l e R s m args below meth c H locs cells slots Q (F0 m pc ls (.int (zi i) :: .ref q :: rest)) := va_iald hx hb hK hP q0 t0 ha ht (zp_in h0 h1 hn) hd (by rw [zA_at g h0 (by omega)]; exact k)
theorem zr_iast (hx : p.tables.exec = Jvm.exec) (hb : c.code = cc) {D : va_G} {cl : List vw_C} {tys : List (ClassId × FieldType)} {ws : va_W} {q : Nat} {A : Nat → Prop} {H0 : Heap} (hK : va_K D cl tys s) (hP : va_P D cl ws H) (hD : va_D A ws) (hS : va_S A H0 H locs) (q0 t0 : Nat) {cA : ClassId} {n : Nat} {g : Int → Int} (ha : ws[q0]? = some (q, .inl (cA, n, .inl (zA g)))) (ht : tys[t0]? = some (cA, .int)) {i v : Int} (h0 : 0 ≤ i) (h1 : i < (n : Int)) (hn : (n : Int) ≤ 2147483647) (hd : decode cc pc = .ok (.iastore, 1)) (kk : ∀ (H1 : Heap) (locs1 : List Loc), va_P D cl (ws.set q0 (q, .inl (cA, n, .inl (zA (zu g i v))))) H1 → va_D A (ws.set q0 (q, .inl (cA, n, .inl (zA (zu g i v))))) → va_S A H0 H1 locs1 → W p l e R s m args below meth c H1 locs1 cells slots Q (F0 m (pc + 1) ls rest)) : W p l e R s m args below meth c H locs cells slots Q (F0 m pc ls (.int (zi v) :: .int (zi i) :: .ref q :: rest)) := va_iast hx hb hK hP hD hS q0 t0 ha ht (zp_in h0 h1 hn) hd (fun H1 locs1 hP1 hD1 hS1 => kk H1 locs1 (by rw [← zA_up g h0 (by omega)]; exact hP1) (by rw [← zA_up g h0 (by omega)]; exact hD1) hS1)
def zmax (a b : Int) : Int := if a < b then b else a
def zmin (a b : Int) : Int := if b < a then b else a
def zabs (a : Int) : Int := if 0 ≤ a then a else -a
theorem zi_if {c : Prop} [Decidable c] (a b : Int) : (if c then zi a else zi b) = zi (if c then a else b) := by split <;> rfl
theorem zl_if {c : Prop} [Decidable c] (a b : Int) : (if c then zl a else zl b) = zl (if c then a else b) := by split <;> rfl
theorem zi_max {a b : Int} (ha : zI a) (hb : zI b) : (if zi a < zi b then zi b else zi a) = zi (zmax a b) := by
  rw [zi_if]
  unfold zmax
  by_cases h : a < b
  · rw [if_pos h, if_pos ((zi_lt ha hb).mpr h)]
  · rw [if_neg h, if_neg (fun q => h ((zi_lt ha hb).mp q))]
theorem zi_min {a b : Int} (ha : zI a) (hb : zI b) : (if zi b < zi a then zi b else zi a) = zi (zmin a b) := by
  rw [zi_if]
  unfold zmin
  by_cases h : b < a
  · rw [if_pos h, if_pos ((zi_lt hb ha).mpr h)]
  · rw [if_neg h, if_neg (fun q => h ((zi_lt hb ha).mp q))]
theorem zi_abs {a : Int} (ha : zI a) : (if 0 ≤ zi a then zi a else 0 - zi a) = zi (zabs a) := by
  rw [show (0 : Int32) - zi a = zi (-a) from by rw [← zi_neg]; exact Int32.zero_sub _, zi_if]
  unfold zabs
  by_cases h : 0 ≤ a
  · rw [if_pos h, if_pos (show (0 : Int32) ≤ zi a from (zi_le zI_0 ha).mpr h)]
  · rw [if_neg h, if_neg (show ¬ (0 : Int32) ≤ zi a from fun q => h ((zi_le zI_0 ha).mp q))]
theorem zb_max {lo hi a b : Int} (ha : zB lo hi a) (hb : zB lo hi b) : zB lo hi (zmax a b) := by unfold zmax; split; exact hb; exact ha
theorem zb_min {lo hi a b : Int} (ha : zB lo hi a) (hb : zB lo hi b) : zB lo hi (zmin a b) := by unfold zmin; split; exact hb; exact ha
theorem zb_zabs {A a : Int} (ha : zB (-A) A a) : zB 0 A (zabs a) := by
  obtain ⟨h1, h2⟩ := ha
  unfold zabs
  split <;> constructor <;> omega
theorem zr_max (hx : p.tables.exec = Jvm.exec) (hb : c.code = cc) (hml : c.maxLocals = ls.size) {own : String} {index : Nat} (hown : s.vm.findClass own = some m.cls) (hlink : (Cond.methodLink own index Lib.Math.max.name).before args s = true) (hstat : (Cond.static Lib.Math.max.name).before args s = true) (hini : (Cond.initialized "java/lang/Math").before args s = true) (hcode : (Cond.code Lib.Math.max.name Lib.Math.max.code 2 (some .int)).before args s = true) (hframes : 1 ≤ R.frames) (hlocals : (rest.map fun v => v.category).sum + 13 ≤ R.locals) (hc : cells ≤ R.cells) (hs : slots ≤ R.slots) {a b : Int} (ha : zI a) (hb' : zI b) (hd : decode cc pc = .ok (.invokestatic index, 3)) (k : W p l e R s m args below meth c H locs cells slots Q (F0 m (pc + 3) ls (.int (zi (zmax a b)) :: rest))) : W p l e R s m args below meth c H locs cells slots Q (F0 m pc ls (.int (zi b) :: .int (zi a) :: rest)) := va_mmax hx hb hml hown hlink hstat hini hcode hframes hlocals hc hs hd (by rw [zi_max ha hb']; exact k)
theorem zr_min (hx : p.tables.exec = Jvm.exec) (hb : c.code = cc) (hml : c.maxLocals = ls.size) {own : String} {index : Nat} (hown : s.vm.findClass own = some m.cls) (hlink : (Cond.methodLink own index Lib.Math.min.name).before args s = true) (hstat : (Cond.static Lib.Math.min.name).before args s = true) (hini : (Cond.initialized "java/lang/Math").before args s = true) (hcode : (Cond.code Lib.Math.min.name Lib.Math.min.code 2 (some .int)).before args s = true) (hframes : 1 ≤ R.frames) (hlocals : (rest.map fun v => v.category).sum + 13 ≤ R.locals) (hc : cells ≤ R.cells) (hs : slots ≤ R.slots) {a b : Int} (ha : zI a) (hb' : zI b) (hd : decode cc pc = .ok (.invokestatic index, 3)) (k : W p l e R s m args below meth c H locs cells slots Q (F0 m (pc + 3) ls (.int (zi (zmin a b)) :: rest))) : W p l e R s m args below meth c H locs cells slots Q (F0 m pc ls (.int (zi b) :: .int (zi a) :: rest)) := va_mmin hx hb hml hown hlink hstat hini hcode hframes hlocals hc hs hd (by rw [zi_min ha hb']; exact k)
theorem zr_abs (hx : p.tables.exec = Jvm.exec) (hb : c.code = cc) (hml : c.maxLocals = ls.size) {own : String} {index : Nat} (hown : s.vm.findClass own = some m.cls) (hlink : (Cond.methodLink own index Lib.Math.abs.name).before args s = true) (hstat : (Cond.static Lib.Math.abs.name).before args s = true) (hini : (Cond.initialized "java/lang/Math").before args s = true) (hcode : (Cond.code Lib.Math.abs.name Lib.Math.abs.code 1 (some .int)).before args s = true) (hframes : 1 ≤ R.frames) (hlocals : (rest.map fun v => v.category).sum + 13 ≤ R.locals) (hc : cells ≤ R.cells) (hs : slots ≤ R.slots) {a : Int} (ha : zI a) (hd : decode cc pc = .ok (.invokestatic index, 3)) (k : W p l e R s m args below meth c H locs cells slots Q (F0 m (pc + 3) ls (.int (zi (zabs a)) :: rest))) : W p l e R s m args below meth c H locs cells slots Q (F0 m pc ls (.int (zi a) :: rest)) := va_mabs hx hb hml hown hlink hstat hini hcode hframes hlocals hc hs hd (by rw [zi_abs ha]; exact k)
def zR (v : Value) : Array Value → State → Outcome → State → Prop := fun _ st oc t => oc = .returned (some v) ∧ t.heap = st.heap
def zQ (v : Option Value) (P : Heap → Prop) (A : Nat → Prop) : Array Value → State → Outcome → State → Prop := fun _ st oc t => oc = .returned v ∧ P t.heap ∧ va_F A st t
variable {st0 : List Value} {a : Array Value} {A0 A1 : Nat → Prop} {H0 : Heap} {free : Addr → Prop}
theorem zc_n {v : Value} (hr : va_Run p l e R s m args below meth c H locs cells slots 0 0 (F0 m pc ls st0) rest (zR v a) (fun _ => False)) (kk : W p l e R s m args below meth c H locs cells slots Q (F0 m (pc + 3) ls (v :: rest))) : W p l e R s m args below meth c H locs cells slots Q (F0 m pc ls st0) := by
  intro T hT X
  obtain ⟨w, st₀, t, T', L, h0, X', hL, e1, e2, ⟨hv, hh⟩, st⟩ := hr T hT X
  cases hv
  obtain ⟨t2, a1, b1⟩ := kk T' (by rw [e1, hh, h0]) (Stand.forget X' (fun q h => (hL q h).elim))
  exact ⟨t2, st t2 a1, b1⟩
theorem zc_w {mc ms : Nat} {v : Option Value} {P : Heap → Prop} (hr : va_Run p l e R s m args below meth c H locs cells slots mc ms (F0 m pc ls st0) rest (zQ v P A1 a) free) (hS : va_S A0 H0 H locs) (hA : ∀ q, q < H.size → A1 q → A0 q) (hf : ∀ q, free q → A0 q)
    (kk : ∀ (H1 : Heap) (locs1 : List Loc), P H1 → H.size ≤ H1.size → (∀ q : Nat, q < H.size → ¬ A1 q → H1[q]? = H[q]?) → va_S A0 H0 H1 locs1 → W p l e R s m args below meth c H1 locs1 (cells + mc) (slots + ms) Q (F0 m (pc + 3) ls (v.toList ++ rest))) : W p l e R s m args below meth c H locs cells slots Q (F0 m pc ls st0) := by
  intro T hT X
  obtain ⟨w, st₀, t, T', L, h0, X', hL, e1, e2, ⟨hv, hp, hz, hk⟩, st⟩ := hr T hT X
  cases hv
  rw [h0] at hz hk
  obtain ⟨t2, a1, b1⟩ := kk T'.heap (locs ++ L) (by rw [e1]; exact hp) (by rw [e1]; exact hz) (fun q h1 h2 => by rw [e1]; exact hk q h1 h2)
    ⟨Nat.le_trans hS.1 (by rw [e1]; exact hz), fun q h1 h2 => by rw [e1, hk q (Nat.lt_of_lt_of_le h1 hS.1) (fun z => h2 (hA q (Nat.lt_of_lt_of_le h1 hS.1) z))]; exact hS.2.1 q h1 h2, fun q hq => by
      rcases List.mem_append.mp hq with h | h
      · exact hS.2.2 q h
      · exact hf _ (hL q h)⟩ T' rfl X'
  exact ⟨t2, st t2 a1, b1⟩
end ZR
section ZH
variable {p : Program} {l : Launch} {e : Env} {R : Room} {s : State} {m : MethodId} {args : Array Value} {below : List Frame} {meth : Method} {c : Code} {H : Heap} {locs : List Loc} {cells slots : Nat} {Q : State → Prop}
variable {cc : ByteArray} {pc : Nat} {ls : Array Slot} {rest : List Value}
/-- the head of any method -/
theorem zh {y : MethodName} {ws ws' : List Cond} {rm : Room} {av : List Value} {B : State → Prop} {Qc : Array Value → State → Outcome → State → Prop} {mc ms : Nat} {free : Addr → Prop} {maxL : Nat} {ret : Option FieldType} {C : String}
    (hy : plainName y.cls = true) (hyc : y.cls = C) (hw : ws = Cond.code y cc maxL ret :: ws') (hn : (lg_sl av).length ≤ maxL)
    (body : ∀ (p : Program) (e : Env) (s : State) (m : MethodId) (below : List Frame) (meth : Method) (c : Code) (ls : Array Slot), p.tables.exec = Jvm.exec → c.code = cc → meth.sig.returnType = ret → meth.locks = false → c.maxLocals = maxL → s.vm.findClass C = some m.cls → meth.name = y.name → (∀ w ∈ ws, w.before av.toArray s = true) → lv_has ls maxL (lv_args 0 av) → B s →
      W p l e rm s m av.toArray below meth c s.heap [] 0 0 (MQ below Qc av.toArray s mc ms free) (F0 m 0 ls [])) : Met l y ws rm (va_Pc av B) Qc mc ms free := by
  refine Met.ofW (cc := cc) (maxL := maxL) (ret := ret) hy hw ?_
  intro p e s m args below meth c s₁ BB hml hP
  obtain ⟨rfl, hB⟩ := hP
  have hts := atoms_spec (ws := ws) BB.pre
  have hown : s.vm.findClass C = some m.cls := hyc ▸ findClass_of_methodNamed BB.named
  have hl := lv_entry av (n := maxL) hn
  rw [lg_entry_eq]
  exact body p e s m below meth c _ BB.exec BB.bytes BB.returns BB.notSynchronized hml hown (name_of_methodNamed BB.named BB.method).1 hts hl hB
theorem ze_i (hx : p.tables.exec = Jvm.exec) (hb : c.code = cc) (hr : meth.sig.returnType = some .int) (hlocks : meth.locks = false) {a r : Int} (hq : a = r) (hd : decode cc pc = .ok (.ireturn, 1)) :
    W p l e R s m args below meth c s.heap [] 0 0 (MQ below (zR (.int (zi r))) args s 0 0 (fun _ => False)) (F0 m pc ls [.int (zi a)]) :=
  W.iret hx hb hr (fun t ht _ => ⟨by rw [hq], ht⟩) (fun q h => nomatch h) hd hlocks
theorem ze_l (hx : p.tables.exec = Jvm.exec) (hb : c.code = cc) (hr : meth.sig.returnType = some .long) (hlocks : meth.locks = false) {a r : Int} (hq : a = r) (hd : decode cc pc = .ok (.lreturn, 1)) :
    W p l e R s m args below meth c s.heap [] 0 0 (MQ below (zR (.long (zl r))) args s 0 0 (fun _ => False)) (F0 m pc ls [.long (zl a)]) :=
  W.lret hx hb hr (fun t ht _ => ⟨by rw [hq], ht⟩) (fun q h => nomatch h) hd hlocks
theorem zn_z {a : Int} (h : zB 0 1 a) : narrow .boolean (.int (zi a)) = .int (zi a) := by
  obtain ⟨h1, h2⟩ := h
  rcases (show a = 0 ∨ a = 1 by omega) with rfl | rfl <;> rfl
theorem ze_z (hx : p.tables.exec = Jvm.exec) (hb : c.code = cc) (hr : meth.sig.returnType = some .boolean) (hlocks : meth.locks = false) {a r : Int} (hz : zB 0 1 a) (hq : a = r) (hd : decode cc pc = .ok (.ireturn, 1)) :
    W p l e R s m args below meth c s.heap [] 0 0 (MQ below (zR (.int (zi r))) args s 0 0 (fun _ => False)) (F0 m pc ls [.int (zi a)]) :=
  W.zret hx hb hr (zn_z hz) (fun t ht _ => ⟨by rw [hq], ht⟩) (fun q h => nomatch h) hd hlocks
theorem zw_i {P : Heap → Prop} {A : Nat → Prop} (hx : p.tables.exec = Jvm.exec) (hb : c.code = cc) (hr : meth.sig.returnType = some .int) (hlocks : meth.locks = false) {a r : Int} (hq : a = r) (hP : P H) (hS : va_S A s.heap H locs) (hd : decode cc pc = .ok (.ireturn, 1)) :
    W p l e R s m args below meth c H locs cells slots (MQ below (zQ (some (.int (zi r))) P A) args s cells slots A) (F0 m pc ls [.int (zi a)]) :=
  W.iret hx hb hr (fun t ht _ => ⟨by rw [hq], by rw [ht]; exact hP, hS.F ht⟩) hS.2.2 hd hlocks
theorem zw_z {P : Heap → Prop} {A : Nat → Prop} (hx : p.tables.exec = Jvm.exec) (hb : c.code = cc) (hr : meth.sig.returnType = some .boolean) (hlocks : meth.locks = false) {a r : Int} (hz : zB 0 1 a) (hq : a = r) (hP : P H) (hS : va_S A s.heap H locs) (hd : decode cc pc = .ok (.ireturn, 1)) :
    W p l e R s m args below meth c H locs cells slots (MQ below (zQ (some (.int (zi r))) P A) args s cells slots A) (F0 m pc ls [.int (zi a)]) :=
  W.zret hx hb hr (zn_z hz) (fun t ht _ => ⟨by rw [hq], by rw [ht]; exact hP, hS.F ht⟩) hS.2.2 hd hlocks
theorem zw_v {P : Heap → Prop} {A : Nat → Prop} (hx : p.tables.exec = Jvm.exec) (hb : c.code = cc) (hr : meth.sig.returnType = none) (hlocks : meth.locks = false) (hP : P H) (hS : va_S A s.heap H locs) (hd : decode cc pc = .ok (.return_, 1)) :
    W p l e R s m args below meth c H locs cells slots (MQ below (zQ none P A) args s cells slots A) (F0 m pc ls []) :=
  W.vret hx hb hr (fun t ht _ => ⟨rfl, by rw [ht]; exact hP, hS.F ht⟩) hS.2.2 hd hlocks
end ZH
theorem zb_tdivp {al ah a b c : Int} (h : zB al ah a) (h0 : 0 ≤ al) (hc : 0 < c) (hb : c ≤ b) : zB 0 (ah / c) (a.tdiv b) := by
  have ha : 0 ≤ a := Int.le_trans h0 h.1
  have hb0 : 0 < b := Int.lt_of_lt_of_le hc hb
  rw [Int.tdiv_eq_ediv_of_nonneg ha]
  have h1 : 0 ≤ a / b := Int.ediv_nonneg ha (Int.le_of_lt hb0)
  refine ⟨h1, Int.le_ediv_of_mul_le hc ?_⟩
  have h2 : a / b * b ≤ a := Int.ediv_mul_le a (Int.ne_of_gt hb0)
  have h3 : a / b * c ≤ a / b * b := Int.mul_le_mul_of_nonneg_left hb h1
  exact Int.le_trans h3 (Int.le_trans h2 h.2)
theorem zb_tmodp {al ah bl bh a b : Int} (h : zB al ah a) (g : zB bl bh b) (h0 : 0 ≤ al) (hc : 0 < bl) : zB 0 (bh - 1) (a.tmod b) := by
  have ha : 0 ≤ a := Int.le_trans h0 h.1
  have hb0 : 0 < b := Int.lt_of_lt_of_le hc g.1
  rw [Int.tmod_eq_emod_of_nonneg ha]
  have h1 := Int.emod_nonneg a (Int.ne_of_gt hb0)
  have h2 := Int.emod_lt_of_pos a hb0
  have := g.2
  constructor <;> omega
theorem zp_cast (k : Nat) : (2 : Int) ^ k = ((2 ^ k : Nat) : Int) := by
  induction k with
  | zero => rfl
  | succ k ih => rw [Int.pow_succ, ih, Nat.pow_succ, Int.natCast_mul]; rfl
theorem zb_pow2 {lo b : Int} {n : Nat} (h : zB lo (n : Int) b) (_h0 : 0 ≤ lo) : zB 1 ((2 : Int) ^ n) (2 ^ b.toNat) := by
  rw [zp_cast, zp_cast]
  have h1 : b.toNat ≤ n := by have := h.2; omega
  have h2 : 2 ^ b.toNat ≤ 2 ^ n := Nat.pow_le_pow_right (by decide) h1
  have h3 : 0 < 2 ^ b.toNat := Nat.pow_pos (by decide)
  constructor <;> omega
theorem zi_shl1 : ∀ n : Nat, n < 31 → zi 1 <<< (zi (n : Int) &&& 31) = zi ((2 : Int) ^ n) := by decide +kernel
section ZR2
variable {p : Program} {l : Launch} {e : Env} {R : Room} {s : State} {m : MethodId} {args : Array Value} {below : List Frame} {meth : Method} {c : Code} {H : Heap} {locs : List Loc} {cells slots : Nat} {Q : State → Prop}
variable {cc : ByteArray} {pc : Nat} {ls : Array Slot} {rest : List Value}
theorem zr_shl1 (hx : p.tables.exec = Jvm.exec) (hb : c.code = cc) {b : Int} (h : zB 0 30 b) (hd : decode cc pc = .ok (.ishl, 1)) (k : W p l e R s m args below meth c H locs cells slots Q (F0 m (pc + 1) ls (.int (zi (2 ^ b.toNat)) :: rest))) : W p l e R s m args below meth c H locs cells slots Q (F0 m pc ls (.int (zi b) :: .int (zi 1) :: rest)) :=
  lv_ishl hx hb hd (by
    have h1 := zi_shl1 b.toNat (by have := h.2; omega)
    rw [Int.toNat_of_nonneg h.1] at h1
    rw [h1]
    exact k)
end ZR2
end
section
def R_S : String := "SightRows"
def R_B : String := "SightRows$Boxes"
def R_M : String := "SightRowsModel"
def R_L : String := "SightRowsLaw"
def T_B : u_T := fun k => match k with
  | 0 => ("SightRows$Boxes", "westEdges", "[I", true)
  | 1 => ("SightRows$Boxes", "southEdges", "[I", true)
  | 2 => ("SightRows$Boxes", "eastEdges", "[I", true)
  | 3 => ("SightRows$Boxes", "northEdges", "[I", true)
  | 4 => ("SightRows$Boxes", "tops", "[I", true)
  | 5 => ("SightRows$Boxes", "size", "I", false)
  | 6 => ("SightRows$Boxes", "enterPart", "J", false)
  | 7 => ("SightRows$Boxes", "enterWhole", "J", false)
  | 8 => ("SightRows$Boxes", "leavePart", "J", false)
  | _ => ("SightRows$Boxes", "leaveWhole", "J", false)
def t_B : Nat → FieldType := fun k => match k with
  | 0 => .array .int
  | 1 => .array .int
  | 2 => .array .int
  | 3 => .array .int
  | 4 => .array .int
  | 5 => .int
  | 6 => .long
  | 7 => .long
  | 8 => .long
  | _ => .long
theorem nm_B : ∀ a, a < 10 → ∀ b, b < 10 → a ≠ b → (T_B a).2.1 ≠ (T_B b).2.1 := by decide +kernel
theorem ty_B : ∀ k, k < 10 → parseFieldDescriptor (T_B k).2.2.1 = some (t_B k) := by decide +kernel
def T_S : u_T := fun k => match k with
  | 0 => ("SightRows", "xs", "[I", true)
  | 1 => ("SightRows", "ys", "[I", true)
  | 2 => ("SightRows", "levels", "[I", true)
  | 3 => ("SightRows", "ways", "[I", true)
  | 4 => ("SightRows", "speeds", "[I", true)
  | 5 => ("SightRows", "widths", "[I", true)
  | 6 => ("SightRows", "boxes", "LSightRows$Boxes;", true)
  | 7 => ("SightRows", "stationCount", "I", false)
  | 8 => ("SightRows", "toldWidths", "I", false)
  | 9 => ("SightRows", "eyeHeight", "I", false)
  | 10 => ("SightRows", "thingHeight", "I", false)
  | 11 => ("SightRows", "reactTenths", "I", false)
  | _ => ("SightRows", "brakeRate", "I", false)
def t_S : Nat → FieldType := fun k => match k with
  | 0 => .array .int
  | 1 => .array .int
  | 2 => .array .int
  | 3 => .array .int
  | 4 => .array .int
  | 5 => .array .int
  | 6 => .object "SightRows$Boxes"
  | 7 => .int
  | 8 => .int
  | 9 => .int
  | 10 => .int
  | 11 => .int
  | _ => .int
theorem nm_S : ∀ a, a < 13 → ∀ b, b < 13 → a ≠ b → (T_S a).2.1 ≠ (T_S b).2.1 := by decide +kernel
theorem ty_S : ∀ k, k < 13 → parseFieldDescriptor (T_S k).2.2.1 = some (t_S k) := by decide +kernel
def T_M : u_T := fun k => match k with
  | 0 => ("SightRowsModel", "stations", "I", false)
  | 1 => ("SightRowsModel", "xs", "[I", true)
  | 2 => ("SightRowsModel", "ys", "[I", true)
  | 3 => ("SightRowsModel", "levels", "[I", true)
  | 4 => ("SightRowsModel", "ways", "[I", true)
  | 5 => ("SightRowsModel", "speeds", "[I", true)
  | 6 => ("SightRowsModel", "clears", "[I", true)
  | 7 => ("SightRowsModel", "boxes", "I", false)
  | 8 => ("SightRowsModel", "box", "[I", true)
  | 9 => ("SightRowsModel", "eye", "I", false)
  | 10 => ("SightRowsModel", "thing", "I", false)
  | 11 => ("SightRowsModel", "react", "I", false)
  | 12 => ("SightRowsModel", "brake", "I", false)
  | 13 => ("SightRowsModel", "beginUpper", "J", false)
  | 14 => ("SightRowsModel", "beginLower", "J", false)
  | 15 => ("SightRowsModel", "endUpper", "J", false)
  | _ => ("SightRowsModel", "endLower", "J", false)
def t_M : Nat → FieldType := fun k => match k with
  | 0 => .int
  | 1 => .array .int
  | 2 => .array .int
  | 3 => .array .int
  | 4 => .array .int
  | 5 => .array .int
  | 6 => .array .int
  | 7 => .int
  | 8 => .array .int
  | 9 => .int
  | 10 => .int
  | 11 => .int
  | 12 => .int
  | 13 => .long
  | 14 => .long
  | 15 => .long
  | _ => .long
theorem nm_M : ∀ a, a < 17 → ∀ b, b < 17 → a ≠ b → (T_M a).2.1 ≠ (T_M b).2.1 := by decide +kernel
theorem ty_M : ∀ k, k < 17 → parseFieldDescriptor (T_M k).2.2.1 = some (t_M k) := by decide +kernel
abbrev c_S_init : ByteArray := prog_1_method_1_code
def y_S_init : MethodName := ⟨R_S, "<init>", "()V"⟩
abbrev c_S_station : ByteArray := prog_1_method_2_code
def y_S_station : MethodName := ⟨R_S, "station", "(III)I"⟩
abbrev c_S_heights : ByteArray := prog_1_method_3_code
def y_S_heights : MethodName := ⟨R_S, "heights", "(II)Z"⟩
abbrev c_S_clear : ByteArray := prog_1_method_4_code
def y_S_clear : MethodName := ⟨R_S, "clear", "(III)Z"⟩
abbrev c_S_box : ByteArray := prog_1_method_5_code
def y_S_box : MethodName := ⟨R_S, "box", "(IIIII)I"⟩
abbrev c_S_speed : ByteArray := prog_1_method_6_code
def y_S_speed : MethodName := ⟨R_S, "speed", "(II)Z"⟩
abbrev c_S_brake : ByteArray := prog_1_method_7_code
def y_S_brake : MethodName := ⟨R_S, "brake", "(II)Z"⟩
abbrev c_S_way : ByteArray := prog_1_method_8_code
def y_S_way : MethodName := ⟨R_S, "way", "(I)I"⟩
abbrev c_S_view : ByteArray := prog_1_method_9_code
def y_S_view : MethodName := ⟨R_S, "view", "(III)I"⟩
abbrev c_S_sight : ByteArray := prog_1_method_10_code
def y_S_sight : MethodName := ⟨R_S, "sight", "(IZ)I"⟩
abbrev c_S_need : ByteArray := prog_1_method_11_code
def y_S_need : MethodName := ⟨R_S, "need", "(IZ)I"⟩
abbrev c_S_blind : ByteArray := prog_1_method_12_code
def y_S_blind : MethodName := ⟨R_S, "blind", "(ZII)I"⟩
abbrev c_S_setBack : ByteArray := prog_1_method_13_code
def y_S_setBack : MethodName := ⟨R_S, "setBack", "(II)I"⟩
abbrev c_S_allowed : ByteArray := prog_1_method_14_code
def y_S_allowed : MethodName := ⟨R_S, "allowed", "(IZ)I"⟩
abbrev c_S_overtake : ByteArray := prog_1_method_15_code
def y_S_overtake : MethodName := ⟨R_S, "overtake", "(I)I"⟩
abbrev c_S_seen : ByteArray := prog_1_method_16_code
def y_S_seen : MethodName := ⟨R_S, "seen", "(III)I"⟩
abbrev c_S_light : ByteArray := prog_1_method_17_code
def y_S_light : MethodName := ⟨R_S, "light", "(III)I"⟩
abbrev c_S_count : ByteArray := prog_1_method_18_code
def y_S_count : MethodName := ⟨R_S, "count", "(I)I"⟩
abbrev c_S_isWithin : ByteArray := prog_1_method_19_code
def y_S_isWithin : MethodName := ⟨R_S, "isWithin", "(III)Z"⟩
abbrev c_S_isInPlane : ByteArray := prog_1_method_20_code
def y_S_isInPlane : MethodName := ⟨R_S, "isInPlane", "(II)Z"⟩
abbrev c_S_isLevel : ByteArray := prog_1_method_21_code
def y_S_isLevel : MethodName := ⟨R_S, "isLevel", "(I)Z"⟩
abbrev c_S_isSide : ByteArray := prog_1_method_22_code
def y_S_isSide : MethodName := ⟨R_S, "isSide", "(I)Z"⟩
abbrev c_S_isStation : ByteArray := prog_1_method_23_code
def y_S_isStation : MethodName := ⟨R_S, "isStation", "(I)Z"⟩
abbrev c_S_squareOf : ByteArray := prog_1_method_24_code
def y_S_squareOf : MethodName := ⟨R_S, "squareOf", "(JJ)J"⟩
abbrev c_S_squareBetween : ByteArray := prog_1_method_25_code
def y_S_squareBetween : MethodName := ⟨R_S, "squareBetween", "(II)J"⟩
abbrev c_S_stepBetween : ByteArray := prog_1_method_26_code
def y_S_stepBetween : MethodName := ⟨R_S, "stepBetween", "(II)I"⟩
abbrev c_S_rootOf : ByteArray := prog_1_method_27_code
def y_S_rootOf : MethodName := ⟨R_S, "rootOf", "(J)I"⟩
abbrev c_S_interruption : ByteArray := prog_1_method_28_code
def y_S_interruption : MethodName := ⟨R_S, "interruption", "(II)I"⟩
abbrev c_S_isGroundAbove : ByteArray := prog_1_method_29_code
def y_S_isGroundAbove : MethodName := ⟨R_S, "isGroundAbove", "(III)Z"⟩
abbrev c_S_isBankInWay : ByteArray := prog_1_method_30_code
def y_S_isBankInWay : MethodName := ⟨R_S, "isBankInWay", "(III)Z"⟩
abbrev c_S_crossAt : ByteArray := prog_1_method_31_code
def y_S_crossAt : MethodName := ⟨R_S, "crossAt", "(III)J"⟩
abbrev c_S_sideOf : ByteArray := prog_1_method_32_code
def y_S_sideOf : MethodName := ⟨R_S, "sideOf", "(J)I"⟩
abbrev c_S_isFarther : ByteArray := prog_1_method_33_code
def y_S_isFarther : MethodName := ⟨R_S, "isFarther", "(JJJ)Z"⟩
abbrev c_S_widened : ByteArray := prog_1_method_34_code
def y_S_widened : MethodName := ⟨R_S, "widened", "(IIIII)I"⟩
abbrev c_S_sightFrom : ByteArray := prog_1_method_35_code
def y_S_sightFrom : MethodName := ⟨R_S, "sightFrom", "(IZ)I"⟩
abbrev c_S_needWith : ByteArray := prog_1_method_36_code
def y_S_needWith : MethodName := ⟨R_S, "needWith", "(IZI)I"⟩
abbrev c_S_slopeBeyond : ByteArray := prog_1_method_37_code
def y_S_slopeBeyond : MethodName := ⟨R_S, "slopeBeyond", "(IZ)J"⟩
abbrev c_S_roadBeyond : ByteArray := prog_1_method_38_code
def y_S_roadBeyond : MethodName := ⟨R_S, "roadBeyond", "(IZ)I"⟩
abbrev c_S_isBlind : ByteArray := prog_1_method_39_code
def y_S_isBlind : MethodName := ⟨R_S, "isBlind", "(IZ)Z"⟩
abbrev c_S_blindStations : ByteArray := prog_1_method_40_code
def y_S_blindStations : MethodName := ⟨R_S, "blindStations", "(Z)I"⟩
abbrev c_S_freeViews : ByteArray := prog_1_method_41_code
def y_S_freeViews : MethodName := ⟨R_S, "freeViews", "()I"⟩
abbrev c_M_init : ByteArray := prog_4_method_1_code
def y_M_init : MethodName := ⟨R_M, "<init>", "()V"⟩
abbrev c_M_within : ByteArray := prog_4_method_2_code
def y_M_within : MethodName := ⟨R_M, "within", "(III)Z"⟩
abbrev c_M_isStation : ByteArray := prog_4_method_3_code
def y_M_isStation : MethodName := ⟨R_M, "isStation", "(I)Z"⟩
abbrev c_M_root : ByteArray := prog_4_method_4_code
def y_M_root : MethodName := ⟨R_M, "root", "(J)I"⟩
abbrev c_M_square : ByteArray := prog_4_method_5_code
def y_M_square : MethodName := ⟨R_M, "square", "(J)J"⟩
abbrev c_M_isPoint : ByteArray := prog_4_method_6_code
def y_M_isPoint : MethodName := ⟨R_M, "isPoint", "(II)Z"⟩
abbrev c_M_station : ByteArray := prog_4_method_7_code
def y_M_station : MethodName := ⟨R_M, "station", "(III)I"⟩
abbrev c_M_heights : ByteArray := prog_4_method_8_code
def y_M_heights : MethodName := ⟨R_M, "heights", "(II)Z"⟩
abbrev c_M_clear : ByteArray := prog_4_method_9_code
def y_M_clear : MethodName := ⟨R_M, "clear", "(III)Z"⟩
abbrev c_M_box : ByteArray := prog_4_method_10_code
def y_M_box : MethodName := ⟨R_M, "box", "(IIIII)I"⟩
abbrev c_M_speed : ByteArray := prog_4_method_11_code
def y_M_speed : MethodName := ⟨R_M, "speed", "(II)Z"⟩
abbrev c_M_brake : ByteArray := prog_4_method_12_code
def y_M_brake : MethodName := ⟨R_M, "brake", "(II)Z"⟩
abbrev c_M_way : ByteArray := prog_4_method_13_code
def y_M_way : MethodName := ⟨R_M, "way", "(I)I"⟩
abbrev c_M_isAbove : ByteArray := prog_4_method_14_code
def y_M_isAbove : MethodName := ⟨R_M, "isAbove", "(III)Z"⟩
abbrev c_M_beside : ByteArray := prog_4_method_15_code
def y_M_beside : MethodName := ⟨R_M, "beside", "(III)J"⟩
abbrev c_M_lengthSquare : ByteArray := prog_4_method_16_code
def y_M_lengthSquare : MethodName := ⟨R_M, "lengthSquare", "(II)J"⟩
abbrev c_M_isBanked : ByteArray := prog_4_method_17_code
def y_M_isBanked : MethodName := ⟨R_M, "isBanked", "(III)Z"⟩
abbrev c_M_cut : ByteArray := prog_4_method_18_code
def y_M_cut : MethodName := ⟨R_M, "cut", "(IIII)Z"⟩
abbrev c_M_isBelow : ByteArray := prog_4_method_19_code
def y_M_isBelow : MethodName := ⟨R_M, "isBelow", "(JJIII)Z"⟩
abbrev c_M_isBoxed : ByteArray := prog_4_method_20_code
def y_M_isBoxed : MethodName := ⟨R_M, "isBoxed", "(IIIIIII)Z"⟩
abbrev c_M_interrupter : ByteArray := prog_4_method_21_code
def y_M_interrupter : MethodName := ⟨R_M, "interrupter", "(II)I"⟩
abbrev c_M_view : ByteArray := prog_4_method_22_code
def y_M_view : MethodName := ⟨R_M, "view", "(III)I"⟩
abbrev c_M_sightOf : ByteArray := prog_4_method_23_code
def y_M_sightOf : MethodName := ⟨R_M, "sightOf", "(IZ)I"⟩
abbrev c_M_needOf : ByteArray := prog_4_method_24_code
def y_M_needOf : MethodName := ⟨R_M, "needOf", "(IZI)I"⟩
abbrev c_M_remaining : ByteArray := prog_4_method_25_code
def y_M_remaining : MethodName := ⟨R_M, "remaining", "(IZ)I"⟩
abbrev c_M_isBlind : ByteArray := prog_4_method_26_code
def y_M_isBlind : MethodName := ⟨R_M, "isBlind", "(IZ)Z"⟩
abbrev c_M_sight : ByteArray := prog_4_method_27_code
def y_M_sight : MethodName := ⟨R_M, "sight", "(IZ)I"⟩
abbrev c_M_need : ByteArray := prog_4_method_28_code
def y_M_need : MethodName := ⟨R_M, "need", "(IZ)I"⟩
abbrev c_M_blind : ByteArray := prog_4_method_29_code
def y_M_blind : MethodName := ⟨R_M, "blind", "(ZII)I"⟩
abbrev c_M_setBack : ByteArray := prog_4_method_30_code
def y_M_setBack : MethodName := ⟨R_M, "setBack", "(II)I"⟩
abbrev c_M_allowed : ByteArray := prog_4_method_31_code
def y_M_allowed : MethodName := ⟨R_M, "allowed", "(IZ)I"⟩
abbrev c_M_overtake : ByteArray := prog_4_method_32_code
def y_M_overtake : MethodName := ⟨R_M, "overtake", "(I)I"⟩
abbrev c_M_seen : ByteArray := prog_4_method_33_code
def y_M_seen : MethodName := ⟨R_M, "seen", "(III)I"⟩
abbrev c_M_light : ByteArray := prog_4_method_34_code
def y_M_light : MethodName := ⟨R_M, "light", "(III)I"⟩
abbrev c_M_count : ByteArray := prog_4_method_35_code
def y_M_count : MethodName := ⟨R_M, "count", "(I)I"⟩
abbrev c_B_init : ByteArray := prog_2_method_1_code
def y_B_init : MethodName := ⟨R_B, "<init>", "()V"⟩
abbrev c_B_add : ByteArray := prog_2_method_2_code
def y_B_add : MethodName := ⟨R_B, "add", "(IIIII)I"⟩
abbrev c_B_firstAcross : ByteArray := prog_2_method_3_code
def y_B_firstAcross : MethodName := ⟨R_B, "firstAcross", "(IIIIII)I"⟩
abbrev c_B_takeWhole : ByteArray := prog_2_method_4_code
def y_B_takeWhole : MethodName := ⟨R_B, "takeWhole", "()V"⟩
abbrev c_B_narrow : ByteArray := prog_2_method_5_code
def y_B_narrow : MethodName := ⟨R_B, "narrow", "(IIII)Z"⟩
abbrev c_B_dipsBelow : ByteArray := prog_2_method_6_code
def y_B_dipsBelow : MethodName := ⟨R_B, "dipsBelow", "(JJJ)Z"⟩
abbrev c_L_law : ByteArray := code
/-- the words that every method of ours takes along -/
def zg (w : Cond) : Bool := match w with
  | .arrayClass _ => true
  | w => w.onTables && w.keeps
theorem zg_ok {w : Cond} (h : zg w = true) : (w.onTables && w.keeps) = true ∨ ∃ ty, w = .arrayClass ty := by
  unfold zg at h
  split at h
  · exact Or.inr ⟨_, rfl⟩
  · exact Or.inl h
def zT : List Cond := lw_tbl.filter zg
theorem zm {w : Cond} (h : w ∈ lw_tbl) (g : zg w = true) : w ∈ zT := List.mem_filter.mpr ⟨h, g⟩
theorem zT_in {w : Cond} (h : w ∈ zT) : w ∈ lw_tbl := (List.mem_filter.mp h).1
theorem zG {c0 : Cond} {y : MethodName} {b : ByteArray} {n : Nat} {r : Option FieldType} (h : Cond.code y b n r ∈ zT) : GoodIn (c0 :: zT) (Cond.code y b n r :: zT) := by
  intro w hw
  rcases List.mem_cons.mp hw with rfl | hw
  · exact ⟨List.mem_cons_of_mem _ h, zg_ok (List.mem_filter.mp h).2⟩
  · exact ⟨List.mem_cons_of_mem _ hw, zg_ok (List.mem_filter.mp hw).2⟩
theorem zGl {y : MethodName} {b : ByteArray} {n : Nat} {r : Option FieldType} (h : Cond.code y b n r ∈ zT) : GoodIn lw_tbl (Cond.code y b n r :: zT) := by
  intro w hw
  rcases List.mem_cons.mp hw with rfl | hw
  · exact ⟨zT_in h, zg_ok (List.mem_filter.mp h).2⟩
  · exact ⟨zT_in hw, zg_ok (List.mem_filter.mp hw).2⟩
theorem m_0 : (Cond.initialized R_L) ∈ zT := zm (by decide +kernel) (by decide +kernel)
theorem m_1 : (Cond.initialized R_S) ∈ zT := zm (by decide +kernel) (by decide +kernel)
theorem m_2 : (Cond.initialized R_B) ∈ zT := zm (by decide +kernel) (by decide +kernel)
theorem m_3 : (Cond.initialized R_M) ∈ zT := zm (by decide +kernel) (by decide +kernel)
theorem m_4 : (Cond.initialized "java/lang/Math") ∈ zT := zm (by decide +kernel) (by decide +kernel)
theorem m_5 : (Cond.classLink R_L 7 R_S) ∈ zT := zm (by decide +kernel) (by decide +kernel)
theorem m_6 : (Cond.instantiable R_S 13) ∈ zT := zm (by decide +kernel) (by decide +kernel)
theorem m_7 : (Cond.methodLink R_L 9 y_S_init) ∈ zT := zm (by decide +kernel) (by decide +kernel)
theorem m_8 : (Cond.instanceMethod y_S_init) ∈ zT := zm (by decide +kernel) (by decide +kernel)
theorem m_9 : (Cond.code y_S_init c_S_init 1 none) ∈ zT := zm (by decide +kernel) (by decide +kernel)
theorem m_10 : (Cond.methodLink R_S 1 objectInit) ∈ zT := zm (by decide +kernel) (by decide +kernel)
theorem m_11 : (Cond.instanceMethod objectInit) ∈ zT := zm (by decide +kernel) (by decide +kernel)
theorem m_12 : (Cond.code objectInit ⟨#[0xb1]⟩ 1 none) ∈ zT := zm (by decide +kernel) (by decide +kernel)
theorem m_13 : (Cond.classLink R_S 28 R_B) ∈ zT := zm (by decide +kernel) (by decide +kernel)
theorem m_14 : (Cond.instantiable R_B 10) ∈ zT := zm (by decide +kernel) (by decide +kernel)
theorem m_15 : (Cond.methodLinkNest R_S 30 y_B_init R_S) ∈ lw_tbl := by decide +kernel
theorem m_16 : (Cond.instanceMethod y_B_init) ∈ zT := zm (by decide +kernel) (by decide +kernel)
theorem m_17 : (Cond.code y_B_init c_B_init 1 none) ∈ zT := zm (by decide +kernel) (by decide +kernel)
theorem m_18 : (Cond.methodLink R_B 3 objectInit) ∈ zT := zm (by decide +kernel) (by decide +kernel)
theorem m_19 : (Cond.fieldLink R_B 9 R_B "westEdges" "[I") ∈ zT := zm (by decide +kernel) (by decide +kernel)
theorem m_20 : (Cond.fieldLink R_B 15 R_B "southEdges" "[I") ∈ zT := zm (by decide +kernel) (by decide +kernel)
theorem m_21 : (Cond.fieldLink R_B 18 R_B "eastEdges" "[I") ∈ zT := zm (by decide +kernel) (by decide +kernel)
theorem m_22 : (Cond.fieldLink R_B 21 R_B "northEdges" "[I") ∈ zT := zm (by decide +kernel) (by decide +kernel)
theorem m_23 : (Cond.fieldLink R_B 24 R_B "tops" "[I") ∈ zT := zm (by decide +kernel) (by decide +kernel)
theorem m_24 : (Cond.fieldLink R_B 27 R_B "size" "I") ∈ zT := zm (by decide +kernel) (by decide +kernel)
theorem m_25 : (Cond.fieldLinkNest R_S 119 R_B "size" "I" R_S) ∈ lw_tbl := by decide +kernel
theorem m_26 : (Cond.fieldLink R_B 42 R_B "enterPart" "J") ∈ zT := zm (by decide +kernel) (by decide +kernel)
theorem m_27 : (Cond.fieldLink R_B 46 R_B "enterWhole" "J") ∈ zT := zm (by decide +kernel) (by decide +kernel)
theorem m_28 : (Cond.fieldLink R_B 49 R_B "leavePart" "J") ∈ zT := zm (by decide +kernel) (by decide +kernel)
theorem m_29 : (Cond.fieldLink R_B 52 R_B "leaveWhole" "J") ∈ zT := zm (by decide +kernel) (by decide +kernel)
theorem m_30 : (Cond.arrayClass .int) ∈ zT := zm (by decide +kernel) (by decide +kernel)
theorem m_31 : (Cond.fieldLink R_S 9 R_S "xs" "[I") ∈ zT := zm (by decide +kernel) (by decide +kernel)
theorem m_32 : (Cond.fieldLink R_S 13 R_S "ys" "[I") ∈ zT := zm (by decide +kernel) (by decide +kernel)
theorem m_33 : (Cond.fieldLink R_S 16 R_S "levels" "[I") ∈ zT := zm (by decide +kernel) (by decide +kernel)
theorem m_34 : (Cond.fieldLink R_S 19 R_S "ways" "[I") ∈ zT := zm (by decide +kernel) (by decide +kernel)
theorem m_35 : (Cond.fieldLink R_S 22 R_S "speeds" "[I") ∈ zT := zm (by decide +kernel) (by decide +kernel)
theorem m_36 : (Cond.fieldLink R_S 25 R_S "widths" "[I") ∈ zT := zm (by decide +kernel) (by decide +kernel)
theorem m_37 : (Cond.fieldLink R_S 31 R_S "boxes" "LSightRows$Boxes;") ∈ zT := zm (by decide +kernel) (by decide +kernel)
theorem m_38 : (Cond.fieldLink R_S 56 R_S "stationCount" "I") ∈ zT := zm (by decide +kernel) (by decide +kernel)
theorem m_39 : (Cond.fieldLink R_S 73 R_S "toldWidths" "I") ∈ zT := zm (by decide +kernel) (by decide +kernel)
theorem m_40 : (Cond.fieldLink R_S 35 R_S "eyeHeight" "I") ∈ zT := zm (by decide +kernel) (by decide +kernel)
theorem m_41 : (Cond.fieldLink R_S 39 R_S "thingHeight" "I") ∈ zT := zm (by decide +kernel) (by decide +kernel)
theorem m_42 : (Cond.fieldLink R_S 42 R_S "reactTenths" "I") ∈ zT := zm (by decide +kernel) (by decide +kernel)
theorem m_43 : (Cond.fieldLink R_S 45 R_S "brakeRate" "I") ∈ zT := zm (by decide +kernel) (by decide +kernel)
theorem m_44 : (Cond.methodLink R_L 13 y_S_station) ∈ zT := zm (by decide +kernel) (by decide +kernel)
theorem m_45 : (Cond.instanceMethod y_S_station) ∈ zT := zm (by decide +kernel) (by decide +kernel)
theorem m_46 : (Cond.selects R_S y_S_station y_S_station) ∈ zT := zm (by decide +kernel) (by decide +kernel)
theorem m_47 : (Cond.code y_S_station c_S_station 5 (some .int)) ∈ zT := zm (by decide +kernel) (by decide +kernel)
theorem m_48 : (Cond.methodLink R_S 48 y_S_isInPlane) ∈ zT := zm (by decide +kernel) (by decide +kernel)
theorem m_49 : (Cond.static y_S_isInPlane) ∈ zT := zm (by decide +kernel) (by decide +kernel)
theorem m_50 : (Cond.code y_S_isInPlane c_S_isInPlane 2 (some .boolean)) ∈ zT := zm (by decide +kernel) (by decide +kernel)
theorem m_51 : (Cond.methodLink R_S 63 y_S_isWithin) ∈ zT := zm (by decide +kernel) (by decide +kernel)
theorem m_52 : (Cond.static y_S_isWithin) ∈ zT := zm (by decide +kernel) (by decide +kernel)
theorem m_53 : (Cond.code y_S_isWithin c_S_isWithin 3 (some .boolean)) ∈ zT := zm (by decide +kernel) (by decide +kernel)
theorem m_54 : (Cond.methodLink R_S 52 y_S_isLevel) ∈ zT := zm (by decide +kernel) (by decide +kernel)
theorem m_55 : (Cond.static y_S_isLevel) ∈ zT := zm (by decide +kernel) (by decide +kernel)
theorem m_56 : (Cond.code y_S_isLevel c_S_isLevel 1 (some .boolean)) ∈ zT := zm (by decide +kernel) (by decide +kernel)
theorem m_57 : (Cond.constant R_S 130 (-100000)) ∈ zT := zm (by decide +kernel) (by decide +kernel)
theorem m_58 : (Cond.constant R_S 131 100000) ∈ zT := zm (by decide +kernel) (by decide +kernel)
theorem m_59 : (Cond.methodLink R_S 59 y_S_stepBetween) ∈ zT := zm (by decide +kernel) (by decide +kernel)
theorem m_60 : (Cond.instanceMethod y_S_stepBetween) ∈ zT := zm (by decide +kernel) (by decide +kernel)
theorem m_61 : (Cond.code y_S_stepBetween c_S_stepBetween 3 (some .int)) ∈ zT := zm (by decide +kernel) (by decide +kernel)
theorem m_62 : (Cond.methodLink R_S 132 y_S_squareBetween) ∈ zT := zm (by decide +kernel) (by decide +kernel)
theorem m_63 : (Cond.instanceMethod y_S_squareBetween) ∈ zT := zm (by decide +kernel) (by decide +kernel)
theorem m_64 : (Cond.code y_S_squareBetween c_S_squareBetween 3 (some .long)) ∈ zT := zm (by decide +kernel) (by decide +kernel)
theorem m_65 : (Cond.methodLink R_S 107 y_S_squareOf) ∈ zT := zm (by decide +kernel) (by decide +kernel)
theorem m_66 : (Cond.static y_S_squareOf) ∈ zT := zm (by decide +kernel) (by decide +kernel)
theorem m_67 : (Cond.code y_S_squareOf c_S_squareOf 4 (some .long)) ∈ zT := zm (by decide +kernel) (by decide +kernel)
theorem m_68 : (Cond.methodLink R_S 136 y_S_rootOf) ∈ zT := zm (by decide +kernel) (by decide +kernel)
theorem m_69 : (Cond.static y_S_rootOf) ∈ zT := zm (by decide +kernel) (by decide +kernel)
theorem m_70 : (Cond.code y_S_rootOf c_S_rootOf 6 (some .int)) ∈ zT := zm (by decide +kernel) (by decide +kernel)
theorem m_71 : (Cond.methodLink R_S 102 Lib.Math.max.name) ∈ zT := zm (by decide +kernel) (by decide +kernel)
theorem m_72 : (Cond.static Lib.Math.max.name) ∈ zT := zm (by decide +kernel) (by decide +kernel)
theorem m_73 : (Cond.code Lib.Math.max.name Lib.Math.max.code 2 (some .int)) ∈ zT := zm (by decide +kernel) (by decide +kernel)
theorem m_74 : (Cond.methodLink R_L 18 y_S_heights) ∈ zT := zm (by decide +kernel) (by decide +kernel)
theorem m_75 : (Cond.instanceMethod y_S_heights) ∈ zT := zm (by decide +kernel) (by decide +kernel)
theorem m_76 : (Cond.selects R_S y_S_heights y_S_heights) ∈ zT := zm (by decide +kernel) (by decide +kernel)
theorem m_77 : (Cond.code y_S_heights c_S_heights 3 (some .boolean)) ∈ zT := zm (by decide +kernel) (by decide +kernel)
theorem m_78 : (Cond.methodLink R_L 23 y_S_clear) ∈ zT := zm (by decide +kernel) (by decide +kernel)
theorem m_79 : (Cond.instanceMethod y_S_clear) ∈ zT := zm (by decide +kernel) (by decide +kernel)
theorem m_80 : (Cond.selects R_S y_S_clear y_S_clear) ∈ zT := zm (by decide +kernel) (by decide +kernel)
theorem m_81 : (Cond.code y_S_clear c_S_clear 5 (some .boolean)) ∈ zT := zm (by decide +kernel) (by decide +kernel)
theorem m_82 : (Cond.methodLink R_S 67 y_S_isStation) ∈ zT := zm (by decide +kernel) (by decide +kernel)
theorem m_83 : (Cond.instanceMethod y_S_isStation) ∈ zT := zm (by decide +kernel) (by decide +kernel)
theorem m_84 : (Cond.code y_S_isStation c_S_isStation 2 (some .boolean)) ∈ zT := zm (by decide +kernel) (by decide +kernel)
theorem m_85 : (Cond.methodLink R_S 70 y_S_isSide) ∈ zT := zm (by decide +kernel) (by decide +kernel)
theorem m_86 : (Cond.static y_S_isSide) ∈ zT := zm (by decide +kernel) (by decide +kernel)
theorem m_87 : (Cond.code y_S_isSide c_S_isSide 1 (some .boolean)) ∈ zT := zm (by decide +kernel) (by decide +kernel)
theorem m_88 : (Cond.methodLink R_L 28 y_S_box) ∈ zT := zm (by decide +kernel) (by decide +kernel)
theorem m_89 : (Cond.instanceMethod y_S_box) ∈ zT := zm (by decide +kernel) (by decide +kernel)
theorem m_90 : (Cond.selects R_S y_S_box y_S_box) ∈ zT := zm (by decide +kernel) (by decide +kernel)
theorem m_91 : (Cond.code y_S_box c_S_box 6 (some .int)) ∈ zT := zm (by decide +kernel) (by decide +kernel)
theorem m_92 : (Cond.methodLinkNest R_S 76 y_B_add R_S) ∈ lw_tbl := by decide +kernel
theorem m_93 : (Cond.instanceMethod y_B_add) ∈ zT := zm (by decide +kernel) (by decide +kernel)
theorem m_94 : (Cond.code y_B_add c_B_add 7 (some .int)) ∈ zT := zm (by decide +kernel) (by decide +kernel)
theorem m_95 : (Cond.methodLink R_L 33 y_S_speed) ∈ zT := zm (by decide +kernel) (by decide +kernel)
theorem m_96 : (Cond.instanceMethod y_S_speed) ∈ zT := zm (by decide +kernel) (by decide +kernel)
theorem m_97 : (Cond.selects R_S y_S_speed y_S_speed) ∈ zT := zm (by decide +kernel) (by decide +kernel)
theorem m_98 : (Cond.code y_S_speed c_S_speed 3 (some .boolean)) ∈ zT := zm (by decide +kernel) (by decide +kernel)
theorem m_99 : (Cond.methodLink R_L 37 y_S_brake) ∈ zT := zm (by decide +kernel) (by decide +kernel)
theorem m_100 : (Cond.instanceMethod y_S_brake) ∈ zT := zm (by decide +kernel) (by decide +kernel)
theorem m_101 : (Cond.selects R_S y_S_brake y_S_brake) ∈ zT := zm (by decide +kernel) (by decide +kernel)
theorem m_102 : (Cond.code y_S_brake c_S_brake 3 (some .boolean)) ∈ zT := zm (by decide +kernel) (by decide +kernel)
theorem m_103 : (Cond.methodLink R_L 41 y_S_way) ∈ zT := zm (by decide +kernel) (by decide +kernel)
theorem m_104 : (Cond.instanceMethod y_S_way) ∈ zT := zm (by decide +kernel) (by decide +kernel)
theorem m_105 : (Cond.selects R_S y_S_way y_S_way) ∈ zT := zm (by decide +kernel) (by decide +kernel)
theorem m_106 : (Cond.code y_S_way c_S_way 2 (some .int)) ∈ zT := zm (by decide +kernel) (by decide +kernel)
theorem m_107 : (Cond.methodLink R_L 46 y_S_view) ∈ zT := zm (by decide +kernel) (by decide +kernel)
theorem m_108 : (Cond.instanceMethod y_S_view) ∈ zT := zm (by decide +kernel) (by decide +kernel)
theorem m_109 : (Cond.selects R_S y_S_view y_S_view) ∈ zT := zm (by decide +kernel) (by decide +kernel)
theorem m_110 : (Cond.code y_S_view c_S_view 5 (some .int)) ∈ zT := zm (by decide +kernel) (by decide +kernel)
theorem m_111 : (Cond.methodLink R_S 80 y_S_interruption) ∈ zT := zm (by decide +kernel) (by decide +kernel)
theorem m_112 : (Cond.instanceMethod y_S_interruption) ∈ zT := zm (by decide +kernel) (by decide +kernel)
theorem m_113 : (Cond.code y_S_interruption c_S_interruption 6 (some .int)) ∈ zT := zm (by decide +kernel) (by decide +kernel)
theorem m_114 : (Cond.methodLink R_S 140 Lib.Math.min.name) ∈ zT := zm (by decide +kernel) (by decide +kernel)
theorem m_115 : (Cond.static Lib.Math.min.name) ∈ zT := zm (by decide +kernel) (by decide +kernel)
theorem m_116 : (Cond.code Lib.Math.min.name Lib.Math.min.code 2 (some .int)) ∈ zT := zm (by decide +kernel) (by decide +kernel)
theorem m_117 : (Cond.methodLink R_S 143 y_S_isGroundAbove) ∈ zT := zm (by decide +kernel) (by decide +kernel)
theorem m_118 : (Cond.instanceMethod y_S_isGroundAbove) ∈ zT := zm (by decide +kernel) (by decide +kernel)
theorem m_119 : (Cond.code y_S_isGroundAbove c_S_isGroundAbove 10 (some .boolean)) ∈ zT := zm (by decide +kernel) (by decide +kernel)
theorem m_120 : (Cond.methodLink R_S 149 Lib.Math.abs.name) ∈ zT := zm (by decide +kernel) (by decide +kernel)
theorem m_121 : (Cond.static Lib.Math.abs.name) ∈ zT := zm (by decide +kernel) (by decide +kernel)
theorem m_122 : (Cond.code Lib.Math.abs.name Lib.Math.abs.code 1 (some .int)) ∈ zT := zm (by decide +kernel) (by decide +kernel)
theorem m_123 : (Cond.methodLink R_S 146 y_S_isBankInWay) ∈ zT := zm (by decide +kernel) (by decide +kernel)
theorem m_124 : (Cond.instanceMethod y_S_isBankInWay) ∈ zT := zm (by decide +kernel) (by decide +kernel)
theorem m_125 : (Cond.code y_S_isBankInWay c_S_isBankInWay 7 (some .boolean)) ∈ zT := zm (by decide +kernel) (by decide +kernel)
theorem m_126 : (Cond.methodLink R_S 153 y_S_crossAt) ∈ zT := zm (by decide +kernel) (by decide +kernel)
theorem m_127 : (Cond.instanceMethod y_S_crossAt) ∈ zT := zm (by decide +kernel) (by decide +kernel)
theorem m_128 : (Cond.code y_S_crossAt c_S_crossAt 8 (some .long)) ∈ zT := zm (by decide +kernel) (by decide +kernel)
theorem m_129 : (Cond.methodLink R_S 157 y_S_sideOf) ∈ zT := zm (by decide +kernel) (by decide +kernel)
theorem m_130 : (Cond.static y_S_sideOf) ∈ zT := zm (by decide +kernel) (by decide +kernel)
theorem m_131 : (Cond.code y_S_sideOf c_S_sideOf 2 (some .int)) ∈ zT := zm (by decide +kernel) (by decide +kernel)
theorem m_132 : (Cond.methodLink R_S 160 y_S_isFarther) ∈ zT := zm (by decide +kernel) (by decide +kernel)
theorem m_133 : (Cond.static y_S_isFarther) ∈ zT := zm (by decide +kernel) (by decide +kernel)
theorem m_134 : (Cond.code y_S_isFarther c_S_isFarther 6 (some .boolean)) ∈ zT := zm (by decide +kernel) (by decide +kernel)
theorem m_135 : (Cond.methodLinkNest R_S 113 y_B_firstAcross R_S) ∈ lw_tbl := by decide +kernel
theorem m_136 : (Cond.instanceMethod y_B_firstAcross) ∈ zT := zm (by decide +kernel) (by decide +kernel)
theorem m_137 : (Cond.code y_B_firstAcross c_B_firstAcross 9 (some .int)) ∈ zT := zm (by decide +kernel) (by decide +kernel)
theorem m_138 : (Cond.methodLink R_B 31 y_B_takeWhole) ∈ zT := zm (by decide +kernel) (by decide +kernel)
theorem m_139 : (Cond.instanceMethod y_B_takeWhole) ∈ zT := zm (by decide +kernel) (by decide +kernel)
theorem m_140 : (Cond.code y_B_takeWhole c_B_takeWhole 1 none) ∈ zT := zm (by decide +kernel) (by decide +kernel)
theorem m_141 : (Cond.methodLink R_B 34 y_B_narrow) ∈ zT := zm (by decide +kernel) (by decide +kernel)
theorem m_142 : (Cond.instanceMethod y_B_narrow) ∈ zT := zm (by decide +kernel) (by decide +kernel)
theorem m_143 : (Cond.code y_B_narrow c_B_narrow 11 (some .boolean)) ∈ zT := zm (by decide +kernel) (by decide +kernel)
theorem m_144 : (Cond.methodLink R_B 55 Lib.Math.abs.name) ∈ zT := zm (by decide +kernel) (by decide +kernel)
theorem m_145 : (Cond.methodLink R_B 38 y_B_dipsBelow) ∈ zT := zm (by decide +kernel) (by decide +kernel)
theorem m_146 : (Cond.instanceMethod y_B_dipsBelow) ∈ zT := zm (by decide +kernel) (by decide +kernel)
theorem m_147 : (Cond.code y_B_dipsBelow c_B_dipsBelow 11 (some .boolean)) ∈ zT := zm (by decide +kernel) (by decide +kernel)
theorem m_148 : (Cond.methodLink R_L 50 y_S_sight) ∈ zT := zm (by decide +kernel) (by decide +kernel)
theorem m_149 : (Cond.instanceMethod y_S_sight) ∈ zT := zm (by decide +kernel) (by decide +kernel)
theorem m_150 : (Cond.selects R_S y_S_sight y_S_sight) ∈ zT := zm (by decide +kernel) (by decide +kernel)
theorem m_151 : (Cond.code y_S_sight c_S_sight 3 (some .int)) ∈ zT := zm (by decide +kernel) (by decide +kernel)
theorem m_152 : (Cond.methodLink R_S 83 y_S_sightFrom) ∈ zT := zm (by decide +kernel) (by decide +kernel)
theorem m_153 : (Cond.instanceMethod y_S_sightFrom) ∈ zT := zm (by decide +kernel) (by decide +kernel)
theorem m_154 : (Cond.code y_S_sightFrom c_S_sightFrom 6 (some .int)) ∈ zT := zm (by decide +kernel) (by decide +kernel)
theorem m_155 : (Cond.methodLink R_L 55 y_S_need) ∈ zT := zm (by decide +kernel) (by decide +kernel)
theorem m_156 : (Cond.instanceMethod y_S_need) ∈ zT := zm (by decide +kernel) (by decide +kernel)
theorem m_157 : (Cond.selects R_S y_S_need y_S_need) ∈ zT := zm (by decide +kernel) (by decide +kernel)
theorem m_158 : (Cond.code y_S_need c_S_need 3 (some .int)) ∈ zT := zm (by decide +kernel) (by decide +kernel)
theorem m_159 : (Cond.methodLink R_S 87 y_S_needWith) ∈ zT := zm (by decide +kernel) (by decide +kernel)
theorem m_160 : (Cond.instanceMethod y_S_needWith) ∈ zT := zm (by decide +kernel) (by decide +kernel)
theorem m_161 : (Cond.code y_S_needWith c_S_needWith 8 (some .int)) ∈ zT := zm (by decide +kernel) (by decide +kernel)
theorem m_162 : (Cond.constantLong R_S 164 10) ∈ zT := zm (by decide +kernel) (by decide +kernel)
theorem m_163 : (Cond.constantLong R_S 166 36) ∈ zT := zm (by decide +kernel) (by decide +kernel)
theorem m_164 : (Cond.constantLong R_S 168 20) ∈ zT := zm (by decide +kernel) (by decide +kernel)
theorem m_165 : (Cond.methodLink R_S 170 y_S_slopeBeyond) ∈ zT := zm (by decide +kernel) (by decide +kernel)
theorem m_166 : (Cond.instanceMethod y_S_slopeBeyond) ∈ zT := zm (by decide +kernel) (by decide +kernel)
theorem m_167 : (Cond.code y_S_slopeBeyond c_S_slopeBeyond 6 (some .long)) ∈ zT := zm (by decide +kernel) (by decide +kernel)
theorem m_168 : (Cond.constantLong R_S 180 981) ∈ zT := zm (by decide +kernel) (by decide +kernel)
theorem m_169 : (Cond.methodLink R_S 174 Lib.MathLoose.max_long.x) ∈ zT := zm (by decide +kernel) (by decide +kernel)
theorem m_170 : (Cond.static Lib.MathLoose.max_long.x) ∈ zT := zm (by decide +kernel) (by decide +kernel)
theorem m_171 : (Cond.code Lib.MathLoose.max_long.x Lib.MathLoose.max_long.code 4 (some .long)) ∈ zT := zm (by decide +kernel) (by decide +kernel)
theorem m_172 : (Cond.constantLong R_S 176 100000) ∈ zT := zm (by decide +kernel) (by decide +kernel)
theorem m_173 : (Cond.constantLong R_S 178 2592) ∈ zT := zm (by decide +kernel) (by decide +kernel)
theorem m_174 : (Cond.methodLink R_L 59 y_S_blind) ∈ zT := zm (by decide +kernel) (by decide +kernel)
theorem m_175 : (Cond.instanceMethod y_S_blind) ∈ zT := zm (by decide +kernel) (by decide +kernel)
theorem m_176 : (Cond.selects R_S y_S_blind y_S_blind) ∈ zT := zm (by decide +kernel) (by decide +kernel)
theorem m_177 : (Cond.code y_S_blind c_S_blind 8 (some .int)) ∈ zT := zm (by decide +kernel) (by decide +kernel)
theorem m_178 : (Cond.methodLink R_S 91 y_S_isBlind) ∈ zT := zm (by decide +kernel) (by decide +kernel)
theorem m_179 : (Cond.instanceMethod y_S_isBlind) ∈ zT := zm (by decide +kernel) (by decide +kernel)
theorem m_180 : (Cond.code y_S_isBlind c_S_isBlind 4 (some .boolean)) ∈ zT := zm (by decide +kernel) (by decide +kernel)
theorem m_181 : (Cond.methodLink R_S 98 y_S_roadBeyond) ∈ zT := zm (by decide +kernel) (by decide +kernel)
theorem m_182 : (Cond.instanceMethod y_S_roadBeyond) ∈ zT := zm (by decide +kernel) (by decide +kernel)
theorem m_183 : (Cond.code y_S_roadBeyond c_S_roadBeyond 3 (some .int)) ∈ zT := zm (by decide +kernel) (by decide +kernel)
theorem m_184 : (Cond.methodLink R_L 64 y_S_setBack) ∈ zT := zm (by decide +kernel) (by decide +kernel)
theorem m_185 : (Cond.instanceMethod y_S_setBack) ∈ zT := zm (by decide +kernel) (by decide +kernel)
theorem m_186 : (Cond.selects R_S y_S_setBack y_S_setBack) ∈ zT := zm (by decide +kernel) (by decide +kernel)
theorem m_187 : (Cond.code y_S_setBack c_S_setBack 7 (some .int)) ∈ zT := zm (by decide +kernel) (by decide +kernel)
theorem m_188 : (Cond.methodLink R_S 95 y_S_widened) ∈ zT := zm (by decide +kernel) (by decide +kernel)
theorem m_189 : (Cond.instanceMethod y_S_widened) ∈ zT := zm (by decide +kernel) (by decide +kernel)
theorem m_190 : (Cond.code y_S_widened c_S_widened 11 (some .int)) ∈ zT := zm (by decide +kernel) (by decide +kernel)
theorem m_191 : (Cond.methodLink R_L 69 y_S_allowed) ∈ zT := zm (by decide +kernel) (by decide +kernel)
theorem m_192 : (Cond.instanceMethod y_S_allowed) ∈ zT := zm (by decide +kernel) (by decide +kernel)
theorem m_193 : (Cond.selects R_S y_S_allowed y_S_allowed) ∈ zT := zm (by decide +kernel) (by decide +kernel)
theorem m_194 : (Cond.code y_S_allowed c_S_allowed 7 (some .int)) ∈ zT := zm (by decide +kernel) (by decide +kernel)
theorem m_195 : (Cond.methodLink R_L 73 y_S_overtake) ∈ zT := zm (by decide +kernel) (by decide +kernel)
theorem m_196 : (Cond.instanceMethod y_S_overtake) ∈ zT := zm (by decide +kernel) (by decide +kernel)
theorem m_197 : (Cond.selects R_S y_S_overtake y_S_overtake) ∈ zT := zm (by decide +kernel) (by decide +kernel)
theorem m_198 : (Cond.code y_S_overtake c_S_overtake 5 (some .int)) ∈ zT := zm (by decide +kernel) (by decide +kernel)
theorem m_199 : (Cond.constant R_S 101 1000000) ∈ zT := zm (by decide +kernel) (by decide +kernel)
theorem m_200 : (Cond.methodLink R_L 77 y_S_seen) ∈ zT := zm (by decide +kernel) (by decide +kernel)
theorem m_201 : (Cond.instanceMethod y_S_seen) ∈ zT := zm (by decide +kernel) (by decide +kernel)
theorem m_202 : (Cond.selects R_S y_S_seen y_S_seen) ∈ zT := zm (by decide +kernel) (by decide +kernel)
theorem m_203 : (Cond.code y_S_seen c_S_seen 7 (some .int)) ∈ zT := zm (by decide +kernel) (by decide +kernel)
theorem m_204 : (Cond.constantLong R_S 111 9000000) ∈ zT := zm (by decide +kernel) (by decide +kernel)
theorem m_205 : (Cond.methodLink R_L 81 y_S_light) ∈ zT := zm (by decide +kernel) (by decide +kernel)
theorem m_206 : (Cond.instanceMethod y_S_light) ∈ zT := zm (by decide +kernel) (by decide +kernel)
theorem m_207 : (Cond.selects R_S y_S_light y_S_light) ∈ zT := zm (by decide +kernel) (by decide +kernel)
theorem m_208 : (Cond.code y_S_light c_S_light 9 (some .int)) ∈ zT := zm (by decide +kernel) (by decide +kernel)
theorem m_209 : (Cond.constantLong R_S 117 100) ∈ zT := zm (by decide +kernel) (by decide +kernel)
theorem m_210 : (Cond.methodLink R_L 85 y_S_count) ∈ zT := zm (by decide +kernel) (by decide +kernel)
theorem m_211 : (Cond.instanceMethod y_S_count) ∈ zT := zm (by decide +kernel) (by decide +kernel)
theorem m_212 : (Cond.selects R_S y_S_count y_S_count) ∈ zT := zm (by decide +kernel) (by decide +kernel)
theorem m_213 : (Cond.code y_S_count c_S_count 2 (some .int)) ∈ zT := zm (by decide +kernel) (by decide +kernel)
theorem m_214 : (Cond.methodLink R_S 122 y_S_freeViews) ∈ zT := zm (by decide +kernel) (by decide +kernel)
theorem m_215 : (Cond.instanceMethod y_S_freeViews) ∈ zT := zm (by decide +kernel) (by decide +kernel)
theorem m_216 : (Cond.code y_S_freeViews c_S_freeViews 4 (some .int)) ∈ zT := zm (by decide +kernel) (by decide +kernel)
theorem m_217 : (Cond.methodLink R_S 126 y_S_blindStations) ∈ zT := zm (by decide +kernel) (by decide +kernel)
theorem m_218 : (Cond.instanceMethod y_S_blindStations) ∈ zT := zm (by decide +kernel) (by decide +kernel)
theorem m_219 : (Cond.code y_S_blindStations c_S_blindStations 4 (some .int)) ∈ zT := zm (by decide +kernel) (by decide +kernel)
theorem m_220 : (Cond.classLink R_L 10 R_M) ∈ zT := zm (by decide +kernel) (by decide +kernel)
theorem m_221 : (Cond.instantiable R_M 17) ∈ zT := zm (by decide +kernel) (by decide +kernel)
theorem m_222 : (Cond.methodLink R_L 12 y_M_init) ∈ zT := zm (by decide +kernel) (by decide +kernel)
theorem m_223 : (Cond.instanceMethod y_M_init) ∈ zT := zm (by decide +kernel) (by decide +kernel)
theorem m_224 : (Cond.code y_M_init c_M_init 1 none) ∈ zT := zm (by decide +kernel) (by decide +kernel)
theorem m_225 : (Cond.methodLink R_M 1 objectInit) ∈ zT := zm (by decide +kernel) (by decide +kernel)
theorem m_226 : (Cond.fieldLink R_M 44 R_M "stations" "I") ∈ zT := zm (by decide +kernel) (by decide +kernel)
theorem m_227 : (Cond.fieldLink R_M 7 R_M "xs" "[I") ∈ zT := zm (by decide +kernel) (by decide +kernel)
theorem m_228 : (Cond.fieldLink R_M 13 R_M "ys" "[I") ∈ zT := zm (by decide +kernel) (by decide +kernel)
theorem m_229 : (Cond.fieldLink R_M 16 R_M "levels" "[I") ∈ zT := zm (by decide +kernel) (by decide +kernel)
theorem m_230 : (Cond.fieldLink R_M 19 R_M "ways" "[I") ∈ zT := zm (by decide +kernel) (by decide +kernel)
theorem m_231 : (Cond.fieldLink R_M 22 R_M "speeds" "[I") ∈ zT := zm (by decide +kernel) (by decide +kernel)
theorem m_232 : (Cond.fieldLink R_M 25 R_M "clears" "[I") ∈ zT := zm (by decide +kernel) (by decide +kernel)
theorem m_233 : (Cond.fieldLink R_M 73 R_M "boxes" "I") ∈ zT := zm (by decide +kernel) (by decide +kernel)
theorem m_234 : (Cond.fieldLink R_M 28 R_M "box" "[I") ∈ zT := zm (by decide +kernel) (by decide +kernel)
theorem m_235 : (Cond.fieldLink R_M 31 R_M "eye" "I") ∈ zT := zm (by decide +kernel) (by decide +kernel)
theorem m_236 : (Cond.fieldLink R_M 35 R_M "thing" "I") ∈ zT := zm (by decide +kernel) (by decide +kernel)
theorem m_237 : (Cond.fieldLink R_M 38 R_M "react" "I") ∈ zT := zm (by decide +kernel) (by decide +kernel)
theorem m_238 : (Cond.fieldLink R_M 41 R_M "brake" "I") ∈ zT := zm (by decide +kernel) (by decide +kernel)
theorem m_239 : (Cond.fieldLink R_M 88 R_M "beginUpper" "J") ∈ zT := zm (by decide +kernel) (by decide +kernel)
theorem m_240 : (Cond.fieldLink R_M 84 R_M "beginLower" "J") ∈ zT := zm (by decide +kernel) (by decide +kernel)
theorem m_241 : (Cond.fieldLink R_M 94 R_M "endUpper" "J") ∈ zT := zm (by decide +kernel) (by decide +kernel)
theorem m_242 : (Cond.fieldLink R_M 91 R_M "endLower" "J") ∈ zT := zm (by decide +kernel) (by decide +kernel)
theorem m_243 : (Cond.methodLink R_L 17 y_M_station) ∈ zT := zm (by decide +kernel) (by decide +kernel)
theorem m_244 : (Cond.instanceMethod y_M_station) ∈ zT := zm (by decide +kernel) (by decide +kernel)
theorem m_245 : (Cond.selects R_M y_M_station y_M_station) ∈ zT := zm (by decide +kernel) (by decide +kernel)
theorem m_246 : (Cond.code y_M_station c_M_station 6 (some .int)) ∈ zT := zm (by decide +kernel) (by decide +kernel)
theorem m_247 : (Cond.methodLink R_M 55 y_M_isPoint) ∈ zT := zm (by decide +kernel) (by decide +kernel)
theorem m_248 : (Cond.static y_M_isPoint) ∈ zT := zm (by decide +kernel) (by decide +kernel)
theorem m_249 : (Cond.code y_M_isPoint c_M_isPoint 2 (some .boolean)) ∈ zT := zm (by decide +kernel) (by decide +kernel)
theorem m_250 : (Cond.methodLink R_M 51 y_M_within) ∈ zT := zm (by decide +kernel) (by decide +kernel)
theorem m_251 : (Cond.static y_M_within) ∈ zT := zm (by decide +kernel) (by decide +kernel)
theorem m_252 : (Cond.code y_M_within c_M_within 3 (some .boolean)) ∈ zT := zm (by decide +kernel) (by decide +kernel)
theorem m_253 : (Cond.constant R_M 59 (-100000)) ∈ zT := zm (by decide +kernel) (by decide +kernel)
theorem m_254 : (Cond.constant R_M 60 100000) ∈ zT := zm (by decide +kernel) (by decide +kernel)
theorem m_255 : (Cond.methodLink R_M 61 y_M_square) ∈ zT := zm (by decide +kernel) (by decide +kernel)
theorem m_256 : (Cond.static y_M_square) ∈ zT := zm (by decide +kernel) (by decide +kernel)
theorem m_257 : (Cond.code y_M_square c_M_square 2 (some .long)) ∈ zT := zm (by decide +kernel) (by decide +kernel)
theorem m_258 : (Cond.methodLink R_M 65 y_M_root) ∈ zT := zm (by decide +kernel) (by decide +kernel)
theorem m_259 : (Cond.static y_M_root) ∈ zT := zm (by decide +kernel) (by decide +kernel)
theorem m_260 : (Cond.code y_M_root c_M_root 9 (some .int)) ∈ zT := zm (by decide +kernel) (by decide +kernel)
theorem m_261 : (Cond.constantLong R_M 47 100000) ∈ zT := zm (by decide +kernel) (by decide +kernel)
theorem m_262 : (Cond.constantLong R_M 49 2) ∈ zT := zm (by decide +kernel) (by decide +kernel)
theorem m_263 : (Cond.methodLink R_L 22 y_M_heights) ∈ zT := zm (by decide +kernel) (by decide +kernel)
theorem m_264 : (Cond.instanceMethod y_M_heights) ∈ zT := zm (by decide +kernel) (by decide +kernel)
theorem m_265 : (Cond.selects R_M y_M_heights y_M_heights) ∈ zT := zm (by decide +kernel) (by decide +kernel)
theorem m_266 : (Cond.code y_M_heights c_M_heights 3 (some .boolean)) ∈ zT := zm (by decide +kernel) (by decide +kernel)
theorem m_267 : (Cond.methodLink R_L 27 y_M_clear) ∈ zT := zm (by decide +kernel) (by decide +kernel)
theorem m_268 : (Cond.instanceMethod y_M_clear) ∈ zT := zm (by decide +kernel) (by decide +kernel)
theorem m_269 : (Cond.selects R_M y_M_clear y_M_clear) ∈ zT := zm (by decide +kernel) (by decide +kernel)
theorem m_270 : (Cond.code y_M_clear c_M_clear 4 (some .boolean)) ∈ zT := zm (by decide +kernel) (by decide +kernel)
theorem m_271 : (Cond.methodLink R_M 69 y_M_isStation) ∈ zT := zm (by decide +kernel) (by decide +kernel)
theorem m_272 : (Cond.instanceMethod y_M_isStation) ∈ zT := zm (by decide +kernel) (by decide +kernel)
theorem m_273 : (Cond.code y_M_isStation c_M_isStation 2 (some .boolean)) ∈ zT := zm (by decide +kernel) (by decide +kernel)
theorem m_274 : (Cond.methodLink R_L 32 y_M_box) ∈ zT := zm (by decide +kernel) (by decide +kernel)
theorem m_275 : (Cond.instanceMethod y_M_box) ∈ zT := zm (by decide +kernel) (by decide +kernel)
theorem m_276 : (Cond.selects R_M y_M_box y_M_box) ∈ zT := zm (by decide +kernel) (by decide +kernel)
theorem m_277 : (Cond.code y_M_box c_M_box 6 (some .int)) ∈ zT := zm (by decide +kernel) (by decide +kernel)
theorem m_278 : (Cond.methodLink R_L 36 y_M_speed) ∈ zT := zm (by decide +kernel) (by decide +kernel)
theorem m_279 : (Cond.instanceMethod y_M_speed) ∈ zT := zm (by decide +kernel) (by decide +kernel)
theorem m_280 : (Cond.selects R_M y_M_speed y_M_speed) ∈ zT := zm (by decide +kernel) (by decide +kernel)
theorem m_281 : (Cond.code y_M_speed c_M_speed 3 (some .boolean)) ∈ zT := zm (by decide +kernel) (by decide +kernel)
theorem m_282 : (Cond.methodLink R_L 40 y_M_brake) ∈ zT := zm (by decide +kernel) (by decide +kernel)
theorem m_283 : (Cond.instanceMethod y_M_brake) ∈ zT := zm (by decide +kernel) (by decide +kernel)
theorem m_284 : (Cond.selects R_M y_M_brake y_M_brake) ∈ zT := zm (by decide +kernel) (by decide +kernel)
theorem m_285 : (Cond.code y_M_brake c_M_brake 3 (some .boolean)) ∈ zT := zm (by decide +kernel) (by decide +kernel)
theorem m_286 : (Cond.methodLink R_L 45 y_M_way) ∈ zT := zm (by decide +kernel) (by decide +kernel)
theorem m_287 : (Cond.instanceMethod y_M_way) ∈ zT := zm (by decide +kernel) (by decide +kernel)
theorem m_288 : (Cond.selects R_M y_M_way y_M_way) ∈ zT := zm (by decide +kernel) (by decide +kernel)
theorem m_289 : (Cond.code y_M_way c_M_way 2 (some .int)) ∈ zT := zm (by decide +kernel) (by decide +kernel)
theorem m_290 : (Cond.methodLink R_L 49 y_M_view) ∈ zT := zm (by decide +kernel) (by decide +kernel)
theorem m_291 : (Cond.instanceMethod y_M_view) ∈ zT := zm (by decide +kernel) (by decide +kernel)
theorem m_292 : (Cond.selects R_M y_M_view y_M_view) ∈ zT := zm (by decide +kernel) (by decide +kernel)
theorem m_293 : (Cond.code y_M_view c_M_view 5 (some .int)) ∈ zT := zm (by decide +kernel) (by decide +kernel)
theorem m_294 : (Cond.methodLink R_M 115 y_M_interrupter) ∈ zT := zm (by decide +kernel) (by decide +kernel)
theorem m_295 : (Cond.instanceMethod y_M_interrupter) ∈ zT := zm (by decide +kernel) (by decide +kernel)
theorem m_296 : (Cond.code y_M_interrupter c_M_interrupter 6 (some .int)) ∈ zT := zm (by decide +kernel) (by decide +kernel)
theorem m_297 : (Cond.methodLink R_M 105 y_M_isAbove) ∈ zT := zm (by decide +kernel) (by decide +kernel)
theorem m_298 : (Cond.instanceMethod y_M_isAbove) ∈ zT := zm (by decide +kernel) (by decide +kernel)
theorem m_299 : (Cond.code y_M_isAbove c_M_isAbove 8 (some .boolean)) ∈ zT := zm (by decide +kernel) (by decide +kernel)
theorem m_300 : (Cond.methodLink R_M 108 y_M_isBanked) ∈ zT := zm (by decide +kernel) (by decide +kernel)
theorem m_301 : (Cond.instanceMethod y_M_isBanked) ∈ zT := zm (by decide +kernel) (by decide +kernel)
theorem m_302 : (Cond.code y_M_isBanked c_M_isBanked 9 (some .boolean)) ∈ zT := zm (by decide +kernel) (by decide +kernel)
theorem m_303 : (Cond.methodLink R_M 76 y_M_beside) ∈ zT := zm (by decide +kernel) (by decide +kernel)
theorem m_304 : (Cond.instanceMethod y_M_beside) ∈ zT := zm (by decide +kernel) (by decide +kernel)
theorem m_305 : (Cond.code y_M_beside c_M_beside 8 (some .long)) ∈ zT := zm (by decide +kernel) (by decide +kernel)
theorem m_306 : (Cond.methodLink R_M 80 y_M_lengthSquare) ∈ zT := zm (by decide +kernel) (by decide +kernel)
theorem m_307 : (Cond.instanceMethod y_M_lengthSquare) ∈ zT := zm (by decide +kernel) (by decide +kernel)
theorem m_308 : (Cond.code y_M_lengthSquare c_M_lengthSquare 3 (some .long)) ∈ zT := zm (by decide +kernel) (by decide +kernel)
theorem m_309 : (Cond.methodLink R_M 111 y_M_isBoxed) ∈ zT := zm (by decide +kernel) (by decide +kernel)
theorem m_310 : (Cond.instanceMethod y_M_isBoxed) ∈ zT := zm (by decide +kernel) (by decide +kernel)
theorem m_311 : (Cond.code y_M_isBoxed c_M_isBoxed 9 (some .boolean)) ∈ zT := zm (by decide +kernel) (by decide +kernel)
theorem m_312 : (Cond.methodLink R_M 97 y_M_cut) ∈ zT := zm (by decide +kernel) (by decide +kernel)
theorem m_313 : (Cond.instanceMethod y_M_cut) ∈ zT := zm (by decide +kernel) (by decide +kernel)
theorem m_314 : (Cond.code y_M_cut c_M_cut 13 (some .boolean)) ∈ zT := zm (by decide +kernel) (by decide +kernel)
theorem m_315 : (Cond.methodLink R_M 101 y_M_isBelow) ∈ zT := zm (by decide +kernel) (by decide +kernel)
theorem m_316 : (Cond.static y_M_isBelow) ∈ zT := zm (by decide +kernel) (by decide +kernel)
theorem m_317 : (Cond.code y_M_isBelow c_M_isBelow 7 (some .boolean)) ∈ zT := zm (by decide +kernel) (by decide +kernel)
theorem m_318 : (Cond.methodLink R_L 54 y_M_sight) ∈ zT := zm (by decide +kernel) (by decide +kernel)
theorem m_319 : (Cond.instanceMethod y_M_sight) ∈ zT := zm (by decide +kernel) (by decide +kernel)
theorem m_320 : (Cond.selects R_M y_M_sight y_M_sight) ∈ zT := zm (by decide +kernel) (by decide +kernel)
theorem m_321 : (Cond.code y_M_sight c_M_sight 3 (some .int)) ∈ zT := zm (by decide +kernel) (by decide +kernel)
theorem m_322 : (Cond.methodLink R_M 135 y_M_sightOf) ∈ zT := zm (by decide +kernel) (by decide +kernel)
theorem m_323 : (Cond.instanceMethod y_M_sightOf) ∈ zT := zm (by decide +kernel) (by decide +kernel)
theorem m_324 : (Cond.code y_M_sightOf c_M_sightOf 5 (some .int)) ∈ zT := zm (by decide +kernel) (by decide +kernel)
theorem m_325 : (Cond.methodLink R_L 58 y_M_need) ∈ zT := zm (by decide +kernel) (by decide +kernel)
theorem m_326 : (Cond.instanceMethod y_M_need) ∈ zT := zm (by decide +kernel) (by decide +kernel)
theorem m_327 : (Cond.selects R_M y_M_need y_M_need) ∈ zT := zm (by decide +kernel) (by decide +kernel)
theorem m_328 : (Cond.code y_M_need c_M_need 3 (some .int)) ∈ zT := zm (by decide +kernel) (by decide +kernel)
theorem m_329 : (Cond.methodLink R_M 127 y_M_needOf) ∈ zT := zm (by decide +kernel) (by decide +kernel)
theorem m_330 : (Cond.instanceMethod y_M_needOf) ∈ zT := zm (by decide +kernel) (by decide +kernel)
theorem m_331 : (Cond.code y_M_needOf c_M_needOf 9 (some .int)) ∈ zT := zm (by decide +kernel) (by decide +kernel)
theorem m_332 : (Cond.constantLong R_M 119 981) ∈ zT := zm (by decide +kernel) (by decide +kernel)
theorem m_333 : (Cond.constantLong R_M 121 10) ∈ zT := zm (by decide +kernel) (by decide +kernel)
theorem m_334 : (Cond.constantLong R_M 123 20) ∈ zT := zm (by decide +kernel) (by decide +kernel)
theorem m_335 : (Cond.constantLong R_M 125 2592) ∈ zT := zm (by decide +kernel) (by decide +kernel)
theorem m_336 : (Cond.methodLink R_L 63 y_M_blind) ∈ zT := zm (by decide +kernel) (by decide +kernel)
theorem m_337 : (Cond.instanceMethod y_M_blind) ∈ zT := zm (by decide +kernel) (by decide +kernel)
theorem m_338 : (Cond.selects R_M y_M_blind y_M_blind) ∈ zT := zm (by decide +kernel) (by decide +kernel)
theorem m_339 : (Cond.code y_M_blind c_M_blind 7 (some .int)) ∈ zT := zm (by decide +kernel) (by decide +kernel)
theorem m_340 : (Cond.methodLink R_M 138 y_M_isBlind) ∈ zT := zm (by decide +kernel) (by decide +kernel)
theorem m_341 : (Cond.instanceMethod y_M_isBlind) ∈ zT := zm (by decide +kernel) (by decide +kernel)
theorem m_342 : (Cond.code y_M_isBlind c_M_isBlind 4 (some .boolean)) ∈ zT := zm (by decide +kernel) (by decide +kernel)
theorem m_343 : (Cond.methodLink R_M 131 y_M_remaining) ∈ zT := zm (by decide +kernel) (by decide +kernel)
theorem m_344 : (Cond.instanceMethod y_M_remaining) ∈ zT := zm (by decide +kernel) (by decide +kernel)
theorem m_345 : (Cond.code y_M_remaining c_M_remaining 3 (some .int)) ∈ zT := zm (by decide +kernel) (by decide +kernel)
theorem m_346 : (Cond.methodLink R_L 68 y_M_setBack) ∈ zT := zm (by decide +kernel) (by decide +kernel)
theorem m_347 : (Cond.instanceMethod y_M_setBack) ∈ zT := zm (by decide +kernel) (by decide +kernel)
theorem m_348 : (Cond.selects R_M y_M_setBack y_M_setBack) ∈ zT := zm (by decide +kernel) (by decide +kernel)
theorem m_349 : (Cond.code y_M_setBack c_M_setBack 10 (some .int)) ∈ zT := zm (by decide +kernel) (by decide +kernel)
theorem m_350 : (Cond.methodLink R_L 72 y_M_allowed) ∈ zT := zm (by decide +kernel) (by decide +kernel)
theorem m_351 : (Cond.instanceMethod y_M_allowed) ∈ zT := zm (by decide +kernel) (by decide +kernel)
theorem m_352 : (Cond.selects R_M y_M_allowed y_M_allowed) ∈ zT := zm (by decide +kernel) (by decide +kernel)
theorem m_353 : (Cond.code y_M_allowed c_M_allowed 6 (some .int)) ∈ zT := zm (by decide +kernel) (by decide +kernel)
theorem m_354 : (Cond.methodLink R_L 76 y_M_overtake) ∈ zT := zm (by decide +kernel) (by decide +kernel)
theorem m_355 : (Cond.instanceMethod y_M_overtake) ∈ zT := zm (by decide +kernel) (by decide +kernel)
theorem m_356 : (Cond.selects R_M y_M_overtake y_M_overtake) ∈ zT := zm (by decide +kernel) (by decide +kernel)
theorem m_357 : (Cond.code y_M_overtake c_M_overtake 7 (some .int)) ∈ zT := zm (by decide +kernel) (by decide +kernel)
theorem m_358 : (Cond.constant R_M 142 1000000) ∈ zT := zm (by decide +kernel) (by decide +kernel)
theorem m_359 : (Cond.methodLink R_L 80 y_M_seen) ∈ zT := zm (by decide +kernel) (by decide +kernel)
theorem m_360 : (Cond.instanceMethod y_M_seen) ∈ zT := zm (by decide +kernel) (by decide +kernel)
theorem m_361 : (Cond.selects R_M y_M_seen y_M_seen) ∈ zT := zm (by decide +kernel) (by decide +kernel)
theorem m_362 : (Cond.code y_M_seen c_M_seen 8 (some .int)) ∈ zT := zm (by decide +kernel) (by decide +kernel)
theorem m_363 : (Cond.constantLong R_M 143 9000000) ∈ zT := zm (by decide +kernel) (by decide +kernel)
theorem m_364 : (Cond.methodLink R_L 84 y_M_light) ∈ zT := zm (by decide +kernel) (by decide +kernel)
theorem m_365 : (Cond.instanceMethod y_M_light) ∈ zT := zm (by decide +kernel) (by decide +kernel)
theorem m_366 : (Cond.selects R_M y_M_light y_M_light) ∈ zT := zm (by decide +kernel) (by decide +kernel)
theorem m_367 : (Cond.code y_M_light c_M_light 5 (some .int)) ∈ zT := zm (by decide +kernel) (by decide +kernel)
theorem m_368 : (Cond.methodLink R_L 88 y_M_count) ∈ zT := zm (by decide +kernel) (by decide +kernel)
theorem m_369 : (Cond.instanceMethod y_M_count) ∈ zT := zm (by decide +kernel) (by decide +kernel)
theorem m_370 : (Cond.selects R_M y_M_count y_M_count) ∈ zT := zm (by decide +kernel) (by decide +kernel)
theorem m_371 : (Cond.code y_M_count c_M_count 5 (some .int)) ∈ zT := zm (by decide +kernel) (by decide +kernel)
theorem m_372 : (Cond.selects R_S y_S_stepBetween y_S_stepBetween) ∈ zT := zm (by decide +kernel) (by decide +kernel)
theorem m_373 : (Cond.selects R_S y_S_squareBetween y_S_squareBetween) ∈ zT := zm (by decide +kernel) (by decide +kernel)
theorem m_374 : (Cond.selects R_S y_S_isStation y_S_isStation) ∈ zT := zm (by decide +kernel) (by decide +kernel)
theorem m_375 : (Cond.selects R_B y_B_add y_B_add) ∈ zT := zm (by decide +kernel) (by decide +kernel)
theorem m_376 : (Cond.selects R_S y_S_interruption y_S_interruption) ∈ zT := zm (by decide +kernel) (by decide +kernel)
theorem m_377 : (Cond.selects R_S y_S_isGroundAbove y_S_isGroundAbove) ∈ zT := zm (by decide +kernel) (by decide +kernel)
theorem m_378 : (Cond.selects R_S y_S_isBankInWay y_S_isBankInWay) ∈ zT := zm (by decide +kernel) (by decide +kernel)
theorem m_379 : (Cond.selects R_S y_S_crossAt y_S_crossAt) ∈ zT := zm (by decide +kernel) (by decide +kernel)
theorem m_380 : (Cond.selects R_B y_B_firstAcross y_B_firstAcross) ∈ zT := zm (by decide +kernel) (by decide +kernel)
theorem m_381 : (Cond.selects R_B y_B_takeWhole y_B_takeWhole) ∈ zT := zm (by decide +kernel) (by decide +kernel)
theorem m_382 : (Cond.selects R_B y_B_narrow y_B_narrow) ∈ zT := zm (by decide +kernel) (by decide +kernel)
theorem m_383 : (Cond.selects R_B y_B_dipsBelow y_B_dipsBelow) ∈ zT := zm (by decide +kernel) (by decide +kernel)
theorem m_384 : (Cond.selects R_S y_S_sightFrom y_S_sightFrom) ∈ zT := zm (by decide +kernel) (by decide +kernel)
theorem m_385 : (Cond.selects R_S y_S_needWith y_S_needWith) ∈ zT := zm (by decide +kernel) (by decide +kernel)
theorem m_386 : (Cond.selects R_S y_S_slopeBeyond y_S_slopeBeyond) ∈ zT := zm (by decide +kernel) (by decide +kernel)
theorem m_387 : (Cond.selects R_S y_S_isBlind y_S_isBlind) ∈ zT := zm (by decide +kernel) (by decide +kernel)
theorem m_388 : (Cond.selects R_S y_S_roadBeyond y_S_roadBeyond) ∈ zT := zm (by decide +kernel) (by decide +kernel)
theorem m_389 : (Cond.selects R_S y_S_widened y_S_widened) ∈ zT := zm (by decide +kernel) (by decide +kernel)
theorem m_390 : (Cond.selects R_S y_S_freeViews y_S_freeViews) ∈ zT := zm (by decide +kernel) (by decide +kernel)
theorem m_391 : (Cond.selects R_S y_S_blindStations y_S_blindStations) ∈ zT := zm (by decide +kernel) (by decide +kernel)
theorem m_392 : (Cond.selects R_M y_M_isStation y_M_isStation) ∈ zT := zm (by decide +kernel) (by decide +kernel)
theorem m_393 : (Cond.selects R_M y_M_interrupter y_M_interrupter) ∈ zT := zm (by decide +kernel) (by decide +kernel)
theorem m_394 : (Cond.selects R_M y_M_isAbove y_M_isAbove) ∈ zT := zm (by decide +kernel) (by decide +kernel)
theorem m_395 : (Cond.selects R_M y_M_isBanked y_M_isBanked) ∈ zT := zm (by decide +kernel) (by decide +kernel)
theorem m_396 : (Cond.selects R_M y_M_beside y_M_beside) ∈ zT := zm (by decide +kernel) (by decide +kernel)
theorem m_397 : (Cond.selects R_M y_M_lengthSquare y_M_lengthSquare) ∈ zT := zm (by decide +kernel) (by decide +kernel)
theorem m_398 : (Cond.selects R_M y_M_isBoxed y_M_isBoxed) ∈ zT := zm (by decide +kernel) (by decide +kernel)
theorem m_399 : (Cond.selects R_M y_M_cut y_M_cut) ∈ zT := zm (by decide +kernel) (by decide +kernel)
theorem m_400 : (Cond.selects R_M y_M_sightOf y_M_sightOf) ∈ zT := zm (by decide +kernel) (by decide +kernel)
theorem m_401 : (Cond.selects R_M y_M_needOf y_M_needOf) ∈ zT := zm (by decide +kernel) (by decide +kernel)
theorem m_402 : (Cond.selects R_M y_M_isBlind y_M_isBlind) ∈ zT := zm (by decide +kernel) (by decide +kernel)
theorem m_403 : (Cond.selects R_M y_M_remaining y_M_remaining) ∈ zT := zm (by decide +kernel) (by decide +kernel)
theorem i_B : ∀ w ∈ u_ws R_B T_B 10, w ∈ zT := by decide +kernel
theorem i_S : ∀ w ∈ u_ws R_S T_S 13, w ∈ zT := by decide +kernel
theorem i_M : ∀ w ∈ u_ws R_M T_M 17, w ∈ zT := by decide +kernel
abbrev classes : List vw_C := [(R_B, T_B, 10), (R_S, T_S, 13), (R_M, T_M, 17)]
end
section
theorem d_S_init_0 : decode c_S_init 0 = .ok (.aload_n 0, 1) := by decide +kernel
theorem d_S_init_1 : decode c_S_init 1 = .ok (.invokespecial 1, 3) := by decide +kernel
theorem d_S_init_4 : decode c_S_init 4 = .ok (.aload_n 0, 1) := by decide +kernel
theorem d_S_init_5 : decode c_S_init 5 = .ok (.bipush 60, 2) := by decide +kernel
theorem d_S_init_7 : decode c_S_init 7 = .ok (.newarray .int, 2) := by decide +kernel
theorem d_S_init_9 : decode c_S_init 9 = .ok (.putfield 9, 3) := by decide +kernel
theorem d_S_init_12 : decode c_S_init 12 = .ok (.aload_n 0, 1) := by decide +kernel
theorem d_S_init_13 : decode c_S_init 13 = .ok (.bipush 60, 2) := by decide +kernel
theorem d_S_init_15 : decode c_S_init 15 = .ok (.newarray .int, 2) := by decide +kernel
theorem d_S_init_17 : decode c_S_init 17 = .ok (.putfield 13, 3) := by decide +kernel
theorem d_S_init_20 : decode c_S_init 20 = .ok (.aload_n 0, 1) := by decide +kernel
theorem d_S_init_21 : decode c_S_init 21 = .ok (.bipush 60, 2) := by decide +kernel
theorem d_S_init_23 : decode c_S_init 23 = .ok (.newarray .int, 2) := by decide +kernel
theorem d_S_init_25 : decode c_S_init 25 = .ok (.putfield 16, 3) := by decide +kernel
theorem d_S_init_28 : decode c_S_init 28 = .ok (.aload_n 0, 1) := by decide +kernel
theorem d_S_init_29 : decode c_S_init 29 = .ok (.bipush 60, 2) := by decide +kernel
theorem d_S_init_31 : decode c_S_init 31 = .ok (.newarray .int, 2) := by decide +kernel
theorem d_S_init_33 : decode c_S_init 33 = .ok (.putfield 19, 3) := by decide +kernel
theorem d_S_init_36 : decode c_S_init 36 = .ok (.aload_n 0, 1) := by decide +kernel
theorem d_S_init_37 : decode c_S_init 37 = .ok (.bipush 60, 2) := by decide +kernel
theorem d_S_init_39 : decode c_S_init 39 = .ok (.newarray .int, 2) := by decide +kernel
theorem d_S_init_41 : decode c_S_init 41 = .ok (.putfield 22, 3) := by decide +kernel
theorem d_S_init_44 : decode c_S_init 44 = .ok (.aload_n 0, 1) := by decide +kernel
theorem d_S_init_45 : decode c_S_init 45 = .ok (.bipush 120, 2) := by decide +kernel
theorem d_S_init_47 : decode c_S_init 47 = .ok (.newarray .int, 2) := by decide +kernel
theorem d_S_init_49 : decode c_S_init 49 = .ok (.putfield 25, 3) := by decide +kernel
theorem d_S_init_52 : decode c_S_init 52 = .ok (.aload_n 0, 1) := by decide +kernel
theorem d_S_init_53 : decode c_S_init 53 = .ok (.new 28, 3) := by decide +kernel
theorem d_S_init_56 : decode c_S_init 56 = .ok (.dup, 1) := by decide +kernel
theorem d_S_init_57 : decode c_S_init 57 = .ok (.invokespecial 30, 3) := by decide +kernel
theorem d_S_init_60 : decode c_S_init 60 = .ok (.putfield 31, 3) := by decide +kernel
theorem d_S_init_63 : decode c_S_init 63 = .ok (.aload_n 0, 1) := by decide +kernel
theorem d_S_init_64 : decode c_S_init 64 = .ok (.bipush 110, 2) := by decide +kernel
theorem d_S_init_66 : decode c_S_init 66 = .ok (.putfield 35, 3) := by decide +kernel
theorem d_S_init_69 : decode c_S_init 69 = .ok (.aload_n 0, 1) := by decide +kernel
theorem d_S_init_70 : decode c_S_init 70 = .ok (.bipush 20, 2) := by decide +kernel
theorem d_S_init_72 : decode c_S_init 72 = .ok (.putfield 39, 3) := by decide +kernel
theorem d_S_init_75 : decode c_S_init 75 = .ok (.aload_n 0, 1) := by decide +kernel
theorem d_S_init_76 : decode c_S_init 76 = .ok (.bipush 25, 2) := by decide +kernel
theorem d_S_init_78 : decode c_S_init 78 = .ok (.putfield 42, 3) := by decide +kernel
theorem d_S_init_81 : decode c_S_init 81 = .ok (.aload_n 0, 1) := by decide +kernel
theorem d_S_init_82 : decode c_S_init 82 = .ok (.sipush 450, 3) := by decide +kernel
theorem d_S_init_85 : decode c_S_init 85 = .ok (.putfield 45, 3) := by decide +kernel
theorem d_S_init_88 : decode c_S_init 88 = .ok (.return_, 1) := by decide +kernel
theorem d_S_station_0 : decode c_S_station 0 = .ok (.iload_n 1, 1) := by decide +kernel
theorem d_S_station_1 : decode c_S_station 1 = .ok (.iload_n 2, 1) := by decide +kernel
theorem d_S_station_2 : decode c_S_station 2 = .ok (.invokestatic 48, 3) := by decide +kernel
theorem d_S_station_5 : decode c_S_station 5 = .ok (.ifCond .eq 19, 3) := by decide +kernel
theorem d_S_station_8 : decode c_S_station 8 = .ok (.iload_n 3, 1) := by decide +kernel
theorem d_S_station_9 : decode c_S_station 9 = .ok (.invokestatic 52, 3) := by decide +kernel
theorem d_S_station_12 : decode c_S_station 12 = .ok (.ifCond .eq 12, 3) := by decide +kernel
theorem d_S_station_15 : decode c_S_station 15 = .ok (.aload_n 0, 1) := by decide +kernel
theorem d_S_station_16 : decode c_S_station 16 = .ok (.getfield 56, 3) := by decide +kernel
theorem d_S_station_19 : decode c_S_station 19 = .ok (.bipush 60, 2) := by decide +kernel
theorem d_S_station_21 : decode c_S_station 21 = .ok (.if_icmp .lt 5, 3) := by decide +kernel
theorem d_S_station_24 : decode c_S_station 24 = .ok (.iconst (-1), 1) := by decide +kernel
theorem d_S_station_25 : decode c_S_station 25 = .ok (.ireturn, 1) := by decide +kernel
theorem d_S_station_26 : decode c_S_station 26 = .ok (.aload_n 0, 1) := by decide +kernel
theorem d_S_station_27 : decode c_S_station 27 = .ok (.getfield 56, 3) := by decide +kernel
theorem d_S_station_30 : decode c_S_station 30 = .ok (.istore 4, 2) := by decide +kernel
theorem d_S_station_32 : decode c_S_station 32 = .ok (.aload_n 0, 1) := by decide +kernel
theorem d_S_station_33 : decode c_S_station 33 = .ok (.getfield 9, 3) := by decide +kernel
theorem d_S_station_36 : decode c_S_station 36 = .ok (.iload 4, 2) := by decide +kernel
theorem d_S_station_38 : decode c_S_station 38 = .ok (.iload_n 1, 1) := by decide +kernel
theorem d_S_station_39 : decode c_S_station 39 = .ok (.iastore, 1) := by decide +kernel
theorem d_S_station_40 : decode c_S_station 40 = .ok (.aload_n 0, 1) := by decide +kernel
theorem d_S_station_41 : decode c_S_station 41 = .ok (.getfield 13, 3) := by decide +kernel
theorem d_S_station_44 : decode c_S_station 44 = .ok (.iload 4, 2) := by decide +kernel
theorem d_S_station_46 : decode c_S_station 46 = .ok (.iload_n 2, 1) := by decide +kernel
theorem d_S_station_47 : decode c_S_station 47 = .ok (.iastore, 1) := by decide +kernel
theorem d_S_station_48 : decode c_S_station 48 = .ok (.aload_n 0, 1) := by decide +kernel
theorem d_S_station_49 : decode c_S_station 49 = .ok (.getfield 16, 3) := by decide +kernel
theorem d_S_station_52 : decode c_S_station 52 = .ok (.iload 4, 2) := by decide +kernel
theorem d_S_station_54 : decode c_S_station 54 = .ok (.iload_n 3, 1) := by decide +kernel
theorem d_S_station_55 : decode c_S_station 55 = .ok (.iastore, 1) := by decide +kernel
theorem d_S_station_56 : decode c_S_station 56 = .ok (.aload_n 0, 1) := by decide +kernel
theorem d_S_station_57 : decode c_S_station 57 = .ok (.getfield 22, 3) := by decide +kernel
theorem d_S_station_60 : decode c_S_station 60 = .ok (.iload 4, 2) := by decide +kernel
theorem d_S_station_62 : decode c_S_station 62 = .ok (.bipush 50, 2) := by decide +kernel
theorem d_S_station_64 : decode c_S_station 64 = .ok (.iastore, 1) := by decide +kernel
theorem d_S_station_65 : decode c_S_station 65 = .ok (.aload_n 0, 1) := by decide +kernel
theorem d_S_station_66 : decode c_S_station 66 = .ok (.getfield 25, 3) := by decide +kernel
theorem d_S_station_69 : decode c_S_station 69 = .ok (.iconst 2, 1) := by decide +kernel
theorem d_S_station_70 : decode c_S_station 70 = .ok (.iload 4, 2) := by decide +kernel
theorem d_S_station_72 : decode c_S_station 72 = .ok (.imul, 1) := by decide +kernel
theorem d_S_station_73 : decode c_S_station 73 = .ok (.iconst 0, 1) := by decide +kernel
theorem d_S_station_74 : decode c_S_station 74 = .ok (.iadd, 1) := by decide +kernel
theorem d_S_station_75 : decode c_S_station 75 = .ok (.iconst (-1), 1) := by decide +kernel
theorem d_S_station_76 : decode c_S_station 76 = .ok (.iastore, 1) := by decide +kernel
theorem d_S_station_77 : decode c_S_station 77 = .ok (.aload_n 0, 1) := by decide +kernel
theorem d_S_station_78 : decode c_S_station 78 = .ok (.getfield 25, 3) := by decide +kernel
theorem d_S_station_81 : decode c_S_station 81 = .ok (.iconst 2, 1) := by decide +kernel
theorem d_S_station_82 : decode c_S_station 82 = .ok (.iload 4, 2) := by decide +kernel
theorem d_S_station_84 : decode c_S_station 84 = .ok (.imul, 1) := by decide +kernel
theorem d_S_station_85 : decode c_S_station 85 = .ok (.iconst 1, 1) := by decide +kernel
theorem d_S_station_86 : decode c_S_station 86 = .ok (.iadd, 1) := by decide +kernel
theorem d_S_station_87 : decode c_S_station 87 = .ok (.iconst (-1), 1) := by decide +kernel
theorem d_S_station_88 : decode c_S_station 88 = .ok (.iastore, 1) := by decide +kernel
theorem d_S_station_89 : decode c_S_station 89 = .ok (.aload_n 0, 1) := by decide +kernel
theorem d_S_station_90 : decode c_S_station 90 = .ok (.getfield 19, 3) := by decide +kernel
theorem d_S_station_93 : decode c_S_station 93 = .ok (.iload 4, 2) := by decide +kernel
theorem d_S_station_95 : decode c_S_station 95 = .ok (.iload 4, 2) := by decide +kernel
theorem d_S_station_97 : decode c_S_station 97 = .ok (.ifCond .ne 7, 3) := by decide +kernel
theorem d_S_station_100 : decode c_S_station 100 = .ok (.iconst 0, 1) := by decide +kernel
theorem d_S_station_101 : decode c_S_station 101 = .ok (.goto 23, 3) := by decide +kernel
theorem d_S_station_104 : decode c_S_station 104 = .ok (.aload_n 0, 1) := by decide +kernel
theorem d_S_station_105 : decode c_S_station 105 = .ok (.getfield 19, 3) := by decide +kernel
theorem d_S_station_108 : decode c_S_station 108 = .ok (.iload 4, 2) := by decide +kernel
theorem d_S_station_110 : decode c_S_station 110 = .ok (.iconst 1, 1) := by decide +kernel
theorem d_S_station_111 : decode c_S_station 111 = .ok (.isub, 1) := by decide +kernel
theorem d_S_station_112 : decode c_S_station 112 = .ok (.iaload, 1) := by decide +kernel
theorem d_S_station_113 : decode c_S_station 113 = .ok (.aload_n 0, 1) := by decide +kernel
theorem d_S_station_114 : decode c_S_station 114 = .ok (.iload 4, 2) := by decide +kernel
theorem d_S_station_116 : decode c_S_station 116 = .ok (.iconst 1, 1) := by decide +kernel
theorem d_S_station_117 : decode c_S_station 117 = .ok (.isub, 1) := by decide +kernel
theorem d_S_station_118 : decode c_S_station 118 = .ok (.iload 4, 2) := by decide +kernel
theorem d_S_station_120 : decode c_S_station 120 = .ok (.invokevirtual 59, 3) := by decide +kernel
theorem d_S_station_123 : decode c_S_station 123 = .ok (.iadd, 1) := by decide +kernel
theorem d_S_station_124 : decode c_S_station 124 = .ok (.iastore, 1) := by decide +kernel
theorem d_S_station_125 : decode c_S_station 125 = .ok (.aload_n 0, 1) := by decide +kernel
theorem d_S_station_126 : decode c_S_station 126 = .ok (.dup, 1) := by decide +kernel
theorem d_S_station_127 : decode c_S_station 127 = .ok (.getfield 56, 3) := by decide +kernel
theorem d_S_station_130 : decode c_S_station 130 = .ok (.iconst 1, 1) := by decide +kernel
theorem d_S_station_131 : decode c_S_station 131 = .ok (.iadd, 1) := by decide +kernel
theorem d_S_station_132 : decode c_S_station 132 = .ok (.putfield 56, 3) := by decide +kernel
theorem d_S_station_135 : decode c_S_station 135 = .ok (.iload 4, 2) := by decide +kernel
theorem d_S_station_137 : decode c_S_station 137 = .ok (.ireturn, 1) := by decide +kernel
theorem d_S_heights_0 : decode c_S_heights 0 = .ok (.iload_n 1, 1) := by decide +kernel
theorem d_S_heights_1 : decode c_S_heights 1 = .ok (.iconst 0, 1) := by decide +kernel
theorem d_S_heights_2 : decode c_S_heights 2 = .ok (.sipush 1000, 3) := by decide +kernel
theorem d_S_heights_5 : decode c_S_heights 5 = .ok (.invokestatic 63, 3) := by decide +kernel
theorem d_S_heights_8 : decode c_S_heights 8 = .ok (.ifCond .eq 14, 3) := by decide +kernel
theorem d_S_heights_11 : decode c_S_heights 11 = .ok (.iload_n 2, 1) := by decide +kernel
theorem d_S_heights_12 : decode c_S_heights 12 = .ok (.iconst 0, 1) := by decide +kernel
theorem d_S_heights_13 : decode c_S_heights 13 = .ok (.sipush 1000, 3) := by decide +kernel
theorem d_S_heights_16 : decode c_S_heights 16 = .ok (.invokestatic 63, 3) := by decide +kernel
theorem d_S_heights_19 : decode c_S_heights 19 = .ok (.ifCond .ne 5, 3) := by decide +kernel
theorem d_S_heights_22 : decode c_S_heights 22 = .ok (.iconst 0, 1) := by decide +kernel
theorem d_S_heights_23 : decode c_S_heights 23 = .ok (.ireturn, 1) := by decide +kernel
theorem d_S_heights_24 : decode c_S_heights 24 = .ok (.aload_n 0, 1) := by decide +kernel
theorem d_S_heights_25 : decode c_S_heights 25 = .ok (.iload_n 1, 1) := by decide +kernel
theorem d_S_heights_26 : decode c_S_heights 26 = .ok (.putfield 35, 3) := by decide +kernel
theorem d_S_heights_29 : decode c_S_heights 29 = .ok (.aload_n 0, 1) := by decide +kernel
theorem d_S_heights_30 : decode c_S_heights 30 = .ok (.iload_n 2, 1) := by decide +kernel
theorem d_S_heights_31 : decode c_S_heights 31 = .ok (.putfield 39, 3) := by decide +kernel
theorem d_S_heights_34 : decode c_S_heights 34 = .ok (.iconst 1, 1) := by decide +kernel
theorem d_S_heights_35 : decode c_S_heights 35 = .ok (.ireturn, 1) := by decide +kernel
theorem d_S_clear_0 : decode c_S_clear 0 = .ok (.aload_n 0, 1) := by decide +kernel
theorem d_S_clear_1 : decode c_S_clear 1 = .ok (.iload_n 1, 1) := by decide +kernel
theorem d_S_clear_2 : decode c_S_clear 2 = .ok (.invokevirtual 67, 3) := by decide +kernel
theorem d_S_clear_5 : decode c_S_clear 5 = .ok (.ifCond .eq 21, 3) := by decide +kernel
theorem d_S_clear_8 : decode c_S_clear 8 = .ok (.iload_n 2, 1) := by decide +kernel
theorem d_S_clear_9 : decode c_S_clear 9 = .ok (.invokestatic 70, 3) := by decide +kernel
theorem d_S_clear_12 : decode c_S_clear 12 = .ok (.ifCond .eq 14, 3) := by decide +kernel
theorem d_S_clear_15 : decode c_S_clear 15 = .ok (.iload_n 3, 1) := by decide +kernel
theorem d_S_clear_16 : decode c_S_clear 16 = .ok (.iconst 0, 1) := by decide +kernel
theorem d_S_clear_17 : decode c_S_clear 17 = .ok (.sipush 1000, 3) := by decide +kernel
theorem d_S_clear_20 : decode c_S_clear 20 = .ok (.invokestatic 63, 3) := by decide +kernel
theorem d_S_clear_23 : decode c_S_clear 23 = .ok (.ifCond .ne 5, 3) := by decide +kernel
theorem d_S_clear_26 : decode c_S_clear 26 = .ok (.iconst 0, 1) := by decide +kernel
theorem d_S_clear_27 : decode c_S_clear 27 = .ok (.ireturn, 1) := by decide +kernel
theorem d_S_clear_28 : decode c_S_clear 28 = .ok (.iconst 2, 1) := by decide +kernel
theorem d_S_clear_29 : decode c_S_clear 29 = .ok (.iload_n 1, 1) := by decide +kernel
theorem d_S_clear_30 : decode c_S_clear 30 = .ok (.imul, 1) := by decide +kernel
theorem d_S_clear_31 : decode c_S_clear 31 = .ok (.iload_n 2, 1) := by decide +kernel
theorem d_S_clear_32 : decode c_S_clear 32 = .ok (.iadd, 1) := by decide +kernel
theorem d_S_clear_33 : decode c_S_clear 33 = .ok (.istore 4, 2) := by decide +kernel
theorem d_S_clear_35 : decode c_S_clear 35 = .ok (.aload_n 0, 1) := by decide +kernel
theorem d_S_clear_36 : decode c_S_clear 36 = .ok (.getfield 25, 3) := by decide +kernel
theorem d_S_clear_39 : decode c_S_clear 39 = .ok (.iload 4, 2) := by decide +kernel
theorem d_S_clear_41 : decode c_S_clear 41 = .ok (.iaload, 1) := by decide +kernel
theorem d_S_clear_42 : decode c_S_clear 42 = .ok (.iconst (-1), 1) := by decide +kernel
theorem d_S_clear_43 : decode c_S_clear 43 = .ok (.if_icmp .ne 13, 3) := by decide +kernel
theorem d_S_clear_46 : decode c_S_clear 46 = .ok (.aload_n 0, 1) := by decide +kernel
theorem d_S_clear_47 : decode c_S_clear 47 = .ok (.dup, 1) := by decide +kernel
theorem d_S_clear_48 : decode c_S_clear 48 = .ok (.getfield 73, 3) := by decide +kernel
theorem d_S_clear_51 : decode c_S_clear 51 = .ok (.iconst 1, 1) := by decide +kernel
theorem d_S_clear_52 : decode c_S_clear 52 = .ok (.iadd, 1) := by decide +kernel
theorem d_S_clear_53 : decode c_S_clear 53 = .ok (.putfield 73, 3) := by decide +kernel
theorem d_S_clear_56 : decode c_S_clear 56 = .ok (.aload_n 0, 1) := by decide +kernel
theorem d_S_clear_57 : decode c_S_clear 57 = .ok (.getfield 25, 3) := by decide +kernel
theorem d_S_clear_60 : decode c_S_clear 60 = .ok (.iload 4, 2) := by decide +kernel
theorem d_S_clear_62 : decode c_S_clear 62 = .ok (.iload_n 3, 1) := by decide +kernel
theorem d_S_clear_63 : decode c_S_clear 63 = .ok (.iastore, 1) := by decide +kernel
theorem d_S_clear_64 : decode c_S_clear 64 = .ok (.iconst 1, 1) := by decide +kernel
theorem d_S_clear_65 : decode c_S_clear 65 = .ok (.ireturn, 1) := by decide +kernel
theorem d_S_box_0 : decode c_S_box 0 = .ok (.iload_n 1, 1) := by decide +kernel
theorem d_S_box_1 : decode c_S_box 1 = .ok (.iload_n 2, 1) := by decide +kernel
theorem d_S_box_2 : decode c_S_box 2 = .ok (.invokestatic 48, 3) := by decide +kernel
theorem d_S_box_5 : decode c_S_box 5 = .ok (.ifCond .eq 31, 3) := by decide +kernel
theorem d_S_box_8 : decode c_S_box 8 = .ok (.iload_n 3, 1) := by decide +kernel
theorem d_S_box_9 : decode c_S_box 9 = .ok (.iload 4, 2) := by decide +kernel
theorem d_S_box_11 : decode c_S_box 11 = .ok (.invokestatic 48, 3) := by decide +kernel
theorem d_S_box_14 : decode c_S_box 14 = .ok (.ifCond .eq 22, 3) := by decide +kernel
theorem d_S_box_17 : decode c_S_box 17 = .ok (.iload_n 1, 1) := by decide +kernel
theorem d_S_box_18 : decode c_S_box 18 = .ok (.iload_n 3, 1) := by decide +kernel
theorem d_S_box_19 : decode c_S_box 19 = .ok (.if_icmp .gt 17, 3) := by decide +kernel
theorem d_S_box_22 : decode c_S_box 22 = .ok (.iload_n 2, 1) := by decide +kernel
theorem d_S_box_23 : decode c_S_box 23 = .ok (.iload 4, 2) := by decide +kernel
theorem d_S_box_25 : decode c_S_box 25 = .ok (.if_icmp .gt 11, 3) := by decide +kernel
theorem d_S_box_28 : decode c_S_box 28 = .ok (.iload 5, 2) := by decide +kernel
theorem d_S_box_30 : decode c_S_box 30 = .ok (.invokestatic 52, 3) := by decide +kernel
theorem d_S_box_33 : decode c_S_box 33 = .ok (.ifCond .ne 5, 3) := by decide +kernel
theorem d_S_box_36 : decode c_S_box 36 = .ok (.iconst (-1), 1) := by decide +kernel
theorem d_S_box_37 : decode c_S_box 37 = .ok (.ireturn, 1) := by decide +kernel
theorem d_S_box_38 : decode c_S_box 38 = .ok (.aload_n 0, 1) := by decide +kernel
theorem d_S_box_39 : decode c_S_box 39 = .ok (.getfield 31, 3) := by decide +kernel
theorem d_S_box_42 : decode c_S_box 42 = .ok (.iload_n 1, 1) := by decide +kernel
theorem d_S_box_43 : decode c_S_box 43 = .ok (.iload_n 2, 1) := by decide +kernel
theorem d_S_box_44 : decode c_S_box 44 = .ok (.iload_n 3, 1) := by decide +kernel
theorem d_S_box_45 : decode c_S_box 45 = .ok (.iload 4, 2) := by decide +kernel
theorem d_S_box_47 : decode c_S_box 47 = .ok (.iload 5, 2) := by decide +kernel
theorem d_S_box_49 : decode c_S_box 49 = .ok (.invokevirtual 76, 3) := by decide +kernel
theorem d_S_box_52 : decode c_S_box 52 = .ok (.ireturn, 1) := by decide +kernel
theorem d_S_speed_0 : decode c_S_speed 0 = .ok (.aload_n 0, 1) := by decide +kernel
theorem d_S_speed_1 : decode c_S_speed 1 = .ok (.iload_n 1, 1) := by decide +kernel
theorem d_S_speed_2 : decode c_S_speed 2 = .ok (.invokevirtual 67, 3) := by decide +kernel
theorem d_S_speed_5 : decode c_S_speed 5 = .ok (.ifCond .eq 14, 3) := by decide +kernel
theorem d_S_speed_8 : decode c_S_speed 8 = .ok (.iload_n 2, 1) := by decide +kernel
theorem d_S_speed_9 : decode c_S_speed 9 = .ok (.iconst 0, 1) := by decide +kernel
theorem d_S_speed_10 : decode c_S_speed 10 = .ok (.sipush 200, 3) := by decide +kernel
theorem d_S_speed_13 : decode c_S_speed 13 = .ok (.invokestatic 63, 3) := by decide +kernel
theorem d_S_speed_16 : decode c_S_speed 16 = .ok (.ifCond .ne 5, 3) := by decide +kernel
theorem d_S_speed_19 : decode c_S_speed 19 = .ok (.iconst 0, 1) := by decide +kernel
theorem d_S_speed_20 : decode c_S_speed 20 = .ok (.ireturn, 1) := by decide +kernel
theorem d_S_speed_21 : decode c_S_speed 21 = .ok (.aload_n 0, 1) := by decide +kernel
theorem d_S_speed_22 : decode c_S_speed 22 = .ok (.getfield 22, 3) := by decide +kernel
theorem d_S_speed_25 : decode c_S_speed 25 = .ok (.iload_n 1, 1) := by decide +kernel
theorem d_S_speed_26 : decode c_S_speed 26 = .ok (.iload_n 2, 1) := by decide +kernel
theorem d_S_speed_27 : decode c_S_speed 27 = .ok (.iastore, 1) := by decide +kernel
theorem d_S_speed_28 : decode c_S_speed 28 = .ok (.iconst 1, 1) := by decide +kernel
theorem d_S_speed_29 : decode c_S_speed 29 = .ok (.ireturn, 1) := by decide +kernel
theorem d_S_brake_0 : decode c_S_brake 0 = .ok (.iload_n 1, 1) := by decide +kernel
theorem d_S_brake_1 : decode c_S_brake 1 = .ok (.iconst 0, 1) := by decide +kernel
theorem d_S_brake_2 : decode c_S_brake 2 = .ok (.bipush 100, 2) := by decide +kernel
theorem d_S_brake_4 : decode c_S_brake 4 = .ok (.invokestatic 63, 3) := by decide +kernel
theorem d_S_brake_7 : decode c_S_brake 7 = .ok (.ifCond .eq 15, 3) := by decide +kernel
theorem d_S_brake_10 : decode c_S_brake 10 = .ok (.iload_n 2, 1) := by decide +kernel
theorem d_S_brake_11 : decode c_S_brake 11 = .ok (.bipush 50, 2) := by decide +kernel
theorem d_S_brake_13 : decode c_S_brake 13 = .ok (.sipush 1000, 3) := by decide +kernel
theorem d_S_brake_16 : decode c_S_brake 16 = .ok (.invokestatic 63, 3) := by decide +kernel
theorem d_S_brake_19 : decode c_S_brake 19 = .ok (.ifCond .ne 5, 3) := by decide +kernel
theorem d_S_brake_22 : decode c_S_brake 22 = .ok (.iconst 0, 1) := by decide +kernel
theorem d_S_brake_23 : decode c_S_brake 23 = .ok (.ireturn, 1) := by decide +kernel
theorem d_S_brake_24 : decode c_S_brake 24 = .ok (.aload_n 0, 1) := by decide +kernel
theorem d_S_brake_25 : decode c_S_brake 25 = .ok (.iload_n 1, 1) := by decide +kernel
theorem d_S_brake_26 : decode c_S_brake 26 = .ok (.putfield 42, 3) := by decide +kernel
theorem d_S_brake_29 : decode c_S_brake 29 = .ok (.aload_n 0, 1) := by decide +kernel
theorem d_S_brake_30 : decode c_S_brake 30 = .ok (.iload_n 2, 1) := by decide +kernel
theorem d_S_brake_31 : decode c_S_brake 31 = .ok (.putfield 45, 3) := by decide +kernel
theorem d_S_brake_34 : decode c_S_brake 34 = .ok (.iconst 1, 1) := by decide +kernel
theorem d_S_brake_35 : decode c_S_brake 35 = .ok (.ireturn, 1) := by decide +kernel
theorem d_S_way_0 : decode c_S_way 0 = .ok (.aload_n 0, 1) := by decide +kernel
theorem d_S_way_1 : decode c_S_way 1 = .ok (.iload_n 1, 1) := by decide +kernel
theorem d_S_way_2 : decode c_S_way 2 = .ok (.invokevirtual 67, 3) := by decide +kernel
theorem d_S_way_5 : decode c_S_way 5 = .ok (.ifCond .eq 12, 3) := by decide +kernel
theorem d_S_way_8 : decode c_S_way 8 = .ok (.aload_n 0, 1) := by decide +kernel
theorem d_S_way_9 : decode c_S_way 9 = .ok (.getfield 19, 3) := by decide +kernel
theorem d_S_way_12 : decode c_S_way 12 = .ok (.iload_n 1, 1) := by decide +kernel
theorem d_S_way_13 : decode c_S_way 13 = .ok (.iaload, 1) := by decide +kernel
theorem d_S_way_14 : decode c_S_way 14 = .ok (.goto 4, 3) := by decide +kernel
theorem d_S_way_17 : decode c_S_way 17 = .ok (.iconst (-1), 1) := by decide +kernel
theorem d_S_way_18 : decode c_S_way 18 = .ok (.ireturn, 1) := by decide +kernel
theorem d_S_view_0 : decode c_S_view 0 = .ok (.aload_n 0, 1) := by decide +kernel
theorem d_S_view_1 : decode c_S_view 1 = .ok (.iload_n 1, 1) := by decide +kernel
theorem d_S_view_2 : decode c_S_view 2 = .ok (.invokevirtual 67, 3) := by decide +kernel
theorem d_S_view_5 : decode c_S_view 5 = .ok (.ifCond .eq 25, 3) := by decide +kernel
theorem d_S_view_8 : decode c_S_view 8 = .ok (.aload_n 0, 1) := by decide +kernel
theorem d_S_view_9 : decode c_S_view 9 = .ok (.iload_n 2, 1) := by decide +kernel
theorem d_S_view_10 : decode c_S_view 10 = .ok (.invokevirtual 67, 3) := by decide +kernel
theorem d_S_view_13 : decode c_S_view 13 = .ok (.ifCond .eq 17, 3) := by decide +kernel
theorem d_S_view_16 : decode c_S_view 16 = .ok (.iload_n 1, 1) := by decide +kernel
theorem d_S_view_17 : decode c_S_view 17 = .ok (.iload_n 2, 1) := by decide +kernel
theorem d_S_view_18 : decode c_S_view 18 = .ok (.if_icmp .eq 12, 3) := by decide +kernel
theorem d_S_view_21 : decode c_S_view 21 = .ok (.iload_n 3, 1) := by decide +kernel
theorem d_S_view_22 : decode c_S_view 22 = .ok (.iconst 0, 1) := by decide +kernel
theorem d_S_view_23 : decode c_S_view 23 = .ok (.iconst 1, 1) := by decide +kernel
theorem d_S_view_24 : decode c_S_view 24 = .ok (.invokestatic 63, 3) := by decide +kernel
theorem d_S_view_27 : decode c_S_view 27 = .ok (.ifCond .ne 5, 3) := by decide +kernel
theorem d_S_view_30 : decode c_S_view 30 = .ok (.iconst (-1), 1) := by decide +kernel
theorem d_S_view_31 : decode c_S_view 31 = .ok (.ireturn, 1) := by decide +kernel
theorem d_S_view_32 : decode c_S_view 32 = .ok (.aload_n 0, 1) := by decide +kernel
theorem d_S_view_33 : decode c_S_view 33 = .ok (.iload_n 1, 1) := by decide +kernel
theorem d_S_view_34 : decode c_S_view 34 = .ok (.iload_n 2, 1) := by decide +kernel
theorem d_S_view_35 : decode c_S_view 35 = .ok (.invokevirtual 80, 3) := by decide +kernel
theorem d_S_view_38 : decode c_S_view 38 = .ok (.istore 4, 2) := by decide +kernel
theorem d_S_view_40 : decode c_S_view 40 = .ok (.iload_n 3, 1) := by decide +kernel
theorem d_S_view_41 : decode c_S_view 41 = .ok (.ifCond .ne 9, 3) := by decide +kernel
theorem d_S_view_44 : decode c_S_view 44 = .ok (.iload 4, 2) := by decide +kernel
theorem d_S_view_46 : decode c_S_view 46 = .ok (.bipush 64, 2) := by decide +kernel
theorem d_S_view_48 : decode c_S_view 48 = .ok (.idiv, 1) := by decide +kernel
theorem d_S_view_49 : decode c_S_view 49 = .ok (.ireturn, 1) := by decide +kernel
theorem d_S_view_50 : decode c_S_view 50 = .ok (.iload 4, 2) := by decide +kernel
theorem d_S_view_52 : decode c_S_view 52 = .ok (.ifCond .ne 7, 3) := by decide +kernel
theorem d_S_view_55 : decode c_S_view 55 = .ok (.iconst (-1), 1) := by decide +kernel
theorem d_S_view_56 : decode c_S_view 56 = .ok (.goto 8, 3) := by decide +kernel
theorem d_S_view_59 : decode c_S_view 59 = .ok (.iload 4, 2) := by decide +kernel
theorem d_S_view_61 : decode c_S_view 61 = .ok (.bipush 64, 2) := by decide +kernel
theorem d_S_view_63 : decode c_S_view 63 = .ok (.irem, 1) := by decide +kernel
theorem d_S_view_64 : decode c_S_view 64 = .ok (.ireturn, 1) := by decide +kernel
theorem d_S_sight_0 : decode c_S_sight 0 = .ok (.aload_n 0, 1) := by decide +kernel
theorem d_S_sight_1 : decode c_S_sight 1 = .ok (.iload_n 1, 1) := by decide +kernel
theorem d_S_sight_2 : decode c_S_sight 2 = .ok (.invokevirtual 67, 3) := by decide +kernel
theorem d_S_sight_5 : decode c_S_sight 5 = .ok (.ifCond .eq 12, 3) := by decide +kernel
theorem d_S_sight_8 : decode c_S_sight 8 = .ok (.aload_n 0, 1) := by decide +kernel
theorem d_S_sight_9 : decode c_S_sight 9 = .ok (.iload_n 1, 1) := by decide +kernel
theorem d_S_sight_10 : decode c_S_sight 10 = .ok (.iload_n 2, 1) := by decide +kernel
theorem d_S_sight_11 : decode c_S_sight 11 = .ok (.invokevirtual 83, 3) := by decide +kernel
theorem d_S_sight_14 : decode c_S_sight 14 = .ok (.goto 4, 3) := by decide +kernel
theorem d_S_sight_17 : decode c_S_sight 17 = .ok (.iconst (-1), 1) := by decide +kernel
theorem d_S_sight_18 : decode c_S_sight 18 = .ok (.ireturn, 1) := by decide +kernel
theorem d_S_need_0 : decode c_S_need 0 = .ok (.aload_n 0, 1) := by decide +kernel
theorem d_S_need_1 : decode c_S_need 1 = .ok (.iload_n 1, 1) := by decide +kernel
theorem d_S_need_2 : decode c_S_need 2 = .ok (.invokevirtual 67, 3) := by decide +kernel
theorem d_S_need_5 : decode c_S_need 5 = .ok (.ifCond .eq 18, 3) := by decide +kernel
theorem d_S_need_8 : decode c_S_need 8 = .ok (.aload_n 0, 1) := by decide +kernel
theorem d_S_need_9 : decode c_S_need 9 = .ok (.iload_n 1, 1) := by decide +kernel
theorem d_S_need_10 : decode c_S_need 10 = .ok (.iload_n 2, 1) := by decide +kernel
theorem d_S_need_11 : decode c_S_need 11 = .ok (.aload_n 0, 1) := by decide +kernel
theorem d_S_need_12 : decode c_S_need 12 = .ok (.getfield 22, 3) := by decide +kernel
theorem d_S_need_15 : decode c_S_need 15 = .ok (.iload_n 1, 1) := by decide +kernel
theorem d_S_need_16 : decode c_S_need 16 = .ok (.iaload, 1) := by decide +kernel
theorem d_S_need_17 : decode c_S_need 17 = .ok (.invokevirtual 87, 3) := by decide +kernel
theorem d_S_need_20 : decode c_S_need 20 = .ok (.goto 4, 3) := by decide +kernel
theorem d_S_need_23 : decode c_S_need 23 = .ok (.iconst (-1), 1) := by decide +kernel
theorem d_S_need_24 : decode c_S_need 24 = .ok (.ireturn, 1) := by decide +kernel
theorem d_S_blind_0 : decode c_S_blind 0 = .ok (.iload_n 2, 1) := by decide +kernel
theorem d_S_blind_1 : decode c_S_blind 1 = .ok (.ifCond .lt 12, 3) := by decide +kernel
theorem d_S_blind_4 : decode c_S_blind 4 = .ok (.iload_n 3, 1) := by decide +kernel
theorem d_S_blind_5 : decode c_S_blind 5 = .ok (.iconst 0, 1) := by decide +kernel
theorem d_S_blind_6 : decode c_S_blind 6 = .ok (.iconst 1, 1) := by decide +kernel
theorem d_S_blind_7 : decode c_S_blind 7 = .ok (.invokestatic 63, 3) := by decide +kernel
theorem d_S_blind_10 : decode c_S_blind 10 = .ok (.ifCond .ne 5, 3) := by decide +kernel
theorem d_S_blind_13 : decode c_S_blind 13 = .ok (.iconst (-1), 1) := by decide +kernel
theorem d_S_blind_14 : decode c_S_blind 14 = .ok (.ireturn, 1) := by decide +kernel
theorem d_S_blind_15 : decode c_S_blind 15 = .ok (.iconst 0, 1) := by decide +kernel
theorem d_S_blind_16 : decode c_S_blind 16 = .ok (.istore 4, 2) := by decide +kernel
theorem d_S_blind_18 : decode c_S_blind 18 = .ok (.iconst (-1), 1) := by decide +kernel
theorem d_S_blind_19 : decode c_S_blind 19 = .ok (.istore 5, 2) := by decide +kernel
theorem d_S_blind_21 : decode c_S_blind 21 = .ok (.iconst 0, 1) := by decide +kernel
theorem d_S_blind_22 : decode c_S_blind 22 = .ok (.istore 6, 2) := by decide +kernel
theorem d_S_blind_24 : decode c_S_blind 24 = .ok (.iload 6, 2) := by decide +kernel
theorem d_S_blind_26 : decode c_S_blind 26 = .ok (.aload_n 0, 1) := by decide +kernel
theorem d_S_blind_27 : decode c_S_blind 27 = .ok (.getfield 56, 3) := by decide +kernel
theorem d_S_blind_30 : decode c_S_blind 30 = .ok (.if_icmp .gt 87, 3) := by decide +kernel
theorem d_S_blind_33 : decode c_S_blind 33 = .ok (.iload 6, 2) := by decide +kernel
theorem d_S_blind_35 : decode c_S_blind 35 = .ok (.aload_n 0, 1) := by decide +kernel
theorem d_S_blind_36 : decode c_S_blind 36 = .ok (.getfield 56, 3) := by decide +kernel
theorem d_S_blind_39 : decode c_S_blind 39 = .ok (.if_icmp .ge 17, 3) := by decide +kernel
theorem d_S_blind_42 : decode c_S_blind 42 = .ok (.aload_n 0, 1) := by decide +kernel
theorem d_S_blind_43 : decode c_S_blind 43 = .ok (.iload 6, 2) := by decide +kernel
theorem d_S_blind_45 : decode c_S_blind 45 = .ok (.iload_n 1, 1) := by decide +kernel
theorem d_S_blind_46 : decode c_S_blind 46 = .ok (.invokevirtual 91, 3) := by decide +kernel
theorem d_S_blind_49 : decode c_S_blind 49 = .ok (.ifCond .eq 7, 3) := by decide +kernel
theorem d_S_blind_52 : decode c_S_blind 52 = .ok (.iconst 1, 1) := by decide +kernel
theorem d_S_blind_53 : decode c_S_blind 53 = .ok (.goto 4, 3) := by decide +kernel
theorem d_S_blind_56 : decode c_S_blind 56 = .ok (.iconst 0, 1) := by decide +kernel
theorem d_S_blind_57 : decode c_S_blind 57 = .ok (.istore 7, 2) := by decide +kernel
theorem d_S_blind_59 : decode c_S_blind 59 = .ok (.iload 7, 2) := by decide +kernel
theorem d_S_blind_61 : decode c_S_blind 61 = .ok (.ifCond .eq 13, 3) := by decide +kernel
theorem d_S_blind_64 : decode c_S_blind 64 = .ok (.iload 5, 2) := by decide +kernel
theorem d_S_blind_66 : decode c_S_blind 66 = .ok (.iconst (-1), 1) := by decide +kernel
theorem d_S_blind_67 : decode c_S_blind 67 = .ok (.if_icmp .ne 7, 3) := by decide +kernel
theorem d_S_blind_70 : decode c_S_blind 70 = .ok (.iload 6, 2) := by decide +kernel
theorem d_S_blind_72 : decode c_S_blind 72 = .ok (.istore 5, 2) := by decide +kernel
theorem d_S_blind_74 : decode c_S_blind 74 = .ok (.iload 7, 2) := by decide +kernel
theorem d_S_blind_76 : decode c_S_blind 76 = .ok (.ifCond .ne 35, 3) := by decide +kernel
theorem d_S_blind_79 : decode c_S_blind 79 = .ok (.iload 5, 2) := by decide +kernel
theorem d_S_blind_81 : decode c_S_blind 81 = .ok (.iconst (-1), 1) := by decide +kernel
theorem d_S_blind_82 : decode c_S_blind 82 = .ok (.if_icmp .eq 29, 3) := by decide +kernel
theorem d_S_blind_85 : decode c_S_blind 85 = .ok (.iload 4, 2) := by decide +kernel
theorem d_S_blind_87 : decode c_S_blind 87 = .ok (.iload_n 2, 1) := by decide +kernel
theorem d_S_blind_88 : decode c_S_blind 88 = .ok (.if_icmp .ne 17, 3) := by decide +kernel
theorem d_S_blind_91 : decode c_S_blind 91 = .ok (.iload_n 3, 1) := by decide +kernel
theorem d_S_blind_92 : decode c_S_blind 92 = .ok (.ifCond .ne 8, 3) := by decide +kernel
theorem d_S_blind_95 : decode c_S_blind 95 = .ok (.iload 5, 2) := by decide +kernel
theorem d_S_blind_97 : decode c_S_blind 97 = .ok (.goto 7, 3) := by decide +kernel
theorem d_S_blind_100 : decode c_S_blind 100 = .ok (.iload 6, 2) := by decide +kernel
theorem d_S_blind_102 : decode c_S_blind 102 = .ok (.iconst 1, 1) := by decide +kernel
theorem d_S_blind_103 : decode c_S_blind 103 = .ok (.isub, 1) := by decide +kernel
theorem d_S_blind_104 : decode c_S_blind 104 = .ok (.ireturn, 1) := by decide +kernel
theorem d_S_blind_105 : decode c_S_blind 105 = .ok (.iinc 4 1, 3) := by decide +kernel
theorem d_S_blind_108 : decode c_S_blind 108 = .ok (.iconst (-1), 1) := by decide +kernel
theorem d_S_blind_109 : decode c_S_blind 109 = .ok (.istore 5, 2) := by decide +kernel
theorem d_S_blind_111 : decode c_S_blind 111 = .ok (.iinc 6 1, 3) := by decide +kernel
theorem d_S_blind_114 : decode c_S_blind 114 = .ok (.goto (-90), 3) := by decide +kernel
theorem d_S_blind_117 : decode c_S_blind 117 = .ok (.iconst (-1), 1) := by decide +kernel
theorem d_S_blind_118 : decode c_S_blind 118 = .ok (.ireturn, 1) := by decide +kernel
theorem d_S_setBack_0 : decode c_S_setBack 0 = .ok (.aload_n 0, 1) := by decide +kernel
theorem d_S_setBack_1 : decode c_S_setBack 1 = .ok (.iload_n 1, 1) := by decide +kernel
theorem d_S_setBack_2 : decode c_S_setBack 2 = .ok (.invokevirtual 67, 3) := by decide +kernel
theorem d_S_setBack_5 : decode c_S_setBack 5 = .ok (.ifCond .eq 10, 3) := by decide +kernel
theorem d_S_setBack_8 : decode c_S_setBack 8 = .ok (.iload_n 2, 1) := by decide +kernel
theorem d_S_setBack_9 : decode c_S_setBack 9 = .ok (.invokestatic 70, 3) := by decide +kernel
theorem d_S_setBack_12 : decode c_S_setBack 12 = .ok (.ifCond .ne 5, 3) := by decide +kernel
theorem d_S_setBack_15 : decode c_S_setBack 15 = .ok (.iconst (-1), 1) := by decide +kernel
theorem d_S_setBack_16 : decode c_S_setBack 16 = .ok (.ireturn, 1) := by decide +kernel
theorem d_S_setBack_17 : decode c_S_setBack 17 = .ok (.iconst 0, 1) := by decide +kernel
theorem d_S_setBack_18 : decode c_S_setBack 18 = .ok (.istore_n 3, 1) := by decide +kernel
theorem d_S_setBack_19 : decode c_S_setBack 19 = .ok (.iconst 0, 1) := by decide +kernel
theorem d_S_setBack_20 : decode c_S_setBack 20 = .ok (.istore 4, 2) := by decide +kernel
theorem d_S_setBack_22 : decode c_S_setBack 22 = .ok (.iload 4, 2) := by decide +kernel
theorem d_S_setBack_24 : decode c_S_setBack 24 = .ok (.iload_n 1, 1) := by decide +kernel
theorem d_S_setBack_25 : decode c_S_setBack 25 = .ok (.if_icmp .ge 77, 3) := by decide +kernel
theorem d_S_setBack_28 : decode c_S_setBack 28 = .ok (.aload_n 0, 1) := by decide +kernel
theorem d_S_setBack_29 : decode c_S_setBack 29 = .ok (.getfield 19, 3) := by decide +kernel
theorem d_S_setBack_32 : decode c_S_setBack 32 = .ok (.iload 4, 2) := by decide +kernel
theorem d_S_setBack_34 : decode c_S_setBack 34 = .ok (.iaload, 1) := by decide +kernel
theorem d_S_setBack_35 : decode c_S_setBack 35 = .ok (.aload_n 0, 1) := by decide +kernel
theorem d_S_setBack_36 : decode c_S_setBack 36 = .ok (.iload 4, 2) := by decide +kernel
theorem d_S_setBack_38 : decode c_S_setBack 38 = .ok (.iconst 0, 1) := by decide +kernel
theorem d_S_setBack_39 : decode c_S_setBack 39 = .ok (.aload_n 0, 1) := by decide +kernel
theorem d_S_setBack_40 : decode c_S_setBack 40 = .ok (.getfield 22, 3) := by decide +kernel
theorem d_S_setBack_43 : decode c_S_setBack 43 = .ok (.iload 4, 2) := by decide +kernel
theorem d_S_setBack_45 : decode c_S_setBack 45 = .ok (.iaload, 1) := by decide +kernel
theorem d_S_setBack_46 : decode c_S_setBack 46 = .ok (.invokevirtual 87, 3) := by decide +kernel
theorem d_S_setBack_49 : decode c_S_setBack 49 = .ok (.iadd, 1) := by decide +kernel
theorem d_S_setBack_50 : decode c_S_setBack 50 = .ok (.istore 5, 2) := by decide +kernel
theorem d_S_setBack_52 : decode c_S_setBack 52 = .ok (.iload_n 1, 1) := by decide +kernel
theorem d_S_setBack_53 : decode c_S_setBack 53 = .ok (.iconst 1, 1) := by decide +kernel
theorem d_S_setBack_54 : decode c_S_setBack 54 = .ok (.iadd, 1) := by decide +kernel
theorem d_S_setBack_55 : decode c_S_setBack 55 = .ok (.istore 6, 2) := by decide +kernel
theorem d_S_setBack_57 : decode c_S_setBack 57 = .ok (.iload 6, 2) := by decide +kernel
theorem d_S_setBack_59 : decode c_S_setBack 59 = .ok (.aload_n 0, 1) := by decide +kernel
theorem d_S_setBack_60 : decode c_S_setBack 60 = .ok (.getfield 56, 3) := by decide +kernel
theorem d_S_setBack_63 : decode c_S_setBack 63 = .ok (.if_icmp .ge 33, 3) := by decide +kernel
theorem d_S_setBack_66 : decode c_S_setBack 66 = .ok (.aload_n 0, 1) := by decide +kernel
theorem d_S_setBack_67 : decode c_S_setBack 67 = .ok (.getfield 19, 3) := by decide +kernel
theorem d_S_setBack_70 : decode c_S_setBack 70 = .ok (.iload 6, 2) := by decide +kernel
theorem d_S_setBack_72 : decode c_S_setBack 72 = .ok (.iaload, 1) := by decide +kernel
theorem d_S_setBack_73 : decode c_S_setBack 73 = .ok (.iload 5, 2) := by decide +kernel
theorem d_S_setBack_75 : decode c_S_setBack 75 = .ok (.if_icmp .gt 21, 3) := by decide +kernel
theorem d_S_setBack_78 : decode c_S_setBack 78 = .ok (.aload_n 0, 1) := by decide +kernel
theorem d_S_setBack_79 : decode c_S_setBack 79 = .ok (.iload_n 3, 1) := by decide +kernel
theorem d_S_setBack_80 : decode c_S_setBack 80 = .ok (.iload 4, 2) := by decide +kernel
theorem d_S_setBack_82 : decode c_S_setBack 82 = .ok (.iload 6, 2) := by decide +kernel
theorem d_S_setBack_84 : decode c_S_setBack 84 = .ok (.iload_n 1, 1) := by decide +kernel
theorem d_S_setBack_85 : decode c_S_setBack 85 = .ok (.iload_n 2, 1) := by decide +kernel
theorem d_S_setBack_86 : decode c_S_setBack 86 = .ok (.invokevirtual 95, 3) := by decide +kernel
theorem d_S_setBack_89 : decode c_S_setBack 89 = .ok (.istore_n 3, 1) := by decide +kernel
theorem d_S_setBack_90 : decode c_S_setBack 90 = .ok (.iinc 6 1, 3) := by decide +kernel
theorem d_S_setBack_93 : decode c_S_setBack 93 = .ok (.goto (-36), 3) := by decide +kernel
theorem d_S_setBack_96 : decode c_S_setBack 96 = .ok (.iinc 4 1, 3) := by decide +kernel
theorem d_S_setBack_99 : decode c_S_setBack 99 = .ok (.goto (-77), 3) := by decide +kernel
theorem d_S_setBack_102 : decode c_S_setBack 102 = .ok (.iload_n 3, 1) := by decide +kernel
theorem d_S_setBack_103 : decode c_S_setBack 103 = .ok (.sipush 1000, 3) := by decide +kernel
theorem d_S_setBack_106 : decode c_S_setBack 106 = .ok (.if_icmp .le 7, 3) := by decide +kernel
theorem d_S_setBack_109 : decode c_S_setBack 109 = .ok (.iconst (-1), 1) := by decide +kernel
theorem d_S_setBack_110 : decode c_S_setBack 110 = .ok (.goto 4, 3) := by decide +kernel
theorem d_S_setBack_113 : decode c_S_setBack 113 = .ok (.iload_n 3, 1) := by decide +kernel
theorem d_S_setBack_114 : decode c_S_setBack 114 = .ok (.ireturn, 1) := by decide +kernel
theorem d_S_allowed_0 : decode c_S_allowed 0 = .ok (.aload_n 0, 1) := by decide +kernel
theorem d_S_allowed_1 : decode c_S_allowed 1 = .ok (.iload_n 1, 1) := by decide +kernel
theorem d_S_allowed_2 : decode c_S_allowed 2 = .ok (.invokevirtual 67, 3) := by decide +kernel
theorem d_S_allowed_5 : decode c_S_allowed 5 = .ok (.ifCond .ne 5, 3) := by decide +kernel
theorem d_S_allowed_8 : decode c_S_allowed 8 = .ok (.iconst (-1), 1) := by decide +kernel
theorem d_S_allowed_9 : decode c_S_allowed 9 = .ok (.ireturn, 1) := by decide +kernel
theorem d_S_allowed_10 : decode c_S_allowed 10 = .ok (.aload_n 0, 1) := by decide +kernel
theorem d_S_allowed_11 : decode c_S_allowed 11 = .ok (.iload_n 1, 1) := by decide +kernel
theorem d_S_allowed_12 : decode c_S_allowed 12 = .ok (.iload_n 2, 1) := by decide +kernel
theorem d_S_allowed_13 : decode c_S_allowed 13 = .ok (.invokevirtual 83, 3) := by decide +kernel
theorem d_S_allowed_16 : decode c_S_allowed 16 = .ok (.istore_n 3, 1) := by decide +kernel
theorem d_S_allowed_17 : decode c_S_allowed 17 = .ok (.aload_n 0, 1) := by decide +kernel
theorem d_S_allowed_18 : decode c_S_allowed 18 = .ok (.iload_n 1, 1) := by decide +kernel
theorem d_S_allowed_19 : decode c_S_allowed 19 = .ok (.iload_n 2, 1) := by decide +kernel
theorem d_S_allowed_20 : decode c_S_allowed 20 = .ok (.invokevirtual 98, 3) := by decide +kernel
theorem d_S_allowed_23 : decode c_S_allowed 23 = .ok (.istore 4, 2) := by decide +kernel
theorem d_S_allowed_25 : decode c_S_allowed 25 = .ok (.sipush 130, 3) := by decide +kernel
theorem d_S_allowed_28 : decode c_S_allowed 28 = .ok (.istore 5, 2) := by decide +kernel
theorem d_S_allowed_30 : decode c_S_allowed 30 = .ok (.iload 5, 2) := by decide +kernel
theorem d_S_allowed_32 : decode c_S_allowed 32 = .ok (.ifCond .le 35, 3) := by decide +kernel
theorem d_S_allowed_35 : decode c_S_allowed 35 = .ok (.aload_n 0, 1) := by decide +kernel
theorem d_S_allowed_36 : decode c_S_allowed 36 = .ok (.iload_n 1, 1) := by decide +kernel
theorem d_S_allowed_37 : decode c_S_allowed 37 = .ok (.iload_n 2, 1) := by decide +kernel
theorem d_S_allowed_38 : decode c_S_allowed 38 = .ok (.iload 5, 2) := by decide +kernel
theorem d_S_allowed_40 : decode c_S_allowed 40 = .ok (.invokevirtual 87, 3) := by decide +kernel
theorem d_S_allowed_43 : decode c_S_allowed 43 = .ok (.istore 6, 2) := by decide +kernel
theorem d_S_allowed_45 : decode c_S_allowed 45 = .ok (.iload 6, 2) := by decide +kernel
theorem d_S_allowed_47 : decode c_S_allowed 47 = .ok (.iload_n 3, 1) := by decide +kernel
theorem d_S_allowed_48 : decode c_S_allowed 48 = .ok (.if_icmp .le 10, 3) := by decide +kernel
theorem d_S_allowed_51 : decode c_S_allowed 51 = .ok (.iload 4, 2) := by decide +kernel
theorem d_S_allowed_53 : decode c_S_allowed 53 = .ok (.iload 6, 2) := by decide +kernel
theorem d_S_allowed_55 : decode c_S_allowed 55 = .ok (.if_icmp .ge 6, 3) := by decide +kernel
theorem d_S_allowed_58 : decode c_S_allowed 58 = .ok (.iload 5, 2) := by decide +kernel
theorem d_S_allowed_60 : decode c_S_allowed 60 = .ok (.ireturn, 1) := by decide +kernel
theorem d_S_allowed_61 : decode c_S_allowed 61 = .ok (.iinc 5 (-5), 3) := by decide +kernel
theorem d_S_allowed_64 : decode c_S_allowed 64 = .ok (.goto (-34), 3) := by decide +kernel
theorem d_S_allowed_67 : decode c_S_allowed 67 = .ok (.iconst 0, 1) := by decide +kernel
theorem d_S_allowed_68 : decode c_S_allowed 68 = .ok (.ireturn, 1) := by decide +kernel
theorem d_S_overtake_0 : decode c_S_overtake 0 = .ok (.iload_n 1, 1) := by decide +kernel
theorem d_S_overtake_1 : decode c_S_overtake 1 = .ok (.iconst 1, 1) := by decide +kernel
theorem d_S_overtake_2 : decode c_S_overtake 2 = .ok (.ldc 101, 2) := by decide +kernel
theorem d_S_overtake_4 : decode c_S_overtake 4 = .ok (.invokestatic 63, 3) := by decide +kernel
theorem d_S_overtake_7 : decode c_S_overtake 7 = .ok (.ifCond .ne 5, 3) := by decide +kernel
theorem d_S_overtake_10 : decode c_S_overtake 10 = .ok (.iconst (-1), 1) := by decide +kernel
theorem d_S_overtake_11 : decode c_S_overtake 11 = .ok (.ireturn, 1) := by decide +kernel
theorem d_S_overtake_12 : decode c_S_overtake 12 = .ok (.iconst 0, 1) := by decide +kernel
theorem d_S_overtake_13 : decode c_S_overtake 13 = .ok (.istore_n 2, 1) := by decide +kernel
theorem d_S_overtake_14 : decode c_S_overtake 14 = .ok (.iconst (-1), 1) := by decide +kernel
theorem d_S_overtake_15 : decode c_S_overtake 15 = .ok (.istore_n 3, 1) := by decide +kernel
theorem d_S_overtake_16 : decode c_S_overtake 16 = .ok (.iconst 0, 1) := by decide +kernel
theorem d_S_overtake_17 : decode c_S_overtake 17 = .ok (.istore 4, 2) := by decide +kernel
theorem d_S_overtake_19 : decode c_S_overtake 19 = .ok (.iload 4, 2) := by decide +kernel
theorem d_S_overtake_21 : decode c_S_overtake 21 = .ok (.aload_n 0, 1) := by decide +kernel
theorem d_S_overtake_22 : decode c_S_overtake 22 = .ok (.getfield 56, 3) := by decide +kernel
theorem d_S_overtake_25 : decode c_S_overtake 25 = .ok (.if_icmp .ge 56, 3) := by decide +kernel
theorem d_S_overtake_28 : decode c_S_overtake 28 = .ok (.aload_n 0, 1) := by decide +kernel
theorem d_S_overtake_29 : decode c_S_overtake 29 = .ok (.iload 4, 2) := by decide +kernel
theorem d_S_overtake_31 : decode c_S_overtake 31 = .ok (.iconst 0, 1) := by decide +kernel
theorem d_S_overtake_32 : decode c_S_overtake 32 = .ok (.invokevirtual 83, 3) := by decide +kernel
theorem d_S_overtake_35 : decode c_S_overtake 35 = .ok (.iload_n 1, 1) := by decide +kernel
theorem d_S_overtake_36 : decode c_S_overtake 36 = .ok (.if_icmp .ge 8, 3) := by decide +kernel
theorem d_S_overtake_39 : decode c_S_overtake 39 = .ok (.iconst (-1), 1) := by decide +kernel
theorem d_S_overtake_40 : decode c_S_overtake 40 = .ok (.istore_n 3, 1) := by decide +kernel
theorem d_S_overtake_41 : decode c_S_overtake 41 = .ok (.goto 34, 3) := by decide +kernel
theorem d_S_overtake_44 : decode c_S_overtake 44 = .ok (.iload_n 3, 1) := by decide +kernel
theorem d_S_overtake_45 : decode c_S_overtake 45 = .ok (.iconst (-1), 1) := by decide +kernel
theorem d_S_overtake_46 : decode c_S_overtake 46 = .ok (.if_icmp .ne 8, 3) := by decide +kernel
theorem d_S_overtake_49 : decode c_S_overtake 49 = .ok (.iload 4, 2) := by decide +kernel
theorem d_S_overtake_51 : decode c_S_overtake 51 = .ok (.goto 4, 3) := by decide +kernel
theorem d_S_overtake_54 : decode c_S_overtake 54 = .ok (.iload_n 3, 1) := by decide +kernel
theorem d_S_overtake_55 : decode c_S_overtake 55 = .ok (.istore_n 3, 1) := by decide +kernel
theorem d_S_overtake_56 : decode c_S_overtake 56 = .ok (.iload_n 2, 1) := by decide +kernel
theorem d_S_overtake_57 : decode c_S_overtake 57 = .ok (.aload_n 0, 1) := by decide +kernel
theorem d_S_overtake_58 : decode c_S_overtake 58 = .ok (.getfield 19, 3) := by decide +kernel
theorem d_S_overtake_61 : decode c_S_overtake 61 = .ok (.iload 4, 2) := by decide +kernel
theorem d_S_overtake_63 : decode c_S_overtake 63 = .ok (.iaload, 1) := by decide +kernel
theorem d_S_overtake_64 : decode c_S_overtake 64 = .ok (.aload_n 0, 1) := by decide +kernel
theorem d_S_overtake_65 : decode c_S_overtake 65 = .ok (.getfield 19, 3) := by decide +kernel
theorem d_S_overtake_68 : decode c_S_overtake 68 = .ok (.iload_n 3, 1) := by decide +kernel
theorem d_S_overtake_69 : decode c_S_overtake 69 = .ok (.iaload, 1) := by decide +kernel
theorem d_S_overtake_70 : decode c_S_overtake 70 = .ok (.isub, 1) := by decide +kernel
theorem d_S_overtake_71 : decode c_S_overtake 71 = .ok (.invokestatic 102, 3) := by decide +kernel
theorem d_S_overtake_74 : decode c_S_overtake 74 = .ok (.istore_n 2, 1) := by decide +kernel
theorem d_S_overtake_75 : decode c_S_overtake 75 = .ok (.iinc 4 1, 3) := by decide +kernel
theorem d_S_overtake_78 : decode c_S_overtake 78 = .ok (.goto (-59), 3) := by decide +kernel
theorem d_S_overtake_81 : decode c_S_overtake 81 = .ok (.iload_n 2, 1) := by decide +kernel
theorem d_S_overtake_82 : decode c_S_overtake 82 = .ok (.ireturn, 1) := by decide +kernel
theorem d_S_seen_0 : decode c_S_seen 0 = .ok (.iload_n 1, 1) := by decide +kernel
theorem d_S_seen_1 : decode c_S_seen 1 = .ok (.iload_n 2, 1) := by decide +kernel
theorem d_S_seen_2 : decode c_S_seen 2 = .ok (.invokestatic 48, 3) := by decide +kernel
theorem d_S_seen_5 : decode c_S_seen 5 = .ok (.ifCond .eq 10, 3) := by decide +kernel
theorem d_S_seen_8 : decode c_S_seen 8 = .ok (.iload_n 3, 1) := by decide +kernel
theorem d_S_seen_9 : decode c_S_seen 9 = .ok (.invokestatic 52, 3) := by decide +kernel
theorem d_S_seen_12 : decode c_S_seen 12 = .ok (.ifCond .ne 5, 3) := by decide +kernel
theorem d_S_seen_15 : decode c_S_seen 15 = .ok (.iconst (-1), 1) := by decide +kernel
theorem d_S_seen_16 : decode c_S_seen 16 = .ok (.ireturn, 1) := by decide +kernel
theorem d_S_seen_17 : decode c_S_seen 17 = .ok (.iconst 0, 1) := by decide +kernel
theorem d_S_seen_18 : decode c_S_seen 18 = .ok (.istore 4, 2) := by decide +kernel
theorem d_S_seen_20 : decode c_S_seen 20 = .ok (.iconst 0, 1) := by decide +kernel
theorem d_S_seen_21 : decode c_S_seen 21 = .ok (.istore 5, 2) := by decide +kernel
theorem d_S_seen_23 : decode c_S_seen 23 = .ok (.iload 5, 2) := by decide +kernel
theorem d_S_seen_25 : decode c_S_seen 25 = .ok (.aload_n 0, 1) := by decide +kernel
theorem d_S_seen_26 : decode c_S_seen 26 = .ok (.getfield 56, 3) := by decide +kernel
theorem d_S_seen_29 : decode c_S_seen 29 = .ok (.if_icmp .ge 94, 3) := by decide +kernel
theorem d_S_seen_32 : decode c_S_seen 32 = .ok (.iload_n 1, 1) := by decide +kernel
theorem d_S_seen_33 : decode c_S_seen 33 = .ok (.aload_n 0, 1) := by decide +kernel
theorem d_S_seen_34 : decode c_S_seen 34 = .ok (.getfield 9, 3) := by decide +kernel
theorem d_S_seen_37 : decode c_S_seen 37 = .ok (.iload 5, 2) := by decide +kernel
theorem d_S_seen_39 : decode c_S_seen 39 = .ok (.iaload, 1) := by decide +kernel
theorem d_S_seen_40 : decode c_S_seen 40 = .ok (.isub, 1) := by decide +kernel
theorem d_S_seen_41 : decode c_S_seen 41 = .ok (.i2l, 1) := by decide +kernel
theorem d_S_seen_42 : decode c_S_seen 42 = .ok (.iload_n 2, 1) := by decide +kernel
theorem d_S_seen_43 : decode c_S_seen 43 = .ok (.aload_n 0, 1) := by decide +kernel
theorem d_S_seen_44 : decode c_S_seen 44 = .ok (.getfield 13, 3) := by decide +kernel
theorem d_S_seen_47 : decode c_S_seen 47 = .ok (.iload 5, 2) := by decide +kernel
theorem d_S_seen_49 : decode c_S_seen 49 = .ok (.iaload, 1) := by decide +kernel
theorem d_S_seen_50 : decode c_S_seen 50 = .ok (.isub, 1) := by decide +kernel
theorem d_S_seen_51 : decode c_S_seen 51 = .ok (.i2l, 1) := by decide +kernel
theorem d_S_seen_52 : decode c_S_seen 52 = .ok (.invokestatic 107, 3) := by decide +kernel
theorem d_S_seen_55 : decode c_S_seen 55 = .ok (.ldc2_w 111, 3) := by decide +kernel
theorem d_S_seen_58 : decode c_S_seen 58 = .ok (.lcmp, 1) := by decide +kernel
theorem d_S_seen_59 : decode c_S_seen 59 = .ok (.ifCond .gt 7, 3) := by decide +kernel
theorem d_S_seen_62 : decode c_S_seen 62 = .ok (.iconst 1, 1) := by decide +kernel
theorem d_S_seen_63 : decode c_S_seen 63 = .ok (.goto 4, 3) := by decide +kernel
theorem d_S_seen_66 : decode c_S_seen 66 = .ok (.iconst 0, 1) := by decide +kernel
theorem d_S_seen_67 : decode c_S_seen 67 = .ok (.istore 6, 2) := by decide +kernel
theorem d_S_seen_69 : decode c_S_seen 69 = .ok (.iload 6, 2) := by decide +kernel
theorem d_S_seen_71 : decode c_S_seen 71 = .ok (.ifCond .eq 46, 3) := by decide +kernel
theorem d_S_seen_74 : decode c_S_seen 74 = .ok (.aload_n 0, 1) := by decide +kernel
theorem d_S_seen_75 : decode c_S_seen 75 = .ok (.getfield 31, 3) := by decide +kernel
theorem d_S_seen_78 : decode c_S_seen 78 = .ok (.aload_n 0, 1) := by decide +kernel
theorem d_S_seen_79 : decode c_S_seen 79 = .ok (.getfield 9, 3) := by decide +kernel
theorem d_S_seen_82 : decode c_S_seen 82 = .ok (.iload 5, 2) := by decide +kernel
theorem d_S_seen_84 : decode c_S_seen 84 = .ok (.iaload, 1) := by decide +kernel
theorem d_S_seen_85 : decode c_S_seen 85 = .ok (.aload_n 0, 1) := by decide +kernel
theorem d_S_seen_86 : decode c_S_seen 86 = .ok (.getfield 13, 3) := by decide +kernel
theorem d_S_seen_89 : decode c_S_seen 89 = .ok (.iload 5, 2) := by decide +kernel
theorem d_S_seen_91 : decode c_S_seen 91 = .ok (.iaload, 1) := by decide +kernel
theorem d_S_seen_92 : decode c_S_seen 92 = .ok (.aload_n 0, 1) := by decide +kernel
theorem d_S_seen_93 : decode c_S_seen 93 = .ok (.getfield 16, 3) := by decide +kernel
theorem d_S_seen_96 : decode c_S_seen 96 = .ok (.iload 5, 2) := by decide +kernel
theorem d_S_seen_98 : decode c_S_seen 98 = .ok (.iaload, 1) := by decide +kernel
theorem d_S_seen_99 : decode c_S_seen 99 = .ok (.aload_n 0, 1) := by decide +kernel
theorem d_S_seen_100 : decode c_S_seen 100 = .ok (.getfield 35, 3) := by decide +kernel
theorem d_S_seen_103 : decode c_S_seen 103 = .ok (.iadd, 1) := by decide +kernel
theorem d_S_seen_104 : decode c_S_seen 104 = .ok (.iload_n 1, 1) := by decide +kernel
theorem d_S_seen_105 : decode c_S_seen 105 = .ok (.iload_n 2, 1) := by decide +kernel
theorem d_S_seen_106 : decode c_S_seen 106 = .ok (.iload_n 3, 1) := by decide +kernel
theorem d_S_seen_107 : decode c_S_seen 107 = .ok (.invokevirtual 113, 3) := by decide +kernel
theorem d_S_seen_110 : decode c_S_seen 110 = .ok (.iconst (-1), 1) := by decide +kernel
theorem d_S_seen_111 : decode c_S_seen 111 = .ok (.if_icmp .ne 6, 3) := by decide +kernel
theorem d_S_seen_114 : decode c_S_seen 114 = .ok (.iinc 4 1, 3) := by decide +kernel
theorem d_S_seen_117 : decode c_S_seen 117 = .ok (.iinc 5 1, 3) := by decide +kernel
theorem d_S_seen_120 : decode c_S_seen 120 = .ok (.goto (-97), 3) := by decide +kernel
theorem d_S_seen_123 : decode c_S_seen 123 = .ok (.iload 4, 2) := by decide +kernel
theorem d_S_seen_125 : decode c_S_seen 125 = .ok (.ireturn, 1) := by decide +kernel
theorem d_S_light_0 : decode c_S_light 0 = .ok (.aload_n 0, 1) := by decide +kernel
theorem d_S_light_1 : decode c_S_light 1 = .ok (.iload_n 1, 1) := by decide +kernel
theorem d_S_light_2 : decode c_S_light 2 = .ok (.invokevirtual 67, 3) := by decide +kernel
theorem d_S_light_5 : decode c_S_light 5 = .ok (.ifCond .eq 24, 3) := by decide +kernel
theorem d_S_light_8 : decode c_S_light 8 = .ok (.iload_n 2, 1) := by decide +kernel
theorem d_S_light_9 : decode c_S_light 9 = .ok (.iconst 0, 1) := by decide +kernel
theorem d_S_light_10 : decode c_S_light 10 = .ok (.sipush 1000, 3) := by decide +kernel
theorem d_S_light_13 : decode c_S_light 13 = .ok (.invokestatic 63, 3) := by decide +kernel
theorem d_S_light_16 : decode c_S_light 16 = .ok (.ifCond .eq 13, 3) := by decide +kernel
theorem d_S_light_19 : decode c_S_light 19 = .ok (.iload_n 3, 1) := by decide +kernel
theorem d_S_light_20 : decode c_S_light 20 = .ok (.iconst 0, 1) := by decide +kernel
theorem d_S_light_21 : decode c_S_light 21 = .ok (.bipush 100, 2) := by decide +kernel
theorem d_S_light_23 : decode c_S_light 23 = .ok (.invokestatic 63, 3) := by decide +kernel
theorem d_S_light_26 : decode c_S_light 26 = .ok (.ifCond .ne 5, 3) := by decide +kernel
theorem d_S_light_29 : decode c_S_light 29 = .ok (.iconst (-1), 1) := by decide +kernel
theorem d_S_light_30 : decode c_S_light 30 = .ok (.ireturn, 1) := by decide +kernel
theorem d_S_light_31 : decode c_S_light 31 = .ok (.iconst 0, 1) := by decide +kernel
theorem d_S_light_32 : decode c_S_light 32 = .ok (.istore 4, 2) := by decide +kernel
theorem d_S_light_34 : decode c_S_light 34 = .ok (.iload_n 1, 1) := by decide +kernel
theorem d_S_light_35 : decode c_S_light 35 = .ok (.iconst 1, 1) := by decide +kernel
theorem d_S_light_36 : decode c_S_light 36 = .ok (.iadd, 1) := by decide +kernel
theorem d_S_light_37 : decode c_S_light 37 = .ok (.istore 5, 2) := by decide +kernel
theorem d_S_light_39 : decode c_S_light 39 = .ok (.iload 5, 2) := by decide +kernel
theorem d_S_light_41 : decode c_S_light 41 = .ok (.aload_n 0, 1) := by decide +kernel
theorem d_S_light_42 : decode c_S_light 42 = .ok (.getfield 56, 3) := by decide +kernel
theorem d_S_light_45 : decode c_S_light 45 = .ok (.if_icmp .ge 68, 3) := by decide +kernel
theorem d_S_light_48 : decode c_S_light 48 = .ok (.aload_n 0, 1) := by decide +kernel
theorem d_S_light_49 : decode c_S_light 49 = .ok (.getfield 19, 3) := by decide +kernel
theorem d_S_light_52 : decode c_S_light 52 = .ok (.iload 5, 2) := by decide +kernel
theorem d_S_light_54 : decode c_S_light 54 = .ok (.iaload, 1) := by decide +kernel
theorem d_S_light_55 : decode c_S_light 55 = .ok (.aload_n 0, 1) := by decide +kernel
theorem d_S_light_56 : decode c_S_light 56 = .ok (.getfield 19, 3) := by decide +kernel
theorem d_S_light_59 : decode c_S_light 59 = .ok (.iload_n 1, 1) := by decide +kernel
theorem d_S_light_60 : decode c_S_light 60 = .ok (.iaload, 1) := by decide +kernel
theorem d_S_light_61 : decode c_S_light 61 = .ok (.isub, 1) := by decide +kernel
theorem d_S_light_62 : decode c_S_light 62 = .ok (.istore 6, 2) := by decide +kernel
theorem d_S_light_64 : decode c_S_light 64 = .ok (.aload_n 0, 1) := by decide +kernel
theorem d_S_light_65 : decode c_S_light 65 = .ok (.getfield 16, 3) := by decide +kernel
theorem d_S_light_68 : decode c_S_light 68 = .ok (.iload_n 1, 1) := by decide +kernel
theorem d_S_light_69 : decode c_S_light 69 = .ok (.iaload, 1) := by decide +kernel
theorem d_S_light_70 : decode c_S_light 70 = .ok (.iload_n 2, 1) := by decide +kernel
theorem d_S_light_71 : decode c_S_light 71 = .ok (.iadd, 1) := by decide +kernel
theorem d_S_light_72 : decode c_S_light 72 = .ok (.i2l, 1) := by decide +kernel
theorem d_S_light_73 : decode c_S_light 73 = .ok (.iload_n 3, 1) := by decide +kernel
theorem d_S_light_74 : decode c_S_light 74 = .ok (.i2l, 1) := by decide +kernel
theorem d_S_light_75 : decode c_S_light 75 = .ok (.iload 6, 2) := by decide +kernel
theorem d_S_light_77 : decode c_S_light 77 = .ok (.i2l, 1) := by decide +kernel
theorem d_S_light_78 : decode c_S_light 78 = .ok (.lmul, 1) := by decide +kernel
theorem d_S_light_79 : decode c_S_light 79 = .ok (.ldc2_w 117, 3) := by decide +kernel
theorem d_S_light_82 : decode c_S_light 82 = .ok (.ldiv, 1) := by decide +kernel
theorem d_S_light_83 : decode c_S_light 83 = .ok (.ladd, 1) := by decide +kernel
theorem d_S_light_84 : decode c_S_light 84 = .ok (.lstore 7, 2) := by decide +kernel
theorem d_S_light_86 : decode c_S_light 86 = .ok (.aload_n 0, 1) := by decide +kernel
theorem d_S_light_87 : decode c_S_light 87 = .ok (.getfield 16, 3) := by decide +kernel
theorem d_S_light_90 : decode c_S_light 90 = .ok (.iload 5, 2) := by decide +kernel
theorem d_S_light_92 : decode c_S_light 92 = .ok (.iaload, 1) := by decide +kernel
theorem d_S_light_93 : decode c_S_light 93 = .ok (.i2l, 1) := by decide +kernel
theorem d_S_light_94 : decode c_S_light 94 = .ok (.lload 7, 2) := by decide +kernel
theorem d_S_light_96 : decode c_S_light 96 = .ok (.lcmp, 1) := by decide +kernel
theorem d_S_light_97 : decode c_S_light 97 = .ok (.ifCond .le 6, 3) := by decide +kernel
theorem d_S_light_100 : decode c_S_light 100 = .ok (.iload 4, 2) := by decide +kernel
theorem d_S_light_102 : decode c_S_light 102 = .ok (.ireturn, 1) := by decide +kernel
theorem d_S_light_103 : decode c_S_light 103 = .ok (.iload 6, 2) := by decide +kernel
theorem d_S_light_105 : decode c_S_light 105 = .ok (.istore 4, 2) := by decide +kernel
theorem d_S_light_107 : decode c_S_light 107 = .ok (.iinc 5 1, 3) := by decide +kernel
theorem d_S_light_110 : decode c_S_light 110 = .ok (.goto (-71), 3) := by decide +kernel
theorem d_S_light_113 : decode c_S_light 113 = .ok (.iload 4, 2) := by decide +kernel
theorem d_S_light_115 : decode c_S_light 115 = .ok (.ireturn, 1) := by decide +kernel
theorem d_S_count_0 : decode c_S_count 0 = .ok (.iload_n 1, 1) := by decide +kernel
theorem d_S_count_1 : decode c_S_count 1 = .ok (.tableswitch 74 0 5 #[39, 44, 52, 57, 62, 68], 39) := by decide +kernel
theorem d_S_count_40 : decode c_S_count 40 = .ok (.aload_n 0, 1) := by decide +kernel
theorem d_S_count_41 : decode c_S_count 41 = .ok (.getfield 56, 3) := by decide +kernel
theorem d_S_count_44 : decode c_S_count 44 = .ok (.ireturn, 1) := by decide +kernel
theorem d_S_count_45 : decode c_S_count 45 = .ok (.aload_n 0, 1) := by decide +kernel
theorem d_S_count_46 : decode c_S_count 46 = .ok (.getfield 31, 3) := by decide +kernel
theorem d_S_count_49 : decode c_S_count 49 = .ok (.getfield 119, 3) := by decide +kernel
theorem d_S_count_52 : decode c_S_count 52 = .ok (.ireturn, 1) := by decide +kernel
theorem d_S_count_53 : decode c_S_count 53 = .ok (.aload_n 0, 1) := by decide +kernel
theorem d_S_count_54 : decode c_S_count 54 = .ok (.getfield 73, 3) := by decide +kernel
theorem d_S_count_57 : decode c_S_count 57 = .ok (.ireturn, 1) := by decide +kernel
theorem d_S_count_58 : decode c_S_count 58 = .ok (.aload_n 0, 1) := by decide +kernel
theorem d_S_count_59 : decode c_S_count 59 = .ok (.invokevirtual 122, 3) := by decide +kernel
theorem d_S_count_62 : decode c_S_count 62 = .ok (.ireturn, 1) := by decide +kernel
theorem d_S_count_63 : decode c_S_count 63 = .ok (.aload_n 0, 1) := by decide +kernel
theorem d_S_count_64 : decode c_S_count 64 = .ok (.iconst 0, 1) := by decide +kernel
theorem d_S_count_65 : decode c_S_count 65 = .ok (.invokevirtual 126, 3) := by decide +kernel
theorem d_S_count_68 : decode c_S_count 68 = .ok (.ireturn, 1) := by decide +kernel
theorem d_S_count_69 : decode c_S_count 69 = .ok (.aload_n 0, 1) := by decide +kernel
theorem d_S_count_70 : decode c_S_count 70 = .ok (.iconst 1, 1) := by decide +kernel
theorem d_S_count_71 : decode c_S_count 71 = .ok (.invokevirtual 126, 3) := by decide +kernel
theorem d_S_count_74 : decode c_S_count 74 = .ok (.ireturn, 1) := by decide +kernel
theorem d_S_count_75 : decode c_S_count 75 = .ok (.iconst (-1), 1) := by decide +kernel
theorem d_S_count_76 : decode c_S_count 76 = .ok (.ireturn, 1) := by decide +kernel
theorem d_S_isWithin_0 : decode c_S_isWithin 0 = .ok (.iload_n 0, 1) := by decide +kernel
theorem d_S_isWithin_1 : decode c_S_isWithin 1 = .ok (.iload_n 1, 1) := by decide +kernel
theorem d_S_isWithin_2 : decode c_S_isWithin 2 = .ok (.if_icmp .lt 12, 3) := by decide +kernel
theorem d_S_isWithin_5 : decode c_S_isWithin 5 = .ok (.iload_n 0, 1) := by decide +kernel
theorem d_S_isWithin_6 : decode c_S_isWithin 6 = .ok (.iload_n 2, 1) := by decide +kernel
theorem d_S_isWithin_7 : decode c_S_isWithin 7 = .ok (.if_icmp .gt 7, 3) := by decide +kernel
theorem d_S_isWithin_10 : decode c_S_isWithin 10 = .ok (.iconst 1, 1) := by decide +kernel
theorem d_S_isWithin_11 : decode c_S_isWithin 11 = .ok (.goto 4, 3) := by decide +kernel
theorem d_S_isWithin_14 : decode c_S_isWithin 14 = .ok (.iconst 0, 1) := by decide +kernel
theorem d_S_isWithin_15 : decode c_S_isWithin 15 = .ok (.ireturn, 1) := by decide +kernel
theorem d_S_isInPlane_0 : decode c_S_isInPlane 0 = .ok (.iload_n 0, 1) := by decide +kernel
theorem d_S_isInPlane_1 : decode c_S_isInPlane 1 = .ok (.sipush (-15000), 3) := by decide +kernel
theorem d_S_isInPlane_4 : decode c_S_isInPlane 4 = .ok (.sipush 15000, 3) := by decide +kernel
theorem d_S_isInPlane_7 : decode c_S_isInPlane 7 = .ok (.invokestatic 63, 3) := by decide +kernel
theorem d_S_isInPlane_10 : decode c_S_isInPlane 10 = .ok (.ifCond .eq 20, 3) := by decide +kernel
theorem d_S_isInPlane_13 : decode c_S_isInPlane 13 = .ok (.iload_n 1, 1) := by decide +kernel
theorem d_S_isInPlane_14 : decode c_S_isInPlane 14 = .ok (.sipush (-15000), 3) := by decide +kernel
theorem d_S_isInPlane_17 : decode c_S_isInPlane 17 = .ok (.sipush 15000, 3) := by decide +kernel
theorem d_S_isInPlane_20 : decode c_S_isInPlane 20 = .ok (.invokestatic 63, 3) := by decide +kernel
theorem d_S_isInPlane_23 : decode c_S_isInPlane 23 = .ok (.ifCond .eq 7, 3) := by decide +kernel
theorem d_S_isInPlane_26 : decode c_S_isInPlane 26 = .ok (.iconst 1, 1) := by decide +kernel
theorem d_S_isInPlane_27 : decode c_S_isInPlane 27 = .ok (.goto 4, 3) := by decide +kernel
theorem d_S_isInPlane_30 : decode c_S_isInPlane 30 = .ok (.iconst 0, 1) := by decide +kernel
theorem d_S_isInPlane_31 : decode c_S_isInPlane 31 = .ok (.ireturn, 1) := by decide +kernel
theorem d_S_isLevel_0 : decode c_S_isLevel 0 = .ok (.iload_n 0, 1) := by decide +kernel
theorem d_S_isLevel_1 : decode c_S_isLevel 1 = .ok (.ldc 130, 2) := by decide +kernel
theorem d_S_isLevel_3 : decode c_S_isLevel 3 = .ok (.ldc 131, 2) := by decide +kernel
theorem d_S_isLevel_5 : decode c_S_isLevel 5 = .ok (.invokestatic 63, 3) := by decide +kernel
theorem d_S_isLevel_8 : decode c_S_isLevel 8 = .ok (.ireturn, 1) := by decide +kernel
theorem d_S_isSide_0 : decode c_S_isSide 0 = .ok (.iload_n 0, 1) := by decide +kernel
theorem d_S_isSide_1 : decode c_S_isSide 1 = .ok (.ifCond .eq 8, 3) := by decide +kernel
theorem d_S_isSide_4 : decode c_S_isSide 4 = .ok (.iload_n 0, 1) := by decide +kernel
theorem d_S_isSide_5 : decode c_S_isSide 5 = .ok (.iconst 1, 1) := by decide +kernel
theorem d_S_isSide_6 : decode c_S_isSide 6 = .ok (.if_icmp .ne 7, 3) := by decide +kernel
theorem d_S_isSide_9 : decode c_S_isSide 9 = .ok (.iconst 1, 1) := by decide +kernel
theorem d_S_isSide_10 : decode c_S_isSide 10 = .ok (.goto 4, 3) := by decide +kernel
theorem d_S_isSide_13 : decode c_S_isSide 13 = .ok (.iconst 0, 1) := by decide +kernel
theorem d_S_isSide_14 : decode c_S_isSide 14 = .ok (.ireturn, 1) := by decide +kernel
theorem d_S_isStation_0 : decode c_S_isStation 0 = .ok (.iload_n 1, 1) := by decide +kernel
theorem d_S_isStation_1 : decode c_S_isStation 1 = .ok (.ifCond .lt 15, 3) := by decide +kernel
theorem d_S_isStation_4 : decode c_S_isStation 4 = .ok (.iload_n 1, 1) := by decide +kernel
theorem d_S_isStation_5 : decode c_S_isStation 5 = .ok (.aload_n 0, 1) := by decide +kernel
theorem d_S_isStation_6 : decode c_S_isStation 6 = .ok (.getfield 56, 3) := by decide +kernel
theorem d_S_isStation_9 : decode c_S_isStation 9 = .ok (.if_icmp .ge 7, 3) := by decide +kernel
theorem d_S_isStation_12 : decode c_S_isStation 12 = .ok (.iconst 1, 1) := by decide +kernel
theorem d_S_isStation_13 : decode c_S_isStation 13 = .ok (.goto 4, 3) := by decide +kernel
theorem d_S_isStation_16 : decode c_S_isStation 16 = .ok (.iconst 0, 1) := by decide +kernel
theorem d_S_isStation_17 : decode c_S_isStation 17 = .ok (.ireturn, 1) := by decide +kernel
theorem d_S_squareOf_0 : decode c_S_squareOf 0 = .ok (.lload_n 0, 1) := by decide +kernel
theorem d_S_squareOf_1 : decode c_S_squareOf 1 = .ok (.lload_n 0, 1) := by decide +kernel
theorem d_S_squareOf_2 : decode c_S_squareOf 2 = .ok (.lmul, 1) := by decide +kernel
theorem d_S_squareOf_3 : decode c_S_squareOf 3 = .ok (.lload_n 2, 1) := by decide +kernel
theorem d_S_squareOf_4 : decode c_S_squareOf 4 = .ok (.lload_n 2, 1) := by decide +kernel
theorem d_S_squareOf_5 : decode c_S_squareOf 5 = .ok (.lmul, 1) := by decide +kernel
theorem d_S_squareOf_6 : decode c_S_squareOf 6 = .ok (.ladd, 1) := by decide +kernel
theorem d_S_squareOf_7 : decode c_S_squareOf 7 = .ok (.lreturn, 1) := by decide +kernel
theorem d_S_squareBetween_0 : decode c_S_squareBetween 0 = .ok (.aload_n 0, 1) := by decide +kernel
theorem d_S_squareBetween_1 : decode c_S_squareBetween 1 = .ok (.getfield 9, 3) := by decide +kernel
theorem d_S_squareBetween_4 : decode c_S_squareBetween 4 = .ok (.iload_n 2, 1) := by decide +kernel
theorem d_S_squareBetween_5 : decode c_S_squareBetween 5 = .ok (.iaload, 1) := by decide +kernel
theorem d_S_squareBetween_6 : decode c_S_squareBetween 6 = .ok (.aload_n 0, 1) := by decide +kernel
theorem d_S_squareBetween_7 : decode c_S_squareBetween 7 = .ok (.getfield 9, 3) := by decide +kernel
theorem d_S_squareBetween_10 : decode c_S_squareBetween 10 = .ok (.iload_n 1, 1) := by decide +kernel
theorem d_S_squareBetween_11 : decode c_S_squareBetween 11 = .ok (.iaload, 1) := by decide +kernel
theorem d_S_squareBetween_12 : decode c_S_squareBetween 12 = .ok (.isub, 1) := by decide +kernel
theorem d_S_squareBetween_13 : decode c_S_squareBetween 13 = .ok (.i2l, 1) := by decide +kernel
theorem d_S_squareBetween_14 : decode c_S_squareBetween 14 = .ok (.aload_n 0, 1) := by decide +kernel
theorem d_S_squareBetween_15 : decode c_S_squareBetween 15 = .ok (.getfield 13, 3) := by decide +kernel
theorem d_S_squareBetween_18 : decode c_S_squareBetween 18 = .ok (.iload_n 2, 1) := by decide +kernel
theorem d_S_squareBetween_19 : decode c_S_squareBetween 19 = .ok (.iaload, 1) := by decide +kernel
theorem d_S_squareBetween_20 : decode c_S_squareBetween 20 = .ok (.aload_n 0, 1) := by decide +kernel
theorem d_S_squareBetween_21 : decode c_S_squareBetween 21 = .ok (.getfield 13, 3) := by decide +kernel
theorem d_S_squareBetween_24 : decode c_S_squareBetween 24 = .ok (.iload_n 1, 1) := by decide +kernel
theorem d_S_squareBetween_25 : decode c_S_squareBetween 25 = .ok (.iaload, 1) := by decide +kernel
theorem d_S_squareBetween_26 : decode c_S_squareBetween 26 = .ok (.isub, 1) := by decide +kernel
theorem d_S_squareBetween_27 : decode c_S_squareBetween 27 = .ok (.i2l, 1) := by decide +kernel
theorem d_S_squareBetween_28 : decode c_S_squareBetween 28 = .ok (.invokestatic 107, 3) := by decide +kernel
theorem d_S_squareBetween_31 : decode c_S_squareBetween 31 = .ok (.lreturn, 1) := by decide +kernel
theorem d_S_stepBetween_0 : decode c_S_stepBetween 0 = .ok (.iconst 1, 1) := by decide +kernel
theorem d_S_stepBetween_1 : decode c_S_stepBetween 1 = .ok (.aload_n 0, 1) := by decide +kernel
theorem d_S_stepBetween_2 : decode c_S_stepBetween 2 = .ok (.iload_n 1, 1) := by decide +kernel
theorem d_S_stepBetween_3 : decode c_S_stepBetween 3 = .ok (.iload_n 2, 1) := by decide +kernel
theorem d_S_stepBetween_4 : decode c_S_stepBetween 4 = .ok (.invokevirtual 132, 3) := by decide +kernel
theorem d_S_stepBetween_7 : decode c_S_stepBetween 7 = .ok (.invokestatic 136, 3) := by decide +kernel
theorem d_S_stepBetween_10 : decode c_S_stepBetween 10 = .ok (.invokestatic 102, 3) := by decide +kernel
theorem d_S_stepBetween_13 : decode c_S_stepBetween 13 = .ok (.ireturn, 1) := by decide +kernel
theorem d_S_rootOf_0 : decode c_S_rootOf 0 = .ok (.iconst 0, 1) := by decide +kernel
theorem d_S_rootOf_1 : decode c_S_rootOf 1 = .ok (.istore_n 2, 1) := by decide +kernel
theorem d_S_rootOf_2 : decode c_S_rootOf 2 = .ok (.bipush 15, 2) := by decide +kernel
theorem d_S_rootOf_4 : decode c_S_rootOf 4 = .ok (.istore_n 3, 1) := by decide +kernel
theorem d_S_rootOf_5 : decode c_S_rootOf 5 = .ok (.iload_n 3, 1) := by decide +kernel
theorem d_S_rootOf_6 : decode c_S_rootOf 6 = .ok (.ifCond .lt 31, 3) := by decide +kernel
theorem d_S_rootOf_9 : decode c_S_rootOf 9 = .ok (.iload_n 2, 1) := by decide +kernel
theorem d_S_rootOf_10 : decode c_S_rootOf 10 = .ok (.iconst 1, 1) := by decide +kernel
theorem d_S_rootOf_11 : decode c_S_rootOf 11 = .ok (.iload_n 3, 1) := by decide +kernel
theorem d_S_rootOf_12 : decode c_S_rootOf 12 = .ok (.ishl, 1) := by decide +kernel
theorem d_S_rootOf_13 : decode c_S_rootOf 13 = .ok (.iadd, 1) := by decide +kernel
theorem d_S_rootOf_14 : decode c_S_rootOf 14 = .ok (.i2l, 1) := by decide +kernel
theorem d_S_rootOf_15 : decode c_S_rootOf 15 = .ok (.lstore 4, 2) := by decide +kernel
theorem d_S_rootOf_17 : decode c_S_rootOf 17 = .ok (.lload 4, 2) := by decide +kernel
theorem d_S_rootOf_19 : decode c_S_rootOf 19 = .ok (.lload 4, 2) := by decide +kernel
theorem d_S_rootOf_21 : decode c_S_rootOf 21 = .ok (.lmul, 1) := by decide +kernel
theorem d_S_rootOf_22 : decode c_S_rootOf 22 = .ok (.lload_n 0, 1) := by decide +kernel
theorem d_S_rootOf_23 : decode c_S_rootOf 23 = .ok (.lcmp, 1) := by decide +kernel
theorem d_S_rootOf_24 : decode c_S_rootOf 24 = .ok (.ifCond .gt 7, 3) := by decide +kernel
theorem d_S_rootOf_27 : decode c_S_rootOf 27 = .ok (.lload 4, 2) := by decide +kernel
theorem d_S_rootOf_29 : decode c_S_rootOf 29 = .ok (.l2i, 1) := by decide +kernel
theorem d_S_rootOf_30 : decode c_S_rootOf 30 = .ok (.istore_n 2, 1) := by decide +kernel
theorem d_S_rootOf_31 : decode c_S_rootOf 31 = .ok (.iinc 3 (-1), 3) := by decide +kernel
theorem d_S_rootOf_34 : decode c_S_rootOf 34 = .ok (.goto (-29), 3) := by decide +kernel
theorem d_S_rootOf_37 : decode c_S_rootOf 37 = .ok (.iload_n 2, 1) := by decide +kernel
theorem d_S_rootOf_38 : decode c_S_rootOf 38 = .ok (.ireturn, 1) := by decide +kernel
theorem d_S_interruption_0 : decode c_S_interruption 0 = .ok (.iload_n 1, 1) := by decide +kernel
theorem d_S_interruption_1 : decode c_S_interruption 1 = .ok (.iload_n 2, 1) := by decide +kernel
theorem d_S_interruption_2 : decode c_S_interruption 2 = .ok (.invokestatic 140, 3) := by decide +kernel
theorem d_S_interruption_5 : decode c_S_interruption 5 = .ok (.istore_n 3, 1) := by decide +kernel
theorem d_S_interruption_6 : decode c_S_interruption 6 = .ok (.iload_n 1, 1) := by decide +kernel
theorem d_S_interruption_7 : decode c_S_interruption 7 = .ok (.iload_n 2, 1) := by decide +kernel
theorem d_S_interruption_8 : decode c_S_interruption 8 = .ok (.invokestatic 102, 3) := by decide +kernel
theorem d_S_interruption_11 : decode c_S_interruption 11 = .ok (.istore 4, 2) := by decide +kernel
theorem d_S_interruption_13 : decode c_S_interruption 13 = .ok (.iload_n 3, 1) := by decide +kernel
theorem d_S_interruption_14 : decode c_S_interruption 14 = .ok (.iconst 1, 1) := by decide +kernel
theorem d_S_interruption_15 : decode c_S_interruption 15 = .ok (.iadd, 1) := by decide +kernel
theorem d_S_interruption_16 : decode c_S_interruption 16 = .ok (.istore 5, 2) := by decide +kernel
theorem d_S_interruption_18 : decode c_S_interruption 18 = .ok (.iload 5, 2) := by decide +kernel
theorem d_S_interruption_20 : decode c_S_interruption 20 = .ok (.iload 4, 2) := by decide +kernel
theorem d_S_interruption_22 : decode c_S_interruption 22 = .ok (.if_icmp .ge 26, 3) := by decide +kernel
theorem d_S_interruption_25 : decode c_S_interruption 25 = .ok (.aload_n 0, 1) := by decide +kernel
theorem d_S_interruption_26 : decode c_S_interruption 26 = .ok (.iload_n 1, 1) := by decide +kernel
theorem d_S_interruption_27 : decode c_S_interruption 27 = .ok (.iload_n 2, 1) := by decide +kernel
theorem d_S_interruption_28 : decode c_S_interruption 28 = .ok (.iload 5, 2) := by decide +kernel
theorem d_S_interruption_30 : decode c_S_interruption 30 = .ok (.invokevirtual 143, 3) := by decide +kernel
theorem d_S_interruption_33 : decode c_S_interruption 33 = .ok (.ifCond .eq 9, 3) := by decide +kernel
theorem d_S_interruption_36 : decode c_S_interruption 36 = .ok (.bipush 64, 2) := by decide +kernel
theorem d_S_interruption_38 : decode c_S_interruption 38 = .ok (.iload 5, 2) := by decide +kernel
theorem d_S_interruption_40 : decode c_S_interruption 40 = .ok (.iadd, 1) := by decide +kernel
theorem d_S_interruption_41 : decode c_S_interruption 41 = .ok (.ireturn, 1) := by decide +kernel
theorem d_S_interruption_42 : decode c_S_interruption 42 = .ok (.iinc 5 1, 3) := by decide +kernel
theorem d_S_interruption_45 : decode c_S_interruption 45 = .ok (.goto (-27), 3) := by decide +kernel
theorem d_S_interruption_48 : decode c_S_interruption 48 = .ok (.iload_n 3, 1) := by decide +kernel
theorem d_S_interruption_49 : decode c_S_interruption 49 = .ok (.iconst 1, 1) := by decide +kernel
theorem d_S_interruption_50 : decode c_S_interruption 50 = .ok (.iadd, 1) := by decide +kernel
theorem d_S_interruption_51 : decode c_S_interruption 51 = .ok (.istore 5, 2) := by decide +kernel
theorem d_S_interruption_53 : decode c_S_interruption 53 = .ok (.iload 5, 2) := by decide +kernel
theorem d_S_interruption_55 : decode c_S_interruption 55 = .ok (.iload 4, 2) := by decide +kernel
theorem d_S_interruption_57 : decode c_S_interruption 57 = .ok (.if_icmp .ge 28, 3) := by decide +kernel
theorem d_S_interruption_60 : decode c_S_interruption 60 = .ok (.aload_n 0, 1) := by decide +kernel
theorem d_S_interruption_61 : decode c_S_interruption 61 = .ok (.iload_n 3, 1) := by decide +kernel
theorem d_S_interruption_62 : decode c_S_interruption 62 = .ok (.iload 4, 2) := by decide +kernel
theorem d_S_interruption_64 : decode c_S_interruption 64 = .ok (.iload 5, 2) := by decide +kernel
theorem d_S_interruption_66 : decode c_S_interruption 66 = .ok (.invokevirtual 146, 3) := by decide +kernel
theorem d_S_interruption_69 : decode c_S_interruption 69 = .ok (.ifCond .eq 10, 3) := by decide +kernel
theorem d_S_interruption_72 : decode c_S_interruption 72 = .ok (.sipush 128, 3) := by decide +kernel
theorem d_S_interruption_75 : decode c_S_interruption 75 = .ok (.iload 5, 2) := by decide +kernel
theorem d_S_interruption_77 : decode c_S_interruption 77 = .ok (.iadd, 1) := by decide +kernel
theorem d_S_interruption_78 : decode c_S_interruption 78 = .ok (.ireturn, 1) := by decide +kernel
theorem d_S_interruption_79 : decode c_S_interruption 79 = .ok (.iinc 5 1, 3) := by decide +kernel
theorem d_S_interruption_82 : decode c_S_interruption 82 = .ok (.goto (-29), 3) := by decide +kernel
theorem d_S_interruption_85 : decode c_S_interruption 85 = .ok (.aload_n 0, 1) := by decide +kernel
theorem d_S_interruption_86 : decode c_S_interruption 86 = .ok (.getfield 31, 3) := by decide +kernel
theorem d_S_interruption_89 : decode c_S_interruption 89 = .ok (.aload_n 0, 1) := by decide +kernel
theorem d_S_interruption_90 : decode c_S_interruption 90 = .ok (.getfield 9, 3) := by decide +kernel
theorem d_S_interruption_93 : decode c_S_interruption 93 = .ok (.iload_n 1, 1) := by decide +kernel
theorem d_S_interruption_94 : decode c_S_interruption 94 = .ok (.iaload, 1) := by decide +kernel
theorem d_S_interruption_95 : decode c_S_interruption 95 = .ok (.aload_n 0, 1) := by decide +kernel
theorem d_S_interruption_96 : decode c_S_interruption 96 = .ok (.getfield 13, 3) := by decide +kernel
theorem d_S_interruption_99 : decode c_S_interruption 99 = .ok (.iload_n 1, 1) := by decide +kernel
theorem d_S_interruption_100 : decode c_S_interruption 100 = .ok (.iaload, 1) := by decide +kernel
theorem d_S_interruption_101 : decode c_S_interruption 101 = .ok (.aload_n 0, 1) := by decide +kernel
theorem d_S_interruption_102 : decode c_S_interruption 102 = .ok (.getfield 16, 3) := by decide +kernel
theorem d_S_interruption_105 : decode c_S_interruption 105 = .ok (.iload_n 1, 1) := by decide +kernel
theorem d_S_interruption_106 : decode c_S_interruption 106 = .ok (.iaload, 1) := by decide +kernel
theorem d_S_interruption_107 : decode c_S_interruption 107 = .ok (.aload_n 0, 1) := by decide +kernel
theorem d_S_interruption_108 : decode c_S_interruption 108 = .ok (.getfield 35, 3) := by decide +kernel
theorem d_S_interruption_111 : decode c_S_interruption 111 = .ok (.iadd, 1) := by decide +kernel
theorem d_S_interruption_112 : decode c_S_interruption 112 = .ok (.aload_n 0, 1) := by decide +kernel
theorem d_S_interruption_113 : decode c_S_interruption 113 = .ok (.getfield 9, 3) := by decide +kernel
theorem d_S_interruption_116 : decode c_S_interruption 116 = .ok (.iload_n 2, 1) := by decide +kernel
theorem d_S_interruption_117 : decode c_S_interruption 117 = .ok (.iaload, 1) := by decide +kernel
theorem d_S_interruption_118 : decode c_S_interruption 118 = .ok (.aload_n 0, 1) := by decide +kernel
theorem d_S_interruption_119 : decode c_S_interruption 119 = .ok (.getfield 13, 3) := by decide +kernel
theorem d_S_interruption_122 : decode c_S_interruption 122 = .ok (.iload_n 2, 1) := by decide +kernel
theorem d_S_interruption_123 : decode c_S_interruption 123 = .ok (.iaload, 1) := by decide +kernel
theorem d_S_interruption_124 : decode c_S_interruption 124 = .ok (.aload_n 0, 1) := by decide +kernel
theorem d_S_interruption_125 : decode c_S_interruption 125 = .ok (.getfield 16, 3) := by decide +kernel
theorem d_S_interruption_128 : decode c_S_interruption 128 = .ok (.iload_n 2, 1) := by decide +kernel
theorem d_S_interruption_129 : decode c_S_interruption 129 = .ok (.iaload, 1) := by decide +kernel
theorem d_S_interruption_130 : decode c_S_interruption 130 = .ok (.aload_n 0, 1) := by decide +kernel
theorem d_S_interruption_131 : decode c_S_interruption 131 = .ok (.getfield 39, 3) := by decide +kernel
theorem d_S_interruption_134 : decode c_S_interruption 134 = .ok (.iadd, 1) := by decide +kernel
theorem d_S_interruption_135 : decode c_S_interruption 135 = .ok (.invokevirtual 113, 3) := by decide +kernel
theorem d_S_interruption_138 : decode c_S_interruption 138 = .ok (.istore 5, 2) := by decide +kernel
theorem d_S_interruption_140 : decode c_S_interruption 140 = .ok (.iload 5, 2) := by decide +kernel
theorem d_S_interruption_142 : decode c_S_interruption 142 = .ok (.iconst (-1), 1) := by decide +kernel
theorem d_S_interruption_143 : decode c_S_interruption 143 = .ok (.if_icmp .ne 7, 3) := by decide +kernel
theorem d_S_interruption_146 : decode c_S_interruption 146 = .ok (.iconst 0, 1) := by decide +kernel
theorem d_S_interruption_147 : decode c_S_interruption 147 = .ok (.goto 9, 3) := by decide +kernel
theorem d_S_interruption_150 : decode c_S_interruption 150 = .ok (.sipush 192, 3) := by decide +kernel
theorem d_S_interruption_153 : decode c_S_interruption 153 = .ok (.iload 5, 2) := by decide +kernel
theorem d_S_interruption_155 : decode c_S_interruption 155 = .ok (.iadd, 1) := by decide +kernel
theorem d_S_interruption_156 : decode c_S_interruption 156 = .ok (.ireturn, 1) := by decide +kernel
theorem d_S_isGroundAbove_0 : decode c_S_isGroundAbove 0 = .ok (.aload_n 0, 1) := by decide +kernel
theorem d_S_isGroundAbove_1 : decode c_S_isGroundAbove 1 = .ok (.getfield 19, 3) := by decide +kernel
theorem d_S_isGroundAbove_4 : decode c_S_isGroundAbove 4 = .ok (.iload_n 2, 1) := by decide +kernel
theorem d_S_isGroundAbove_5 : decode c_S_isGroundAbove 5 = .ok (.iaload, 1) := by decide +kernel
theorem d_S_isGroundAbove_6 : decode c_S_isGroundAbove 6 = .ok (.aload_n 0, 1) := by decide +kernel
theorem d_S_isGroundAbove_7 : decode c_S_isGroundAbove 7 = .ok (.getfield 19, 3) := by decide +kernel
theorem d_S_isGroundAbove_10 : decode c_S_isGroundAbove 10 = .ok (.iload_n 1, 1) := by decide +kernel
theorem d_S_isGroundAbove_11 : decode c_S_isGroundAbove 11 = .ok (.iaload, 1) := by decide +kernel
theorem d_S_isGroundAbove_12 : decode c_S_isGroundAbove 12 = .ok (.isub, 1) := by decide +kernel
theorem d_S_isGroundAbove_13 : decode c_S_isGroundAbove 13 = .ok (.invokestatic 149, 3) := by decide +kernel
theorem d_S_isGroundAbove_16 : decode c_S_isGroundAbove 16 = .ok (.i2l, 1) := by decide +kernel
theorem d_S_isGroundAbove_17 : decode c_S_isGroundAbove 17 = .ok (.lstore 4, 2) := by decide +kernel
theorem d_S_isGroundAbove_19 : decode c_S_isGroundAbove 19 = .ok (.aload_n 0, 1) := by decide +kernel
theorem d_S_isGroundAbove_20 : decode c_S_isGroundAbove 20 = .ok (.getfield 19, 3) := by decide +kernel
theorem d_S_isGroundAbove_23 : decode c_S_isGroundAbove 23 = .ok (.iload_n 3, 1) := by decide +kernel
theorem d_S_isGroundAbove_24 : decode c_S_isGroundAbove 24 = .ok (.iaload, 1) := by decide +kernel
theorem d_S_isGroundAbove_25 : decode c_S_isGroundAbove 25 = .ok (.aload_n 0, 1) := by decide +kernel
theorem d_S_isGroundAbove_26 : decode c_S_isGroundAbove 26 = .ok (.getfield 19, 3) := by decide +kernel
theorem d_S_isGroundAbove_29 : decode c_S_isGroundAbove 29 = .ok (.iload_n 1, 1) := by decide +kernel
theorem d_S_isGroundAbove_30 : decode c_S_isGroundAbove 30 = .ok (.iaload, 1) := by decide +kernel
theorem d_S_isGroundAbove_31 : decode c_S_isGroundAbove 31 = .ok (.isub, 1) := by decide +kernel
theorem d_S_isGroundAbove_32 : decode c_S_isGroundAbove 32 = .ok (.invokestatic 149, 3) := by decide +kernel
theorem d_S_isGroundAbove_35 : decode c_S_isGroundAbove 35 = .ok (.i2l, 1) := by decide +kernel
theorem d_S_isGroundAbove_36 : decode c_S_isGroundAbove 36 = .ok (.lstore 6, 2) := by decide +kernel
theorem d_S_isGroundAbove_38 : decode c_S_isGroundAbove 38 = .ok (.lload 4, 2) := by decide +kernel
theorem d_S_isGroundAbove_40 : decode c_S_isGroundAbove 40 = .ok (.lload 6, 2) := by decide +kernel
theorem d_S_isGroundAbove_42 : decode c_S_isGroundAbove 42 = .ok (.lsub, 1) := by decide +kernel
theorem d_S_isGroundAbove_43 : decode c_S_isGroundAbove 43 = .ok (.aload_n 0, 1) := by decide +kernel
theorem d_S_isGroundAbove_44 : decode c_S_isGroundAbove 44 = .ok (.getfield 16, 3) := by decide +kernel
theorem d_S_isGroundAbove_47 : decode c_S_isGroundAbove 47 = .ok (.iload_n 1, 1) := by decide +kernel
theorem d_S_isGroundAbove_48 : decode c_S_isGroundAbove 48 = .ok (.iaload, 1) := by decide +kernel
theorem d_S_isGroundAbove_49 : decode c_S_isGroundAbove 49 = .ok (.aload_n 0, 1) := by decide +kernel
theorem d_S_isGroundAbove_50 : decode c_S_isGroundAbove 50 = .ok (.getfield 35, 3) := by decide +kernel
theorem d_S_isGroundAbove_53 : decode c_S_isGroundAbove 53 = .ok (.iadd, 1) := by decide +kernel
theorem d_S_isGroundAbove_54 : decode c_S_isGroundAbove 54 = .ok (.i2l, 1) := by decide +kernel
theorem d_S_isGroundAbove_55 : decode c_S_isGroundAbove 55 = .ok (.lmul, 1) := by decide +kernel
theorem d_S_isGroundAbove_56 : decode c_S_isGroundAbove 56 = .ok (.lload 6, 2) := by decide +kernel
theorem d_S_isGroundAbove_58 : decode c_S_isGroundAbove 58 = .ok (.aload_n 0, 1) := by decide +kernel
theorem d_S_isGroundAbove_59 : decode c_S_isGroundAbove 59 = .ok (.getfield 16, 3) := by decide +kernel
theorem d_S_isGroundAbove_62 : decode c_S_isGroundAbove 62 = .ok (.iload_n 2, 1) := by decide +kernel
theorem d_S_isGroundAbove_63 : decode c_S_isGroundAbove 63 = .ok (.iaload, 1) := by decide +kernel
theorem d_S_isGroundAbove_64 : decode c_S_isGroundAbove 64 = .ok (.aload_n 0, 1) := by decide +kernel
theorem d_S_isGroundAbove_65 : decode c_S_isGroundAbove 65 = .ok (.getfield 39, 3) := by decide +kernel
theorem d_S_isGroundAbove_68 : decode c_S_isGroundAbove 68 = .ok (.iadd, 1) := by decide +kernel
theorem d_S_isGroundAbove_69 : decode c_S_isGroundAbove 69 = .ok (.i2l, 1) := by decide +kernel
theorem d_S_isGroundAbove_70 : decode c_S_isGroundAbove 70 = .ok (.lmul, 1) := by decide +kernel
theorem d_S_isGroundAbove_71 : decode c_S_isGroundAbove 71 = .ok (.ladd, 1) := by decide +kernel
theorem d_S_isGroundAbove_72 : decode c_S_isGroundAbove 72 = .ok (.lstore 8, 2) := by decide +kernel
theorem d_S_isGroundAbove_74 : decode c_S_isGroundAbove 74 = .ok (.lload 4, 2) := by decide +kernel
theorem d_S_isGroundAbove_76 : decode c_S_isGroundAbove 76 = .ok (.aload_n 0, 1) := by decide +kernel
theorem d_S_isGroundAbove_77 : decode c_S_isGroundAbove 77 = .ok (.getfield 16, 3) := by decide +kernel
theorem d_S_isGroundAbove_80 : decode c_S_isGroundAbove 80 = .ok (.iload_n 3, 1) := by decide +kernel
theorem d_S_isGroundAbove_81 : decode c_S_isGroundAbove 81 = .ok (.iaload, 1) := by decide +kernel
theorem d_S_isGroundAbove_82 : decode c_S_isGroundAbove 82 = .ok (.i2l, 1) := by decide +kernel
theorem d_S_isGroundAbove_83 : decode c_S_isGroundAbove 83 = .ok (.lmul, 1) := by decide +kernel
theorem d_S_isGroundAbove_84 : decode c_S_isGroundAbove 84 = .ok (.lload 8, 2) := by decide +kernel
theorem d_S_isGroundAbove_86 : decode c_S_isGroundAbove 86 = .ok (.lcmp, 1) := by decide +kernel
theorem d_S_isGroundAbove_87 : decode c_S_isGroundAbove 87 = .ok (.ifCond .le 7, 3) := by decide +kernel
theorem d_S_isGroundAbove_90 : decode c_S_isGroundAbove 90 = .ok (.iconst 1, 1) := by decide +kernel
theorem d_S_isGroundAbove_91 : decode c_S_isGroundAbove 91 = .ok (.goto 4, 3) := by decide +kernel
theorem d_S_isGroundAbove_94 : decode c_S_isGroundAbove 94 = .ok (.iconst 0, 1) := by decide +kernel
theorem d_S_isGroundAbove_95 : decode c_S_isGroundAbove 95 = .ok (.ireturn, 1) := by decide +kernel
theorem d_S_isBankInWay_0 : decode c_S_isBankInWay 0 = .ok (.aload_n 0, 1) := by decide +kernel
theorem d_S_isBankInWay_1 : decode c_S_isBankInWay 1 = .ok (.iload_n 1, 1) := by decide +kernel
theorem d_S_isBankInWay_2 : decode c_S_isBankInWay 2 = .ok (.iload_n 2, 1) := by decide +kernel
theorem d_S_isBankInWay_3 : decode c_S_isBankInWay 3 = .ok (.iload_n 3, 1) := by decide +kernel
theorem d_S_isBankInWay_4 : decode c_S_isBankInWay 4 = .ok (.invokevirtual 153, 3) := by decide +kernel
theorem d_S_isBankInWay_7 : decode c_S_isBankInWay 7 = .ok (.lstore 4, 2) := by decide +kernel
theorem d_S_isBankInWay_9 : decode c_S_isBankInWay 9 = .ok (.lload 4, 2) := by decide +kernel
theorem d_S_isBankInWay_11 : decode c_S_isBankInWay 11 = .ok (.lconst 0, 1) := by decide +kernel
theorem d_S_isBankInWay_12 : decode c_S_isBankInWay 12 = .ok (.lcmp, 1) := by decide +kernel
theorem d_S_isBankInWay_13 : decode c_S_isBankInWay 13 = .ok (.ifCond .ne 5, 3) := by decide +kernel
theorem d_S_isBankInWay_16 : decode c_S_isBankInWay 16 = .ok (.iconst 0, 1) := by decide +kernel
theorem d_S_isBankInWay_17 : decode c_S_isBankInWay 17 = .ok (.ireturn, 1) := by decide +kernel
theorem d_S_isBankInWay_18 : decode c_S_isBankInWay 18 = .ok (.aload_n 0, 1) := by decide +kernel
theorem d_S_isBankInWay_19 : decode c_S_isBankInWay 19 = .ok (.getfield 25, 3) := by decide +kernel
theorem d_S_isBankInWay_22 : decode c_S_isBankInWay 22 = .ok (.iconst 2, 1) := by decide +kernel
theorem d_S_isBankInWay_23 : decode c_S_isBankInWay 23 = .ok (.iload_n 3, 1) := by decide +kernel
theorem d_S_isBankInWay_24 : decode c_S_isBankInWay 24 = .ok (.imul, 1) := by decide +kernel
theorem d_S_isBankInWay_25 : decode c_S_isBankInWay 25 = .ok (.lload 4, 2) := by decide +kernel
theorem d_S_isBankInWay_27 : decode c_S_isBankInWay 27 = .ok (.invokestatic 157, 3) := by decide +kernel
theorem d_S_isBankInWay_30 : decode c_S_isBankInWay 30 = .ok (.iadd, 1) := by decide +kernel
theorem d_S_isBankInWay_31 : decode c_S_isBankInWay 31 = .ok (.iaload, 1) := by decide +kernel
theorem d_S_isBankInWay_32 : decode c_S_isBankInWay 32 = .ok (.istore 6, 2) := by decide +kernel
theorem d_S_isBankInWay_34 : decode c_S_isBankInWay 34 = .ok (.iload 6, 2) := by decide +kernel
theorem d_S_isBankInWay_36 : decode c_S_isBankInWay 36 = .ok (.iconst (-1), 1) := by decide +kernel
theorem d_S_isBankInWay_37 : decode c_S_isBankInWay 37 = .ok (.if_icmp .eq 24, 3) := by decide +kernel
theorem d_S_isBankInWay_40 : decode c_S_isBankInWay 40 = .ok (.lload 4, 2) := by decide +kernel
theorem d_S_isBankInWay_42 : decode c_S_isBankInWay 42 = .ok (.aload_n 0, 1) := by decide +kernel
theorem d_S_isBankInWay_43 : decode c_S_isBankInWay 43 = .ok (.iload_n 1, 1) := by decide +kernel
theorem d_S_isBankInWay_44 : decode c_S_isBankInWay 44 = .ok (.iload_n 2, 1) := by decide +kernel
theorem d_S_isBankInWay_45 : decode c_S_isBankInWay 45 = .ok (.invokevirtual 132, 3) := by decide +kernel
theorem d_S_isBankInWay_48 : decode c_S_isBankInWay 48 = .ok (.iload 6, 2) := by decide +kernel
theorem d_S_isBankInWay_50 : decode c_S_isBankInWay 50 = .ok (.i2l, 1) := by decide +kernel
theorem d_S_isBankInWay_51 : decode c_S_isBankInWay 51 = .ok (.invokestatic 160, 3) := by decide +kernel
theorem d_S_isBankInWay_54 : decode c_S_isBankInWay 54 = .ok (.ifCond .eq 7, 3) := by decide +kernel
theorem d_S_isBankInWay_57 : decode c_S_isBankInWay 57 = .ok (.iconst 1, 1) := by decide +kernel
theorem d_S_isBankInWay_58 : decode c_S_isBankInWay 58 = .ok (.goto 4, 3) := by decide +kernel
theorem d_S_isBankInWay_61 : decode c_S_isBankInWay 61 = .ok (.iconst 0, 1) := by decide +kernel
theorem d_S_isBankInWay_62 : decode c_S_isBankInWay 62 = .ok (.ireturn, 1) := by decide +kernel
theorem d_S_crossAt_0 : decode c_S_crossAt 0 = .ok (.aload_n 0, 1) := by decide +kernel
theorem d_S_crossAt_1 : decode c_S_crossAt 1 = .ok (.getfield 9, 3) := by decide +kernel
theorem d_S_crossAt_4 : decode c_S_crossAt 4 = .ok (.iload_n 2, 1) := by decide +kernel
theorem d_S_crossAt_5 : decode c_S_crossAt 5 = .ok (.iaload, 1) := by decide +kernel
theorem d_S_crossAt_6 : decode c_S_crossAt 6 = .ok (.aload_n 0, 1) := by decide +kernel
theorem d_S_crossAt_7 : decode c_S_crossAt 7 = .ok (.getfield 9, 3) := by decide +kernel
theorem d_S_crossAt_10 : decode c_S_crossAt 10 = .ok (.iload_n 1, 1) := by decide +kernel
theorem d_S_crossAt_11 : decode c_S_crossAt 11 = .ok (.iaload, 1) := by decide +kernel
theorem d_S_crossAt_12 : decode c_S_crossAt 12 = .ok (.isub, 1) := by decide +kernel
theorem d_S_crossAt_13 : decode c_S_crossAt 13 = .ok (.i2l, 1) := by decide +kernel
theorem d_S_crossAt_14 : decode c_S_crossAt 14 = .ok (.lstore 4, 2) := by decide +kernel
theorem d_S_crossAt_16 : decode c_S_crossAt 16 = .ok (.aload_n 0, 1) := by decide +kernel
theorem d_S_crossAt_17 : decode c_S_crossAt 17 = .ok (.getfield 13, 3) := by decide +kernel
theorem d_S_crossAt_20 : decode c_S_crossAt 20 = .ok (.iload_n 2, 1) := by decide +kernel
theorem d_S_crossAt_21 : decode c_S_crossAt 21 = .ok (.iaload, 1) := by decide +kernel
theorem d_S_crossAt_22 : decode c_S_crossAt 22 = .ok (.aload_n 0, 1) := by decide +kernel
theorem d_S_crossAt_23 : decode c_S_crossAt 23 = .ok (.getfield 13, 3) := by decide +kernel
theorem d_S_crossAt_26 : decode c_S_crossAt 26 = .ok (.iload_n 1, 1) := by decide +kernel
theorem d_S_crossAt_27 : decode c_S_crossAt 27 = .ok (.iaload, 1) := by decide +kernel
theorem d_S_crossAt_28 : decode c_S_crossAt 28 = .ok (.isub, 1) := by decide +kernel
theorem d_S_crossAt_29 : decode c_S_crossAt 29 = .ok (.i2l, 1) := by decide +kernel
theorem d_S_crossAt_30 : decode c_S_crossAt 30 = .ok (.lstore 6, 2) := by decide +kernel
theorem d_S_crossAt_32 : decode c_S_crossAt 32 = .ok (.lload 4, 2) := by decide +kernel
theorem d_S_crossAt_34 : decode c_S_crossAt 34 = .ok (.aload_n 0, 1) := by decide +kernel
theorem d_S_crossAt_35 : decode c_S_crossAt 35 = .ok (.getfield 13, 3) := by decide +kernel
theorem d_S_crossAt_38 : decode c_S_crossAt 38 = .ok (.iload_n 3, 1) := by decide +kernel
theorem d_S_crossAt_39 : decode c_S_crossAt 39 = .ok (.iaload, 1) := by decide +kernel
theorem d_S_crossAt_40 : decode c_S_crossAt 40 = .ok (.aload_n 0, 1) := by decide +kernel
theorem d_S_crossAt_41 : decode c_S_crossAt 41 = .ok (.getfield 13, 3) := by decide +kernel
theorem d_S_crossAt_44 : decode c_S_crossAt 44 = .ok (.iload_n 1, 1) := by decide +kernel
theorem d_S_crossAt_45 : decode c_S_crossAt 45 = .ok (.iaload, 1) := by decide +kernel
theorem d_S_crossAt_46 : decode c_S_crossAt 46 = .ok (.isub, 1) := by decide +kernel
theorem d_S_crossAt_47 : decode c_S_crossAt 47 = .ok (.i2l, 1) := by decide +kernel
theorem d_S_crossAt_48 : decode c_S_crossAt 48 = .ok (.lmul, 1) := by decide +kernel
theorem d_S_crossAt_49 : decode c_S_crossAt 49 = .ok (.lload 6, 2) := by decide +kernel
theorem d_S_crossAt_51 : decode c_S_crossAt 51 = .ok (.aload_n 0, 1) := by decide +kernel
theorem d_S_crossAt_52 : decode c_S_crossAt 52 = .ok (.getfield 9, 3) := by decide +kernel
theorem d_S_crossAt_55 : decode c_S_crossAt 55 = .ok (.iload_n 3, 1) := by decide +kernel
theorem d_S_crossAt_56 : decode c_S_crossAt 56 = .ok (.iaload, 1) := by decide +kernel
theorem d_S_crossAt_57 : decode c_S_crossAt 57 = .ok (.aload_n 0, 1) := by decide +kernel
theorem d_S_crossAt_58 : decode c_S_crossAt 58 = .ok (.getfield 9, 3) := by decide +kernel
theorem d_S_crossAt_61 : decode c_S_crossAt 61 = .ok (.iload_n 1, 1) := by decide +kernel
theorem d_S_crossAt_62 : decode c_S_crossAt 62 = .ok (.iaload, 1) := by decide +kernel
theorem d_S_crossAt_63 : decode c_S_crossAt 63 = .ok (.isub, 1) := by decide +kernel
theorem d_S_crossAt_64 : decode c_S_crossAt 64 = .ok (.i2l, 1) := by decide +kernel
theorem d_S_crossAt_65 : decode c_S_crossAt 65 = .ok (.lmul, 1) := by decide +kernel
theorem d_S_crossAt_66 : decode c_S_crossAt 66 = .ok (.lsub, 1) := by decide +kernel
theorem d_S_crossAt_67 : decode c_S_crossAt 67 = .ok (.lreturn, 1) := by decide +kernel
theorem d_S_sideOf_0 : decode c_S_sideOf 0 = .ok (.lload_n 0, 1) := by decide +kernel
theorem d_S_sideOf_1 : decode c_S_sideOf 1 = .ok (.lconst 0, 1) := by decide +kernel
theorem d_S_sideOf_2 : decode c_S_sideOf 2 = .ok (.lcmp, 1) := by decide +kernel
theorem d_S_sideOf_3 : decode c_S_sideOf 3 = .ok (.ifCond .ge 7, 3) := by decide +kernel
theorem d_S_sideOf_6 : decode c_S_sideOf 6 = .ok (.iconst 0, 1) := by decide +kernel
theorem d_S_sideOf_7 : decode c_S_sideOf 7 = .ok (.goto 4, 3) := by decide +kernel
theorem d_S_sideOf_10 : decode c_S_sideOf 10 = .ok (.iconst 1, 1) := by decide +kernel
theorem d_S_sideOf_11 : decode c_S_sideOf 11 = .ok (.ireturn, 1) := by decide +kernel
theorem d_S_isFarther_0 : decode c_S_isFarther 0 = .ok (.lload_n 0, 1) := by decide +kernel
theorem d_S_isFarther_1 : decode c_S_isFarther 1 = .ok (.lload_n 0, 1) := by decide +kernel
theorem d_S_isFarther_2 : decode c_S_isFarther 2 = .ok (.lmul, 1) := by decide +kernel
theorem d_S_isFarther_3 : decode c_S_isFarther 3 = .ok (.lload 4, 2) := by decide +kernel
theorem d_S_isFarther_5 : decode c_S_isFarther 5 = .ok (.lload 4, 2) := by decide +kernel
theorem d_S_isFarther_7 : decode c_S_isFarther 7 = .ok (.lmul, 1) := by decide +kernel
theorem d_S_isFarther_8 : decode c_S_isFarther 8 = .ok (.lload_n 2, 1) := by decide +kernel
theorem d_S_isFarther_9 : decode c_S_isFarther 9 = .ok (.lmul, 1) := by decide +kernel
theorem d_S_isFarther_10 : decode c_S_isFarther 10 = .ok (.lcmp, 1) := by decide +kernel
theorem d_S_isFarther_11 : decode c_S_isFarther 11 = .ok (.ifCond .le 7, 3) := by decide +kernel
theorem d_S_isFarther_14 : decode c_S_isFarther 14 = .ok (.iconst 1, 1) := by decide +kernel
theorem d_S_isFarther_15 : decode c_S_isFarther 15 = .ok (.goto 4, 3) := by decide +kernel
theorem d_S_isFarther_18 : decode c_S_isFarther 18 = .ok (.iconst 0, 1) := by decide +kernel
theorem d_S_isFarther_19 : decode c_S_isFarther 19 = .ok (.ireturn, 1) := by decide +kernel
theorem d_S_widened_0 : decode c_S_widened 0 = .ok (.aload_n 0, 1) := by decide +kernel
theorem d_S_widened_1 : decode c_S_widened 1 = .ok (.iload_n 2, 1) := by decide +kernel
theorem d_S_widened_2 : decode c_S_widened 2 = .ok (.iload_n 3, 1) := by decide +kernel
theorem d_S_widened_3 : decode c_S_widened 3 = .ok (.iload 4, 2) := by decide +kernel
theorem d_S_widened_5 : decode c_S_widened 5 = .ok (.invokevirtual 153, 3) := by decide +kernel
theorem d_S_widened_8 : decode c_S_widened 8 = .ok (.lstore 6, 2) := by decide +kernel
theorem d_S_widened_10 : decode c_S_widened 10 = .ok (.lload 6, 2) := by decide +kernel
theorem d_S_widened_12 : decode c_S_widened 12 = .ok (.lconst 0, 1) := by decide +kernel
theorem d_S_widened_13 : decode c_S_widened 13 = .ok (.lcmp, 1) := by decide +kernel
theorem d_S_widened_14 : decode c_S_widened 14 = .ok (.ifCond .eq 13, 3) := by decide +kernel
theorem d_S_widened_17 : decode c_S_widened 17 = .ok (.lload 6, 2) := by decide +kernel
theorem d_S_widened_19 : decode c_S_widened 19 = .ok (.invokestatic 157, 3) := by decide +kernel
theorem d_S_widened_22 : decode c_S_widened 22 = .ok (.iload 5, 2) := by decide +kernel
theorem d_S_widened_24 : decode c_S_widened 24 = .ok (.if_icmp .eq 5, 3) := by decide +kernel
theorem d_S_widened_27 : decode c_S_widened 27 = .ok (.iload_n 1, 1) := by decide +kernel
theorem d_S_widened_28 : decode c_S_widened 28 = .ok (.ireturn, 1) := by decide +kernel
theorem d_S_widened_29 : decode c_S_widened 29 = .ok (.aload_n 0, 1) := by decide +kernel
theorem d_S_widened_30 : decode c_S_widened 30 = .ok (.iload_n 2, 1) := by decide +kernel
theorem d_S_widened_31 : decode c_S_widened 31 = .ok (.iload_n 3, 1) := by decide +kernel
theorem d_S_widened_32 : decode c_S_widened 32 = .ok (.invokevirtual 132, 3) := by decide +kernel
theorem d_S_widened_35 : decode c_S_widened 35 = .ok (.lstore 8, 2) := by decide +kernel
theorem d_S_widened_37 : decode c_S_widened 37 = .ok (.iload_n 1, 1) := by decide +kernel
theorem d_S_widened_38 : decode c_S_widened 38 = .ok (.istore 10, 2) := by decide +kernel
theorem d_S_widened_40 : decode c_S_widened 40 = .ok (.iload 10, 2) := by decide +kernel
theorem d_S_widened_42 : decode c_S_widened 42 = .ok (.sipush 1000, 3) := by decide +kernel
theorem d_S_widened_45 : decode c_S_widened 45 = .ok (.if_icmp .gt 22, 3) := by decide +kernel
theorem d_S_widened_48 : decode c_S_widened 48 = .ok (.lload 6, 2) := by decide +kernel
theorem d_S_widened_50 : decode c_S_widened 50 = .ok (.lload 8, 2) := by decide +kernel
theorem d_S_widened_52 : decode c_S_widened 52 = .ok (.iload 10, 2) := by decide +kernel
theorem d_S_widened_54 : decode c_S_widened 54 = .ok (.i2l, 1) := by decide +kernel
theorem d_S_widened_55 : decode c_S_widened 55 = .ok (.invokestatic 160, 3) := by decide +kernel
theorem d_S_widened_58 : decode c_S_widened 58 = .ok (.ifCond .eq 9, 3) := by decide +kernel
theorem d_S_widened_61 : decode c_S_widened 61 = .ok (.iinc 10 1, 3) := by decide +kernel
theorem d_S_widened_64 : decode c_S_widened 64 = .ok (.goto (-24), 3) := by decide +kernel
theorem d_S_widened_67 : decode c_S_widened 67 = .ok (.iload 10, 2) := by decide +kernel
theorem d_S_widened_69 : decode c_S_widened 69 = .ok (.ireturn, 1) := by decide +kernel
theorem d_S_sightFrom_0 : decode c_S_sightFrom 0 = .ok (.iload_n 2, 1) := by decide +kernel
theorem d_S_sightFrom_1 : decode c_S_sightFrom 1 = .ok (.ifCond .eq 7, 3) := by decide +kernel
theorem d_S_sightFrom_4 : decode c_S_sightFrom 4 = .ok (.iconst (-1), 1) := by decide +kernel
theorem d_S_sightFrom_5 : decode c_S_sightFrom 5 = .ok (.goto 4, 3) := by decide +kernel
theorem d_S_sightFrom_8 : decode c_S_sightFrom 8 = .ok (.iconst 1, 1) := by decide +kernel
theorem d_S_sightFrom_9 : decode c_S_sightFrom 9 = .ok (.istore_n 3, 1) := by decide +kernel
theorem d_S_sightFrom_10 : decode c_S_sightFrom 10 = .ok (.iload_n 1, 1) := by decide +kernel
theorem d_S_sightFrom_11 : decode c_S_sightFrom 11 = .ok (.istore 4, 2) := by decide +kernel
theorem d_S_sightFrom_13 : decode c_S_sightFrom 13 = .ok (.iload_n 1, 1) := by decide +kernel
theorem d_S_sightFrom_14 : decode c_S_sightFrom 14 = .ok (.iload_n 3, 1) := by decide +kernel
theorem d_S_sightFrom_15 : decode c_S_sightFrom 15 = .ok (.iadd, 1) := by decide +kernel
theorem d_S_sightFrom_16 : decode c_S_sightFrom 16 = .ok (.istore 5, 2) := by decide +kernel
theorem d_S_sightFrom_18 : decode c_S_sightFrom 18 = .ok (.iload 5, 2) := by decide +kernel
theorem d_S_sightFrom_20 : decode c_S_sightFrom 20 = .ok (.ifCond .lt 38, 3) := by decide +kernel
theorem d_S_sightFrom_23 : decode c_S_sightFrom 23 = .ok (.iload 5, 2) := by decide +kernel
theorem d_S_sightFrom_25 : decode c_S_sightFrom 25 = .ok (.aload_n 0, 1) := by decide +kernel
theorem d_S_sightFrom_26 : decode c_S_sightFrom 26 = .ok (.getfield 56, 3) := by decide +kernel
theorem d_S_sightFrom_29 : decode c_S_sightFrom 29 = .ok (.if_icmp .ge 29, 3) := by decide +kernel
theorem d_S_sightFrom_32 : decode c_S_sightFrom 32 = .ok (.aload_n 0, 1) := by decide +kernel
theorem d_S_sightFrom_33 : decode c_S_sightFrom 33 = .ok (.iload_n 1, 1) := by decide +kernel
theorem d_S_sightFrom_34 : decode c_S_sightFrom 34 = .ok (.iload 5, 2) := by decide +kernel
theorem d_S_sightFrom_36 : decode c_S_sightFrom 36 = .ok (.invokevirtual 80, 3) := by decide +kernel
theorem d_S_sightFrom_39 : decode c_S_sightFrom 39 = .ok (.ifCond .eq 6, 3) := by decide +kernel
theorem d_S_sightFrom_42 : decode c_S_sightFrom 42 = .ok (.goto 16, 3) := by decide +kernel
theorem d_S_sightFrom_45 : decode c_S_sightFrom 45 = .ok (.iload 5, 2) := by decide +kernel
theorem d_S_sightFrom_47 : decode c_S_sightFrom 47 = .ok (.istore 4, 2) := by decide +kernel
theorem d_S_sightFrom_49 : decode c_S_sightFrom 49 = .ok (.iload 5, 2) := by decide +kernel
theorem d_S_sightFrom_51 : decode c_S_sightFrom 51 = .ok (.iload_n 3, 1) := by decide +kernel
theorem d_S_sightFrom_52 : decode c_S_sightFrom 52 = .ok (.iadd, 1) := by decide +kernel
theorem d_S_sightFrom_53 : decode c_S_sightFrom 53 = .ok (.istore 5, 2) := by decide +kernel
theorem d_S_sightFrom_55 : decode c_S_sightFrom 55 = .ok (.goto (-37), 3) := by decide +kernel
theorem d_S_sightFrom_58 : decode c_S_sightFrom 58 = .ok (.aload_n 0, 1) := by decide +kernel
theorem d_S_sightFrom_59 : decode c_S_sightFrom 59 = .ok (.getfield 19, 3) := by decide +kernel
theorem d_S_sightFrom_62 : decode c_S_sightFrom 62 = .ok (.iload 4, 2) := by decide +kernel
theorem d_S_sightFrom_64 : decode c_S_sightFrom 64 = .ok (.iaload, 1) := by decide +kernel
theorem d_S_sightFrom_65 : decode c_S_sightFrom 65 = .ok (.aload_n 0, 1) := by decide +kernel
theorem d_S_sightFrom_66 : decode c_S_sightFrom 66 = .ok (.getfield 19, 3) := by decide +kernel
theorem d_S_sightFrom_69 : decode c_S_sightFrom 69 = .ok (.iload_n 1, 1) := by decide +kernel
theorem d_S_sightFrom_70 : decode c_S_sightFrom 70 = .ok (.iaload, 1) := by decide +kernel
theorem d_S_sightFrom_71 : decode c_S_sightFrom 71 = .ok (.isub, 1) := by decide +kernel
theorem d_S_sightFrom_72 : decode c_S_sightFrom 72 = .ok (.invokestatic 149, 3) := by decide +kernel
theorem d_S_sightFrom_75 : decode c_S_sightFrom 75 = .ok (.ireturn, 1) := by decide +kernel
theorem d_S_needWith_0 : decode c_S_needWith 0 = .ok (.iload_n 3, 1) := by decide +kernel
theorem d_S_needWith_1 : decode c_S_needWith 1 = .ok (.i2l, 1) := by decide +kernel
theorem d_S_needWith_2 : decode c_S_needWith 2 = .ok (.aload_n 0, 1) := by decide +kernel
theorem d_S_needWith_3 : decode c_S_needWith 3 = .ok (.getfield 42, 3) := by decide +kernel
theorem d_S_needWith_6 : decode c_S_needWith 6 = .ok (.i2l, 1) := by decide +kernel
theorem d_S_needWith_7 : decode c_S_needWith 7 = .ok (.lmul, 1) := by decide +kernel
theorem d_S_needWith_8 : decode c_S_needWith 8 = .ok (.ldc2_w 164, 3) := by decide +kernel
theorem d_S_needWith_11 : decode c_S_needWith 11 = .ok (.lmul, 1) := by decide +kernel
theorem d_S_needWith_12 : decode c_S_needWith 12 = .ok (.ldc2_w 166, 3) := by decide +kernel
theorem d_S_needWith_15 : decode c_S_needWith 15 = .ok (.ldiv, 1) := by decide +kernel
theorem d_S_needWith_16 : decode c_S_needWith 16 = .ok (.lstore 4, 2) := by decide +kernel
theorem d_S_needWith_18 : decode c_S_needWith 18 = .ok (.ldc2_w 168, 3) := by decide +kernel
theorem d_S_needWith_21 : decode c_S_needWith 21 = .ok (.aload_n 0, 1) := by decide +kernel
theorem d_S_needWith_22 : decode c_S_needWith 22 = .ok (.getfield 45, 3) := by decide +kernel
theorem d_S_needWith_25 : decode c_S_needWith 25 = .ok (.i2l, 1) := by decide +kernel
theorem d_S_needWith_26 : decode c_S_needWith 26 = .ok (.aload_n 0, 1) := by decide +kernel
theorem d_S_needWith_27 : decode c_S_needWith 27 = .ok (.iload_n 1, 1) := by decide +kernel
theorem d_S_needWith_28 : decode c_S_needWith 28 = .ok (.iload_n 2, 1) := by decide +kernel
theorem d_S_needWith_29 : decode c_S_needWith 29 = .ok (.invokevirtual 170, 3) := by decide +kernel
theorem d_S_needWith_32 : decode c_S_needWith 32 = .ok (.ladd, 1) := by decide +kernel
theorem d_S_needWith_33 : decode c_S_needWith 33 = .ok (.invokestatic 174, 3) := by decide +kernel
theorem d_S_needWith_36 : decode c_S_needWith 36 = .ok (.lstore 6, 2) := by decide +kernel
theorem d_S_needWith_38 : decode c_S_needWith 38 = .ok (.lload 4, 2) := by decide +kernel
theorem d_S_needWith_40 : decode c_S_needWith 40 = .ok (.iload_n 3, 1) := by decide +kernel
theorem d_S_needWith_41 : decode c_S_needWith 41 = .ok (.i2l, 1) := by decide +kernel
theorem d_S_needWith_42 : decode c_S_needWith 42 = .ok (.iload_n 3, 1) := by decide +kernel
theorem d_S_needWith_43 : decode c_S_needWith 43 = .ok (.i2l, 1) := by decide +kernel
theorem d_S_needWith_44 : decode c_S_needWith 44 = .ok (.lmul, 1) := by decide +kernel
theorem d_S_needWith_45 : decode c_S_needWith 45 = .ok (.ldc2_w 176, 3) := by decide +kernel
theorem d_S_needWith_48 : decode c_S_needWith 48 = .ok (.lmul, 1) := by decide +kernel
theorem d_S_needWith_49 : decode c_S_needWith 49 = .ok (.ldc2_w 178, 3) := by decide +kernel
theorem d_S_needWith_52 : decode c_S_needWith 52 = .ok (.lload 6, 2) := by decide +kernel
theorem d_S_needWith_54 : decode c_S_needWith 54 = .ok (.lmul, 1) := by decide +kernel
theorem d_S_needWith_55 : decode c_S_needWith 55 = .ok (.ldiv, 1) := by decide +kernel
theorem d_S_needWith_56 : decode c_S_needWith 56 = .ok (.ladd, 1) := by decide +kernel
theorem d_S_needWith_57 : decode c_S_needWith 57 = .ok (.l2i, 1) := by decide +kernel
theorem d_S_needWith_58 : decode c_S_needWith 58 = .ok (.ireturn, 1) := by decide +kernel
theorem d_S_slopeBeyond_0 : decode c_S_slopeBeyond 0 = .ok (.iload_n 2, 1) := by decide +kernel
theorem d_S_slopeBeyond_1 : decode c_S_slopeBeyond 1 = .ok (.ifCond .eq 9, 3) := by decide +kernel
theorem d_S_slopeBeyond_4 : decode c_S_slopeBeyond 4 = .ok (.iload_n 1, 1) := by decide +kernel
theorem d_S_slopeBeyond_5 : decode c_S_slopeBeyond 5 = .ok (.iconst 1, 1) := by decide +kernel
theorem d_S_slopeBeyond_6 : decode c_S_slopeBeyond 6 = .ok (.isub, 1) := by decide +kernel
theorem d_S_slopeBeyond_7 : decode c_S_slopeBeyond 7 = .ok (.goto 6, 3) := by decide +kernel
theorem d_S_slopeBeyond_10 : decode c_S_slopeBeyond 10 = .ok (.iload_n 1, 1) := by decide +kernel
theorem d_S_slopeBeyond_11 : decode c_S_slopeBeyond 11 = .ok (.iconst 1, 1) := by decide +kernel
theorem d_S_slopeBeyond_12 : decode c_S_slopeBeyond 12 = .ok (.iadd, 1) := by decide +kernel
theorem d_S_slopeBeyond_13 : decode c_S_slopeBeyond 13 = .ok (.istore_n 3, 1) := by decide +kernel
theorem d_S_slopeBeyond_14 : decode c_S_slopeBeyond 14 = .ok (.aload_n 0, 1) := by decide +kernel
theorem d_S_slopeBeyond_15 : decode c_S_slopeBeyond 15 = .ok (.iload_n 3, 1) := by decide +kernel
theorem d_S_slopeBeyond_16 : decode c_S_slopeBeyond 16 = .ok (.invokevirtual 67, 3) := by decide +kernel
theorem d_S_slopeBeyond_19 : decode c_S_slopeBeyond 19 = .ok (.ifCond .ne 5, 3) := by decide +kernel
theorem d_S_slopeBeyond_22 : decode c_S_slopeBeyond 22 = .ok (.lconst 0, 1) := by decide +kernel
theorem d_S_slopeBeyond_23 : decode c_S_slopeBeyond 23 = .ok (.lreturn, 1) := by decide +kernel
theorem d_S_slopeBeyond_24 : decode c_S_slopeBeyond 24 = .ok (.aload_n 0, 1) := by decide +kernel
theorem d_S_slopeBeyond_25 : decode c_S_slopeBeyond 25 = .ok (.getfield 19, 3) := by decide +kernel
theorem d_S_slopeBeyond_28 : decode c_S_slopeBeyond 28 = .ok (.iload_n 3, 1) := by decide +kernel
theorem d_S_slopeBeyond_29 : decode c_S_slopeBeyond 29 = .ok (.iaload, 1) := by decide +kernel
theorem d_S_slopeBeyond_30 : decode c_S_slopeBeyond 30 = .ok (.aload_n 0, 1) := by decide +kernel
theorem d_S_slopeBeyond_31 : decode c_S_slopeBeyond 31 = .ok (.getfield 19, 3) := by decide +kernel
theorem d_S_slopeBeyond_34 : decode c_S_slopeBeyond 34 = .ok (.iload_n 1, 1) := by decide +kernel
theorem d_S_slopeBeyond_35 : decode c_S_slopeBeyond 35 = .ok (.iaload, 1) := by decide +kernel
theorem d_S_slopeBeyond_36 : decode c_S_slopeBeyond 36 = .ok (.isub, 1) := by decide +kernel
theorem d_S_slopeBeyond_37 : decode c_S_slopeBeyond 37 = .ok (.invokestatic 149, 3) := by decide +kernel
theorem d_S_slopeBeyond_40 : decode c_S_slopeBeyond 40 = .ok (.i2l, 1) := by decide +kernel
theorem d_S_slopeBeyond_41 : decode c_S_slopeBeyond 41 = .ok (.lstore 4, 2) := by decide +kernel
theorem d_S_slopeBeyond_43 : decode c_S_slopeBeyond 43 = .ok (.lload 4, 2) := by decide +kernel
theorem d_S_slopeBeyond_45 : decode c_S_slopeBeyond 45 = .ok (.lconst 0, 1) := by decide +kernel
theorem d_S_slopeBeyond_46 : decode c_S_slopeBeyond 46 = .ok (.lcmp, 1) := by decide +kernel
theorem d_S_slopeBeyond_47 : decode c_S_slopeBeyond 47 = .ok (.ifCond .ne 7, 3) := by decide +kernel
theorem d_S_slopeBeyond_50 : decode c_S_slopeBeyond 50 = .ok (.lconst 0, 1) := by decide +kernel
theorem d_S_slopeBeyond_51 : decode c_S_slopeBeyond 51 = .ok (.goto 28, 3) := by decide +kernel
theorem d_S_slopeBeyond_54 : decode c_S_slopeBeyond 54 = .ok (.ldc2_w 180, 3) := by decide +kernel
theorem d_S_slopeBeyond_57 : decode c_S_slopeBeyond 57 = .ok (.aload_n 0, 1) := by decide +kernel
theorem d_S_slopeBeyond_58 : decode c_S_slopeBeyond 58 = .ok (.getfield 16, 3) := by decide +kernel
theorem d_S_slopeBeyond_61 : decode c_S_slopeBeyond 61 = .ok (.iload_n 3, 1) := by decide +kernel
theorem d_S_slopeBeyond_62 : decode c_S_slopeBeyond 62 = .ok (.iaload, 1) := by decide +kernel
theorem d_S_slopeBeyond_63 : decode c_S_slopeBeyond 63 = .ok (.aload_n 0, 1) := by decide +kernel
theorem d_S_slopeBeyond_64 : decode c_S_slopeBeyond 64 = .ok (.getfield 16, 3) := by decide +kernel
theorem d_S_slopeBeyond_67 : decode c_S_slopeBeyond 67 = .ok (.iload_n 1, 1) := by decide +kernel
theorem d_S_slopeBeyond_68 : decode c_S_slopeBeyond 68 = .ok (.iaload, 1) := by decide +kernel
theorem d_S_slopeBeyond_69 : decode c_S_slopeBeyond 69 = .ok (.isub, 1) := by decide +kernel
theorem d_S_slopeBeyond_70 : decode c_S_slopeBeyond 70 = .ok (.i2l, 1) := by decide +kernel
theorem d_S_slopeBeyond_71 : decode c_S_slopeBeyond 71 = .ok (.lmul, 1) := by decide +kernel
theorem d_S_slopeBeyond_72 : decode c_S_slopeBeyond 72 = .ok (.ldc2_w 164, 3) := by decide +kernel
theorem d_S_slopeBeyond_75 : decode c_S_slopeBeyond 75 = .ok (.lload 4, 2) := by decide +kernel
theorem d_S_slopeBeyond_77 : decode c_S_slopeBeyond 77 = .ok (.lmul, 1) := by decide +kernel
theorem d_S_slopeBeyond_78 : decode c_S_slopeBeyond 78 = .ok (.ldiv, 1) := by decide +kernel
theorem d_S_slopeBeyond_79 : decode c_S_slopeBeyond 79 = .ok (.lreturn, 1) := by decide +kernel
theorem d_S_roadBeyond_0 : decode c_S_roadBeyond 0 = .ok (.iload_n 2, 1) := by decide +kernel
theorem d_S_roadBeyond_1 : decode c_S_roadBeyond 1 = .ok (.ifCond .eq 12, 3) := by decide +kernel
theorem d_S_roadBeyond_4 : decode c_S_roadBeyond 4 = .ok (.aload_n 0, 1) := by decide +kernel
theorem d_S_roadBeyond_5 : decode c_S_roadBeyond 5 = .ok (.getfield 19, 3) := by decide +kernel
theorem d_S_roadBeyond_8 : decode c_S_roadBeyond 8 = .ok (.iload_n 1, 1) := by decide +kernel
theorem d_S_roadBeyond_9 : decode c_S_roadBeyond 9 = .ok (.iaload, 1) := by decide +kernel
theorem d_S_roadBeyond_10 : decode c_S_roadBeyond 10 = .ok (.goto 21, 3) := by decide +kernel
theorem d_S_roadBeyond_13 : decode c_S_roadBeyond 13 = .ok (.aload_n 0, 1) := by decide +kernel
theorem d_S_roadBeyond_14 : decode c_S_roadBeyond 14 = .ok (.getfield 19, 3) := by decide +kernel
theorem d_S_roadBeyond_17 : decode c_S_roadBeyond 17 = .ok (.aload_n 0, 1) := by decide +kernel
theorem d_S_roadBeyond_18 : decode c_S_roadBeyond 18 = .ok (.getfield 56, 3) := by decide +kernel
theorem d_S_roadBeyond_21 : decode c_S_roadBeyond 21 = .ok (.iconst 1, 1) := by decide +kernel
theorem d_S_roadBeyond_22 : decode c_S_roadBeyond 22 = .ok (.isub, 1) := by decide +kernel
theorem d_S_roadBeyond_23 : decode c_S_roadBeyond 23 = .ok (.iaload, 1) := by decide +kernel
theorem d_S_roadBeyond_24 : decode c_S_roadBeyond 24 = .ok (.aload_n 0, 1) := by decide +kernel
theorem d_S_roadBeyond_25 : decode c_S_roadBeyond 25 = .ok (.getfield 19, 3) := by decide +kernel
theorem d_S_roadBeyond_28 : decode c_S_roadBeyond 28 = .ok (.iload_n 1, 1) := by decide +kernel
theorem d_S_roadBeyond_29 : decode c_S_roadBeyond 29 = .ok (.iaload, 1) := by decide +kernel
theorem d_S_roadBeyond_30 : decode c_S_roadBeyond 30 = .ok (.isub, 1) := by decide +kernel
theorem d_S_roadBeyond_31 : decode c_S_roadBeyond 31 = .ok (.ireturn, 1) := by decide +kernel
theorem d_S_isBlind_0 : decode c_S_isBlind 0 = .ok (.aload_n 0, 1) := by decide +kernel
theorem d_S_isBlind_1 : decode c_S_isBlind 1 = .ok (.iload_n 1, 1) := by decide +kernel
theorem d_S_isBlind_2 : decode c_S_isBlind 2 = .ok (.iload_n 2, 1) := by decide +kernel
theorem d_S_isBlind_3 : decode c_S_isBlind 3 = .ok (.aload_n 0, 1) := by decide +kernel
theorem d_S_isBlind_4 : decode c_S_isBlind 4 = .ok (.getfield 22, 3) := by decide +kernel
theorem d_S_isBlind_7 : decode c_S_isBlind 7 = .ok (.iload_n 1, 1) := by decide +kernel
theorem d_S_isBlind_8 : decode c_S_isBlind 8 = .ok (.iaload, 1) := by decide +kernel
theorem d_S_isBlind_9 : decode c_S_isBlind 9 = .ok (.invokevirtual 87, 3) := by decide +kernel
theorem d_S_isBlind_12 : decode c_S_isBlind 12 = .ok (.istore_n 3, 1) := by decide +kernel
theorem d_S_isBlind_13 : decode c_S_isBlind 13 = .ok (.aload_n 0, 1) := by decide +kernel
theorem d_S_isBlind_14 : decode c_S_isBlind 14 = .ok (.iload_n 1, 1) := by decide +kernel
theorem d_S_isBlind_15 : decode c_S_isBlind 15 = .ok (.iload_n 2, 1) := by decide +kernel
theorem d_S_isBlind_16 : decode c_S_isBlind 16 = .ok (.invokevirtual 98, 3) := by decide +kernel
theorem d_S_isBlind_19 : decode c_S_isBlind 19 = .ok (.iload_n 3, 1) := by decide +kernel
theorem d_S_isBlind_20 : decode c_S_isBlind 20 = .ok (.if_icmp .lt 17, 3) := by decide +kernel
theorem d_S_isBlind_23 : decode c_S_isBlind 23 = .ok (.aload_n 0, 1) := by decide +kernel
theorem d_S_isBlind_24 : decode c_S_isBlind 24 = .ok (.iload_n 1, 1) := by decide +kernel
theorem d_S_isBlind_25 : decode c_S_isBlind 25 = .ok (.iload_n 2, 1) := by decide +kernel
theorem d_S_isBlind_26 : decode c_S_isBlind 26 = .ok (.invokevirtual 83, 3) := by decide +kernel
theorem d_S_isBlind_29 : decode c_S_isBlind 29 = .ok (.iload_n 3, 1) := by decide +kernel
theorem d_S_isBlind_30 : decode c_S_isBlind 30 = .ok (.if_icmp .ge 7, 3) := by decide +kernel
theorem d_S_isBlind_33 : decode c_S_isBlind 33 = .ok (.iconst 1, 1) := by decide +kernel
theorem d_S_isBlind_34 : decode c_S_isBlind 34 = .ok (.goto 4, 3) := by decide +kernel
theorem d_S_isBlind_37 : decode c_S_isBlind 37 = .ok (.iconst 0, 1) := by decide +kernel
theorem d_S_isBlind_38 : decode c_S_isBlind 38 = .ok (.ireturn, 1) := by decide +kernel
theorem d_S_blindStations_0 : decode c_S_blindStations 0 = .ok (.iconst 0, 1) := by decide +kernel
theorem d_S_blindStations_1 : decode c_S_blindStations 1 = .ok (.istore_n 2, 1) := by decide +kernel
theorem d_S_blindStations_2 : decode c_S_blindStations 2 = .ok (.iconst 0, 1) := by decide +kernel
theorem d_S_blindStations_3 : decode c_S_blindStations 3 = .ok (.istore_n 3, 1) := by decide +kernel
theorem d_S_blindStations_4 : decode c_S_blindStations 4 = .ok (.iload_n 3, 1) := by decide +kernel
theorem d_S_blindStations_5 : decode c_S_blindStations 5 = .ok (.aload_n 0, 1) := by decide +kernel
theorem d_S_blindStations_6 : decode c_S_blindStations 6 = .ok (.getfield 56, 3) := by decide +kernel
theorem d_S_blindStations_9 : decode c_S_blindStations 9 = .ok (.if_icmp .ge 21, 3) := by decide +kernel
theorem d_S_blindStations_12 : decode c_S_blindStations 12 = .ok (.aload_n 0, 1) := by decide +kernel
theorem d_S_blindStations_13 : decode c_S_blindStations 13 = .ok (.iload_n 3, 1) := by decide +kernel
theorem d_S_blindStations_14 : decode c_S_blindStations 14 = .ok (.iload_n 1, 1) := by decide +kernel
theorem d_S_blindStations_15 : decode c_S_blindStations 15 = .ok (.invokevirtual 91, 3) := by decide +kernel
theorem d_S_blindStations_18 : decode c_S_blindStations 18 = .ok (.ifCond .eq 6, 3) := by decide +kernel
theorem d_S_blindStations_21 : decode c_S_blindStations 21 = .ok (.iinc 2 1, 3) := by decide +kernel
theorem d_S_blindStations_24 : decode c_S_blindStations 24 = .ok (.iinc 3 1, 3) := by decide +kernel
theorem d_S_blindStations_27 : decode c_S_blindStations 27 = .ok (.goto (-23), 3) := by decide +kernel
theorem d_S_blindStations_30 : decode c_S_blindStations 30 = .ok (.iload_n 2, 1) := by decide +kernel
theorem d_S_blindStations_31 : decode c_S_blindStations 31 = .ok (.ireturn, 1) := by decide +kernel
theorem d_S_freeViews_0 : decode c_S_freeViews 0 = .ok (.iconst 0, 1) := by decide +kernel
theorem d_S_freeViews_1 : decode c_S_freeViews 1 = .ok (.istore_n 1, 1) := by decide +kernel
theorem d_S_freeViews_2 : decode c_S_freeViews 2 = .ok (.iconst 0, 1) := by decide +kernel
theorem d_S_freeViews_3 : decode c_S_freeViews 3 = .ok (.istore_n 2, 1) := by decide +kernel
theorem d_S_freeViews_4 : decode c_S_freeViews 4 = .ok (.iload_n 2, 1) := by decide +kernel
theorem d_S_freeViews_5 : decode c_S_freeViews 5 = .ok (.aload_n 0, 1) := by decide +kernel
theorem d_S_freeViews_6 : decode c_S_freeViews 6 = .ok (.getfield 56, 3) := by decide +kernel
theorem d_S_freeViews_9 : decode c_S_freeViews 9 = .ok (.if_icmp .ge 39, 3) := by decide +kernel
theorem d_S_freeViews_12 : decode c_S_freeViews 12 = .ok (.iload_n 2, 1) := by decide +kernel
theorem d_S_freeViews_13 : decode c_S_freeViews 13 = .ok (.iconst 1, 1) := by decide +kernel
theorem d_S_freeViews_14 : decode c_S_freeViews 14 = .ok (.iadd, 1) := by decide +kernel
theorem d_S_freeViews_15 : decode c_S_freeViews 15 = .ok (.istore_n 3, 1) := by decide +kernel
theorem d_S_freeViews_16 : decode c_S_freeViews 16 = .ok (.iload_n 3, 1) := by decide +kernel
theorem d_S_freeViews_17 : decode c_S_freeViews 17 = .ok (.aload_n 0, 1) := by decide +kernel
theorem d_S_freeViews_18 : decode c_S_freeViews 18 = .ok (.getfield 56, 3) := by decide +kernel
theorem d_S_freeViews_21 : decode c_S_freeViews 21 = .ok (.if_icmp .ge 21, 3) := by decide +kernel
theorem d_S_freeViews_24 : decode c_S_freeViews 24 = .ok (.aload_n 0, 1) := by decide +kernel
theorem d_S_freeViews_25 : decode c_S_freeViews 25 = .ok (.iload_n 2, 1) := by decide +kernel
theorem d_S_freeViews_26 : decode c_S_freeViews 26 = .ok (.iload_n 3, 1) := by decide +kernel
theorem d_S_freeViews_27 : decode c_S_freeViews 27 = .ok (.invokevirtual 80, 3) := by decide +kernel
theorem d_S_freeViews_30 : decode c_S_freeViews 30 = .ok (.ifCond .ne 6, 3) := by decide +kernel
theorem d_S_freeViews_33 : decode c_S_freeViews 33 = .ok (.iinc 1 1, 3) := by decide +kernel
theorem d_S_freeViews_36 : decode c_S_freeViews 36 = .ok (.iinc 3 1, 3) := by decide +kernel
theorem d_S_freeViews_39 : decode c_S_freeViews 39 = .ok (.goto (-23), 3) := by decide +kernel
theorem d_S_freeViews_42 : decode c_S_freeViews 42 = .ok (.iinc 2 1, 3) := by decide +kernel
theorem d_S_freeViews_45 : decode c_S_freeViews 45 = .ok (.goto (-41), 3) := by decide +kernel
theorem d_S_freeViews_48 : decode c_S_freeViews 48 = .ok (.iload_n 1, 1) := by decide +kernel
theorem d_S_freeViews_49 : decode c_S_freeViews 49 = .ok (.ireturn, 1) := by decide +kernel
end
section
theorem d_B_init_0 : decode c_B_init 0 = .ok (.aload_n 0, 1) := by decide +kernel
theorem d_B_init_1 : decode c_B_init 1 = .ok (.invokespecial 3, 3) := by decide +kernel
theorem d_B_init_4 : decode c_B_init 4 = .ok (.aload_n 0, 1) := by decide +kernel
theorem d_B_init_5 : decode c_B_init 5 = .ok (.bipush 8, 2) := by decide +kernel
theorem d_B_init_7 : decode c_B_init 7 = .ok (.newarray .int, 2) := by decide +kernel
theorem d_B_init_9 : decode c_B_init 9 = .ok (.putfield 9, 3) := by decide +kernel
theorem d_B_init_12 : decode c_B_init 12 = .ok (.aload_n 0, 1) := by decide +kernel
theorem d_B_init_13 : decode c_B_init 13 = .ok (.bipush 8, 2) := by decide +kernel
theorem d_B_init_15 : decode c_B_init 15 = .ok (.newarray .int, 2) := by decide +kernel
theorem d_B_init_17 : decode c_B_init 17 = .ok (.putfield 15, 3) := by decide +kernel
theorem d_B_init_20 : decode c_B_init 20 = .ok (.aload_n 0, 1) := by decide +kernel
theorem d_B_init_21 : decode c_B_init 21 = .ok (.bipush 8, 2) := by decide +kernel
theorem d_B_init_23 : decode c_B_init 23 = .ok (.newarray .int, 2) := by decide +kernel
theorem d_B_init_25 : decode c_B_init 25 = .ok (.putfield 18, 3) := by decide +kernel
theorem d_B_init_28 : decode c_B_init 28 = .ok (.aload_n 0, 1) := by decide +kernel
theorem d_B_init_29 : decode c_B_init 29 = .ok (.bipush 8, 2) := by decide +kernel
theorem d_B_init_31 : decode c_B_init 31 = .ok (.newarray .int, 2) := by decide +kernel
theorem d_B_init_33 : decode c_B_init 33 = .ok (.putfield 21, 3) := by decide +kernel
theorem d_B_init_36 : decode c_B_init 36 = .ok (.aload_n 0, 1) := by decide +kernel
theorem d_B_init_37 : decode c_B_init 37 = .ok (.bipush 8, 2) := by decide +kernel
theorem d_B_init_39 : decode c_B_init 39 = .ok (.newarray .int, 2) := by decide +kernel
theorem d_B_init_41 : decode c_B_init 41 = .ok (.putfield 24, 3) := by decide +kernel
theorem d_B_init_44 : decode c_B_init 44 = .ok (.return_, 1) := by decide +kernel
theorem d_B_add_0 : decode c_B_add 0 = .ok (.aload_n 0, 1) := by decide +kernel
theorem d_B_add_1 : decode c_B_add 1 = .ok (.getfield 27, 3) := by decide +kernel
theorem d_B_add_4 : decode c_B_add 4 = .ok (.bipush 8, 2) := by decide +kernel
theorem d_B_add_6 : decode c_B_add 6 = .ok (.if_icmp .lt 5, 3) := by decide +kernel
theorem d_B_add_9 : decode c_B_add 9 = .ok (.iconst (-1), 1) := by decide +kernel
theorem d_B_add_10 : decode c_B_add 10 = .ok (.ireturn, 1) := by decide +kernel
theorem d_B_add_11 : decode c_B_add 11 = .ok (.aload_n 0, 1) := by decide +kernel
theorem d_B_add_12 : decode c_B_add 12 = .ok (.getfield 27, 3) := by decide +kernel
theorem d_B_add_15 : decode c_B_add 15 = .ok (.istore 6, 2) := by decide +kernel
theorem d_B_add_17 : decode c_B_add 17 = .ok (.aload_n 0, 1) := by decide +kernel
theorem d_B_add_18 : decode c_B_add 18 = .ok (.getfield 9, 3) := by decide +kernel
theorem d_B_add_21 : decode c_B_add 21 = .ok (.iload 6, 2) := by decide +kernel
theorem d_B_add_23 : decode c_B_add 23 = .ok (.iload_n 1, 1) := by decide +kernel
theorem d_B_add_24 : decode c_B_add 24 = .ok (.iastore, 1) := by decide +kernel
theorem d_B_add_25 : decode c_B_add 25 = .ok (.aload_n 0, 1) := by decide +kernel
theorem d_B_add_26 : decode c_B_add 26 = .ok (.getfield 15, 3) := by decide +kernel
theorem d_B_add_29 : decode c_B_add 29 = .ok (.iload 6, 2) := by decide +kernel
theorem d_B_add_31 : decode c_B_add 31 = .ok (.iload_n 2, 1) := by decide +kernel
theorem d_B_add_32 : decode c_B_add 32 = .ok (.iastore, 1) := by decide +kernel
theorem d_B_add_33 : decode c_B_add 33 = .ok (.aload_n 0, 1) := by decide +kernel
theorem d_B_add_34 : decode c_B_add 34 = .ok (.getfield 18, 3) := by decide +kernel
theorem d_B_add_37 : decode c_B_add 37 = .ok (.iload 6, 2) := by decide +kernel
theorem d_B_add_39 : decode c_B_add 39 = .ok (.iload_n 3, 1) := by decide +kernel
theorem d_B_add_40 : decode c_B_add 40 = .ok (.iastore, 1) := by decide +kernel
theorem d_B_add_41 : decode c_B_add 41 = .ok (.aload_n 0, 1) := by decide +kernel
theorem d_B_add_42 : decode c_B_add 42 = .ok (.getfield 21, 3) := by decide +kernel
theorem d_B_add_45 : decode c_B_add 45 = .ok (.iload 6, 2) := by decide +kernel
theorem d_B_add_47 : decode c_B_add 47 = .ok (.iload 4, 2) := by decide +kernel
theorem d_B_add_49 : decode c_B_add 49 = .ok (.iastore, 1) := by decide +kernel
theorem d_B_add_50 : decode c_B_add 50 = .ok (.aload_n 0, 1) := by decide +kernel
theorem d_B_add_51 : decode c_B_add 51 = .ok (.getfield 24, 3) := by decide +kernel
theorem d_B_add_54 : decode c_B_add 54 = .ok (.iload 6, 2) := by decide +kernel
theorem d_B_add_56 : decode c_B_add 56 = .ok (.iload 5, 2) := by decide +kernel
theorem d_B_add_58 : decode c_B_add 58 = .ok (.iastore, 1) := by decide +kernel
theorem d_B_add_59 : decode c_B_add 59 = .ok (.aload_n 0, 1) := by decide +kernel
theorem d_B_add_60 : decode c_B_add 60 = .ok (.dup, 1) := by decide +kernel
theorem d_B_add_61 : decode c_B_add 61 = .ok (.getfield 27, 3) := by decide +kernel
theorem d_B_add_64 : decode c_B_add 64 = .ok (.iconst 1, 1) := by decide +kernel
theorem d_B_add_65 : decode c_B_add 65 = .ok (.iadd, 1) := by decide +kernel
theorem d_B_add_66 : decode c_B_add 66 = .ok (.putfield 27, 3) := by decide +kernel
theorem d_B_add_69 : decode c_B_add 69 = .ok (.iload 6, 2) := by decide +kernel
theorem d_B_add_71 : decode c_B_add 71 = .ok (.ireturn, 1) := by decide +kernel
theorem d_B_firstAcross_0 : decode c_B_firstAcross 0 = .ok (.iconst 0, 1) := by decide +kernel
theorem d_B_firstAcross_1 : decode c_B_firstAcross 1 = .ok (.istore 7, 2) := by decide +kernel
theorem d_B_firstAcross_3 : decode c_B_firstAcross 3 = .ok (.iload 7, 2) := by decide +kernel
theorem d_B_firstAcross_5 : decode c_B_firstAcross 5 = .ok (.aload_n 0, 1) := by decide +kernel
theorem d_B_firstAcross_6 : decode c_B_firstAcross 6 = .ok (.getfield 27, 3) := by decide +kernel
theorem d_B_firstAcross_9 : decode c_B_firstAcross 9 = .ok (.if_icmp .ge 100, 3) := by decide +kernel
theorem d_B_firstAcross_12 : decode c_B_firstAcross 12 = .ok (.aload_n 0, 1) := by decide +kernel
theorem d_B_firstAcross_13 : decode c_B_firstAcross 13 = .ok (.invokevirtual 31, 3) := by decide +kernel
theorem d_B_firstAcross_16 : decode c_B_firstAcross 16 = .ok (.aload_n 0, 1) := by decide +kernel
theorem d_B_firstAcross_17 : decode c_B_firstAcross 17 = .ok (.iload_n 1, 1) := by decide +kernel
theorem d_B_firstAcross_18 : decode c_B_firstAcross 18 = .ok (.iload 4, 2) := by decide +kernel
theorem d_B_firstAcross_20 : decode c_B_firstAcross 20 = .ok (.iload_n 1, 1) := by decide +kernel
theorem d_B_firstAcross_21 : decode c_B_firstAcross 21 = .ok (.isub, 1) := by decide +kernel
theorem d_B_firstAcross_22 : decode c_B_firstAcross 22 = .ok (.aload_n 0, 1) := by decide +kernel
theorem d_B_firstAcross_23 : decode c_B_firstAcross 23 = .ok (.getfield 9, 3) := by decide +kernel
theorem d_B_firstAcross_26 : decode c_B_firstAcross 26 = .ok (.iload 7, 2) := by decide +kernel
theorem d_B_firstAcross_28 : decode c_B_firstAcross 28 = .ok (.iaload, 1) := by decide +kernel
theorem d_B_firstAcross_29 : decode c_B_firstAcross 29 = .ok (.aload_n 0, 1) := by decide +kernel
theorem d_B_firstAcross_30 : decode c_B_firstAcross 30 = .ok (.getfield 18, 3) := by decide +kernel
theorem d_B_firstAcross_33 : decode c_B_firstAcross 33 = .ok (.iload 7, 2) := by decide +kernel
theorem d_B_firstAcross_35 : decode c_B_firstAcross 35 = .ok (.iaload, 1) := by decide +kernel
theorem d_B_firstAcross_36 : decode c_B_firstAcross 36 = .ok (.invokevirtual 34, 3) := by decide +kernel
theorem d_B_firstAcross_39 : decode c_B_firstAcross 39 = .ok (.ifCond .eq 33, 3) := by decide +kernel
theorem d_B_firstAcross_42 : decode c_B_firstAcross 42 = .ok (.aload_n 0, 1) := by decide +kernel
theorem d_B_firstAcross_43 : decode c_B_firstAcross 43 = .ok (.iload_n 2, 1) := by decide +kernel
theorem d_B_firstAcross_44 : decode c_B_firstAcross 44 = .ok (.iload 5, 2) := by decide +kernel
theorem d_B_firstAcross_46 : decode c_B_firstAcross 46 = .ok (.iload_n 2, 1) := by decide +kernel
theorem d_B_firstAcross_47 : decode c_B_firstAcross 47 = .ok (.isub, 1) := by decide +kernel
theorem d_B_firstAcross_48 : decode c_B_firstAcross 48 = .ok (.aload_n 0, 1) := by decide +kernel
theorem d_B_firstAcross_49 : decode c_B_firstAcross 49 = .ok (.getfield 15, 3) := by decide +kernel
theorem d_B_firstAcross_52 : decode c_B_firstAcross 52 = .ok (.iload 7, 2) := by decide +kernel
theorem d_B_firstAcross_54 : decode c_B_firstAcross 54 = .ok (.iaload, 1) := by decide +kernel
theorem d_B_firstAcross_55 : decode c_B_firstAcross 55 = .ok (.aload_n 0, 1) := by decide +kernel
theorem d_B_firstAcross_56 : decode c_B_firstAcross 56 = .ok (.getfield 21, 3) := by decide +kernel
theorem d_B_firstAcross_59 : decode c_B_firstAcross 59 = .ok (.iload 7, 2) := by decide +kernel
theorem d_B_firstAcross_61 : decode c_B_firstAcross 61 = .ok (.iaload, 1) := by decide +kernel
theorem d_B_firstAcross_62 : decode c_B_firstAcross 62 = .ok (.invokevirtual 34, 3) := by decide +kernel
theorem d_B_firstAcross_65 : decode c_B_firstAcross 65 = .ok (.ifCond .eq 7, 3) := by decide +kernel
theorem d_B_firstAcross_68 : decode c_B_firstAcross 68 = .ok (.iconst 1, 1) := by decide +kernel
theorem d_B_firstAcross_69 : decode c_B_firstAcross 69 = .ok (.goto 4, 3) := by decide +kernel
theorem d_B_firstAcross_72 : decode c_B_firstAcross 72 = .ok (.iconst 0, 1) := by decide +kernel
theorem d_B_firstAcross_73 : decode c_B_firstAcross 73 = .ok (.istore 8, 2) := by decide +kernel
theorem d_B_firstAcross_75 : decode c_B_firstAcross 75 = .ok (.iload 8, 2) := by decide +kernel
theorem d_B_firstAcross_77 : decode c_B_firstAcross 77 = .ok (.ifCond .eq 26, 3) := by decide +kernel
theorem d_B_firstAcross_80 : decode c_B_firstAcross 80 = .ok (.aload_n 0, 1) := by decide +kernel
theorem d_B_firstAcross_81 : decode c_B_firstAcross 81 = .ok (.aload_n 0, 1) := by decide +kernel
theorem d_B_firstAcross_82 : decode c_B_firstAcross 82 = .ok (.getfield 24, 3) := by decide +kernel
theorem d_B_firstAcross_85 : decode c_B_firstAcross 85 = .ok (.iload 7, 2) := by decide +kernel
theorem d_B_firstAcross_87 : decode c_B_firstAcross 87 = .ok (.iaload, 1) := by decide +kernel
theorem d_B_firstAcross_88 : decode c_B_firstAcross 88 = .ok (.i2l, 1) := by decide +kernel
theorem d_B_firstAcross_89 : decode c_B_firstAcross 89 = .ok (.iload_n 3, 1) := by decide +kernel
theorem d_B_firstAcross_90 : decode c_B_firstAcross 90 = .ok (.i2l, 1) := by decide +kernel
theorem d_B_firstAcross_91 : decode c_B_firstAcross 91 = .ok (.iload 6, 2) := by decide +kernel
theorem d_B_firstAcross_93 : decode c_B_firstAcross 93 = .ok (.i2l, 1) := by decide +kernel
theorem d_B_firstAcross_94 : decode c_B_firstAcross 94 = .ok (.invokevirtual 38, 3) := by decide +kernel
theorem d_B_firstAcross_97 : decode c_B_firstAcross 97 = .ok (.ifCond .eq 6, 3) := by decide +kernel
theorem d_B_firstAcross_100 : decode c_B_firstAcross 100 = .ok (.iload 7, 2) := by decide +kernel
theorem d_B_firstAcross_102 : decode c_B_firstAcross 102 = .ok (.ireturn, 1) := by decide +kernel
theorem d_B_firstAcross_103 : decode c_B_firstAcross 103 = .ok (.iinc 7 1, 3) := by decide +kernel
theorem d_B_firstAcross_106 : decode c_B_firstAcross 106 = .ok (.goto (-103), 3) := by decide +kernel
theorem d_B_firstAcross_109 : decode c_B_firstAcross 109 = .ok (.iconst (-1), 1) := by decide +kernel
theorem d_B_firstAcross_110 : decode c_B_firstAcross 110 = .ok (.ireturn, 1) := by decide +kernel
theorem d_B_takeWhole_0 : decode c_B_takeWhole 0 = .ok (.aload_n 0, 1) := by decide +kernel
theorem d_B_takeWhole_1 : decode c_B_takeWhole 1 = .ok (.lconst 0, 1) := by decide +kernel
theorem d_B_takeWhole_2 : decode c_B_takeWhole 2 = .ok (.putfield 42, 3) := by decide +kernel
theorem d_B_takeWhole_5 : decode c_B_takeWhole 5 = .ok (.aload_n 0, 1) := by decide +kernel
theorem d_B_takeWhole_6 : decode c_B_takeWhole 6 = .ok (.lconst 1, 1) := by decide +kernel
theorem d_B_takeWhole_7 : decode c_B_takeWhole 7 = .ok (.putfield 46, 3) := by decide +kernel
theorem d_B_takeWhole_10 : decode c_B_takeWhole 10 = .ok (.aload_n 0, 1) := by decide +kernel
theorem d_B_takeWhole_11 : decode c_B_takeWhole 11 = .ok (.lconst 1, 1) := by decide +kernel
theorem d_B_takeWhole_12 : decode c_B_takeWhole 12 = .ok (.putfield 49, 3) := by decide +kernel
theorem d_B_takeWhole_15 : decode c_B_takeWhole 15 = .ok (.aload_n 0, 1) := by decide +kernel
theorem d_B_takeWhole_16 : decode c_B_takeWhole 16 = .ok (.lconst 1, 1) := by decide +kernel
theorem d_B_takeWhole_17 : decode c_B_takeWhole 17 = .ok (.putfield 52, 3) := by decide +kernel
theorem d_B_takeWhole_20 : decode c_B_takeWhole 20 = .ok (.return_, 1) := by decide +kernel
theorem d_B_narrow_0 : decode c_B_narrow 0 = .ok (.iload_n 2, 1) := by decide +kernel
theorem d_B_narrow_1 : decode c_B_narrow 1 = .ok (.ifCond .ne 20, 3) := by decide +kernel
theorem d_B_narrow_4 : decode c_B_narrow 4 = .ok (.iload_n 3, 1) := by decide +kernel
theorem d_B_narrow_5 : decode c_B_narrow 5 = .ok (.iload_n 1, 1) := by decide +kernel
theorem d_B_narrow_6 : decode c_B_narrow 6 = .ok (.if_icmp .gt 13, 3) := by decide +kernel
theorem d_B_narrow_9 : decode c_B_narrow 9 = .ok (.iload_n 1, 1) := by decide +kernel
theorem d_B_narrow_10 : decode c_B_narrow 10 = .ok (.iload 4, 2) := by decide +kernel
theorem d_B_narrow_12 : decode c_B_narrow 12 = .ok (.if_icmp .gt 7, 3) := by decide +kernel
theorem d_B_narrow_15 : decode c_B_narrow 15 = .ok (.iconst 1, 1) := by decide +kernel
theorem d_B_narrow_16 : decode c_B_narrow 16 = .ok (.goto 4, 3) := by decide +kernel
theorem d_B_narrow_19 : decode c_B_narrow 19 = .ok (.iconst 0, 1) := by decide +kernel
theorem d_B_narrow_20 : decode c_B_narrow 20 = .ok (.ireturn, 1) := by decide +kernel
theorem d_B_narrow_21 : decode c_B_narrow 21 = .ok (.iload_n 2, 1) := by decide +kernel
theorem d_B_narrow_22 : decode c_B_narrow 22 = .ok (.invokestatic 55, 3) := by decide +kernel
theorem d_B_narrow_25 : decode c_B_narrow 25 = .ok (.i2l, 1) := by decide +kernel
theorem d_B_narrow_26 : decode c_B_narrow 26 = .ok (.lstore 5, 2) := by decide +kernel
theorem d_B_narrow_28 : decode c_B_narrow 28 = .ok (.iload_n 2, 1) := by decide +kernel
theorem d_B_narrow_29 : decode c_B_narrow 29 = .ok (.ifCond .le 10, 3) := by decide +kernel
theorem d_B_narrow_32 : decode c_B_narrow 32 = .ok (.iload_n 3, 1) := by decide +kernel
theorem d_B_narrow_33 : decode c_B_narrow 33 = .ok (.iload_n 1, 1) := by decide +kernel
theorem d_B_narrow_34 : decode c_B_narrow 34 = .ok (.isub, 1) := by decide +kernel
theorem d_B_narrow_35 : decode c_B_narrow 35 = .ok (.i2l, 1) := by decide +kernel
theorem d_B_narrow_36 : decode c_B_narrow 36 = .ok (.goto 8, 3) := by decide +kernel
theorem d_B_narrow_39 : decode c_B_narrow 39 = .ok (.iload_n 1, 1) := by decide +kernel
theorem d_B_narrow_40 : decode c_B_narrow 40 = .ok (.iload 4, 2) := by decide +kernel
theorem d_B_narrow_42 : decode c_B_narrow 42 = .ok (.isub, 1) := by decide +kernel
theorem d_B_narrow_43 : decode c_B_narrow 43 = .ok (.i2l, 1) := by decide +kernel
theorem d_B_narrow_44 : decode c_B_narrow 44 = .ok (.lstore 7, 2) := by decide +kernel
theorem d_B_narrow_46 : decode c_B_narrow 46 = .ok (.iload_n 2, 1) := by decide +kernel
theorem d_B_narrow_47 : decode c_B_narrow 47 = .ok (.ifCond .le 11, 3) := by decide +kernel
theorem d_B_narrow_50 : decode c_B_narrow 50 = .ok (.iload 4, 2) := by decide +kernel
theorem d_B_narrow_52 : decode c_B_narrow 52 = .ok (.iload_n 1, 1) := by decide +kernel
theorem d_B_narrow_53 : decode c_B_narrow 53 = .ok (.isub, 1) := by decide +kernel
theorem d_B_narrow_54 : decode c_B_narrow 54 = .ok (.i2l, 1) := by decide +kernel
theorem d_B_narrow_55 : decode c_B_narrow 55 = .ok (.goto 7, 3) := by decide +kernel
theorem d_B_narrow_58 : decode c_B_narrow 58 = .ok (.iload_n 1, 1) := by decide +kernel
theorem d_B_narrow_59 : decode c_B_narrow 59 = .ok (.iload_n 3, 1) := by decide +kernel
theorem d_B_narrow_60 : decode c_B_narrow 60 = .ok (.isub, 1) := by decide +kernel
theorem d_B_narrow_61 : decode c_B_narrow 61 = .ok (.i2l, 1) := by decide +kernel
theorem d_B_narrow_62 : decode c_B_narrow 62 = .ok (.lstore 9, 2) := by decide +kernel
theorem d_B_narrow_64 : decode c_B_narrow 64 = .ok (.lload 7, 2) := by decide +kernel
theorem d_B_narrow_66 : decode c_B_narrow 66 = .ok (.aload_n 0, 1) := by decide +kernel
theorem d_B_narrow_67 : decode c_B_narrow 67 = .ok (.getfield 46, 3) := by decide +kernel
theorem d_B_narrow_70 : decode c_B_narrow 70 = .ok (.lmul, 1) := by decide +kernel
theorem d_B_narrow_71 : decode c_B_narrow 71 = .ok (.aload_n 0, 1) := by decide +kernel
theorem d_B_narrow_72 : decode c_B_narrow 72 = .ok (.getfield 42, 3) := by decide +kernel
theorem d_B_narrow_75 : decode c_B_narrow 75 = .ok (.lload 5, 2) := by decide +kernel
theorem d_B_narrow_77 : decode c_B_narrow 77 = .ok (.lmul, 1) := by decide +kernel
theorem d_B_narrow_78 : decode c_B_narrow 78 = .ok (.lcmp, 1) := by decide +kernel
theorem d_B_narrow_79 : decode c_B_narrow 79 = .ok (.ifCond .le 15, 3) := by decide +kernel
theorem d_B_narrow_82 : decode c_B_narrow 82 = .ok (.aload_n 0, 1) := by decide +kernel
theorem d_B_narrow_83 : decode c_B_narrow 83 = .ok (.lload 7, 2) := by decide +kernel
theorem d_B_narrow_85 : decode c_B_narrow 85 = .ok (.putfield 42, 3) := by decide +kernel
theorem d_B_narrow_88 : decode c_B_narrow 88 = .ok (.aload_n 0, 1) := by decide +kernel
theorem d_B_narrow_89 : decode c_B_narrow 89 = .ok (.lload 5, 2) := by decide +kernel
theorem d_B_narrow_91 : decode c_B_narrow 91 = .ok (.putfield 46, 3) := by decide +kernel
theorem d_B_narrow_94 : decode c_B_narrow 94 = .ok (.lload 9, 2) := by decide +kernel
theorem d_B_narrow_96 : decode c_B_narrow 96 = .ok (.aload_n 0, 1) := by decide +kernel
theorem d_B_narrow_97 : decode c_B_narrow 97 = .ok (.getfield 52, 3) := by decide +kernel
theorem d_B_narrow_100 : decode c_B_narrow 100 = .ok (.lmul, 1) := by decide +kernel
theorem d_B_narrow_101 : decode c_B_narrow 101 = .ok (.aload_n 0, 1) := by decide +kernel
theorem d_B_narrow_102 : decode c_B_narrow 102 = .ok (.getfield 49, 3) := by decide +kernel
theorem d_B_narrow_105 : decode c_B_narrow 105 = .ok (.lload 5, 2) := by decide +kernel
theorem d_B_narrow_107 : decode c_B_narrow 107 = .ok (.lmul, 1) := by decide +kernel
theorem d_B_narrow_108 : decode c_B_narrow 108 = .ok (.lcmp, 1) := by decide +kernel
theorem d_B_narrow_109 : decode c_B_narrow 109 = .ok (.ifCond .ge 15, 3) := by decide +kernel
theorem d_B_narrow_112 : decode c_B_narrow 112 = .ok (.aload_n 0, 1) := by decide +kernel
theorem d_B_narrow_113 : decode c_B_narrow 113 = .ok (.lload 9, 2) := by decide +kernel
theorem d_B_narrow_115 : decode c_B_narrow 115 = .ok (.putfield 49, 3) := by decide +kernel
theorem d_B_narrow_118 : decode c_B_narrow 118 = .ok (.aload_n 0, 1) := by decide +kernel
theorem d_B_narrow_119 : decode c_B_narrow 119 = .ok (.lload 5, 2) := by decide +kernel
theorem d_B_narrow_121 : decode c_B_narrow 121 = .ok (.putfield 52, 3) := by decide +kernel
theorem d_B_narrow_124 : decode c_B_narrow 124 = .ok (.aload_n 0, 1) := by decide +kernel
theorem d_B_narrow_125 : decode c_B_narrow 125 = .ok (.getfield 42, 3) := by decide +kernel
theorem d_B_narrow_128 : decode c_B_narrow 128 = .ok (.aload_n 0, 1) := by decide +kernel
theorem d_B_narrow_129 : decode c_B_narrow 129 = .ok (.getfield 52, 3) := by decide +kernel
theorem d_B_narrow_132 : decode c_B_narrow 132 = .ok (.lmul, 1) := by decide +kernel
theorem d_B_narrow_133 : decode c_B_narrow 133 = .ok (.aload_n 0, 1) := by decide +kernel
theorem d_B_narrow_134 : decode c_B_narrow 134 = .ok (.getfield 49, 3) := by decide +kernel
theorem d_B_narrow_137 : decode c_B_narrow 137 = .ok (.aload_n 0, 1) := by decide +kernel
theorem d_B_narrow_138 : decode c_B_narrow 138 = .ok (.getfield 46, 3) := by decide +kernel
theorem d_B_narrow_141 : decode c_B_narrow 141 = .ok (.lmul, 1) := by decide +kernel
theorem d_B_narrow_142 : decode c_B_narrow 142 = .ok (.lcmp, 1) := by decide +kernel
theorem d_B_narrow_143 : decode c_B_narrow 143 = .ok (.ifCond .gt 7, 3) := by decide +kernel
theorem d_B_narrow_146 : decode c_B_narrow 146 = .ok (.iconst 1, 1) := by decide +kernel
theorem d_B_narrow_147 : decode c_B_narrow 147 = .ok (.goto 4, 3) := by decide +kernel
theorem d_B_narrow_150 : decode c_B_narrow 150 = .ok (.iconst 0, 1) := by decide +kernel
theorem d_B_narrow_151 : decode c_B_narrow 151 = .ok (.ireturn, 1) := by decide +kernel
theorem d_B_dipsBelow_0 : decode c_B_dipsBelow 0 = .ok (.aload_n 0, 1) := by decide +kernel
theorem d_B_dipsBelow_1 : decode c_B_dipsBelow 1 = .ok (.getfield 46, 3) := by decide +kernel
theorem d_B_dipsBelow_4 : decode c_B_dipsBelow 4 = .ok (.aload_n 0, 1) := by decide +kernel
theorem d_B_dipsBelow_5 : decode c_B_dipsBelow 5 = .ok (.getfield 42, 3) := by decide +kernel
theorem d_B_dipsBelow_8 : decode c_B_dipsBelow 8 = .ok (.lsub, 1) := by decide +kernel
theorem d_B_dipsBelow_9 : decode c_B_dipsBelow 9 = .ok (.lload_n 3, 1) := by decide +kernel
theorem d_B_dipsBelow_10 : decode c_B_dipsBelow 10 = .ok (.lmul, 1) := by decide +kernel
theorem d_B_dipsBelow_11 : decode c_B_dipsBelow 11 = .ok (.aload_n 0, 1) := by decide +kernel
theorem d_B_dipsBelow_12 : decode c_B_dipsBelow 12 = .ok (.getfield 42, 3) := by decide +kernel
theorem d_B_dipsBelow_15 : decode c_B_dipsBelow 15 = .ok (.lload 5, 2) := by decide +kernel
theorem d_B_dipsBelow_17 : decode c_B_dipsBelow 17 = .ok (.lmul, 1) := by decide +kernel
theorem d_B_dipsBelow_18 : decode c_B_dipsBelow 18 = .ok (.ladd, 1) := by decide +kernel
theorem d_B_dipsBelow_19 : decode c_B_dipsBelow 19 = .ok (.lstore 7, 2) := by decide +kernel
theorem d_B_dipsBelow_21 : decode c_B_dipsBelow 21 = .ok (.aload_n 0, 1) := by decide +kernel
theorem d_B_dipsBelow_22 : decode c_B_dipsBelow 22 = .ok (.getfield 52, 3) := by decide +kernel
theorem d_B_dipsBelow_25 : decode c_B_dipsBelow 25 = .ok (.aload_n 0, 1) := by decide +kernel
theorem d_B_dipsBelow_26 : decode c_B_dipsBelow 26 = .ok (.getfield 49, 3) := by decide +kernel
theorem d_B_dipsBelow_29 : decode c_B_dipsBelow 29 = .ok (.lsub, 1) := by decide +kernel
theorem d_B_dipsBelow_30 : decode c_B_dipsBelow 30 = .ok (.lload_n 3, 1) := by decide +kernel
theorem d_B_dipsBelow_31 : decode c_B_dipsBelow 31 = .ok (.lmul, 1) := by decide +kernel
theorem d_B_dipsBelow_32 : decode c_B_dipsBelow 32 = .ok (.aload_n 0, 1) := by decide +kernel
theorem d_B_dipsBelow_33 : decode c_B_dipsBelow 33 = .ok (.getfield 49, 3) := by decide +kernel
theorem d_B_dipsBelow_36 : decode c_B_dipsBelow 36 = .ok (.lload 5, 2) := by decide +kernel
theorem d_B_dipsBelow_38 : decode c_B_dipsBelow 38 = .ok (.lmul, 1) := by decide +kernel
theorem d_B_dipsBelow_39 : decode c_B_dipsBelow 39 = .ok (.ladd, 1) := by decide +kernel
theorem d_B_dipsBelow_40 : decode c_B_dipsBelow 40 = .ok (.lstore 9, 2) := by decide +kernel
theorem d_B_dipsBelow_42 : decode c_B_dipsBelow 42 = .ok (.lload 7, 2) := by decide +kernel
theorem d_B_dipsBelow_44 : decode c_B_dipsBelow 44 = .ok (.lload_n 1, 1) := by decide +kernel
theorem d_B_dipsBelow_45 : decode c_B_dipsBelow 45 = .ok (.aload_n 0, 1) := by decide +kernel
theorem d_B_dipsBelow_46 : decode c_B_dipsBelow 46 = .ok (.getfield 46, 3) := by decide +kernel
theorem d_B_dipsBelow_49 : decode c_B_dipsBelow 49 = .ok (.lmul, 1) := by decide +kernel
theorem d_B_dipsBelow_50 : decode c_B_dipsBelow 50 = .ok (.lcmp, 1) := by decide +kernel
theorem d_B_dipsBelow_51 : decode c_B_dipsBelow 51 = .ok (.ifCond .lt 15, 3) := by decide +kernel
theorem d_B_dipsBelow_54 : decode c_B_dipsBelow 54 = .ok (.lload 9, 2) := by decide +kernel
theorem d_B_dipsBelow_56 : decode c_B_dipsBelow 56 = .ok (.lload_n 1, 1) := by decide +kernel
theorem d_B_dipsBelow_57 : decode c_B_dipsBelow 57 = .ok (.aload_n 0, 1) := by decide +kernel
theorem d_B_dipsBelow_58 : decode c_B_dipsBelow 58 = .ok (.getfield 52, 3) := by decide +kernel
theorem d_B_dipsBelow_61 : decode c_B_dipsBelow 61 = .ok (.lmul, 1) := by decide +kernel
theorem d_B_dipsBelow_62 : decode c_B_dipsBelow 62 = .ok (.lcmp, 1) := by decide +kernel
theorem d_B_dipsBelow_63 : decode c_B_dipsBelow 63 = .ok (.ifCond .ge 7, 3) := by decide +kernel
theorem d_B_dipsBelow_66 : decode c_B_dipsBelow 66 = .ok (.iconst 1, 1) := by decide +kernel
theorem d_B_dipsBelow_67 : decode c_B_dipsBelow 67 = .ok (.goto 4, 3) := by decide +kernel
theorem d_B_dipsBelow_70 : decode c_B_dipsBelow 70 = .ok (.iconst 0, 1) := by decide +kernel
theorem d_B_dipsBelow_71 : decode c_B_dipsBelow 71 = .ok (.ireturn, 1) := by decide +kernel
end
section
theorem d_M_init_0 : decode c_M_init 0 = .ok (.aload_n 0, 1) := by decide +kernel
theorem d_M_init_1 : decode c_M_init 1 = .ok (.invokespecial 1, 3) := by decide +kernel
theorem d_M_init_4 : decode c_M_init 4 = .ok (.aload_n 0, 1) := by decide +kernel
theorem d_M_init_5 : decode c_M_init 5 = .ok (.bipush 60, 2) := by decide +kernel
theorem d_M_init_7 : decode c_M_init 7 = .ok (.newarray .int, 2) := by decide +kernel
theorem d_M_init_9 : decode c_M_init 9 = .ok (.putfield 7, 3) := by decide +kernel
theorem d_M_init_12 : decode c_M_init 12 = .ok (.aload_n 0, 1) := by decide +kernel
theorem d_M_init_13 : decode c_M_init 13 = .ok (.bipush 60, 2) := by decide +kernel
theorem d_M_init_15 : decode c_M_init 15 = .ok (.newarray .int, 2) := by decide +kernel
theorem d_M_init_17 : decode c_M_init 17 = .ok (.putfield 13, 3) := by decide +kernel
theorem d_M_init_20 : decode c_M_init 20 = .ok (.aload_n 0, 1) := by decide +kernel
theorem d_M_init_21 : decode c_M_init 21 = .ok (.bipush 60, 2) := by decide +kernel
theorem d_M_init_23 : decode c_M_init 23 = .ok (.newarray .int, 2) := by decide +kernel
theorem d_M_init_25 : decode c_M_init 25 = .ok (.putfield 16, 3) := by decide +kernel
theorem d_M_init_28 : decode c_M_init 28 = .ok (.aload_n 0, 1) := by decide +kernel
theorem d_M_init_29 : decode c_M_init 29 = .ok (.bipush 60, 2) := by decide +kernel
theorem d_M_init_31 : decode c_M_init 31 = .ok (.newarray .int, 2) := by decide +kernel
theorem d_M_init_33 : decode c_M_init 33 = .ok (.putfield 19, 3) := by decide +kernel
theorem d_M_init_36 : decode c_M_init 36 = .ok (.aload_n 0, 1) := by decide +kernel
theorem d_M_init_37 : decode c_M_init 37 = .ok (.bipush 60, 2) := by decide +kernel
theorem d_M_init_39 : decode c_M_init 39 = .ok (.newarray .int, 2) := by decide +kernel
theorem d_M_init_41 : decode c_M_init 41 = .ok (.putfield 22, 3) := by decide +kernel
theorem d_M_init_44 : decode c_M_init 44 = .ok (.aload_n 0, 1) := by decide +kernel
theorem d_M_init_45 : decode c_M_init 45 = .ok (.bipush 120, 2) := by decide +kernel
theorem d_M_init_47 : decode c_M_init 47 = .ok (.newarray .int, 2) := by decide +kernel
theorem d_M_init_49 : decode c_M_init 49 = .ok (.putfield 25, 3) := by decide +kernel
theorem d_M_init_52 : decode c_M_init 52 = .ok (.aload_n 0, 1) := by decide +kernel
theorem d_M_init_53 : decode c_M_init 53 = .ok (.bipush 40, 2) := by decide +kernel
theorem d_M_init_55 : decode c_M_init 55 = .ok (.newarray .int, 2) := by decide +kernel
theorem d_M_init_57 : decode c_M_init 57 = .ok (.putfield 28, 3) := by decide +kernel
theorem d_M_init_60 : decode c_M_init 60 = .ok (.aload_n 0, 1) := by decide +kernel
theorem d_M_init_61 : decode c_M_init 61 = .ok (.bipush 110, 2) := by decide +kernel
theorem d_M_init_63 : decode c_M_init 63 = .ok (.putfield 31, 3) := by decide +kernel
theorem d_M_init_66 : decode c_M_init 66 = .ok (.aload_n 0, 1) := by decide +kernel
theorem d_M_init_67 : decode c_M_init 67 = .ok (.bipush 20, 2) := by decide +kernel
theorem d_M_init_69 : decode c_M_init 69 = .ok (.putfield 35, 3) := by decide +kernel
theorem d_M_init_72 : decode c_M_init 72 = .ok (.aload_n 0, 1) := by decide +kernel
theorem d_M_init_73 : decode c_M_init 73 = .ok (.bipush 25, 2) := by decide +kernel
theorem d_M_init_75 : decode c_M_init 75 = .ok (.putfield 38, 3) := by decide +kernel
theorem d_M_init_78 : decode c_M_init 78 = .ok (.aload_n 0, 1) := by decide +kernel
theorem d_M_init_79 : decode c_M_init 79 = .ok (.sipush 450, 3) := by decide +kernel
theorem d_M_init_82 : decode c_M_init 82 = .ok (.putfield 41, 3) := by decide +kernel
theorem d_M_init_85 : decode c_M_init 85 = .ok (.return_, 1) := by decide +kernel
theorem d_M_within_0 : decode c_M_within 0 = .ok (.iload_n 0, 1) := by decide +kernel
theorem d_M_within_1 : decode c_M_within 1 = .ok (.iload_n 1, 1) := by decide +kernel
theorem d_M_within_2 : decode c_M_within 2 = .ok (.if_icmp .lt 12, 3) := by decide +kernel
theorem d_M_within_5 : decode c_M_within 5 = .ok (.iload_n 0, 1) := by decide +kernel
theorem d_M_within_6 : decode c_M_within 6 = .ok (.iload_n 2, 1) := by decide +kernel
theorem d_M_within_7 : decode c_M_within 7 = .ok (.if_icmp .gt 7, 3) := by decide +kernel
theorem d_M_within_10 : decode c_M_within 10 = .ok (.iconst 1, 1) := by decide +kernel
theorem d_M_within_11 : decode c_M_within 11 = .ok (.goto 4, 3) := by decide +kernel
theorem d_M_within_14 : decode c_M_within 14 = .ok (.iconst 0, 1) := by decide +kernel
theorem d_M_within_15 : decode c_M_within 15 = .ok (.ireturn, 1) := by decide +kernel
theorem d_M_isStation_0 : decode c_M_isStation 0 = .ok (.iload_n 1, 1) := by decide +kernel
theorem d_M_isStation_1 : decode c_M_isStation 1 = .ok (.ifCond .lt 15, 3) := by decide +kernel
theorem d_M_isStation_4 : decode c_M_isStation 4 = .ok (.iload_n 1, 1) := by decide +kernel
theorem d_M_isStation_5 : decode c_M_isStation 5 = .ok (.aload_n 0, 1) := by decide +kernel
theorem d_M_isStation_6 : decode c_M_isStation 6 = .ok (.getfield 44, 3) := by decide +kernel
theorem d_M_isStation_9 : decode c_M_isStation 9 = .ok (.if_icmp .ge 7, 3) := by decide +kernel
theorem d_M_isStation_12 : decode c_M_isStation 12 = .ok (.iconst 1, 1) := by decide +kernel
theorem d_M_isStation_13 : decode c_M_isStation 13 = .ok (.goto 4, 3) := by decide +kernel
theorem d_M_isStation_16 : decode c_M_isStation 16 = .ok (.iconst 0, 1) := by decide +kernel
theorem d_M_isStation_17 : decode c_M_isStation 17 = .ok (.ireturn, 1) := by decide +kernel
theorem d_M_root_0 : decode c_M_root 0 = .ok (.lconst 0, 1) := by decide +kernel
theorem d_M_root_1 : decode c_M_root 1 = .ok (.lstore_n 2, 1) := by decide +kernel
theorem d_M_root_2 : decode c_M_root 2 = .ok (.ldc2_w 47, 3) := by decide +kernel
theorem d_M_root_5 : decode c_M_root 5 = .ok (.lstore 4, 2) := by decide +kernel
theorem d_M_root_7 : decode c_M_root 7 = .ok (.lload 4, 2) := by decide +kernel
theorem d_M_root_9 : decode c_M_root 9 = .ok (.lload_n 2, 1) := by decide +kernel
theorem d_M_root_10 : decode c_M_root 10 = .ok (.lsub, 1) := by decide +kernel
theorem d_M_root_11 : decode c_M_root 11 = .ok (.lconst 1, 1) := by decide +kernel
theorem d_M_root_12 : decode c_M_root 12 = .ok (.lcmp, 1) := by decide +kernel
theorem d_M_root_13 : decode c_M_root 13 = .ok (.ifCond .le 59, 3) := by decide +kernel
theorem d_M_root_16 : decode c_M_root 16 = .ok (.lload_n 2, 1) := by decide +kernel
theorem d_M_root_17 : decode c_M_root 17 = .ok (.lload 4, 2) := by decide +kernel
theorem d_M_root_19 : decode c_M_root 19 = .ok (.ladd, 1) := by decide +kernel
theorem d_M_root_20 : decode c_M_root 20 = .ok (.ldc2_w 49, 3) := by decide +kernel
theorem d_M_root_23 : decode c_M_root 23 = .ok (.ldiv, 1) := by decide +kernel
theorem d_M_root_24 : decode c_M_root 24 = .ok (.lstore 6, 2) := by decide +kernel
theorem d_M_root_26 : decode c_M_root 26 = .ok (.lload 6, 2) := by decide +kernel
theorem d_M_root_28 : decode c_M_root 28 = .ok (.lload 6, 2) := by decide +kernel
theorem d_M_root_30 : decode c_M_root 30 = .ok (.lmul, 1) := by decide +kernel
theorem d_M_root_31 : decode c_M_root 31 = .ok (.lload_n 0, 1) := by decide +kernel
theorem d_M_root_32 : decode c_M_root 32 = .ok (.lcmp, 1) := by decide +kernel
theorem d_M_root_33 : decode c_M_root 33 = .ok (.ifCond .gt 7, 3) := by decide +kernel
theorem d_M_root_36 : decode c_M_root 36 = .ok (.iconst 1, 1) := by decide +kernel
theorem d_M_root_37 : decode c_M_root 37 = .ok (.goto 4, 3) := by decide +kernel
theorem d_M_root_40 : decode c_M_root 40 = .ok (.iconst 0, 1) := by decide +kernel
theorem d_M_root_41 : decode c_M_root 41 = .ok (.istore 8, 2) := by decide +kernel
theorem d_M_root_43 : decode c_M_root 43 = .ok (.iload 8, 2) := by decide +kernel
theorem d_M_root_45 : decode c_M_root 45 = .ok (.ifCond .eq 8, 3) := by decide +kernel
theorem d_M_root_48 : decode c_M_root 48 = .ok (.lload 6, 2) := by decide +kernel
theorem d_M_root_50 : decode c_M_root 50 = .ok (.goto 4, 3) := by decide +kernel
theorem d_M_root_53 : decode c_M_root 53 = .ok (.lload_n 2, 1) := by decide +kernel
theorem d_M_root_54 : decode c_M_root 54 = .ok (.lstore_n 2, 1) := by decide +kernel
theorem d_M_root_55 : decode c_M_root 55 = .ok (.iload 8, 2) := by decide +kernel
theorem d_M_root_57 : decode c_M_root 57 = .ok (.ifCond .eq 8, 3) := by decide +kernel
theorem d_M_root_60 : decode c_M_root 60 = .ok (.lload 4, 2) := by decide +kernel
theorem d_M_root_62 : decode c_M_root 62 = .ok (.goto 5, 3) := by decide +kernel
theorem d_M_root_65 : decode c_M_root 65 = .ok (.lload 6, 2) := by decide +kernel
theorem d_M_root_67 : decode c_M_root 67 = .ok (.lstore 4, 2) := by decide +kernel
theorem d_M_root_69 : decode c_M_root 69 = .ok (.goto (-62), 3) := by decide +kernel
theorem d_M_root_72 : decode c_M_root 72 = .ok (.lload_n 2, 1) := by decide +kernel
theorem d_M_root_73 : decode c_M_root 73 = .ok (.l2i, 1) := by decide +kernel
theorem d_M_root_74 : decode c_M_root 74 = .ok (.ireturn, 1) := by decide +kernel
theorem d_M_square_0 : decode c_M_square 0 = .ok (.lload_n 0, 1) := by decide +kernel
theorem d_M_square_1 : decode c_M_square 1 = .ok (.lload_n 0, 1) := by decide +kernel
theorem d_M_square_2 : decode c_M_square 2 = .ok (.lmul, 1) := by decide +kernel
theorem d_M_square_3 : decode c_M_square 3 = .ok (.lreturn, 1) := by decide +kernel
theorem d_M_isPoint_0 : decode c_M_isPoint 0 = .ok (.iload_n 0, 1) := by decide +kernel
theorem d_M_isPoint_1 : decode c_M_isPoint 1 = .ok (.sipush (-15000), 3) := by decide +kernel
theorem d_M_isPoint_4 : decode c_M_isPoint 4 = .ok (.sipush 15000, 3) := by decide +kernel
theorem d_M_isPoint_7 : decode c_M_isPoint 7 = .ok (.invokestatic 51, 3) := by decide +kernel
theorem d_M_isPoint_10 : decode c_M_isPoint 10 = .ok (.ifCond .eq 20, 3) := by decide +kernel
theorem d_M_isPoint_13 : decode c_M_isPoint 13 = .ok (.iload_n 1, 1) := by decide +kernel
theorem d_M_isPoint_14 : decode c_M_isPoint 14 = .ok (.sipush (-15000), 3) := by decide +kernel
theorem d_M_isPoint_17 : decode c_M_isPoint 17 = .ok (.sipush 15000, 3) := by decide +kernel
theorem d_M_isPoint_20 : decode c_M_isPoint 20 = .ok (.invokestatic 51, 3) := by decide +kernel
theorem d_M_isPoint_23 : decode c_M_isPoint 23 = .ok (.ifCond .eq 7, 3) := by decide +kernel
theorem d_M_isPoint_26 : decode c_M_isPoint 26 = .ok (.iconst 1, 1) := by decide +kernel
theorem d_M_isPoint_27 : decode c_M_isPoint 27 = .ok (.goto 4, 3) := by decide +kernel
theorem d_M_isPoint_30 : decode c_M_isPoint 30 = .ok (.iconst 0, 1) := by decide +kernel
theorem d_M_isPoint_31 : decode c_M_isPoint 31 = .ok (.ireturn, 1) := by decide +kernel
theorem d_M_station_0 : decode c_M_station 0 = .ok (.iload_n 1, 1) := by decide +kernel
theorem d_M_station_1 : decode c_M_station 1 = .ok (.iload_n 2, 1) := by decide +kernel
theorem d_M_station_2 : decode c_M_station 2 = .ok (.invokestatic 55, 3) := by decide +kernel
theorem d_M_station_5 : decode c_M_station 5 = .ok (.ifCond .eq 23, 3) := by decide +kernel
theorem d_M_station_8 : decode c_M_station 8 = .ok (.iload_n 3, 1) := by decide +kernel
theorem d_M_station_9 : decode c_M_station 9 = .ok (.ldc 59, 2) := by decide +kernel
theorem d_M_station_11 : decode c_M_station 11 = .ok (.ldc 60, 2) := by decide +kernel
theorem d_M_station_13 : decode c_M_station 13 = .ok (.invokestatic 51, 3) := by decide +kernel
theorem d_M_station_16 : decode c_M_station 16 = .ok (.ifCond .eq 12, 3) := by decide +kernel
theorem d_M_station_19 : decode c_M_station 19 = .ok (.aload_n 0, 1) := by decide +kernel
theorem d_M_station_20 : decode c_M_station 20 = .ok (.getfield 44, 3) := by decide +kernel
theorem d_M_station_23 : decode c_M_station 23 = .ok (.bipush 60, 2) := by decide +kernel
theorem d_M_station_25 : decode c_M_station 25 = .ok (.if_icmp .ne 5, 3) := by decide +kernel
theorem d_M_station_28 : decode c_M_station 28 = .ok (.iconst (-1), 1) := by decide +kernel
theorem d_M_station_29 : decode c_M_station 29 = .ok (.ireturn, 1) := by decide +kernel
theorem d_M_station_30 : decode c_M_station 30 = .ok (.aload_n 0, 1) := by decide +kernel
theorem d_M_station_31 : decode c_M_station 31 = .ok (.getfield 44, 3) := by decide +kernel
theorem d_M_station_34 : decode c_M_station 34 = .ok (.istore 4, 2) := by decide +kernel
theorem d_M_station_36 : decode c_M_station 36 = .ok (.aload_n 0, 1) := by decide +kernel
theorem d_M_station_37 : decode c_M_station 37 = .ok (.getfield 7, 3) := by decide +kernel
theorem d_M_station_40 : decode c_M_station 40 = .ok (.iload 4, 2) := by decide +kernel
theorem d_M_station_42 : decode c_M_station 42 = .ok (.iload_n 1, 1) := by decide +kernel
theorem d_M_station_43 : decode c_M_station 43 = .ok (.iastore, 1) := by decide +kernel
theorem d_M_station_44 : decode c_M_station 44 = .ok (.aload_n 0, 1) := by decide +kernel
theorem d_M_station_45 : decode c_M_station 45 = .ok (.getfield 13, 3) := by decide +kernel
theorem d_M_station_48 : decode c_M_station 48 = .ok (.iload 4, 2) := by decide +kernel
theorem d_M_station_50 : decode c_M_station 50 = .ok (.iload_n 2, 1) := by decide +kernel
theorem d_M_station_51 : decode c_M_station 51 = .ok (.iastore, 1) := by decide +kernel
theorem d_M_station_52 : decode c_M_station 52 = .ok (.aload_n 0, 1) := by decide +kernel
theorem d_M_station_53 : decode c_M_station 53 = .ok (.getfield 16, 3) := by decide +kernel
theorem d_M_station_56 : decode c_M_station 56 = .ok (.iload 4, 2) := by decide +kernel
theorem d_M_station_58 : decode c_M_station 58 = .ok (.iload_n 3, 1) := by decide +kernel
theorem d_M_station_59 : decode c_M_station 59 = .ok (.iastore, 1) := by decide +kernel
theorem d_M_station_60 : decode c_M_station 60 = .ok (.aload_n 0, 1) := by decide +kernel
theorem d_M_station_61 : decode c_M_station 61 = .ok (.getfield 22, 3) := by decide +kernel
theorem d_M_station_64 : decode c_M_station 64 = .ok (.iload 4, 2) := by decide +kernel
theorem d_M_station_66 : decode c_M_station 66 = .ok (.bipush 50, 2) := by decide +kernel
theorem d_M_station_68 : decode c_M_station 68 = .ok (.iastore, 1) := by decide +kernel
theorem d_M_station_69 : decode c_M_station 69 = .ok (.aload_n 0, 1) := by decide +kernel
theorem d_M_station_70 : decode c_M_station 70 = .ok (.getfield 25, 3) := by decide +kernel
theorem d_M_station_73 : decode c_M_station 73 = .ok (.iconst 2, 1) := by decide +kernel
theorem d_M_station_74 : decode c_M_station 74 = .ok (.iload 4, 2) := by decide +kernel
theorem d_M_station_76 : decode c_M_station 76 = .ok (.imul, 1) := by decide +kernel
theorem d_M_station_77 : decode c_M_station 77 = .ok (.iconst (-1), 1) := by decide +kernel
theorem d_M_station_78 : decode c_M_station 78 = .ok (.iastore, 1) := by decide +kernel
theorem d_M_station_79 : decode c_M_station 79 = .ok (.aload_n 0, 1) := by decide +kernel
theorem d_M_station_80 : decode c_M_station 80 = .ok (.getfield 25, 3) := by decide +kernel
theorem d_M_station_83 : decode c_M_station 83 = .ok (.iconst 2, 1) := by decide +kernel
theorem d_M_station_84 : decode c_M_station 84 = .ok (.iload 4, 2) := by decide +kernel
theorem d_M_station_86 : decode c_M_station 86 = .ok (.imul, 1) := by decide +kernel
theorem d_M_station_87 : decode c_M_station 87 = .ok (.iconst 1, 1) := by decide +kernel
theorem d_M_station_88 : decode c_M_station 88 = .ok (.iadd, 1) := by decide +kernel
theorem d_M_station_89 : decode c_M_station 89 = .ok (.iconst (-1), 1) := by decide +kernel
theorem d_M_station_90 : decode c_M_station 90 = .ok (.iastore, 1) := by decide +kernel
theorem d_M_station_91 : decode c_M_station 91 = .ok (.iload 4, 2) := by decide +kernel
theorem d_M_station_93 : decode c_M_station 93 = .ok (.ifCond .le 68, 3) := by decide +kernel
theorem d_M_station_96 : decode c_M_station 96 = .ok (.iload_n 1, 1) := by decide +kernel
theorem d_M_station_97 : decode c_M_station 97 = .ok (.aload_n 0, 1) := by decide +kernel
theorem d_M_station_98 : decode c_M_station 98 = .ok (.getfield 7, 3) := by decide +kernel
theorem d_M_station_101 : decode c_M_station 101 = .ok (.iload 4, 2) := by decide +kernel
theorem d_M_station_103 : decode c_M_station 103 = .ok (.iconst 1, 1) := by decide +kernel
theorem d_M_station_104 : decode c_M_station 104 = .ok (.isub, 1) := by decide +kernel
theorem d_M_station_105 : decode c_M_station 105 = .ok (.iaload, 1) := by decide +kernel
theorem d_M_station_106 : decode c_M_station 106 = .ok (.isub, 1) := by decide +kernel
theorem d_M_station_107 : decode c_M_station 107 = .ok (.i2l, 1) := by decide +kernel
theorem d_M_station_108 : decode c_M_station 108 = .ok (.invokestatic 61, 3) := by decide +kernel
theorem d_M_station_111 : decode c_M_station 111 = .ok (.iload_n 2, 1) := by decide +kernel
theorem d_M_station_112 : decode c_M_station 112 = .ok (.aload_n 0, 1) := by decide +kernel
theorem d_M_station_113 : decode c_M_station 113 = .ok (.getfield 13, 3) := by decide +kernel
theorem d_M_station_116 : decode c_M_station 116 = .ok (.iload 4, 2) := by decide +kernel
theorem d_M_station_118 : decode c_M_station 118 = .ok (.iconst 1, 1) := by decide +kernel
theorem d_M_station_119 : decode c_M_station 119 = .ok (.isub, 1) := by decide +kernel
theorem d_M_station_120 : decode c_M_station 120 = .ok (.iaload, 1) := by decide +kernel
theorem d_M_station_121 : decode c_M_station 121 = .ok (.isub, 1) := by decide +kernel
theorem d_M_station_122 : decode c_M_station 122 = .ok (.i2l, 1) := by decide +kernel
theorem d_M_station_123 : decode c_M_station 123 = .ok (.invokestatic 61, 3) := by decide +kernel
theorem d_M_station_126 : decode c_M_station 126 = .ok (.ladd, 1) := by decide +kernel
theorem d_M_station_127 : decode c_M_station 127 = .ok (.invokestatic 65, 3) := by decide +kernel
theorem d_M_station_130 : decode c_M_station 130 = .ok (.istore 5, 2) := by decide +kernel
theorem d_M_station_132 : decode c_M_station 132 = .ok (.aload_n 0, 1) := by decide +kernel
theorem d_M_station_133 : decode c_M_station 133 = .ok (.getfield 19, 3) := by decide +kernel
theorem d_M_station_136 : decode c_M_station 136 = .ok (.iload 4, 2) := by decide +kernel
theorem d_M_station_138 : decode c_M_station 138 = .ok (.aload_n 0, 1) := by decide +kernel
theorem d_M_station_139 : decode c_M_station 139 = .ok (.getfield 19, 3) := by decide +kernel
theorem d_M_station_142 : decode c_M_station 142 = .ok (.iload 4, 2) := by decide +kernel
theorem d_M_station_144 : decode c_M_station 144 = .ok (.iconst 1, 1) := by decide +kernel
theorem d_M_station_145 : decode c_M_station 145 = .ok (.isub, 1) := by decide +kernel
theorem d_M_station_146 : decode c_M_station 146 = .ok (.iaload, 1) := by decide +kernel
theorem d_M_station_147 : decode c_M_station 147 = .ok (.iload 5, 2) := by decide +kernel
theorem d_M_station_149 : decode c_M_station 149 = .ok (.iconst 1, 1) := by decide +kernel
theorem d_M_station_150 : decode c_M_station 150 = .ok (.if_icmp .ge 7, 3) := by decide +kernel
theorem d_M_station_153 : decode c_M_station 153 = .ok (.iconst 1, 1) := by decide +kernel
theorem d_M_station_154 : decode c_M_station 154 = .ok (.goto 5, 3) := by decide +kernel
theorem d_M_station_157 : decode c_M_station 157 = .ok (.iload 5, 2) := by decide +kernel
theorem d_M_station_159 : decode c_M_station 159 = .ok (.iadd, 1) := by decide +kernel
theorem d_M_station_160 : decode c_M_station 160 = .ok (.iastore, 1) := by decide +kernel
theorem d_M_station_161 : decode c_M_station 161 = .ok (.aload_n 0, 1) := by decide +kernel
theorem d_M_station_162 : decode c_M_station 162 = .ok (.dup, 1) := by decide +kernel
theorem d_M_station_163 : decode c_M_station 163 = .ok (.getfield 44, 3) := by decide +kernel
theorem d_M_station_166 : decode c_M_station 166 = .ok (.iconst 1, 1) := by decide +kernel
theorem d_M_station_167 : decode c_M_station 167 = .ok (.iadd, 1) := by decide +kernel
theorem d_M_station_168 : decode c_M_station 168 = .ok (.putfield 44, 3) := by decide +kernel
theorem d_M_station_171 : decode c_M_station 171 = .ok (.iload 4, 2) := by decide +kernel
theorem d_M_station_173 : decode c_M_station 173 = .ok (.ireturn, 1) := by decide +kernel
theorem d_M_heights_0 : decode c_M_heights 0 = .ok (.iload_n 1, 1) := by decide +kernel
theorem d_M_heights_1 : decode c_M_heights 1 = .ok (.iconst 0, 1) := by decide +kernel
theorem d_M_heights_2 : decode c_M_heights 2 = .ok (.sipush 1000, 3) := by decide +kernel
theorem d_M_heights_5 : decode c_M_heights 5 = .ok (.invokestatic 51, 3) := by decide +kernel
theorem d_M_heights_8 : decode c_M_heights 8 = .ok (.ifCond .eq 14, 3) := by decide +kernel
theorem d_M_heights_11 : decode c_M_heights 11 = .ok (.iload_n 2, 1) := by decide +kernel
theorem d_M_heights_12 : decode c_M_heights 12 = .ok (.iconst 0, 1) := by decide +kernel
theorem d_M_heights_13 : decode c_M_heights 13 = .ok (.sipush 1000, 3) := by decide +kernel
theorem d_M_heights_16 : decode c_M_heights 16 = .ok (.invokestatic 51, 3) := by decide +kernel
theorem d_M_heights_19 : decode c_M_heights 19 = .ok (.ifCond .ne 5, 3) := by decide +kernel
theorem d_M_heights_22 : decode c_M_heights 22 = .ok (.iconst 0, 1) := by decide +kernel
theorem d_M_heights_23 : decode c_M_heights 23 = .ok (.ireturn, 1) := by decide +kernel
theorem d_M_heights_24 : decode c_M_heights 24 = .ok (.aload_n 0, 1) := by decide +kernel
theorem d_M_heights_25 : decode c_M_heights 25 = .ok (.iload_n 1, 1) := by decide +kernel
theorem d_M_heights_26 : decode c_M_heights 26 = .ok (.putfield 31, 3) := by decide +kernel
theorem d_M_heights_29 : decode c_M_heights 29 = .ok (.aload_n 0, 1) := by decide +kernel
theorem d_M_heights_30 : decode c_M_heights 30 = .ok (.iload_n 2, 1) := by decide +kernel
theorem d_M_heights_31 : decode c_M_heights 31 = .ok (.putfield 35, 3) := by decide +kernel
theorem d_M_heights_34 : decode c_M_heights 34 = .ok (.iconst 1, 1) := by decide +kernel
theorem d_M_heights_35 : decode c_M_heights 35 = .ok (.ireturn, 1) := by decide +kernel
theorem d_M_clear_0 : decode c_M_clear 0 = .ok (.aload_n 0, 1) := by decide +kernel
theorem d_M_clear_1 : decode c_M_clear 1 = .ok (.iload_n 1, 1) := by decide +kernel
theorem d_M_clear_2 : decode c_M_clear 2 = .ok (.invokevirtual 69, 3) := by decide +kernel
theorem d_M_clear_5 : decode c_M_clear 5 = .ok (.ifCond .eq 23, 3) := by decide +kernel
theorem d_M_clear_8 : decode c_M_clear 8 = .ok (.iload_n 2, 1) := by decide +kernel
theorem d_M_clear_9 : decode c_M_clear 9 = .ok (.iconst 0, 1) := by decide +kernel
theorem d_M_clear_10 : decode c_M_clear 10 = .ok (.iconst 1, 1) := by decide +kernel
theorem d_M_clear_11 : decode c_M_clear 11 = .ok (.invokestatic 51, 3) := by decide +kernel
theorem d_M_clear_14 : decode c_M_clear 14 = .ok (.ifCond .eq 14, 3) := by decide +kernel
theorem d_M_clear_17 : decode c_M_clear 17 = .ok (.iload_n 3, 1) := by decide +kernel
theorem d_M_clear_18 : decode c_M_clear 18 = .ok (.iconst 0, 1) := by decide +kernel
theorem d_M_clear_19 : decode c_M_clear 19 = .ok (.sipush 1000, 3) := by decide +kernel
theorem d_M_clear_22 : decode c_M_clear 22 = .ok (.invokestatic 51, 3) := by decide +kernel
theorem d_M_clear_25 : decode c_M_clear 25 = .ok (.ifCond .ne 5, 3) := by decide +kernel
theorem d_M_clear_28 : decode c_M_clear 28 = .ok (.iconst 0, 1) := by decide +kernel
theorem d_M_clear_29 : decode c_M_clear 29 = .ok (.ireturn, 1) := by decide +kernel
theorem d_M_clear_30 : decode c_M_clear 30 = .ok (.aload_n 0, 1) := by decide +kernel
theorem d_M_clear_31 : decode c_M_clear 31 = .ok (.getfield 25, 3) := by decide +kernel
theorem d_M_clear_34 : decode c_M_clear 34 = .ok (.iconst 2, 1) := by decide +kernel
theorem d_M_clear_35 : decode c_M_clear 35 = .ok (.iload_n 1, 1) := by decide +kernel
theorem d_M_clear_36 : decode c_M_clear 36 = .ok (.imul, 1) := by decide +kernel
theorem d_M_clear_37 : decode c_M_clear 37 = .ok (.iload_n 2, 1) := by decide +kernel
theorem d_M_clear_38 : decode c_M_clear 38 = .ok (.iadd, 1) := by decide +kernel
theorem d_M_clear_39 : decode c_M_clear 39 = .ok (.iload_n 3, 1) := by decide +kernel
theorem d_M_clear_40 : decode c_M_clear 40 = .ok (.iastore, 1) := by decide +kernel
theorem d_M_clear_41 : decode c_M_clear 41 = .ok (.iconst 1, 1) := by decide +kernel
theorem d_M_clear_42 : decode c_M_clear 42 = .ok (.ireturn, 1) := by decide +kernel
theorem d_M_box_0 : decode c_M_box 0 = .ok (.iload_n 1, 1) := by decide +kernel
theorem d_M_box_1 : decode c_M_box 1 = .ok (.iload_n 2, 1) := by decide +kernel
theorem d_M_box_2 : decode c_M_box 2 = .ok (.invokestatic 55, 3) := by decide +kernel
theorem d_M_box_5 : decode c_M_box 5 = .ok (.ifCond .eq 44, 3) := by decide +kernel
theorem d_M_box_8 : decode c_M_box 8 = .ok (.iload_n 3, 1) := by decide +kernel
theorem d_M_box_9 : decode c_M_box 9 = .ok (.iload 4, 2) := by decide +kernel
theorem d_M_box_11 : decode c_M_box 11 = .ok (.invokestatic 55, 3) := by decide +kernel
theorem d_M_box_14 : decode c_M_box 14 = .ok (.ifCond .eq 35, 3) := by decide +kernel
theorem d_M_box_17 : decode c_M_box 17 = .ok (.iload_n 1, 1) := by decide +kernel
theorem d_M_box_18 : decode c_M_box 18 = .ok (.iload_n 3, 1) := by decide +kernel
theorem d_M_box_19 : decode c_M_box 19 = .ok (.if_icmp .gt 30, 3) := by decide +kernel
theorem d_M_box_22 : decode c_M_box 22 = .ok (.iload_n 2, 1) := by decide +kernel
theorem d_M_box_23 : decode c_M_box 23 = .ok (.iload 4, 2) := by decide +kernel
theorem d_M_box_25 : decode c_M_box 25 = .ok (.if_icmp .gt 24, 3) := by decide +kernel
theorem d_M_box_28 : decode c_M_box 28 = .ok (.iload 5, 2) := by decide +kernel
theorem d_M_box_30 : decode c_M_box 30 = .ok (.ldc 59, 2) := by decide +kernel
theorem d_M_box_32 : decode c_M_box 32 = .ok (.ldc 60, 2) := by decide +kernel
theorem d_M_box_34 : decode c_M_box 34 = .ok (.invokestatic 51, 3) := by decide +kernel
theorem d_M_box_37 : decode c_M_box 37 = .ok (.ifCond .eq 12, 3) := by decide +kernel
theorem d_M_box_40 : decode c_M_box 40 = .ok (.aload_n 0, 1) := by decide +kernel
theorem d_M_box_41 : decode c_M_box 41 = .ok (.getfield 73, 3) := by decide +kernel
theorem d_M_box_44 : decode c_M_box 44 = .ok (.bipush 8, 2) := by decide +kernel
theorem d_M_box_46 : decode c_M_box 46 = .ok (.if_icmp .ne 5, 3) := by decide +kernel
theorem d_M_box_49 : decode c_M_box 49 = .ok (.iconst (-1), 1) := by decide +kernel
theorem d_M_box_50 : decode c_M_box 50 = .ok (.ireturn, 1) := by decide +kernel
theorem d_M_box_51 : decode c_M_box 51 = .ok (.aload_n 0, 1) := by decide +kernel
theorem d_M_box_52 : decode c_M_box 52 = .ok (.getfield 28, 3) := by decide +kernel
theorem d_M_box_55 : decode c_M_box 55 = .ok (.iconst 5, 1) := by decide +kernel
theorem d_M_box_56 : decode c_M_box 56 = .ok (.aload_n 0, 1) := by decide +kernel
theorem d_M_box_57 : decode c_M_box 57 = .ok (.getfield 73, 3) := by decide +kernel
theorem d_M_box_60 : decode c_M_box 60 = .ok (.imul, 1) := by decide +kernel
theorem d_M_box_61 : decode c_M_box 61 = .ok (.iload_n 1, 1) := by decide +kernel
theorem d_M_box_62 : decode c_M_box 62 = .ok (.iastore, 1) := by decide +kernel
theorem d_M_box_63 : decode c_M_box 63 = .ok (.aload_n 0, 1) := by decide +kernel
theorem d_M_box_64 : decode c_M_box 64 = .ok (.getfield 28, 3) := by decide +kernel
theorem d_M_box_67 : decode c_M_box 67 = .ok (.iconst 5, 1) := by decide +kernel
theorem d_M_box_68 : decode c_M_box 68 = .ok (.aload_n 0, 1) := by decide +kernel
theorem d_M_box_69 : decode c_M_box 69 = .ok (.getfield 73, 3) := by decide +kernel
theorem d_M_box_72 : decode c_M_box 72 = .ok (.imul, 1) := by decide +kernel
theorem d_M_box_73 : decode c_M_box 73 = .ok (.iconst 1, 1) := by decide +kernel
theorem d_M_box_74 : decode c_M_box 74 = .ok (.iadd, 1) := by decide +kernel
theorem d_M_box_75 : decode c_M_box 75 = .ok (.iload_n 2, 1) := by decide +kernel
theorem d_M_box_76 : decode c_M_box 76 = .ok (.iastore, 1) := by decide +kernel
theorem d_M_box_77 : decode c_M_box 77 = .ok (.aload_n 0, 1) := by decide +kernel
theorem d_M_box_78 : decode c_M_box 78 = .ok (.getfield 28, 3) := by decide +kernel
theorem d_M_box_81 : decode c_M_box 81 = .ok (.iconst 5, 1) := by decide +kernel
theorem d_M_box_82 : decode c_M_box 82 = .ok (.aload_n 0, 1) := by decide +kernel
theorem d_M_box_83 : decode c_M_box 83 = .ok (.getfield 73, 3) := by decide +kernel
theorem d_M_box_86 : decode c_M_box 86 = .ok (.imul, 1) := by decide +kernel
theorem d_M_box_87 : decode c_M_box 87 = .ok (.iconst 2, 1) := by decide +kernel
theorem d_M_box_88 : decode c_M_box 88 = .ok (.iadd, 1) := by decide +kernel
theorem d_M_box_89 : decode c_M_box 89 = .ok (.iload_n 3, 1) := by decide +kernel
theorem d_M_box_90 : decode c_M_box 90 = .ok (.iastore, 1) := by decide +kernel
theorem d_M_box_91 : decode c_M_box 91 = .ok (.aload_n 0, 1) := by decide +kernel
theorem d_M_box_92 : decode c_M_box 92 = .ok (.getfield 28, 3) := by decide +kernel
theorem d_M_box_95 : decode c_M_box 95 = .ok (.iconst 5, 1) := by decide +kernel
theorem d_M_box_96 : decode c_M_box 96 = .ok (.aload_n 0, 1) := by decide +kernel
theorem d_M_box_97 : decode c_M_box 97 = .ok (.getfield 73, 3) := by decide +kernel
theorem d_M_box_100 : decode c_M_box 100 = .ok (.imul, 1) := by decide +kernel
theorem d_M_box_101 : decode c_M_box 101 = .ok (.iconst 3, 1) := by decide +kernel
theorem d_M_box_102 : decode c_M_box 102 = .ok (.iadd, 1) := by decide +kernel
theorem d_M_box_103 : decode c_M_box 103 = .ok (.iload 4, 2) := by decide +kernel
theorem d_M_box_105 : decode c_M_box 105 = .ok (.iastore, 1) := by decide +kernel
theorem d_M_box_106 : decode c_M_box 106 = .ok (.aload_n 0, 1) := by decide +kernel
theorem d_M_box_107 : decode c_M_box 107 = .ok (.getfield 28, 3) := by decide +kernel
theorem d_M_box_110 : decode c_M_box 110 = .ok (.iconst 5, 1) := by decide +kernel
theorem d_M_box_111 : decode c_M_box 111 = .ok (.aload_n 0, 1) := by decide +kernel
theorem d_M_box_112 : decode c_M_box 112 = .ok (.getfield 73, 3) := by decide +kernel
theorem d_M_box_115 : decode c_M_box 115 = .ok (.imul, 1) := by decide +kernel
theorem d_M_box_116 : decode c_M_box 116 = .ok (.iconst 4, 1) := by decide +kernel
theorem d_M_box_117 : decode c_M_box 117 = .ok (.iadd, 1) := by decide +kernel
theorem d_M_box_118 : decode c_M_box 118 = .ok (.iload 5, 2) := by decide +kernel
theorem d_M_box_120 : decode c_M_box 120 = .ok (.iastore, 1) := by decide +kernel
theorem d_M_box_121 : decode c_M_box 121 = .ok (.aload_n 0, 1) := by decide +kernel
theorem d_M_box_122 : decode c_M_box 122 = .ok (.dup, 1) := by decide +kernel
theorem d_M_box_123 : decode c_M_box 123 = .ok (.getfield 73, 3) := by decide +kernel
theorem d_M_box_126 : decode c_M_box 126 = .ok (.iconst 1, 1) := by decide +kernel
theorem d_M_box_127 : decode c_M_box 127 = .ok (.iadd, 1) := by decide +kernel
theorem d_M_box_128 : decode c_M_box 128 = .ok (.putfield 73, 3) := by decide +kernel
theorem d_M_box_131 : decode c_M_box 131 = .ok (.aload_n 0, 1) := by decide +kernel
theorem d_M_box_132 : decode c_M_box 132 = .ok (.getfield 73, 3) := by decide +kernel
theorem d_M_box_135 : decode c_M_box 135 = .ok (.iconst 1, 1) := by decide +kernel
theorem d_M_box_136 : decode c_M_box 136 = .ok (.isub, 1) := by decide +kernel
theorem d_M_box_137 : decode c_M_box 137 = .ok (.ireturn, 1) := by decide +kernel
theorem d_M_speed_0 : decode c_M_speed 0 = .ok (.aload_n 0, 1) := by decide +kernel
theorem d_M_speed_1 : decode c_M_speed 1 = .ok (.iload_n 1, 1) := by decide +kernel
theorem d_M_speed_2 : decode c_M_speed 2 = .ok (.invokevirtual 69, 3) := by decide +kernel
theorem d_M_speed_5 : decode c_M_speed 5 = .ok (.ifCond .eq 14, 3) := by decide +kernel
theorem d_M_speed_8 : decode c_M_speed 8 = .ok (.iload_n 2, 1) := by decide +kernel
theorem d_M_speed_9 : decode c_M_speed 9 = .ok (.iconst 0, 1) := by decide +kernel
theorem d_M_speed_10 : decode c_M_speed 10 = .ok (.sipush 200, 3) := by decide +kernel
theorem d_M_speed_13 : decode c_M_speed 13 = .ok (.invokestatic 51, 3) := by decide +kernel
theorem d_M_speed_16 : decode c_M_speed 16 = .ok (.ifCond .ne 5, 3) := by decide +kernel
theorem d_M_speed_19 : decode c_M_speed 19 = .ok (.iconst 0, 1) := by decide +kernel
theorem d_M_speed_20 : decode c_M_speed 20 = .ok (.ireturn, 1) := by decide +kernel
theorem d_M_speed_21 : decode c_M_speed 21 = .ok (.aload_n 0, 1) := by decide +kernel
theorem d_M_speed_22 : decode c_M_speed 22 = .ok (.getfield 22, 3) := by decide +kernel
theorem d_M_speed_25 : decode c_M_speed 25 = .ok (.iload_n 1, 1) := by decide +kernel
theorem d_M_speed_26 : decode c_M_speed 26 = .ok (.iload_n 2, 1) := by decide +kernel
theorem d_M_speed_27 : decode c_M_speed 27 = .ok (.iastore, 1) := by decide +kernel
theorem d_M_speed_28 : decode c_M_speed 28 = .ok (.iconst 1, 1) := by decide +kernel
theorem d_M_speed_29 : decode c_M_speed 29 = .ok (.ireturn, 1) := by decide +kernel
theorem d_M_brake_0 : decode c_M_brake 0 = .ok (.iload_n 1, 1) := by decide +kernel
theorem d_M_brake_1 : decode c_M_brake 1 = .ok (.iconst 0, 1) := by decide +kernel
theorem d_M_brake_2 : decode c_M_brake 2 = .ok (.bipush 100, 2) := by decide +kernel
theorem d_M_brake_4 : decode c_M_brake 4 = .ok (.invokestatic 51, 3) := by decide +kernel
theorem d_M_brake_7 : decode c_M_brake 7 = .ok (.ifCond .eq 15, 3) := by decide +kernel
theorem d_M_brake_10 : decode c_M_brake 10 = .ok (.iload_n 2, 1) := by decide +kernel
theorem d_M_brake_11 : decode c_M_brake 11 = .ok (.bipush 50, 2) := by decide +kernel
theorem d_M_brake_13 : decode c_M_brake 13 = .ok (.sipush 1000, 3) := by decide +kernel
theorem d_M_brake_16 : decode c_M_brake 16 = .ok (.invokestatic 51, 3) := by decide +kernel
theorem d_M_brake_19 : decode c_M_brake 19 = .ok (.ifCond .ne 5, 3) := by decide +kernel
theorem d_M_brake_22 : decode c_M_brake 22 = .ok (.iconst 0, 1) := by decide +kernel
theorem d_M_brake_23 : decode c_M_brake 23 = .ok (.ireturn, 1) := by decide +kernel
theorem d_M_brake_24 : decode c_M_brake 24 = .ok (.aload_n 0, 1) := by decide +kernel
theorem d_M_brake_25 : decode c_M_brake 25 = .ok (.iload_n 1, 1) := by decide +kernel
theorem d_M_brake_26 : decode c_M_brake 26 = .ok (.putfield 38, 3) := by decide +kernel
theorem d_M_brake_29 : decode c_M_brake 29 = .ok (.aload_n 0, 1) := by decide +kernel
theorem d_M_brake_30 : decode c_M_brake 30 = .ok (.iload_n 2, 1) := by decide +kernel
theorem d_M_brake_31 : decode c_M_brake 31 = .ok (.putfield 41, 3) := by decide +kernel
theorem d_M_brake_34 : decode c_M_brake 34 = .ok (.iconst 1, 1) := by decide +kernel
theorem d_M_brake_35 : decode c_M_brake 35 = .ok (.ireturn, 1) := by decide +kernel
theorem d_M_way_0 : decode c_M_way 0 = .ok (.aload_n 0, 1) := by decide +kernel
theorem d_M_way_1 : decode c_M_way 1 = .ok (.iload_n 1, 1) := by decide +kernel
theorem d_M_way_2 : decode c_M_way 2 = .ok (.invokevirtual 69, 3) := by decide +kernel
theorem d_M_way_5 : decode c_M_way 5 = .ok (.ifCond .eq 12, 3) := by decide +kernel
theorem d_M_way_8 : decode c_M_way 8 = .ok (.aload_n 0, 1) := by decide +kernel
theorem d_M_way_9 : decode c_M_way 9 = .ok (.getfield 19, 3) := by decide +kernel
theorem d_M_way_12 : decode c_M_way 12 = .ok (.iload_n 1, 1) := by decide +kernel
theorem d_M_way_13 : decode c_M_way 13 = .ok (.iaload, 1) := by decide +kernel
theorem d_M_way_14 : decode c_M_way 14 = .ok (.goto 4, 3) := by decide +kernel
theorem d_M_way_17 : decode c_M_way 17 = .ok (.iconst (-1), 1) := by decide +kernel
theorem d_M_way_18 : decode c_M_way 18 = .ok (.ireturn, 1) := by decide +kernel
theorem d_M_isAbove_0 : decode c_M_isAbove 0 = .ok (.aload_n 0, 1) := by decide +kernel
theorem d_M_isAbove_1 : decode c_M_isAbove 1 = .ok (.getfield 19, 3) := by decide +kernel
theorem d_M_isAbove_4 : decode c_M_isAbove 4 = .ok (.iload_n 2, 1) := by decide +kernel
theorem d_M_isAbove_5 : decode c_M_isAbove 5 = .ok (.iaload, 1) := by decide +kernel
theorem d_M_isAbove_6 : decode c_M_isAbove 6 = .ok (.aload_n 0, 1) := by decide +kernel
theorem d_M_isAbove_7 : decode c_M_isAbove 7 = .ok (.getfield 19, 3) := by decide +kernel
theorem d_M_isAbove_10 : decode c_M_isAbove 10 = .ok (.iload_n 1, 1) := by decide +kernel
theorem d_M_isAbove_11 : decode c_M_isAbove 11 = .ok (.iaload, 1) := by decide +kernel
theorem d_M_isAbove_12 : decode c_M_isAbove 12 = .ok (.isub, 1) := by decide +kernel
theorem d_M_isAbove_13 : decode c_M_isAbove 13 = .ok (.i2l, 1) := by decide +kernel
theorem d_M_isAbove_14 : decode c_M_isAbove 14 = .ok (.lstore 4, 2) := by decide +kernel
theorem d_M_isAbove_16 : decode c_M_isAbove 16 = .ok (.aload_n 0, 1) := by decide +kernel
theorem d_M_isAbove_17 : decode c_M_isAbove 17 = .ok (.getfield 19, 3) := by decide +kernel
theorem d_M_isAbove_20 : decode c_M_isAbove 20 = .ok (.iload_n 3, 1) := by decide +kernel
theorem d_M_isAbove_21 : decode c_M_isAbove 21 = .ok (.iaload, 1) := by decide +kernel
theorem d_M_isAbove_22 : decode c_M_isAbove 22 = .ok (.aload_n 0, 1) := by decide +kernel
theorem d_M_isAbove_23 : decode c_M_isAbove 23 = .ok (.getfield 19, 3) := by decide +kernel
theorem d_M_isAbove_26 : decode c_M_isAbove 26 = .ok (.iload_n 1, 1) := by decide +kernel
theorem d_M_isAbove_27 : decode c_M_isAbove 27 = .ok (.iaload, 1) := by decide +kernel
theorem d_M_isAbove_28 : decode c_M_isAbove 28 = .ok (.isub, 1) := by decide +kernel
theorem d_M_isAbove_29 : decode c_M_isAbove 29 = .ok (.i2l, 1) := by decide +kernel
theorem d_M_isAbove_30 : decode c_M_isAbove 30 = .ok (.lstore 6, 2) := by decide +kernel
theorem d_M_isAbove_32 : decode c_M_isAbove 32 = .ok (.lload 4, 2) := by decide +kernel
theorem d_M_isAbove_34 : decode c_M_isAbove 34 = .ok (.lconst 0, 1) := by decide +kernel
theorem d_M_isAbove_35 : decode c_M_isAbove 35 = .ok (.lcmp, 1) := by decide +kernel
theorem d_M_isAbove_36 : decode c_M_isAbove 36 = .ok (.ifCond .ge 13, 3) := by decide +kernel
theorem d_M_isAbove_39 : decode c_M_isAbove 39 = .ok (.lload 4, 2) := by decide +kernel
theorem d_M_isAbove_41 : decode c_M_isAbove 41 = .ok (.lneg, 1) := by decide +kernel
theorem d_M_isAbove_42 : decode c_M_isAbove 42 = .ok (.lstore 4, 2) := by decide +kernel
theorem d_M_isAbove_44 : decode c_M_isAbove 44 = .ok (.lload 6, 2) := by decide +kernel
theorem d_M_isAbove_46 : decode c_M_isAbove 46 = .ok (.lneg, 1) := by decide +kernel
theorem d_M_isAbove_47 : decode c_M_isAbove 47 = .ok (.lstore 6, 2) := by decide +kernel
theorem d_M_isAbove_49 : decode c_M_isAbove 49 = .ok (.aload_n 0, 1) := by decide +kernel
theorem d_M_isAbove_50 : decode c_M_isAbove 50 = .ok (.getfield 16, 3) := by decide +kernel
theorem d_M_isAbove_53 : decode c_M_isAbove 53 = .ok (.iload_n 3, 1) := by decide +kernel
theorem d_M_isAbove_54 : decode c_M_isAbove 54 = .ok (.iaload, 1) := by decide +kernel
theorem d_M_isAbove_55 : decode c_M_isAbove 55 = .ok (.i2l, 1) := by decide +kernel
theorem d_M_isAbove_56 : decode c_M_isAbove 56 = .ok (.lload 4, 2) := by decide +kernel
theorem d_M_isAbove_58 : decode c_M_isAbove 58 = .ok (.lmul, 1) := by decide +kernel
theorem d_M_isAbove_59 : decode c_M_isAbove 59 = .ok (.lload 4, 2) := by decide +kernel
theorem d_M_isAbove_61 : decode c_M_isAbove 61 = .ok (.lload 6, 2) := by decide +kernel
theorem d_M_isAbove_63 : decode c_M_isAbove 63 = .ok (.lsub, 1) := by decide +kernel
theorem d_M_isAbove_64 : decode c_M_isAbove 64 = .ok (.aload_n 0, 1) := by decide +kernel
theorem d_M_isAbove_65 : decode c_M_isAbove 65 = .ok (.getfield 16, 3) := by decide +kernel
theorem d_M_isAbove_68 : decode c_M_isAbove 68 = .ok (.iload_n 1, 1) := by decide +kernel
theorem d_M_isAbove_69 : decode c_M_isAbove 69 = .ok (.iaload, 1) := by decide +kernel
theorem d_M_isAbove_70 : decode c_M_isAbove 70 = .ok (.aload_n 0, 1) := by decide +kernel
theorem d_M_isAbove_71 : decode c_M_isAbove 71 = .ok (.getfield 31, 3) := by decide +kernel
theorem d_M_isAbove_74 : decode c_M_isAbove 74 = .ok (.iadd, 1) := by decide +kernel
theorem d_M_isAbove_75 : decode c_M_isAbove 75 = .ok (.i2l, 1) := by decide +kernel
theorem d_M_isAbove_76 : decode c_M_isAbove 76 = .ok (.lmul, 1) := by decide +kernel
theorem d_M_isAbove_77 : decode c_M_isAbove 77 = .ok (.lload 6, 2) := by decide +kernel
theorem d_M_isAbove_79 : decode c_M_isAbove 79 = .ok (.aload_n 0, 1) := by decide +kernel
theorem d_M_isAbove_80 : decode c_M_isAbove 80 = .ok (.getfield 16, 3) := by decide +kernel
theorem d_M_isAbove_83 : decode c_M_isAbove 83 = .ok (.iload_n 2, 1) := by decide +kernel
theorem d_M_isAbove_84 : decode c_M_isAbove 84 = .ok (.iaload, 1) := by decide +kernel
theorem d_M_isAbove_85 : decode c_M_isAbove 85 = .ok (.aload_n 0, 1) := by decide +kernel
theorem d_M_isAbove_86 : decode c_M_isAbove 86 = .ok (.getfield 35, 3) := by decide +kernel
theorem d_M_isAbove_89 : decode c_M_isAbove 89 = .ok (.iadd, 1) := by decide +kernel
theorem d_M_isAbove_90 : decode c_M_isAbove 90 = .ok (.i2l, 1) := by decide +kernel
theorem d_M_isAbove_91 : decode c_M_isAbove 91 = .ok (.lmul, 1) := by decide +kernel
theorem d_M_isAbove_92 : decode c_M_isAbove 92 = .ok (.ladd, 1) := by decide +kernel
theorem d_M_isAbove_93 : decode c_M_isAbove 93 = .ok (.lcmp, 1) := by decide +kernel
theorem d_M_isAbove_94 : decode c_M_isAbove 94 = .ok (.ifCond .le 7, 3) := by decide +kernel
theorem d_M_isAbove_97 : decode c_M_isAbove 97 = .ok (.iconst 1, 1) := by decide +kernel
theorem d_M_isAbove_98 : decode c_M_isAbove 98 = .ok (.goto 4, 3) := by decide +kernel
theorem d_M_isAbove_101 : decode c_M_isAbove 101 = .ok (.iconst 0, 1) := by decide +kernel
theorem d_M_isAbove_102 : decode c_M_isAbove 102 = .ok (.ireturn, 1) := by decide +kernel
theorem d_M_beside_0 : decode c_M_beside 0 = .ok (.aload_n 0, 1) := by decide +kernel
theorem d_M_beside_1 : decode c_M_beside 1 = .ok (.getfield 7, 3) := by decide +kernel
theorem d_M_beside_4 : decode c_M_beside 4 = .ok (.iload_n 2, 1) := by decide +kernel
theorem d_M_beside_5 : decode c_M_beside 5 = .ok (.iaload, 1) := by decide +kernel
theorem d_M_beside_6 : decode c_M_beside 6 = .ok (.aload_n 0, 1) := by decide +kernel
theorem d_M_beside_7 : decode c_M_beside 7 = .ok (.getfield 7, 3) := by decide +kernel
theorem d_M_beside_10 : decode c_M_beside 10 = .ok (.iload_n 1, 1) := by decide +kernel
theorem d_M_beside_11 : decode c_M_beside 11 = .ok (.iaload, 1) := by decide +kernel
theorem d_M_beside_12 : decode c_M_beside 12 = .ok (.isub, 1) := by decide +kernel
theorem d_M_beside_13 : decode c_M_beside 13 = .ok (.i2l, 1) := by decide +kernel
theorem d_M_beside_14 : decode c_M_beside 14 = .ok (.lstore 4, 2) := by decide +kernel
theorem d_M_beside_16 : decode c_M_beside 16 = .ok (.aload_n 0, 1) := by decide +kernel
theorem d_M_beside_17 : decode c_M_beside 17 = .ok (.getfield 13, 3) := by decide +kernel
theorem d_M_beside_20 : decode c_M_beside 20 = .ok (.iload_n 2, 1) := by decide +kernel
theorem d_M_beside_21 : decode c_M_beside 21 = .ok (.iaload, 1) := by decide +kernel
theorem d_M_beside_22 : decode c_M_beside 22 = .ok (.aload_n 0, 1) := by decide +kernel
theorem d_M_beside_23 : decode c_M_beside 23 = .ok (.getfield 13, 3) := by decide +kernel
theorem d_M_beside_26 : decode c_M_beside 26 = .ok (.iload_n 1, 1) := by decide +kernel
theorem d_M_beside_27 : decode c_M_beside 27 = .ok (.iaload, 1) := by decide +kernel
theorem d_M_beside_28 : decode c_M_beside 28 = .ok (.isub, 1) := by decide +kernel
theorem d_M_beside_29 : decode c_M_beside 29 = .ok (.i2l, 1) := by decide +kernel
theorem d_M_beside_30 : decode c_M_beside 30 = .ok (.lstore 6, 2) := by decide +kernel
theorem d_M_beside_32 : decode c_M_beside 32 = .ok (.lload 4, 2) := by decide +kernel
theorem d_M_beside_34 : decode c_M_beside 34 = .ok (.aload_n 0, 1) := by decide +kernel
theorem d_M_beside_35 : decode c_M_beside 35 = .ok (.getfield 13, 3) := by decide +kernel
theorem d_M_beside_38 : decode c_M_beside 38 = .ok (.iload_n 3, 1) := by decide +kernel
theorem d_M_beside_39 : decode c_M_beside 39 = .ok (.iaload, 1) := by decide +kernel
theorem d_M_beside_40 : decode c_M_beside 40 = .ok (.aload_n 0, 1) := by decide +kernel
theorem d_M_beside_41 : decode c_M_beside 41 = .ok (.getfield 13, 3) := by decide +kernel
theorem d_M_beside_44 : decode c_M_beside 44 = .ok (.iload_n 1, 1) := by decide +kernel
theorem d_M_beside_45 : decode c_M_beside 45 = .ok (.iaload, 1) := by decide +kernel
theorem d_M_beside_46 : decode c_M_beside 46 = .ok (.isub, 1) := by decide +kernel
theorem d_M_beside_47 : decode c_M_beside 47 = .ok (.i2l, 1) := by decide +kernel
theorem d_M_beside_48 : decode c_M_beside 48 = .ok (.lmul, 1) := by decide +kernel
theorem d_M_beside_49 : decode c_M_beside 49 = .ok (.lload 6, 2) := by decide +kernel
theorem d_M_beside_51 : decode c_M_beside 51 = .ok (.aload_n 0, 1) := by decide +kernel
theorem d_M_beside_52 : decode c_M_beside 52 = .ok (.getfield 7, 3) := by decide +kernel
theorem d_M_beside_55 : decode c_M_beside 55 = .ok (.iload_n 3, 1) := by decide +kernel
theorem d_M_beside_56 : decode c_M_beside 56 = .ok (.iaload, 1) := by decide +kernel
theorem d_M_beside_57 : decode c_M_beside 57 = .ok (.aload_n 0, 1) := by decide +kernel
theorem d_M_beside_58 : decode c_M_beside 58 = .ok (.getfield 7, 3) := by decide +kernel
theorem d_M_beside_61 : decode c_M_beside 61 = .ok (.iload_n 1, 1) := by decide +kernel
theorem d_M_beside_62 : decode c_M_beside 62 = .ok (.iaload, 1) := by decide +kernel
theorem d_M_beside_63 : decode c_M_beside 63 = .ok (.isub, 1) := by decide +kernel
theorem d_M_beside_64 : decode c_M_beside 64 = .ok (.i2l, 1) := by decide +kernel
theorem d_M_beside_65 : decode c_M_beside 65 = .ok (.lmul, 1) := by decide +kernel
theorem d_M_beside_66 : decode c_M_beside 66 = .ok (.lsub, 1) := by decide +kernel
theorem d_M_beside_67 : decode c_M_beside 67 = .ok (.lreturn, 1) := by decide +kernel
theorem d_M_lengthSquare_0 : decode c_M_lengthSquare 0 = .ok (.aload_n 0, 1) := by decide +kernel
theorem d_M_lengthSquare_1 : decode c_M_lengthSquare 1 = .ok (.getfield 7, 3) := by decide +kernel
theorem d_M_lengthSquare_4 : decode c_M_lengthSquare 4 = .ok (.iload_n 2, 1) := by decide +kernel
theorem d_M_lengthSquare_5 : decode c_M_lengthSquare 5 = .ok (.iaload, 1) := by decide +kernel
theorem d_M_lengthSquare_6 : decode c_M_lengthSquare 6 = .ok (.aload_n 0, 1) := by decide +kernel
theorem d_M_lengthSquare_7 : decode c_M_lengthSquare 7 = .ok (.getfield 7, 3) := by decide +kernel
theorem d_M_lengthSquare_10 : decode c_M_lengthSquare 10 = .ok (.iload_n 1, 1) := by decide +kernel
theorem d_M_lengthSquare_11 : decode c_M_lengthSquare 11 = .ok (.iaload, 1) := by decide +kernel
theorem d_M_lengthSquare_12 : decode c_M_lengthSquare 12 = .ok (.isub, 1) := by decide +kernel
theorem d_M_lengthSquare_13 : decode c_M_lengthSquare 13 = .ok (.i2l, 1) := by decide +kernel
theorem d_M_lengthSquare_14 : decode c_M_lengthSquare 14 = .ok (.invokestatic 61, 3) := by decide +kernel
theorem d_M_lengthSquare_17 : decode c_M_lengthSquare 17 = .ok (.aload_n 0, 1) := by decide +kernel
theorem d_M_lengthSquare_18 : decode c_M_lengthSquare 18 = .ok (.getfield 13, 3) := by decide +kernel
theorem d_M_lengthSquare_21 : decode c_M_lengthSquare 21 = .ok (.iload_n 2, 1) := by decide +kernel
theorem d_M_lengthSquare_22 : decode c_M_lengthSquare 22 = .ok (.iaload, 1) := by decide +kernel
theorem d_M_lengthSquare_23 : decode c_M_lengthSquare 23 = .ok (.aload_n 0, 1) := by decide +kernel
theorem d_M_lengthSquare_24 : decode c_M_lengthSquare 24 = .ok (.getfield 13, 3) := by decide +kernel
theorem d_M_lengthSquare_27 : decode c_M_lengthSquare 27 = .ok (.iload_n 1, 1) := by decide +kernel
theorem d_M_lengthSquare_28 : decode c_M_lengthSquare 28 = .ok (.iaload, 1) := by decide +kernel
theorem d_M_lengthSquare_29 : decode c_M_lengthSquare 29 = .ok (.isub, 1) := by decide +kernel
theorem d_M_lengthSquare_30 : decode c_M_lengthSquare 30 = .ok (.i2l, 1) := by decide +kernel
theorem d_M_lengthSquare_31 : decode c_M_lengthSquare 31 = .ok (.invokestatic 61, 3) := by decide +kernel
theorem d_M_lengthSquare_34 : decode c_M_lengthSquare 34 = .ok (.ladd, 1) := by decide +kernel
theorem d_M_lengthSquare_35 : decode c_M_lengthSquare 35 = .ok (.lreturn, 1) := by decide +kernel
theorem d_M_isBanked_0 : decode c_M_isBanked 0 = .ok (.iload_n 1, 1) := by decide +kernel
theorem d_M_isBanked_1 : decode c_M_isBanked 1 = .ok (.iload_n 2, 1) := by decide +kernel
theorem d_M_isBanked_2 : decode c_M_isBanked 2 = .ok (.if_icmp .ge 7, 3) := by decide +kernel
theorem d_M_isBanked_5 : decode c_M_isBanked 5 = .ok (.iload_n 1, 1) := by decide +kernel
theorem d_M_isBanked_6 : decode c_M_isBanked 6 = .ok (.goto 4, 3) := by decide +kernel
theorem d_M_isBanked_9 : decode c_M_isBanked 9 = .ok (.iload_n 2, 1) := by decide +kernel
theorem d_M_isBanked_10 : decode c_M_isBanked 10 = .ok (.istore 4, 2) := by decide +kernel
theorem d_M_isBanked_12 : decode c_M_isBanked 12 = .ok (.iload_n 1, 1) := by decide +kernel
theorem d_M_isBanked_13 : decode c_M_isBanked 13 = .ok (.iload_n 2, 1) := by decide +kernel
theorem d_M_isBanked_14 : decode c_M_isBanked 14 = .ok (.if_icmp .ge 7, 3) := by decide +kernel
theorem d_M_isBanked_17 : decode c_M_isBanked 17 = .ok (.iload_n 2, 1) := by decide +kernel
theorem d_M_isBanked_18 : decode c_M_isBanked 18 = .ok (.goto 4, 3) := by decide +kernel
theorem d_M_isBanked_21 : decode c_M_isBanked 21 = .ok (.iload_n 1, 1) := by decide +kernel
theorem d_M_isBanked_22 : decode c_M_isBanked 22 = .ok (.istore 5, 2) := by decide +kernel
theorem d_M_isBanked_24 : decode c_M_isBanked 24 = .ok (.aload_n 0, 1) := by decide +kernel
theorem d_M_isBanked_25 : decode c_M_isBanked 25 = .ok (.iload 4, 2) := by decide +kernel
theorem d_M_isBanked_27 : decode c_M_isBanked 27 = .ok (.iload 5, 2) := by decide +kernel
theorem d_M_isBanked_29 : decode c_M_isBanked 29 = .ok (.iload_n 3, 1) := by decide +kernel
theorem d_M_isBanked_30 : decode c_M_isBanked 30 = .ok (.invokevirtual 76, 3) := by decide +kernel
theorem d_M_isBanked_33 : decode c_M_isBanked 33 = .ok (.lstore 6, 2) := by decide +kernel
theorem d_M_isBanked_35 : decode c_M_isBanked 35 = .ok (.aload_n 0, 1) := by decide +kernel
theorem d_M_isBanked_36 : decode c_M_isBanked 36 = .ok (.getfield 25, 3) := by decide +kernel
theorem d_M_isBanked_39 : decode c_M_isBanked 39 = .ok (.iconst 2, 1) := by decide +kernel
theorem d_M_isBanked_40 : decode c_M_isBanked 40 = .ok (.iload_n 3, 1) := by decide +kernel
theorem d_M_isBanked_41 : decode c_M_isBanked 41 = .ok (.imul, 1) := by decide +kernel
theorem d_M_isBanked_42 : decode c_M_isBanked 42 = .ok (.lload 6, 2) := by decide +kernel
theorem d_M_isBanked_44 : decode c_M_isBanked 44 = .ok (.lconst 0, 1) := by decide +kernel
theorem d_M_isBanked_45 : decode c_M_isBanked 45 = .ok (.lcmp, 1) := by decide +kernel
theorem d_M_isBanked_46 : decode c_M_isBanked 46 = .ok (.ifCond .le 7, 3) := by decide +kernel
theorem d_M_isBanked_49 : decode c_M_isBanked 49 = .ok (.iconst 1, 1) := by decide +kernel
theorem d_M_isBanked_50 : decode c_M_isBanked 50 = .ok (.goto 4, 3) := by decide +kernel
theorem d_M_isBanked_53 : decode c_M_isBanked 53 = .ok (.iconst 0, 1) := by decide +kernel
theorem d_M_isBanked_54 : decode c_M_isBanked 54 = .ok (.iadd, 1) := by decide +kernel
theorem d_M_isBanked_55 : decode c_M_isBanked 55 = .ok (.iaload, 1) := by decide +kernel
theorem d_M_isBanked_56 : decode c_M_isBanked 56 = .ok (.istore 8, 2) := by decide +kernel
theorem d_M_isBanked_58 : decode c_M_isBanked 58 = .ok (.lload 6, 2) := by decide +kernel
theorem d_M_isBanked_60 : decode c_M_isBanked 60 = .ok (.lconst 0, 1) := by decide +kernel
theorem d_M_isBanked_61 : decode c_M_isBanked 61 = .ok (.lcmp, 1) := by decide +kernel
theorem d_M_isBanked_62 : decode c_M_isBanked 62 = .ok (.ifCond .eq 36, 3) := by decide +kernel
theorem d_M_isBanked_65 : decode c_M_isBanked 65 = .ok (.iload 8, 2) := by decide +kernel
theorem d_M_isBanked_67 : decode c_M_isBanked 67 = .ok (.ifCond .lt 31, 3) := by decide +kernel
theorem d_M_isBanked_70 : decode c_M_isBanked 70 = .ok (.lload 6, 2) := by decide +kernel
theorem d_M_isBanked_72 : decode c_M_isBanked 72 = .ok (.invokestatic 61, 3) := by decide +kernel
theorem d_M_isBanked_75 : decode c_M_isBanked 75 = .ok (.iload 8, 2) := by decide +kernel
theorem d_M_isBanked_77 : decode c_M_isBanked 77 = .ok (.i2l, 1) := by decide +kernel
theorem d_M_isBanked_78 : decode c_M_isBanked 78 = .ok (.invokestatic 61, 3) := by decide +kernel
theorem d_M_isBanked_81 : decode c_M_isBanked 81 = .ok (.aload_n 0, 1) := by decide +kernel
theorem d_M_isBanked_82 : decode c_M_isBanked 82 = .ok (.iload 4, 2) := by decide +kernel
theorem d_M_isBanked_84 : decode c_M_isBanked 84 = .ok (.iload 5, 2) := by decide +kernel
theorem d_M_isBanked_86 : decode c_M_isBanked 86 = .ok (.invokevirtual 80, 3) := by decide +kernel
theorem d_M_isBanked_89 : decode c_M_isBanked 89 = .ok (.lmul, 1) := by decide +kernel
theorem d_M_isBanked_90 : decode c_M_isBanked 90 = .ok (.lcmp, 1) := by decide +kernel
theorem d_M_isBanked_91 : decode c_M_isBanked 91 = .ok (.ifCond .le 7, 3) := by decide +kernel
theorem d_M_isBanked_94 : decode c_M_isBanked 94 = .ok (.iconst 1, 1) := by decide +kernel
theorem d_M_isBanked_95 : decode c_M_isBanked 95 = .ok (.goto 4, 3) := by decide +kernel
theorem d_M_isBanked_98 : decode c_M_isBanked 98 = .ok (.iconst 0, 1) := by decide +kernel
theorem d_M_isBanked_99 : decode c_M_isBanked 99 = .ok (.ireturn, 1) := by decide +kernel
theorem d_M_cut_0 : decode c_M_cut 0 = .ok (.iload_n 2, 1) := by decide +kernel
theorem d_M_cut_1 : decode c_M_cut 1 = .ok (.iload_n 1, 1) := by decide +kernel
theorem d_M_cut_2 : decode c_M_cut 2 = .ok (.isub, 1) := by decide +kernel
theorem d_M_cut_3 : decode c_M_cut 3 = .ok (.i2l, 1) := by decide +kernel
theorem d_M_cut_4 : decode c_M_cut 4 = .ok (.lstore 5, 2) := by decide +kernel
theorem d_M_cut_6 : decode c_M_cut 6 = .ok (.lload 5, 2) := by decide +kernel
theorem d_M_cut_8 : decode c_M_cut 8 = .ok (.lconst 0, 1) := by decide +kernel
theorem d_M_cut_9 : decode c_M_cut 9 = .ok (.lcmp, 1) := by decide +kernel
theorem d_M_cut_10 : decode c_M_cut 10 = .ok (.ifCond .ne 20, 3) := by decide +kernel
theorem d_M_cut_13 : decode c_M_cut 13 = .ok (.iload_n 1, 1) := by decide +kernel
theorem d_M_cut_14 : decode c_M_cut 14 = .ok (.iload_n 3, 1) := by decide +kernel
theorem d_M_cut_15 : decode c_M_cut 15 = .ok (.if_icmp .lt 13, 3) := by decide +kernel
theorem d_M_cut_18 : decode c_M_cut 18 = .ok (.iload_n 1, 1) := by decide +kernel
theorem d_M_cut_19 : decode c_M_cut 19 = .ok (.iload 4, 2) := by decide +kernel
theorem d_M_cut_21 : decode c_M_cut 21 = .ok (.if_icmp .gt 7, 3) := by decide +kernel
theorem d_M_cut_24 : decode c_M_cut 24 = .ok (.iconst 1, 1) := by decide +kernel
theorem d_M_cut_25 : decode c_M_cut 25 = .ok (.goto 4, 3) := by decide +kernel
theorem d_M_cut_28 : decode c_M_cut 28 = .ok (.iconst 0, 1) := by decide +kernel
theorem d_M_cut_29 : decode c_M_cut 29 = .ok (.ireturn, 1) := by decide +kernel
theorem d_M_cut_30 : decode c_M_cut 30 = .ok (.lload 5, 2) := by decide +kernel
theorem d_M_cut_32 : decode c_M_cut 32 = .ok (.lconst 0, 1) := by decide +kernel
theorem d_M_cut_33 : decode c_M_cut 33 = .ok (.lcmp, 1) := by decide +kernel
theorem d_M_cut_34 : decode c_M_cut 34 = .ok (.ifCond .le 10, 3) := by decide +kernel
theorem d_M_cut_37 : decode c_M_cut 37 = .ok (.iload_n 3, 1) := by decide +kernel
theorem d_M_cut_38 : decode c_M_cut 38 = .ok (.iload_n 1, 1) := by decide +kernel
theorem d_M_cut_39 : decode c_M_cut 39 = .ok (.isub, 1) := by decide +kernel
theorem d_M_cut_40 : decode c_M_cut 40 = .ok (.i2l, 1) := by decide +kernel
theorem d_M_cut_41 : decode c_M_cut 41 = .ok (.goto 8, 3) := by decide +kernel
theorem d_M_cut_44 : decode c_M_cut 44 = .ok (.iload_n 1, 1) := by decide +kernel
theorem d_M_cut_45 : decode c_M_cut 45 = .ok (.iload 4, 2) := by decide +kernel
theorem d_M_cut_47 : decode c_M_cut 47 = .ok (.isub, 1) := by decide +kernel
theorem d_M_cut_48 : decode c_M_cut 48 = .ok (.i2l, 1) := by decide +kernel
theorem d_M_cut_49 : decode c_M_cut 49 = .ok (.lstore 7, 2) := by decide +kernel
theorem d_M_cut_51 : decode c_M_cut 51 = .ok (.lload 5, 2) := by decide +kernel
theorem d_M_cut_53 : decode c_M_cut 53 = .ok (.lconst 0, 1) := by decide +kernel
theorem d_M_cut_54 : decode c_M_cut 54 = .ok (.lcmp, 1) := by decide +kernel
theorem d_M_cut_55 : decode c_M_cut 55 = .ok (.ifCond .le 11, 3) := by decide +kernel
theorem d_M_cut_58 : decode c_M_cut 58 = .ok (.iload 4, 2) := by decide +kernel
theorem d_M_cut_60 : decode c_M_cut 60 = .ok (.iload_n 1, 1) := by decide +kernel
theorem d_M_cut_61 : decode c_M_cut 61 = .ok (.isub, 1) := by decide +kernel
theorem d_M_cut_62 : decode c_M_cut 62 = .ok (.i2l, 1) := by decide +kernel
theorem d_M_cut_63 : decode c_M_cut 63 = .ok (.goto 7, 3) := by decide +kernel
theorem d_M_cut_66 : decode c_M_cut 66 = .ok (.iload_n 1, 1) := by decide +kernel
theorem d_M_cut_67 : decode c_M_cut 67 = .ok (.iload_n 3, 1) := by decide +kernel
theorem d_M_cut_68 : decode c_M_cut 68 = .ok (.isub, 1) := by decide +kernel
theorem d_M_cut_69 : decode c_M_cut 69 = .ok (.i2l, 1) := by decide +kernel
theorem d_M_cut_70 : decode c_M_cut 70 = .ok (.lstore 9, 2) := by decide +kernel
theorem d_M_cut_72 : decode c_M_cut 72 = .ok (.lload 5, 2) := by decide +kernel
theorem d_M_cut_74 : decode c_M_cut 74 = .ok (.lconst 0, 1) := by decide +kernel
theorem d_M_cut_75 : decode c_M_cut 75 = .ok (.lcmp, 1) := by decide +kernel
theorem d_M_cut_76 : decode c_M_cut 76 = .ok (.ifCond .le 8, 3) := by decide +kernel
theorem d_M_cut_79 : decode c_M_cut 79 = .ok (.lload 5, 2) := by decide +kernel
theorem d_M_cut_81 : decode c_M_cut 81 = .ok (.goto 6, 3) := by decide +kernel
theorem d_M_cut_84 : decode c_M_cut 84 = .ok (.lload 5, 2) := by decide +kernel
theorem d_M_cut_86 : decode c_M_cut 86 = .ok (.lneg, 1) := by decide +kernel
theorem d_M_cut_87 : decode c_M_cut 87 = .ok (.lstore 11, 2) := by decide +kernel
theorem d_M_cut_89 : decode c_M_cut 89 = .ok (.lload 7, 2) := by decide +kernel
theorem d_M_cut_91 : decode c_M_cut 91 = .ok (.aload_n 0, 1) := by decide +kernel
theorem d_M_cut_92 : decode c_M_cut 92 = .ok (.getfield 84, 3) := by decide +kernel
theorem d_M_cut_95 : decode c_M_cut 95 = .ok (.lmul, 1) := by decide +kernel
theorem d_M_cut_96 : decode c_M_cut 96 = .ok (.aload_n 0, 1) := by decide +kernel
theorem d_M_cut_97 : decode c_M_cut 97 = .ok (.getfield 88, 3) := by decide +kernel
theorem d_M_cut_100 : decode c_M_cut 100 = .ok (.lload 11, 2) := by decide +kernel
theorem d_M_cut_102 : decode c_M_cut 102 = .ok (.lmul, 1) := by decide +kernel
theorem d_M_cut_103 : decode c_M_cut 103 = .ok (.lcmp, 1) := by decide +kernel
theorem d_M_cut_104 : decode c_M_cut 104 = .ok (.ifCond .le 15, 3) := by decide +kernel
theorem d_M_cut_107 : decode c_M_cut 107 = .ok (.aload_n 0, 1) := by decide +kernel
theorem d_M_cut_108 : decode c_M_cut 108 = .ok (.lload 7, 2) := by decide +kernel
theorem d_M_cut_110 : decode c_M_cut 110 = .ok (.putfield 88, 3) := by decide +kernel
theorem d_M_cut_113 : decode c_M_cut 113 = .ok (.aload_n 0, 1) := by decide +kernel
theorem d_M_cut_114 : decode c_M_cut 114 = .ok (.lload 11, 2) := by decide +kernel
theorem d_M_cut_116 : decode c_M_cut 116 = .ok (.putfield 84, 3) := by decide +kernel
theorem d_M_cut_119 : decode c_M_cut 119 = .ok (.lload 9, 2) := by decide +kernel
theorem d_M_cut_121 : decode c_M_cut 121 = .ok (.aload_n 0, 1) := by decide +kernel
theorem d_M_cut_122 : decode c_M_cut 122 = .ok (.getfield 91, 3) := by decide +kernel
theorem d_M_cut_125 : decode c_M_cut 125 = .ok (.lmul, 1) := by decide +kernel
theorem d_M_cut_126 : decode c_M_cut 126 = .ok (.aload_n 0, 1) := by decide +kernel
theorem d_M_cut_127 : decode c_M_cut 127 = .ok (.getfield 94, 3) := by decide +kernel
theorem d_M_cut_130 : decode c_M_cut 130 = .ok (.lload 11, 2) := by decide +kernel
theorem d_M_cut_132 : decode c_M_cut 132 = .ok (.lmul, 1) := by decide +kernel
theorem d_M_cut_133 : decode c_M_cut 133 = .ok (.lcmp, 1) := by decide +kernel
theorem d_M_cut_134 : decode c_M_cut 134 = .ok (.ifCond .ge 15, 3) := by decide +kernel
theorem d_M_cut_137 : decode c_M_cut 137 = .ok (.aload_n 0, 1) := by decide +kernel
theorem d_M_cut_138 : decode c_M_cut 138 = .ok (.lload 9, 2) := by decide +kernel
theorem d_M_cut_140 : decode c_M_cut 140 = .ok (.putfield 94, 3) := by decide +kernel
theorem d_M_cut_143 : decode c_M_cut 143 = .ok (.aload_n 0, 1) := by decide +kernel
theorem d_M_cut_144 : decode c_M_cut 144 = .ok (.lload 11, 2) := by decide +kernel
theorem d_M_cut_146 : decode c_M_cut 146 = .ok (.putfield 91, 3) := by decide +kernel
theorem d_M_cut_149 : decode c_M_cut 149 = .ok (.aload_n 0, 1) := by decide +kernel
theorem d_M_cut_150 : decode c_M_cut 150 = .ok (.getfield 88, 3) := by decide +kernel
theorem d_M_cut_153 : decode c_M_cut 153 = .ok (.aload_n 0, 1) := by decide +kernel
theorem d_M_cut_154 : decode c_M_cut 154 = .ok (.getfield 91, 3) := by decide +kernel
theorem d_M_cut_157 : decode c_M_cut 157 = .ok (.lmul, 1) := by decide +kernel
theorem d_M_cut_158 : decode c_M_cut 158 = .ok (.aload_n 0, 1) := by decide +kernel
theorem d_M_cut_159 : decode c_M_cut 159 = .ok (.getfield 94, 3) := by decide +kernel
theorem d_M_cut_162 : decode c_M_cut 162 = .ok (.aload_n 0, 1) := by decide +kernel
theorem d_M_cut_163 : decode c_M_cut 163 = .ok (.getfield 84, 3) := by decide +kernel
theorem d_M_cut_166 : decode c_M_cut 166 = .ok (.lmul, 1) := by decide +kernel
theorem d_M_cut_167 : decode c_M_cut 167 = .ok (.lcmp, 1) := by decide +kernel
theorem d_M_cut_168 : decode c_M_cut 168 = .ok (.ifCond .gt 7, 3) := by decide +kernel
theorem d_M_cut_171 : decode c_M_cut 171 = .ok (.iconst 1, 1) := by decide +kernel
theorem d_M_cut_172 : decode c_M_cut 172 = .ok (.goto 4, 3) := by decide +kernel
theorem d_M_cut_175 : decode c_M_cut 175 = .ok (.iconst 0, 1) := by decide +kernel
theorem d_M_cut_176 : decode c_M_cut 176 = .ok (.ireturn, 1) := by decide +kernel
theorem d_M_isBelow_0 : decode c_M_isBelow 0 = .ok (.lload_n 2, 1) := by decide +kernel
theorem d_M_isBelow_1 : decode c_M_isBelow 1 = .ok (.lload_n 0, 1) := by decide +kernel
theorem d_M_isBelow_2 : decode c_M_isBelow 2 = .ok (.lsub, 1) := by decide +kernel
theorem d_M_isBelow_3 : decode c_M_isBelow 3 = .ok (.iload 4, 2) := by decide +kernel
theorem d_M_isBelow_5 : decode c_M_isBelow 5 = .ok (.i2l, 1) := by decide +kernel
theorem d_M_isBelow_6 : decode c_M_isBelow 6 = .ok (.lmul, 1) := by decide +kernel
theorem d_M_isBelow_7 : decode c_M_isBelow 7 = .ok (.lload_n 0, 1) := by decide +kernel
theorem d_M_isBelow_8 : decode c_M_isBelow 8 = .ok (.iload 5, 2) := by decide +kernel
theorem d_M_isBelow_10 : decode c_M_isBelow 10 = .ok (.i2l, 1) := by decide +kernel
theorem d_M_isBelow_11 : decode c_M_isBelow 11 = .ok (.lmul, 1) := by decide +kernel
theorem d_M_isBelow_12 : decode c_M_isBelow 12 = .ok (.ladd, 1) := by decide +kernel
theorem d_M_isBelow_13 : decode c_M_isBelow 13 = .ok (.lload_n 2, 1) := by decide +kernel
theorem d_M_isBelow_14 : decode c_M_isBelow 14 = .ok (.iload 6, 2) := by decide +kernel
theorem d_M_isBelow_16 : decode c_M_isBelow 16 = .ok (.i2l, 1) := by decide +kernel
theorem d_M_isBelow_17 : decode c_M_isBelow 17 = .ok (.lmul, 1) := by decide +kernel
theorem d_M_isBelow_18 : decode c_M_isBelow 18 = .ok (.lcmp, 1) := by decide +kernel
theorem d_M_isBelow_19 : decode c_M_isBelow 19 = .ok (.ifCond .ge 7, 3) := by decide +kernel
theorem d_M_isBelow_22 : decode c_M_isBelow 22 = .ok (.iconst 1, 1) := by decide +kernel
theorem d_M_isBelow_23 : decode c_M_isBelow 23 = .ok (.goto 4, 3) := by decide +kernel
theorem d_M_isBelow_26 : decode c_M_isBelow 26 = .ok (.iconst 0, 1) := by decide +kernel
theorem d_M_isBelow_27 : decode c_M_isBelow 27 = .ok (.ireturn, 1) := by decide +kernel
theorem d_M_isBoxed_0 : decode c_M_isBoxed 0 = .ok (.aload_n 0, 1) := by decide +kernel
theorem d_M_isBoxed_1 : decode c_M_isBoxed 1 = .ok (.lconst 0, 1) := by decide +kernel
theorem d_M_isBoxed_2 : decode c_M_isBoxed 2 = .ok (.putfield 88, 3) := by decide +kernel
theorem d_M_isBoxed_5 : decode c_M_isBoxed 5 = .ok (.aload_n 0, 1) := by decide +kernel
theorem d_M_isBoxed_6 : decode c_M_isBoxed 6 = .ok (.lconst 1, 1) := by decide +kernel
theorem d_M_isBoxed_7 : decode c_M_isBoxed 7 = .ok (.putfield 84, 3) := by decide +kernel
theorem d_M_isBoxed_10 : decode c_M_isBoxed 10 = .ok (.aload_n 0, 1) := by decide +kernel
theorem d_M_isBoxed_11 : decode c_M_isBoxed 11 = .ok (.lconst 1, 1) := by decide +kernel
theorem d_M_isBoxed_12 : decode c_M_isBoxed 12 = .ok (.putfield 94, 3) := by decide +kernel
theorem d_M_isBoxed_15 : decode c_M_isBoxed 15 = .ok (.aload_n 0, 1) := by decide +kernel
theorem d_M_isBoxed_16 : decode c_M_isBoxed 16 = .ok (.lconst 1, 1) := by decide +kernel
theorem d_M_isBoxed_17 : decode c_M_isBoxed 17 = .ok (.putfield 91, 3) := by decide +kernel
theorem d_M_isBoxed_20 : decode c_M_isBoxed 20 = .ok (.iconst 5, 1) := by decide +kernel
theorem d_M_isBoxed_21 : decode c_M_isBoxed 21 = .ok (.iload_n 1, 1) := by decide +kernel
theorem d_M_isBoxed_22 : decode c_M_isBoxed 22 = .ok (.imul, 1) := by decide +kernel
theorem d_M_isBoxed_23 : decode c_M_isBoxed 23 = .ok (.istore 8, 2) := by decide +kernel
theorem d_M_isBoxed_25 : decode c_M_isBoxed 25 = .ok (.aload_n 0, 1) := by decide +kernel
theorem d_M_isBoxed_26 : decode c_M_isBoxed 26 = .ok (.iload_n 2, 1) := by decide +kernel
theorem d_M_isBoxed_27 : decode c_M_isBoxed 27 = .ok (.iload 5, 2) := by decide +kernel
theorem d_M_isBoxed_29 : decode c_M_isBoxed 29 = .ok (.aload_n 0, 1) := by decide +kernel
theorem d_M_isBoxed_30 : decode c_M_isBoxed 30 = .ok (.getfield 28, 3) := by decide +kernel
theorem d_M_isBoxed_33 : decode c_M_isBoxed 33 = .ok (.iload 8, 2) := by decide +kernel
theorem d_M_isBoxed_35 : decode c_M_isBoxed 35 = .ok (.iaload, 1) := by decide +kernel
theorem d_M_isBoxed_36 : decode c_M_isBoxed 36 = .ok (.aload_n 0, 1) := by decide +kernel
theorem d_M_isBoxed_37 : decode c_M_isBoxed 37 = .ok (.getfield 28, 3) := by decide +kernel
theorem d_M_isBoxed_40 : decode c_M_isBoxed 40 = .ok (.iload 8, 2) := by decide +kernel
theorem d_M_isBoxed_42 : decode c_M_isBoxed 42 = .ok (.iconst 2, 1) := by decide +kernel
theorem d_M_isBoxed_43 : decode c_M_isBoxed 43 = .ok (.iadd, 1) := by decide +kernel
theorem d_M_isBoxed_44 : decode c_M_isBoxed 44 = .ok (.iaload, 1) := by decide +kernel
theorem d_M_isBoxed_45 : decode c_M_isBoxed 45 = .ok (.invokevirtual 97, 3) := by decide +kernel
theorem d_M_isBoxed_48 : decode c_M_isBoxed 48 = .ok (.ifCond .eq 31, 3) := by decide +kernel
theorem d_M_isBoxed_51 : decode c_M_isBoxed 51 = .ok (.aload_n 0, 1) := by decide +kernel
theorem d_M_isBoxed_52 : decode c_M_isBoxed 52 = .ok (.iload_n 3, 1) := by decide +kernel
theorem d_M_isBoxed_53 : decode c_M_isBoxed 53 = .ok (.iload 6, 2) := by decide +kernel
theorem d_M_isBoxed_55 : decode c_M_isBoxed 55 = .ok (.aload_n 0, 1) := by decide +kernel
theorem d_M_isBoxed_56 : decode c_M_isBoxed 56 = .ok (.getfield 28, 3) := by decide +kernel
theorem d_M_isBoxed_59 : decode c_M_isBoxed 59 = .ok (.iload 8, 2) := by decide +kernel
theorem d_M_isBoxed_61 : decode c_M_isBoxed 61 = .ok (.iconst 1, 1) := by decide +kernel
theorem d_M_isBoxed_62 : decode c_M_isBoxed 62 = .ok (.iadd, 1) := by decide +kernel
theorem d_M_isBoxed_63 : decode c_M_isBoxed 63 = .ok (.iaload, 1) := by decide +kernel
theorem d_M_isBoxed_64 : decode c_M_isBoxed 64 = .ok (.aload_n 0, 1) := by decide +kernel
theorem d_M_isBoxed_65 : decode c_M_isBoxed 65 = .ok (.getfield 28, 3) := by decide +kernel
theorem d_M_isBoxed_68 : decode c_M_isBoxed 68 = .ok (.iload 8, 2) := by decide +kernel
theorem d_M_isBoxed_70 : decode c_M_isBoxed 70 = .ok (.iconst 3, 1) := by decide +kernel
theorem d_M_isBoxed_71 : decode c_M_isBoxed 71 = .ok (.iadd, 1) := by decide +kernel
theorem d_M_isBoxed_72 : decode c_M_isBoxed 72 = .ok (.iaload, 1) := by decide +kernel
theorem d_M_isBoxed_73 : decode c_M_isBoxed 73 = .ok (.invokevirtual 97, 3) := by decide +kernel
theorem d_M_isBoxed_76 : decode c_M_isBoxed 76 = .ok (.ifCond .ne 5, 3) := by decide +kernel
theorem d_M_isBoxed_79 : decode c_M_isBoxed 79 = .ok (.iconst 0, 1) := by decide +kernel
theorem d_M_isBoxed_80 : decode c_M_isBoxed 80 = .ok (.ireturn, 1) := by decide +kernel
theorem d_M_isBoxed_81 : decode c_M_isBoxed 81 = .ok (.aload_n 0, 1) := by decide +kernel
theorem d_M_isBoxed_82 : decode c_M_isBoxed 82 = .ok (.getfield 88, 3) := by decide +kernel
theorem d_M_isBoxed_85 : decode c_M_isBoxed 85 = .ok (.aload_n 0, 1) := by decide +kernel
theorem d_M_isBoxed_86 : decode c_M_isBoxed 86 = .ok (.getfield 84, 3) := by decide +kernel
theorem d_M_isBoxed_89 : decode c_M_isBoxed 89 = .ok (.iload 4, 2) := by decide +kernel
theorem d_M_isBoxed_91 : decode c_M_isBoxed 91 = .ok (.iload 7, 2) := by decide +kernel
theorem d_M_isBoxed_93 : decode c_M_isBoxed 93 = .ok (.aload_n 0, 1) := by decide +kernel
theorem d_M_isBoxed_94 : decode c_M_isBoxed 94 = .ok (.getfield 28, 3) := by decide +kernel
theorem d_M_isBoxed_97 : decode c_M_isBoxed 97 = .ok (.iload 8, 2) := by decide +kernel
theorem d_M_isBoxed_99 : decode c_M_isBoxed 99 = .ok (.iconst 4, 1) := by decide +kernel
theorem d_M_isBoxed_100 : decode c_M_isBoxed 100 = .ok (.iadd, 1) := by decide +kernel
theorem d_M_isBoxed_101 : decode c_M_isBoxed 101 = .ok (.iaload, 1) := by decide +kernel
theorem d_M_isBoxed_102 : decode c_M_isBoxed 102 = .ok (.invokestatic 101, 3) := by decide +kernel
theorem d_M_isBoxed_105 : decode c_M_isBoxed 105 = .ok (.ifCond .ne 30, 3) := by decide +kernel
theorem d_M_isBoxed_108 : decode c_M_isBoxed 108 = .ok (.aload_n 0, 1) := by decide +kernel
theorem d_M_isBoxed_109 : decode c_M_isBoxed 109 = .ok (.getfield 94, 3) := by decide +kernel
theorem d_M_isBoxed_112 : decode c_M_isBoxed 112 = .ok (.aload_n 0, 1) := by decide +kernel
theorem d_M_isBoxed_113 : decode c_M_isBoxed 113 = .ok (.getfield 91, 3) := by decide +kernel
theorem d_M_isBoxed_116 : decode c_M_isBoxed 116 = .ok (.iload 4, 2) := by decide +kernel
theorem d_M_isBoxed_118 : decode c_M_isBoxed 118 = .ok (.iload 7, 2) := by decide +kernel
theorem d_M_isBoxed_120 : decode c_M_isBoxed 120 = .ok (.aload_n 0, 1) := by decide +kernel
theorem d_M_isBoxed_121 : decode c_M_isBoxed 121 = .ok (.getfield 28, 3) := by decide +kernel
theorem d_M_isBoxed_124 : decode c_M_isBoxed 124 = .ok (.iload 8, 2) := by decide +kernel
theorem d_M_isBoxed_126 : decode c_M_isBoxed 126 = .ok (.iconst 4, 1) := by decide +kernel
theorem d_M_isBoxed_127 : decode c_M_isBoxed 127 = .ok (.iadd, 1) := by decide +kernel
theorem d_M_isBoxed_128 : decode c_M_isBoxed 128 = .ok (.iaload, 1) := by decide +kernel
theorem d_M_isBoxed_129 : decode c_M_isBoxed 129 = .ok (.invokestatic 101, 3) := by decide +kernel
theorem d_M_isBoxed_132 : decode c_M_isBoxed 132 = .ok (.ifCond .eq 7, 3) := by decide +kernel
theorem d_M_isBoxed_135 : decode c_M_isBoxed 135 = .ok (.iconst 1, 1) := by decide +kernel
theorem d_M_isBoxed_136 : decode c_M_isBoxed 136 = .ok (.goto 4, 3) := by decide +kernel
theorem d_M_isBoxed_139 : decode c_M_isBoxed 139 = .ok (.iconst 0, 1) := by decide +kernel
theorem d_M_isBoxed_140 : decode c_M_isBoxed 140 = .ok (.ireturn, 1) := by decide +kernel
theorem d_M_interrupter_0 : decode c_M_interrupter 0 = .ok (.iload_n 1, 1) := by decide +kernel
theorem d_M_interrupter_1 : decode c_M_interrupter 1 = .ok (.iload_n 2, 1) := by decide +kernel
theorem d_M_interrupter_2 : decode c_M_interrupter 2 = .ok (.if_icmp .ge 7, 3) := by decide +kernel
theorem d_M_interrupter_5 : decode c_M_interrupter 5 = .ok (.iload_n 1, 1) := by decide +kernel
theorem d_M_interrupter_6 : decode c_M_interrupter 6 = .ok (.goto 4, 3) := by decide +kernel
theorem d_M_interrupter_9 : decode c_M_interrupter 9 = .ok (.iload_n 2, 1) := by decide +kernel
theorem d_M_interrupter_10 : decode c_M_interrupter 10 = .ok (.istore_n 3, 1) := by decide +kernel
theorem d_M_interrupter_11 : decode c_M_interrupter 11 = .ok (.iload_n 1, 1) := by decide +kernel
theorem d_M_interrupter_12 : decode c_M_interrupter 12 = .ok (.iload_n 2, 1) := by decide +kernel
theorem d_M_interrupter_13 : decode c_M_interrupter 13 = .ok (.if_icmp .ge 7, 3) := by decide +kernel
theorem d_M_interrupter_16 : decode c_M_interrupter 16 = .ok (.iload_n 2, 1) := by decide +kernel
theorem d_M_interrupter_17 : decode c_M_interrupter 17 = .ok (.goto 4, 3) := by decide +kernel
theorem d_M_interrupter_20 : decode c_M_interrupter 20 = .ok (.iload_n 1, 1) := by decide +kernel
theorem d_M_interrupter_21 : decode c_M_interrupter 21 = .ok (.istore 4, 2) := by decide +kernel
theorem d_M_interrupter_23 : decode c_M_interrupter 23 = .ok (.iload_n 3, 1) := by decide +kernel
theorem d_M_interrupter_24 : decode c_M_interrupter 24 = .ok (.iconst 1, 1) := by decide +kernel
theorem d_M_interrupter_25 : decode c_M_interrupter 25 = .ok (.iadd, 1) := by decide +kernel
theorem d_M_interrupter_26 : decode c_M_interrupter 26 = .ok (.istore 5, 2) := by decide +kernel
theorem d_M_interrupter_28 : decode c_M_interrupter 28 = .ok (.iload 5, 2) := by decide +kernel
theorem d_M_interrupter_30 : decode c_M_interrupter 30 = .ok (.iload 4, 2) := by decide +kernel
theorem d_M_interrupter_32 : decode c_M_interrupter 32 = .ok (.if_icmp .ge 26, 3) := by decide +kernel
theorem d_M_interrupter_35 : decode c_M_interrupter 35 = .ok (.aload_n 0, 1) := by decide +kernel
theorem d_M_interrupter_36 : decode c_M_interrupter 36 = .ok (.iload_n 1, 1) := by decide +kernel
theorem d_M_interrupter_37 : decode c_M_interrupter 37 = .ok (.iload_n 2, 1) := by decide +kernel
theorem d_M_interrupter_38 : decode c_M_interrupter 38 = .ok (.iload 5, 2) := by decide +kernel
theorem d_M_interrupter_40 : decode c_M_interrupter 40 = .ok (.invokevirtual 105, 3) := by decide +kernel
theorem d_M_interrupter_43 : decode c_M_interrupter 43 = .ok (.ifCond .eq 9, 3) := by decide +kernel
theorem d_M_interrupter_46 : decode c_M_interrupter 46 = .ok (.bipush 100, 2) := by decide +kernel
theorem d_M_interrupter_48 : decode c_M_interrupter 48 = .ok (.iload 5, 2) := by decide +kernel
theorem d_M_interrupter_50 : decode c_M_interrupter 50 = .ok (.iadd, 1) := by decide +kernel
theorem d_M_interrupter_51 : decode c_M_interrupter 51 = .ok (.ireturn, 1) := by decide +kernel
theorem d_M_interrupter_52 : decode c_M_interrupter 52 = .ok (.iinc 5 1, 3) := by decide +kernel
theorem d_M_interrupter_55 : decode c_M_interrupter 55 = .ok (.goto (-27), 3) := by decide +kernel
theorem d_M_interrupter_58 : decode c_M_interrupter 58 = .ok (.iload_n 3, 1) := by decide +kernel
theorem d_M_interrupter_59 : decode c_M_interrupter 59 = .ok (.iconst 1, 1) := by decide +kernel
theorem d_M_interrupter_60 : decode c_M_interrupter 60 = .ok (.iadd, 1) := by decide +kernel
theorem d_M_interrupter_61 : decode c_M_interrupter 61 = .ok (.istore 5, 2) := by decide +kernel
theorem d_M_interrupter_63 : decode c_M_interrupter 63 = .ok (.iload 5, 2) := by decide +kernel
theorem d_M_interrupter_65 : decode c_M_interrupter 65 = .ok (.iload 4, 2) := by decide +kernel
theorem d_M_interrupter_67 : decode c_M_interrupter 67 = .ok (.if_icmp .ge 27, 3) := by decide +kernel
theorem d_M_interrupter_70 : decode c_M_interrupter 70 = .ok (.aload_n 0, 1) := by decide +kernel
theorem d_M_interrupter_71 : decode c_M_interrupter 71 = .ok (.iload_n 1, 1) := by decide +kernel
theorem d_M_interrupter_72 : decode c_M_interrupter 72 = .ok (.iload_n 2, 1) := by decide +kernel
theorem d_M_interrupter_73 : decode c_M_interrupter 73 = .ok (.iload 5, 2) := by decide +kernel
theorem d_M_interrupter_75 : decode c_M_interrupter 75 = .ok (.invokevirtual 108, 3) := by decide +kernel
theorem d_M_interrupter_78 : decode c_M_interrupter 78 = .ok (.ifCond .eq 10, 3) := by decide +kernel
theorem d_M_interrupter_81 : decode c_M_interrupter 81 = .ok (.sipush 200, 3) := by decide +kernel
theorem d_M_interrupter_84 : decode c_M_interrupter 84 = .ok (.iload 5, 2) := by decide +kernel
theorem d_M_interrupter_86 : decode c_M_interrupter 86 = .ok (.iadd, 1) := by decide +kernel
theorem d_M_interrupter_87 : decode c_M_interrupter 87 = .ok (.ireturn, 1) := by decide +kernel
theorem d_M_interrupter_88 : decode c_M_interrupter 88 = .ok (.iinc 5 1, 3) := by decide +kernel
theorem d_M_interrupter_91 : decode c_M_interrupter 91 = .ok (.goto (-28), 3) := by decide +kernel
theorem d_M_interrupter_94 : decode c_M_interrupter 94 = .ok (.iconst 0, 1) := by decide +kernel
theorem d_M_interrupter_95 : decode c_M_interrupter 95 = .ok (.istore 5, 2) := by decide +kernel
theorem d_M_interrupter_97 : decode c_M_interrupter 97 = .ok (.iload 5, 2) := by decide +kernel
theorem d_M_interrupter_99 : decode c_M_interrupter 99 = .ok (.aload_n 0, 1) := by decide +kernel
theorem d_M_interrupter_100 : decode c_M_interrupter 100 = .ok (.getfield 73, 3) := by decide +kernel
theorem d_M_interrupter_103 : decode c_M_interrupter 103 = .ok (.if_icmp .ge 71, 3) := by decide +kernel
theorem d_M_interrupter_106 : decode c_M_interrupter 106 = .ok (.aload_n 0, 1) := by decide +kernel
theorem d_M_interrupter_107 : decode c_M_interrupter 107 = .ok (.iload 5, 2) := by decide +kernel
theorem d_M_interrupter_109 : decode c_M_interrupter 109 = .ok (.aload_n 0, 1) := by decide +kernel
theorem d_M_interrupter_110 : decode c_M_interrupter 110 = .ok (.getfield 7, 3) := by decide +kernel
theorem d_M_interrupter_113 : decode c_M_interrupter 113 = .ok (.iload_n 1, 1) := by decide +kernel
theorem d_M_interrupter_114 : decode c_M_interrupter 114 = .ok (.iaload, 1) := by decide +kernel
theorem d_M_interrupter_115 : decode c_M_interrupter 115 = .ok (.aload_n 0, 1) := by decide +kernel
theorem d_M_interrupter_116 : decode c_M_interrupter 116 = .ok (.getfield 13, 3) := by decide +kernel
theorem d_M_interrupter_119 : decode c_M_interrupter 119 = .ok (.iload_n 1, 1) := by decide +kernel
theorem d_M_interrupter_120 : decode c_M_interrupter 120 = .ok (.iaload, 1) := by decide +kernel
theorem d_M_interrupter_121 : decode c_M_interrupter 121 = .ok (.aload_n 0, 1) := by decide +kernel
theorem d_M_interrupter_122 : decode c_M_interrupter 122 = .ok (.getfield 16, 3) := by decide +kernel
theorem d_M_interrupter_125 : decode c_M_interrupter 125 = .ok (.iload_n 1, 1) := by decide +kernel
theorem d_M_interrupter_126 : decode c_M_interrupter 126 = .ok (.iaload, 1) := by decide +kernel
theorem d_M_interrupter_127 : decode c_M_interrupter 127 = .ok (.aload_n 0, 1) := by decide +kernel
theorem d_M_interrupter_128 : decode c_M_interrupter 128 = .ok (.getfield 31, 3) := by decide +kernel
theorem d_M_interrupter_131 : decode c_M_interrupter 131 = .ok (.iadd, 1) := by decide +kernel
theorem d_M_interrupter_132 : decode c_M_interrupter 132 = .ok (.aload_n 0, 1) := by decide +kernel
theorem d_M_interrupter_133 : decode c_M_interrupter 133 = .ok (.getfield 7, 3) := by decide +kernel
theorem d_M_interrupter_136 : decode c_M_interrupter 136 = .ok (.iload_n 2, 1) := by decide +kernel
theorem d_M_interrupter_137 : decode c_M_interrupter 137 = .ok (.iaload, 1) := by decide +kernel
theorem d_M_interrupter_138 : decode c_M_interrupter 138 = .ok (.aload_n 0, 1) := by decide +kernel
theorem d_M_interrupter_139 : decode c_M_interrupter 139 = .ok (.getfield 13, 3) := by decide +kernel
theorem d_M_interrupter_142 : decode c_M_interrupter 142 = .ok (.iload_n 2, 1) := by decide +kernel
theorem d_M_interrupter_143 : decode c_M_interrupter 143 = .ok (.iaload, 1) := by decide +kernel
theorem d_M_interrupter_144 : decode c_M_interrupter 144 = .ok (.aload_n 0, 1) := by decide +kernel
theorem d_M_interrupter_145 : decode c_M_interrupter 145 = .ok (.getfield 16, 3) := by decide +kernel
theorem d_M_interrupter_148 : decode c_M_interrupter 148 = .ok (.iload_n 2, 1) := by decide +kernel
theorem d_M_interrupter_149 : decode c_M_interrupter 149 = .ok (.iaload, 1) := by decide +kernel
theorem d_M_interrupter_150 : decode c_M_interrupter 150 = .ok (.aload_n 0, 1) := by decide +kernel
theorem d_M_interrupter_151 : decode c_M_interrupter 151 = .ok (.getfield 35, 3) := by decide +kernel
theorem d_M_interrupter_154 : decode c_M_interrupter 154 = .ok (.iadd, 1) := by decide +kernel
theorem d_M_interrupter_155 : decode c_M_interrupter 155 = .ok (.invokevirtual 111, 3) := by decide +kernel
theorem d_M_interrupter_158 : decode c_M_interrupter 158 = .ok (.ifCond .eq 10, 3) := by decide +kernel
theorem d_M_interrupter_161 : decode c_M_interrupter 161 = .ok (.sipush 300, 3) := by decide +kernel
theorem d_M_interrupter_164 : decode c_M_interrupter 164 = .ok (.iload 5, 2) := by decide +kernel
theorem d_M_interrupter_166 : decode c_M_interrupter 166 = .ok (.iadd, 1) := by decide +kernel
theorem d_M_interrupter_167 : decode c_M_interrupter 167 = .ok (.ireturn, 1) := by decide +kernel
theorem d_M_interrupter_168 : decode c_M_interrupter 168 = .ok (.iinc 5 1, 3) := by decide +kernel
theorem d_M_interrupter_171 : decode c_M_interrupter 171 = .ok (.goto (-74), 3) := by decide +kernel
theorem d_M_interrupter_174 : decode c_M_interrupter 174 = .ok (.iconst 0, 1) := by decide +kernel
theorem d_M_interrupter_175 : decode c_M_interrupter 175 = .ok (.ireturn, 1) := by decide +kernel
theorem d_M_view_0 : decode c_M_view 0 = .ok (.aload_n 0, 1) := by decide +kernel
theorem d_M_view_1 : decode c_M_view 1 = .ok (.iload_n 1, 1) := by decide +kernel
theorem d_M_view_2 : decode c_M_view 2 = .ok (.invokevirtual 69, 3) := by decide +kernel
theorem d_M_view_5 : decode c_M_view 5 = .ok (.ifCond .eq 25, 3) := by decide +kernel
theorem d_M_view_8 : decode c_M_view 8 = .ok (.aload_n 0, 1) := by decide +kernel
theorem d_M_view_9 : decode c_M_view 9 = .ok (.iload_n 2, 1) := by decide +kernel
theorem d_M_view_10 : decode c_M_view 10 = .ok (.invokevirtual 69, 3) := by decide +kernel
theorem d_M_view_13 : decode c_M_view 13 = .ok (.ifCond .eq 17, 3) := by decide +kernel
theorem d_M_view_16 : decode c_M_view 16 = .ok (.iload_n 1, 1) := by decide +kernel
theorem d_M_view_17 : decode c_M_view 17 = .ok (.iload_n 2, 1) := by decide +kernel
theorem d_M_view_18 : decode c_M_view 18 = .ok (.if_icmp .eq 12, 3) := by decide +kernel
theorem d_M_view_21 : decode c_M_view 21 = .ok (.iload_n 3, 1) := by decide +kernel
theorem d_M_view_22 : decode c_M_view 22 = .ok (.iconst 0, 1) := by decide +kernel
theorem d_M_view_23 : decode c_M_view 23 = .ok (.iconst 1, 1) := by decide +kernel
theorem d_M_view_24 : decode c_M_view 24 = .ok (.invokestatic 51, 3) := by decide +kernel
theorem d_M_view_27 : decode c_M_view 27 = .ok (.ifCond .ne 5, 3) := by decide +kernel
theorem d_M_view_30 : decode c_M_view 30 = .ok (.iconst (-1), 1) := by decide +kernel
theorem d_M_view_31 : decode c_M_view 31 = .ok (.ireturn, 1) := by decide +kernel
theorem d_M_view_32 : decode c_M_view 32 = .ok (.aload_n 0, 1) := by decide +kernel
theorem d_M_view_33 : decode c_M_view 33 = .ok (.iload_n 1, 1) := by decide +kernel
theorem d_M_view_34 : decode c_M_view 34 = .ok (.iload_n 2, 1) := by decide +kernel
theorem d_M_view_35 : decode c_M_view 35 = .ok (.invokevirtual 115, 3) := by decide +kernel
theorem d_M_view_38 : decode c_M_view 38 = .ok (.istore 4, 2) := by decide +kernel
theorem d_M_view_40 : decode c_M_view 40 = .ok (.iload_n 3, 1) := by decide +kernel
theorem d_M_view_41 : decode c_M_view 41 = .ok (.ifCond .ne 11, 3) := by decide +kernel
theorem d_M_view_44 : decode c_M_view 44 = .ok (.iload 4, 2) := by decide +kernel
theorem d_M_view_46 : decode c_M_view 46 = .ok (.bipush 100, 2) := by decide +kernel
theorem d_M_view_48 : decode c_M_view 48 = .ok (.idiv, 1) := by decide +kernel
theorem d_M_view_49 : decode c_M_view 49 = .ok (.goto 17, 3) := by decide +kernel
theorem d_M_view_52 : decode c_M_view 52 = .ok (.iload 4, 2) := by decide +kernel
theorem d_M_view_54 : decode c_M_view 54 = .ok (.ifCond .ne 7, 3) := by decide +kernel
theorem d_M_view_57 : decode c_M_view 57 = .ok (.iconst (-1), 1) := by decide +kernel
theorem d_M_view_58 : decode c_M_view 58 = .ok (.goto 8, 3) := by decide +kernel
theorem d_M_view_61 : decode c_M_view 61 = .ok (.iload 4, 2) := by decide +kernel
theorem d_M_view_63 : decode c_M_view 63 = .ok (.bipush 100, 2) := by decide +kernel
theorem d_M_view_65 : decode c_M_view 65 = .ok (.irem, 1) := by decide +kernel
theorem d_M_view_66 : decode c_M_view 66 = .ok (.ireturn, 1) := by decide +kernel
theorem d_M_sightOf_0 : decode c_M_sightOf 0 = .ok (.iload_n 2, 1) := by decide +kernel
theorem d_M_sightOf_1 : decode c_M_sightOf 1 = .ok (.ifCond .eq 7, 3) := by decide +kernel
theorem d_M_sightOf_4 : decode c_M_sightOf 4 = .ok (.iconst (-1), 1) := by decide +kernel
theorem d_M_sightOf_5 : decode c_M_sightOf 5 = .ok (.goto 4, 3) := by decide +kernel
theorem d_M_sightOf_8 : decode c_M_sightOf 8 = .ok (.iconst 1, 1) := by decide +kernel
theorem d_M_sightOf_9 : decode c_M_sightOf 9 = .ok (.istore_n 3, 1) := by decide +kernel
theorem d_M_sightOf_10 : decode c_M_sightOf 10 = .ok (.iload_n 1, 1) := by decide +kernel
theorem d_M_sightOf_11 : decode c_M_sightOf 11 = .ok (.istore 4, 2) := by decide +kernel
theorem d_M_sightOf_13 : decode c_M_sightOf 13 = .ok (.aload_n 0, 1) := by decide +kernel
theorem d_M_sightOf_14 : decode c_M_sightOf 14 = .ok (.iload 4, 2) := by decide +kernel
theorem d_M_sightOf_16 : decode c_M_sightOf 16 = .ok (.iload_n 3, 1) := by decide +kernel
theorem d_M_sightOf_17 : decode c_M_sightOf 17 = .ok (.iadd, 1) := by decide +kernel
theorem d_M_sightOf_18 : decode c_M_sightOf 18 = .ok (.invokevirtual 69, 3) := by decide +kernel
theorem d_M_sightOf_21 : decode c_M_sightOf 21 = .ok (.ifCond .eq 24, 3) := by decide +kernel
theorem d_M_sightOf_24 : decode c_M_sightOf 24 = .ok (.aload_n 0, 1) := by decide +kernel
theorem d_M_sightOf_25 : decode c_M_sightOf 25 = .ok (.iload_n 1, 1) := by decide +kernel
theorem d_M_sightOf_26 : decode c_M_sightOf 26 = .ok (.iload 4, 2) := by decide +kernel
theorem d_M_sightOf_28 : decode c_M_sightOf 28 = .ok (.iload_n 3, 1) := by decide +kernel
theorem d_M_sightOf_29 : decode c_M_sightOf 29 = .ok (.iadd, 1) := by decide +kernel
theorem d_M_sightOf_30 : decode c_M_sightOf 30 = .ok (.invokevirtual 115, 3) := by decide +kernel
theorem d_M_sightOf_33 : decode c_M_sightOf 33 = .ok (.ifCond .ne 12, 3) := by decide +kernel
theorem d_M_sightOf_36 : decode c_M_sightOf 36 = .ok (.iload 4, 2) := by decide +kernel
theorem d_M_sightOf_38 : decode c_M_sightOf 38 = .ok (.iload_n 3, 1) := by decide +kernel
theorem d_M_sightOf_39 : decode c_M_sightOf 39 = .ok (.iadd, 1) := by decide +kernel
theorem d_M_sightOf_40 : decode c_M_sightOf 40 = .ok (.istore 4, 2) := by decide +kernel
theorem d_M_sightOf_42 : decode c_M_sightOf 42 = .ok (.goto (-29), 3) := by decide +kernel
theorem d_M_sightOf_45 : decode c_M_sightOf 45 = .ok (.iload_n 2, 1) := by decide +kernel
theorem d_M_sightOf_46 : decode c_M_sightOf 46 = .ok (.ifCond .eq 20, 3) := by decide +kernel
theorem d_M_sightOf_49 : decode c_M_sightOf 49 = .ok (.aload_n 0, 1) := by decide +kernel
theorem d_M_sightOf_50 : decode c_M_sightOf 50 = .ok (.getfield 19, 3) := by decide +kernel
theorem d_M_sightOf_53 : decode c_M_sightOf 53 = .ok (.iload_n 1, 1) := by decide +kernel
theorem d_M_sightOf_54 : decode c_M_sightOf 54 = .ok (.iaload, 1) := by decide +kernel
theorem d_M_sightOf_55 : decode c_M_sightOf 55 = .ok (.aload_n 0, 1) := by decide +kernel
theorem d_M_sightOf_56 : decode c_M_sightOf 56 = .ok (.getfield 19, 3) := by decide +kernel
theorem d_M_sightOf_59 : decode c_M_sightOf 59 = .ok (.iload 4, 2) := by decide +kernel
theorem d_M_sightOf_61 : decode c_M_sightOf 61 = .ok (.iaload, 1) := by decide +kernel
theorem d_M_sightOf_62 : decode c_M_sightOf 62 = .ok (.isub, 1) := by decide +kernel
theorem d_M_sightOf_63 : decode c_M_sightOf 63 = .ok (.goto 17, 3) := by decide +kernel
theorem d_M_sightOf_66 : decode c_M_sightOf 66 = .ok (.aload_n 0, 1) := by decide +kernel
theorem d_M_sightOf_67 : decode c_M_sightOf 67 = .ok (.getfield 19, 3) := by decide +kernel
theorem d_M_sightOf_70 : decode c_M_sightOf 70 = .ok (.iload 4, 2) := by decide +kernel
theorem d_M_sightOf_72 : decode c_M_sightOf 72 = .ok (.iaload, 1) := by decide +kernel
theorem d_M_sightOf_73 : decode c_M_sightOf 73 = .ok (.aload_n 0, 1) := by decide +kernel
theorem d_M_sightOf_74 : decode c_M_sightOf 74 = .ok (.getfield 19, 3) := by decide +kernel
theorem d_M_sightOf_77 : decode c_M_sightOf 77 = .ok (.iload_n 1, 1) := by decide +kernel
theorem d_M_sightOf_78 : decode c_M_sightOf 78 = .ok (.iaload, 1) := by decide +kernel
theorem d_M_sightOf_79 : decode c_M_sightOf 79 = .ok (.isub, 1) := by decide +kernel
theorem d_M_sightOf_80 : decode c_M_sightOf 80 = .ok (.ireturn, 1) := by decide +kernel
theorem d_M_needOf_0 : decode c_M_needOf 0 = .ok (.iload_n 2, 1) := by decide +kernel
theorem d_M_needOf_1 : decode c_M_needOf 1 = .ok (.ifCond .eq 9, 3) := by decide +kernel
theorem d_M_needOf_4 : decode c_M_needOf 4 = .ok (.iload_n 1, 1) := by decide +kernel
theorem d_M_needOf_5 : decode c_M_needOf 5 = .ok (.iconst 1, 1) := by decide +kernel
theorem d_M_needOf_6 : decode c_M_needOf 6 = .ok (.isub, 1) := by decide +kernel
theorem d_M_needOf_7 : decode c_M_needOf 7 = .ok (.goto 6, 3) := by decide +kernel
theorem d_M_needOf_10 : decode c_M_needOf 10 = .ok (.iload_n 1, 1) := by decide +kernel
theorem d_M_needOf_11 : decode c_M_needOf 11 = .ok (.iconst 1, 1) := by decide +kernel
theorem d_M_needOf_12 : decode c_M_needOf 12 = .ok (.iadd, 1) := by decide +kernel
theorem d_M_needOf_13 : decode c_M_needOf 13 = .ok (.istore 4, 2) := by decide +kernel
theorem d_M_needOf_15 : decode c_M_needOf 15 = .ok (.lconst 0, 1) := by decide +kernel
theorem d_M_needOf_16 : decode c_M_needOf 16 = .ok (.lstore 5, 2) := by decide +kernel
theorem d_M_needOf_18 : decode c_M_needOf 18 = .ok (.aload_n 0, 1) := by decide +kernel
theorem d_M_needOf_19 : decode c_M_needOf 19 = .ok (.iload 4, 2) := by decide +kernel
theorem d_M_needOf_21 : decode c_M_needOf 21 = .ok (.invokevirtual 69, 3) := by decide +kernel
theorem d_M_needOf_24 : decode c_M_needOf 24 = .ok (.ifCond .eq 70, 3) := by decide +kernel
theorem d_M_needOf_27 : decode c_M_needOf 27 = .ok (.iload_n 2, 1) := by decide +kernel
theorem d_M_needOf_28 : decode c_M_needOf 28 = .ok (.ifCond .eq 21, 3) := by decide +kernel
theorem d_M_needOf_31 : decode c_M_needOf 31 = .ok (.aload_n 0, 1) := by decide +kernel
theorem d_M_needOf_32 : decode c_M_needOf 32 = .ok (.getfield 19, 3) := by decide +kernel
theorem d_M_needOf_35 : decode c_M_needOf 35 = .ok (.iload_n 1, 1) := by decide +kernel
theorem d_M_needOf_36 : decode c_M_needOf 36 = .ok (.iaload, 1) := by decide +kernel
theorem d_M_needOf_37 : decode c_M_needOf 37 = .ok (.aload_n 0, 1) := by decide +kernel
theorem d_M_needOf_38 : decode c_M_needOf 38 = .ok (.getfield 19, 3) := by decide +kernel
theorem d_M_needOf_41 : decode c_M_needOf 41 = .ok (.iload 4, 2) := by decide +kernel
theorem d_M_needOf_43 : decode c_M_needOf 43 = .ok (.iaload, 1) := by decide +kernel
theorem d_M_needOf_44 : decode c_M_needOf 44 = .ok (.isub, 1) := by decide +kernel
theorem d_M_needOf_45 : decode c_M_needOf 45 = .ok (.i2l, 1) := by decide +kernel
theorem d_M_needOf_46 : decode c_M_needOf 46 = .ok (.goto 18, 3) := by decide +kernel
theorem d_M_needOf_49 : decode c_M_needOf 49 = .ok (.aload_n 0, 1) := by decide +kernel
theorem d_M_needOf_50 : decode c_M_needOf 50 = .ok (.getfield 19, 3) := by decide +kernel
theorem d_M_needOf_53 : decode c_M_needOf 53 = .ok (.iload 4, 2) := by decide +kernel
theorem d_M_needOf_55 : decode c_M_needOf 55 = .ok (.iaload, 1) := by decide +kernel
theorem d_M_needOf_56 : decode c_M_needOf 56 = .ok (.aload_n 0, 1) := by decide +kernel
theorem d_M_needOf_57 : decode c_M_needOf 57 = .ok (.getfield 19, 3) := by decide +kernel
theorem d_M_needOf_60 : decode c_M_needOf 60 = .ok (.iload_n 1, 1) := by decide +kernel
theorem d_M_needOf_61 : decode c_M_needOf 61 = .ok (.iaload, 1) := by decide +kernel
theorem d_M_needOf_62 : decode c_M_needOf 62 = .ok (.isub, 1) := by decide +kernel
theorem d_M_needOf_63 : decode c_M_needOf 63 = .ok (.i2l, 1) := by decide +kernel
theorem d_M_needOf_64 : decode c_M_needOf 64 = .ok (.lstore 7, 2) := by decide +kernel
theorem d_M_needOf_66 : decode c_M_needOf 66 = .ok (.ldc2_w 119, 3) := by decide +kernel
theorem d_M_needOf_69 : decode c_M_needOf 69 = .ok (.aload_n 0, 1) := by decide +kernel
theorem d_M_needOf_70 : decode c_M_needOf 70 = .ok (.getfield 16, 3) := by decide +kernel
theorem d_M_needOf_73 : decode c_M_needOf 73 = .ok (.iload 4, 2) := by decide +kernel
theorem d_M_needOf_75 : decode c_M_needOf 75 = .ok (.iaload, 1) := by decide +kernel
theorem d_M_needOf_76 : decode c_M_needOf 76 = .ok (.aload_n 0, 1) := by decide +kernel
theorem d_M_needOf_77 : decode c_M_needOf 77 = .ok (.getfield 16, 3) := by decide +kernel
theorem d_M_needOf_80 : decode c_M_needOf 80 = .ok (.iload_n 1, 1) := by decide +kernel
theorem d_M_needOf_81 : decode c_M_needOf 81 = .ok (.iaload, 1) := by decide +kernel
theorem d_M_needOf_82 : decode c_M_needOf 82 = .ok (.isub, 1) := by decide +kernel
theorem d_M_needOf_83 : decode c_M_needOf 83 = .ok (.i2l, 1) := by decide +kernel
theorem d_M_needOf_84 : decode c_M_needOf 84 = .ok (.lmul, 1) := by decide +kernel
theorem d_M_needOf_85 : decode c_M_needOf 85 = .ok (.ldc2_w 121, 3) := by decide +kernel
theorem d_M_needOf_88 : decode c_M_needOf 88 = .ok (.lload 7, 2) := by decide +kernel
theorem d_M_needOf_90 : decode c_M_needOf 90 = .ok (.lmul, 1) := by decide +kernel
theorem d_M_needOf_91 : decode c_M_needOf 91 = .ok (.ldiv, 1) := by decide +kernel
theorem d_M_needOf_92 : decode c_M_needOf 92 = .ok (.lstore 5, 2) := by decide +kernel
theorem d_M_needOf_94 : decode c_M_needOf 94 = .ok (.aload_n 0, 1) := by decide +kernel
theorem d_M_needOf_95 : decode c_M_needOf 95 = .ok (.getfield 41, 3) := by decide +kernel
theorem d_M_needOf_98 : decode c_M_needOf 98 = .ok (.i2l, 1) := by decide +kernel
theorem d_M_needOf_99 : decode c_M_needOf 99 = .ok (.lload 5, 2) := by decide +kernel
theorem d_M_needOf_101 : decode c_M_needOf 101 = .ok (.ladd, 1) := by decide +kernel
theorem d_M_needOf_102 : decode c_M_needOf 102 = .ok (.ldc2_w 123, 3) := by decide +kernel
theorem d_M_needOf_105 : decode c_M_needOf 105 = .ok (.lcmp, 1) := by decide +kernel
theorem d_M_needOf_106 : decode c_M_needOf 106 = .ok (.ifCond .ge 9, 3) := by decide +kernel
theorem d_M_needOf_109 : decode c_M_needOf 109 = .ok (.ldc2_w 123, 3) := by decide +kernel
theorem d_M_needOf_112 : decode c_M_needOf 112 = .ok (.goto 11, 3) := by decide +kernel
theorem d_M_needOf_115 : decode c_M_needOf 115 = .ok (.aload_n 0, 1) := by decide +kernel
theorem d_M_needOf_116 : decode c_M_needOf 116 = .ok (.getfield 41, 3) := by decide +kernel
theorem d_M_needOf_119 : decode c_M_needOf 119 = .ok (.i2l, 1) := by decide +kernel
theorem d_M_needOf_120 : decode c_M_needOf 120 = .ok (.lload 5, 2) := by decide +kernel
theorem d_M_needOf_122 : decode c_M_needOf 122 = .ok (.ladd, 1) := by decide +kernel
theorem d_M_needOf_123 : decode c_M_needOf 123 = .ok (.lstore 7, 2) := by decide +kernel
theorem d_M_needOf_125 : decode c_M_needOf 125 = .ok (.iload_n 3, 1) := by decide +kernel
theorem d_M_needOf_126 : decode c_M_needOf 126 = .ok (.aload_n 0, 1) := by decide +kernel
theorem d_M_needOf_127 : decode c_M_needOf 127 = .ok (.getfield 38, 3) := by decide +kernel
theorem d_M_needOf_130 : decode c_M_needOf 130 = .ok (.imul, 1) := by decide +kernel
theorem d_M_needOf_131 : decode c_M_needOf 131 = .ok (.bipush 10, 2) := by decide +kernel
theorem d_M_needOf_133 : decode c_M_needOf 133 = .ok (.imul, 1) := by decide +kernel
theorem d_M_needOf_134 : decode c_M_needOf 134 = .ok (.bipush 36, 2) := by decide +kernel
theorem d_M_needOf_136 : decode c_M_needOf 136 = .ok (.idiv, 1) := by decide +kernel
theorem d_M_needOf_137 : decode c_M_needOf 137 = .ok (.ldc2_w 47, 3) := by decide +kernel
theorem d_M_needOf_140 : decode c_M_needOf 140 = .ok (.iload_n 3, 1) := by decide +kernel
theorem d_M_needOf_141 : decode c_M_needOf 141 = .ok (.i2l, 1) := by decide +kernel
theorem d_M_needOf_142 : decode c_M_needOf 142 = .ok (.lmul, 1) := by decide +kernel
theorem d_M_needOf_143 : decode c_M_needOf 143 = .ok (.iload_n 3, 1) := by decide +kernel
theorem d_M_needOf_144 : decode c_M_needOf 144 = .ok (.i2l, 1) := by decide +kernel
theorem d_M_needOf_145 : decode c_M_needOf 145 = .ok (.lmul, 1) := by decide +kernel
theorem d_M_needOf_146 : decode c_M_needOf 146 = .ok (.ldc2_w 125, 3) := by decide +kernel
theorem d_M_needOf_149 : decode c_M_needOf 149 = .ok (.lload 7, 2) := by decide +kernel
theorem d_M_needOf_151 : decode c_M_needOf 151 = .ok (.lmul, 1) := by decide +kernel
theorem d_M_needOf_152 : decode c_M_needOf 152 = .ok (.ldiv, 1) := by decide +kernel
theorem d_M_needOf_153 : decode c_M_needOf 153 = .ok (.l2i, 1) := by decide +kernel
theorem d_M_needOf_154 : decode c_M_needOf 154 = .ok (.iadd, 1) := by decide +kernel
theorem d_M_needOf_155 : decode c_M_needOf 155 = .ok (.ireturn, 1) := by decide +kernel
theorem d_M_remaining_0 : decode c_M_remaining 0 = .ok (.iload_n 2, 1) := by decide +kernel
theorem d_M_remaining_1 : decode c_M_remaining 1 = .ok (.ifCond .eq 12, 3) := by decide +kernel
theorem d_M_remaining_4 : decode c_M_remaining 4 = .ok (.aload_n 0, 1) := by decide +kernel
theorem d_M_remaining_5 : decode c_M_remaining 5 = .ok (.getfield 19, 3) := by decide +kernel
theorem d_M_remaining_8 : decode c_M_remaining 8 = .ok (.iload_n 1, 1) := by decide +kernel
theorem d_M_remaining_9 : decode c_M_remaining 9 = .ok (.iaload, 1) := by decide +kernel
theorem d_M_remaining_10 : decode c_M_remaining 10 = .ok (.goto 21, 3) := by decide +kernel
theorem d_M_remaining_13 : decode c_M_remaining 13 = .ok (.aload_n 0, 1) := by decide +kernel
theorem d_M_remaining_14 : decode c_M_remaining 14 = .ok (.getfield 19, 3) := by decide +kernel
theorem d_M_remaining_17 : decode c_M_remaining 17 = .ok (.aload_n 0, 1) := by decide +kernel
theorem d_M_remaining_18 : decode c_M_remaining 18 = .ok (.getfield 44, 3) := by decide +kernel
theorem d_M_remaining_21 : decode c_M_remaining 21 = .ok (.iconst 1, 1) := by decide +kernel
theorem d_M_remaining_22 : decode c_M_remaining 22 = .ok (.isub, 1) := by decide +kernel
theorem d_M_remaining_23 : decode c_M_remaining 23 = .ok (.iaload, 1) := by decide +kernel
theorem d_M_remaining_24 : decode c_M_remaining 24 = .ok (.aload_n 0, 1) := by decide +kernel
theorem d_M_remaining_25 : decode c_M_remaining 25 = .ok (.getfield 19, 3) := by decide +kernel
theorem d_M_remaining_28 : decode c_M_remaining 28 = .ok (.iload_n 1, 1) := by decide +kernel
theorem d_M_remaining_29 : decode c_M_remaining 29 = .ok (.iaload, 1) := by decide +kernel
theorem d_M_remaining_30 : decode c_M_remaining 30 = .ok (.isub, 1) := by decide +kernel
theorem d_M_remaining_31 : decode c_M_remaining 31 = .ok (.ireturn, 1) := by decide +kernel
theorem d_M_isBlind_0 : decode c_M_isBlind 0 = .ok (.aload_n 0, 1) := by decide +kernel
theorem d_M_isBlind_1 : decode c_M_isBlind 1 = .ok (.iload_n 1, 1) := by decide +kernel
theorem d_M_isBlind_2 : decode c_M_isBlind 2 = .ok (.iload_n 2, 1) := by decide +kernel
theorem d_M_isBlind_3 : decode c_M_isBlind 3 = .ok (.aload_n 0, 1) := by decide +kernel
theorem d_M_isBlind_4 : decode c_M_isBlind 4 = .ok (.getfield 22, 3) := by decide +kernel
theorem d_M_isBlind_7 : decode c_M_isBlind 7 = .ok (.iload_n 1, 1) := by decide +kernel
theorem d_M_isBlind_8 : decode c_M_isBlind 8 = .ok (.iaload, 1) := by decide +kernel
theorem d_M_isBlind_9 : decode c_M_isBlind 9 = .ok (.invokevirtual 127, 3) := by decide +kernel
theorem d_M_isBlind_12 : decode c_M_isBlind 12 = .ok (.istore_n 3, 1) := by decide +kernel
theorem d_M_isBlind_13 : decode c_M_isBlind 13 = .ok (.aload_n 0, 1) := by decide +kernel
theorem d_M_isBlind_14 : decode c_M_isBlind 14 = .ok (.iload_n 1, 1) := by decide +kernel
theorem d_M_isBlind_15 : decode c_M_isBlind 15 = .ok (.iload_n 2, 1) := by decide +kernel
theorem d_M_isBlind_16 : decode c_M_isBlind 16 = .ok (.invokevirtual 131, 3) := by decide +kernel
theorem d_M_isBlind_19 : decode c_M_isBlind 19 = .ok (.iload_n 3, 1) := by decide +kernel
theorem d_M_isBlind_20 : decode c_M_isBlind 20 = .ok (.if_icmp .lt 17, 3) := by decide +kernel
theorem d_M_isBlind_23 : decode c_M_isBlind 23 = .ok (.aload_n 0, 1) := by decide +kernel
theorem d_M_isBlind_24 : decode c_M_isBlind 24 = .ok (.iload_n 1, 1) := by decide +kernel
theorem d_M_isBlind_25 : decode c_M_isBlind 25 = .ok (.iload_n 2, 1) := by decide +kernel
theorem d_M_isBlind_26 : decode c_M_isBlind 26 = .ok (.invokevirtual 135, 3) := by decide +kernel
theorem d_M_isBlind_29 : decode c_M_isBlind 29 = .ok (.iload_n 3, 1) := by decide +kernel
theorem d_M_isBlind_30 : decode c_M_isBlind 30 = .ok (.if_icmp .ge 7, 3) := by decide +kernel
theorem d_M_isBlind_33 : decode c_M_isBlind 33 = .ok (.iconst 1, 1) := by decide +kernel
theorem d_M_isBlind_34 : decode c_M_isBlind 34 = .ok (.goto 4, 3) := by decide +kernel
theorem d_M_isBlind_37 : decode c_M_isBlind 37 = .ok (.iconst 0, 1) := by decide +kernel
theorem d_M_isBlind_38 : decode c_M_isBlind 38 = .ok (.ireturn, 1) := by decide +kernel
theorem d_M_sight_0 : decode c_M_sight 0 = .ok (.aload_n 0, 1) := by decide +kernel
theorem d_M_sight_1 : decode c_M_sight 1 = .ok (.iload_n 1, 1) := by decide +kernel
theorem d_M_sight_2 : decode c_M_sight 2 = .ok (.invokevirtual 69, 3) := by decide +kernel
theorem d_M_sight_5 : decode c_M_sight 5 = .ok (.ifCond .eq 12, 3) := by decide +kernel
theorem d_M_sight_8 : decode c_M_sight 8 = .ok (.aload_n 0, 1) := by decide +kernel
theorem d_M_sight_9 : decode c_M_sight 9 = .ok (.iload_n 1, 1) := by decide +kernel
theorem d_M_sight_10 : decode c_M_sight 10 = .ok (.iload_n 2, 1) := by decide +kernel
theorem d_M_sight_11 : decode c_M_sight 11 = .ok (.invokevirtual 135, 3) := by decide +kernel
theorem d_M_sight_14 : decode c_M_sight 14 = .ok (.goto 4, 3) := by decide +kernel
theorem d_M_sight_17 : decode c_M_sight 17 = .ok (.iconst (-1), 1) := by decide +kernel
theorem d_M_sight_18 : decode c_M_sight 18 = .ok (.ireturn, 1) := by decide +kernel
theorem d_M_need_0 : decode c_M_need 0 = .ok (.aload_n 0, 1) := by decide +kernel
theorem d_M_need_1 : decode c_M_need 1 = .ok (.iload_n 1, 1) := by decide +kernel
theorem d_M_need_2 : decode c_M_need 2 = .ok (.invokevirtual 69, 3) := by decide +kernel
theorem d_M_need_5 : decode c_M_need 5 = .ok (.ifCond .eq 18, 3) := by decide +kernel
theorem d_M_need_8 : decode c_M_need 8 = .ok (.aload_n 0, 1) := by decide +kernel
theorem d_M_need_9 : decode c_M_need 9 = .ok (.iload_n 1, 1) := by decide +kernel
theorem d_M_need_10 : decode c_M_need 10 = .ok (.iload_n 2, 1) := by decide +kernel
theorem d_M_need_11 : decode c_M_need 11 = .ok (.aload_n 0, 1) := by decide +kernel
theorem d_M_need_12 : decode c_M_need 12 = .ok (.getfield 22, 3) := by decide +kernel
theorem d_M_need_15 : decode c_M_need 15 = .ok (.iload_n 1, 1) := by decide +kernel
theorem d_M_need_16 : decode c_M_need 16 = .ok (.iaload, 1) := by decide +kernel
theorem d_M_need_17 : decode c_M_need 17 = .ok (.invokevirtual 127, 3) := by decide +kernel
theorem d_M_need_20 : decode c_M_need 20 = .ok (.goto 4, 3) := by decide +kernel
theorem d_M_need_23 : decode c_M_need 23 = .ok (.iconst (-1), 1) := by decide +kernel
theorem d_M_need_24 : decode c_M_need 24 = .ok (.ireturn, 1) := by decide +kernel
theorem d_M_blind_0 : decode c_M_blind 0 = .ok (.iload_n 2, 1) := by decide +kernel
theorem d_M_blind_1 : decode c_M_blind 1 = .ok (.istore 4, 2) := by decide +kernel
theorem d_M_blind_3 : decode c_M_blind 3 = .ok (.iconst 0, 1) := by decide +kernel
theorem d_M_blind_4 : decode c_M_blind 4 = .ok (.istore 5, 2) := by decide +kernel
theorem d_M_blind_6 : decode c_M_blind 6 = .ok (.iload 5, 2) := by decide +kernel
theorem d_M_blind_8 : decode c_M_blind 8 = .ok (.aload_n 0, 1) := by decide +kernel
theorem d_M_blind_9 : decode c_M_blind 9 = .ok (.getfield 44, 3) := by decide +kernel
theorem d_M_blind_12 : decode c_M_blind 12 = .ok (.if_icmp .ge 86, 3) := by decide +kernel
theorem d_M_blind_15 : decode c_M_blind 15 = .ok (.iload 4, 2) := by decide +kernel
theorem d_M_blind_17 : decode c_M_blind 17 = .ok (.ifCond .lt 81, 3) := by decide +kernel
theorem d_M_blind_20 : decode c_M_blind 20 = .ok (.iload_n 3, 1) := by decide +kernel
theorem d_M_blind_21 : decode c_M_blind 21 = .ok (.iconst 0, 1) := by decide +kernel
theorem d_M_blind_22 : decode c_M_blind 22 = .ok (.iconst 1, 1) := by decide +kernel
theorem d_M_blind_23 : decode c_M_blind 23 = .ok (.invokestatic 51, 3) := by decide +kernel
theorem d_M_blind_26 : decode c_M_blind 26 = .ok (.ifCond .eq 72, 3) := by decide +kernel
theorem d_M_blind_29 : decode c_M_blind 29 = .ok (.aload_n 0, 1) := by decide +kernel
theorem d_M_blind_30 : decode c_M_blind 30 = .ok (.iload 5, 2) := by decide +kernel
theorem d_M_blind_32 : decode c_M_blind 32 = .ok (.iload_n 1, 1) := by decide +kernel
theorem d_M_blind_33 : decode c_M_blind 33 = .ok (.invokevirtual 138, 3) := by decide +kernel
theorem d_M_blind_36 : decode c_M_blind 36 = .ok (.ifCond .eq 56, 3) := by decide +kernel
theorem d_M_blind_39 : decode c_M_blind 39 = .ok (.iload 5, 2) := by decide +kernel
theorem d_M_blind_41 : decode c_M_blind 41 = .ok (.istore 6, 2) := by decide +kernel
theorem d_M_blind_43 : decode c_M_blind 43 = .ok (.iload 5, 2) := by decide +kernel
theorem d_M_blind_45 : decode c_M_blind 45 = .ok (.iconst 1, 1) := by decide +kernel
theorem d_M_blind_46 : decode c_M_blind 46 = .ok (.iadd, 1) := by decide +kernel
theorem d_M_blind_47 : decode c_M_blind 47 = .ok (.aload_n 0, 1) := by decide +kernel
theorem d_M_blind_48 : decode c_M_blind 48 = .ok (.getfield 44, 3) := by decide +kernel
theorem d_M_blind_51 : decode c_M_blind 51 = .ok (.if_icmp .ge 21, 3) := by decide +kernel
theorem d_M_blind_54 : decode c_M_blind 54 = .ok (.aload_n 0, 1) := by decide +kernel
theorem d_M_blind_55 : decode c_M_blind 55 = .ok (.iload 5, 2) := by decide +kernel
theorem d_M_blind_57 : decode c_M_blind 57 = .ok (.iconst 1, 1) := by decide +kernel
theorem d_M_blind_58 : decode c_M_blind 58 = .ok (.iadd, 1) := by decide +kernel
theorem d_M_blind_59 : decode c_M_blind 59 = .ok (.iload_n 1, 1) := by decide +kernel
theorem d_M_blind_60 : decode c_M_blind 60 = .ok (.invokevirtual 138, 3) := by decide +kernel
theorem d_M_blind_63 : decode c_M_blind 63 = .ok (.ifCond .eq 9, 3) := by decide +kernel
theorem d_M_blind_66 : decode c_M_blind 66 = .ok (.iinc 5 1, 3) := by decide +kernel
theorem d_M_blind_69 : decode c_M_blind 69 = .ok (.goto (-26), 3) := by decide +kernel
theorem d_M_blind_72 : decode c_M_blind 72 = .ok (.iload 4, 2) := by decide +kernel
theorem d_M_blind_74 : decode c_M_blind 74 = .ok (.ifCond .ne 15, 3) := by decide +kernel
theorem d_M_blind_77 : decode c_M_blind 77 = .ok (.iload_n 3, 1) := by decide +kernel
theorem d_M_blind_78 : decode c_M_blind 78 = .ok (.ifCond .ne 8, 3) := by decide +kernel
theorem d_M_blind_81 : decode c_M_blind 81 = .ok (.iload 6, 2) := by decide +kernel
theorem d_M_blind_83 : decode c_M_blind 83 = .ok (.goto 5, 3) := by decide +kernel
theorem d_M_blind_86 : decode c_M_blind 86 = .ok (.iload 5, 2) := by decide +kernel
theorem d_M_blind_88 : decode c_M_blind 88 = .ok (.ireturn, 1) := by decide +kernel
theorem d_M_blind_89 : decode c_M_blind 89 = .ok (.iinc 4 (-1), 3) := by decide +kernel
theorem d_M_blind_92 : decode c_M_blind 92 = .ok (.iinc 5 1, 3) := by decide +kernel
theorem d_M_blind_95 : decode c_M_blind 95 = .ok (.goto (-89), 3) := by decide +kernel
theorem d_M_blind_98 : decode c_M_blind 98 = .ok (.iconst (-1), 1) := by decide +kernel
theorem d_M_blind_99 : decode c_M_blind 99 = .ok (.ireturn, 1) := by decide +kernel
theorem d_M_setBack_0 : decode c_M_setBack 0 = .ok (.aload_n 0, 1) := by decide +kernel
theorem d_M_setBack_1 : decode c_M_setBack 1 = .ok (.iload_n 1, 1) := by decide +kernel
theorem d_M_setBack_2 : decode c_M_setBack 2 = .ok (.invokevirtual 69, 3) := by decide +kernel
theorem d_M_setBack_5 : decode c_M_setBack 5 = .ok (.ifCond .eq 12, 3) := by decide +kernel
theorem d_M_setBack_8 : decode c_M_setBack 8 = .ok (.iload_n 2, 1) := by decide +kernel
theorem d_M_setBack_9 : decode c_M_setBack 9 = .ok (.iconst 0, 1) := by decide +kernel
theorem d_M_setBack_10 : decode c_M_setBack 10 = .ok (.iconst 1, 1) := by decide +kernel
theorem d_M_setBack_11 : decode c_M_setBack 11 = .ok (.invokestatic 51, 3) := by decide +kernel
theorem d_M_setBack_14 : decode c_M_setBack 14 = .ok (.ifCond .ne 5, 3) := by decide +kernel
theorem d_M_setBack_17 : decode c_M_setBack 17 = .ok (.iconst (-1), 1) := by decide +kernel
theorem d_M_setBack_18 : decode c_M_setBack 18 = .ok (.ireturn, 1) := by decide +kernel
theorem d_M_setBack_19 : decode c_M_setBack 19 = .ok (.iconst 0, 1) := by decide +kernel
theorem d_M_setBack_20 : decode c_M_setBack 20 = .ok (.istore_n 3, 1) := by decide +kernel
theorem d_M_setBack_21 : decode c_M_setBack 21 = .ok (.iconst 0, 1) := by decide +kernel
theorem d_M_setBack_22 : decode c_M_setBack 22 = .ok (.istore 4, 2) := by decide +kernel
theorem d_M_setBack_24 : decode c_M_setBack 24 = .ok (.iload 4, 2) := by decide +kernel
theorem d_M_setBack_26 : decode c_M_setBack 26 = .ok (.iload_n 1, 1) := by decide +kernel
theorem d_M_setBack_27 : decode c_M_setBack 27 = .ok (.if_icmp .ge 151, 3) := by decide +kernel
theorem d_M_setBack_30 : decode c_M_setBack 30 = .ok (.aload_n 0, 1) := by decide +kernel
theorem d_M_setBack_31 : decode c_M_setBack 31 = .ok (.iload 4, 2) := by decide +kernel
theorem d_M_setBack_33 : decode c_M_setBack 33 = .ok (.iconst 0, 1) := by decide +kernel
theorem d_M_setBack_34 : decode c_M_setBack 34 = .ok (.aload_n 0, 1) := by decide +kernel
theorem d_M_setBack_35 : decode c_M_setBack 35 = .ok (.getfield 22, 3) := by decide +kernel
theorem d_M_setBack_38 : decode c_M_setBack 38 = .ok (.iload 4, 2) := by decide +kernel
theorem d_M_setBack_40 : decode c_M_setBack 40 = .ok (.iaload, 1) := by decide +kernel
theorem d_M_setBack_41 : decode c_M_setBack 41 = .ok (.invokevirtual 127, 3) := by decide +kernel
theorem d_M_setBack_44 : decode c_M_setBack 44 = .ok (.istore 5, 2) := by decide +kernel
theorem d_M_setBack_46 : decode c_M_setBack 46 = .ok (.iload_n 1, 1) := by decide +kernel
theorem d_M_setBack_47 : decode c_M_setBack 47 = .ok (.iconst 1, 1) := by decide +kernel
theorem d_M_setBack_48 : decode c_M_setBack 48 = .ok (.iadd, 1) := by decide +kernel
theorem d_M_setBack_49 : decode c_M_setBack 49 = .ok (.istore 6, 2) := by decide +kernel
theorem d_M_setBack_51 : decode c_M_setBack 51 = .ok (.iload 6, 2) := by decide +kernel
theorem d_M_setBack_53 : decode c_M_setBack 53 = .ok (.aload_n 0, 1) := by decide +kernel
theorem d_M_setBack_54 : decode c_M_setBack 54 = .ok (.getfield 44, 3) := by decide +kernel
theorem d_M_setBack_57 : decode c_M_setBack 57 = .ok (.if_icmp .ge 115, 3) := by decide +kernel
theorem d_M_setBack_60 : decode c_M_setBack 60 = .ok (.aload_n 0, 1) := by decide +kernel
theorem d_M_setBack_61 : decode c_M_setBack 61 = .ok (.getfield 19, 3) := by decide +kernel
theorem d_M_setBack_64 : decode c_M_setBack 64 = .ok (.iload 6, 2) := by decide +kernel
theorem d_M_setBack_66 : decode c_M_setBack 66 = .ok (.iaload, 1) := by decide +kernel
theorem d_M_setBack_67 : decode c_M_setBack 67 = .ok (.aload_n 0, 1) := by decide +kernel
theorem d_M_setBack_68 : decode c_M_setBack 68 = .ok (.getfield 19, 3) := by decide +kernel
theorem d_M_setBack_71 : decode c_M_setBack 71 = .ok (.iload 4, 2) := by decide +kernel
theorem d_M_setBack_73 : decode c_M_setBack 73 = .ok (.iaload, 1) := by decide +kernel
theorem d_M_setBack_74 : decode c_M_setBack 74 = .ok (.isub, 1) := by decide +kernel
theorem d_M_setBack_75 : decode c_M_setBack 75 = .ok (.iload 5, 2) := by decide +kernel
theorem d_M_setBack_77 : decode c_M_setBack 77 = .ok (.if_icmp .gt 95, 3) := by decide +kernel
theorem d_M_setBack_80 : decode c_M_setBack 80 = .ok (.aload_n 0, 1) := by decide +kernel
theorem d_M_setBack_81 : decode c_M_setBack 81 = .ok (.iload 4, 2) := by decide +kernel
theorem d_M_setBack_83 : decode c_M_setBack 83 = .ok (.iload 6, 2) := by decide +kernel
theorem d_M_setBack_85 : decode c_M_setBack 85 = .ok (.iload_n 1, 1) := by decide +kernel
theorem d_M_setBack_86 : decode c_M_setBack 86 = .ok (.invokevirtual 76, 3) := by decide +kernel
theorem d_M_setBack_89 : decode c_M_setBack 89 = .ok (.lstore 7, 2) := by decide +kernel
theorem d_M_setBack_91 : decode c_M_setBack 91 = .ok (.iload_n 2, 1) := by decide +kernel
theorem d_M_setBack_92 : decode c_M_setBack 92 = .ok (.iconst 1, 1) := by decide +kernel
theorem d_M_setBack_93 : decode c_M_setBack 93 = .ok (.if_icmp .ne 18, 3) := by decide +kernel
theorem d_M_setBack_96 : decode c_M_setBack 96 = .ok (.lload 7, 2) := by decide +kernel
theorem d_M_setBack_98 : decode c_M_setBack 98 = .ok (.lconst 0, 1) := by decide +kernel
theorem d_M_setBack_99 : decode c_M_setBack 99 = .ok (.lcmp, 1) := by decide +kernel
theorem d_M_setBack_100 : decode c_M_setBack 100 = .ok (.ifCond .le 7, 3) := by decide +kernel
theorem d_M_setBack_103 : decode c_M_setBack 103 = .ok (.iconst 1, 1) := by decide +kernel
theorem d_M_setBack_104 : decode c_M_setBack 104 = .ok (.goto 19, 3) := by decide +kernel
theorem d_M_setBack_107 : decode c_M_setBack 107 = .ok (.iconst 0, 1) := by decide +kernel
theorem d_M_setBack_108 : decode c_M_setBack 108 = .ok (.goto 15, 3) := by decide +kernel
theorem d_M_setBack_111 : decode c_M_setBack 111 = .ok (.lload 7, 2) := by decide +kernel
theorem d_M_setBack_113 : decode c_M_setBack 113 = .ok (.lconst 0, 1) := by decide +kernel
theorem d_M_setBack_114 : decode c_M_setBack 114 = .ok (.lcmp, 1) := by decide +kernel
theorem d_M_setBack_115 : decode c_M_setBack 115 = .ok (.ifCond .ge 7, 3) := by decide +kernel
theorem d_M_setBack_118 : decode c_M_setBack 118 = .ok (.iconst 1, 1) := by decide +kernel
theorem d_M_setBack_119 : decode c_M_setBack 119 = .ok (.goto 4, 3) := by decide +kernel
theorem d_M_setBack_122 : decode c_M_setBack 122 = .ok (.iconst 0, 1) := by decide +kernel
theorem d_M_setBack_123 : decode c_M_setBack 123 = .ok (.istore 9, 2) := by decide +kernel
theorem d_M_setBack_125 : decode c_M_setBack 125 = .ok (.iload 9, 2) := by decide +kernel
theorem d_M_setBack_127 : decode c_M_setBack 127 = .ok (.ifCond .eq 39, 3) := by decide +kernel
theorem d_M_setBack_130 : decode c_M_setBack 130 = .ok (.iload_n 3, 1) := by decide +kernel
theorem d_M_setBack_131 : decode c_M_setBack 131 = .ok (.sipush 1000, 3) := by decide +kernel
theorem d_M_setBack_134 : decode c_M_setBack 134 = .ok (.if_icmp .gt 32, 3) := by decide +kernel
theorem d_M_setBack_137 : decode c_M_setBack 137 = .ok (.lload 7, 2) := by decide +kernel
theorem d_M_setBack_139 : decode c_M_setBack 139 = .ok (.invokestatic 61, 3) := by decide +kernel
theorem d_M_setBack_142 : decode c_M_setBack 142 = .ok (.iload_n 3, 1) := by decide +kernel
theorem d_M_setBack_143 : decode c_M_setBack 143 = .ok (.i2l, 1) := by decide +kernel
theorem d_M_setBack_144 : decode c_M_setBack 144 = .ok (.invokestatic 61, 3) := by decide +kernel
theorem d_M_setBack_147 : decode c_M_setBack 147 = .ok (.aload_n 0, 1) := by decide +kernel
theorem d_M_setBack_148 : decode c_M_setBack 148 = .ok (.iload 4, 2) := by decide +kernel
theorem d_M_setBack_150 : decode c_M_setBack 150 = .ok (.iload 6, 2) := by decide +kernel
theorem d_M_setBack_152 : decode c_M_setBack 152 = .ok (.invokevirtual 80, 3) := by decide +kernel
theorem d_M_setBack_155 : decode c_M_setBack 155 = .ok (.lmul, 1) := by decide +kernel
theorem d_M_setBack_156 : decode c_M_setBack 156 = .ok (.lcmp, 1) := by decide +kernel
theorem d_M_setBack_157 : decode c_M_setBack 157 = .ok (.ifCond .le 9, 3) := by decide +kernel
theorem d_M_setBack_160 : decode c_M_setBack 160 = .ok (.iinc 3 1, 3) := by decide +kernel
theorem d_M_setBack_163 : decode c_M_setBack 163 = .ok (.goto (-38), 3) := by decide +kernel
theorem d_M_setBack_166 : decode c_M_setBack 166 = .ok (.iinc 6 1, 3) := by decide +kernel
theorem d_M_setBack_169 : decode c_M_setBack 169 = .ok (.goto (-118), 3) := by decide +kernel
theorem d_M_setBack_172 : decode c_M_setBack 172 = .ok (.iinc 4 1, 3) := by decide +kernel
theorem d_M_setBack_175 : decode c_M_setBack 175 = .ok (.goto (-151), 3) := by decide +kernel
theorem d_M_setBack_178 : decode c_M_setBack 178 = .ok (.iload_n 3, 1) := by decide +kernel
theorem d_M_setBack_179 : decode c_M_setBack 179 = .ok (.sipush 1000, 3) := by decide +kernel
theorem d_M_setBack_182 : decode c_M_setBack 182 = .ok (.if_icmp .le 7, 3) := by decide +kernel
theorem d_M_setBack_185 : decode c_M_setBack 185 = .ok (.iconst (-1), 1) := by decide +kernel
theorem d_M_setBack_186 : decode c_M_setBack 186 = .ok (.goto 4, 3) := by decide +kernel
theorem d_M_setBack_189 : decode c_M_setBack 189 = .ok (.iload_n 3, 1) := by decide +kernel
theorem d_M_setBack_190 : decode c_M_setBack 190 = .ok (.ireturn, 1) := by decide +kernel
theorem d_M_allowed_0 : decode c_M_allowed 0 = .ok (.aload_n 0, 1) := by decide +kernel
theorem d_M_allowed_1 : decode c_M_allowed 1 = .ok (.iload_n 1, 1) := by decide +kernel
theorem d_M_allowed_2 : decode c_M_allowed 2 = .ok (.invokevirtual 69, 3) := by decide +kernel
theorem d_M_allowed_5 : decode c_M_allowed 5 = .ok (.ifCond .ne 5, 3) := by decide +kernel
theorem d_M_allowed_8 : decode c_M_allowed 8 = .ok (.iconst (-1), 1) := by decide +kernel
theorem d_M_allowed_9 : decode c_M_allowed 9 = .ok (.ireturn, 1) := by decide +kernel
theorem d_M_allowed_10 : decode c_M_allowed 10 = .ok (.aload_n 0, 1) := by decide +kernel
theorem d_M_allowed_11 : decode c_M_allowed 11 = .ok (.iload_n 1, 1) := by decide +kernel
theorem d_M_allowed_12 : decode c_M_allowed 12 = .ok (.iload_n 2, 1) := by decide +kernel
theorem d_M_allowed_13 : decode c_M_allowed 13 = .ok (.invokevirtual 135, 3) := by decide +kernel
theorem d_M_allowed_16 : decode c_M_allowed 16 = .ok (.istore_n 3, 1) := by decide +kernel
theorem d_M_allowed_17 : decode c_M_allowed 17 = .ok (.sipush 130, 3) := by decide +kernel
theorem d_M_allowed_20 : decode c_M_allowed 20 = .ok (.istore 4, 2) := by decide +kernel
theorem d_M_allowed_22 : decode c_M_allowed 22 = .ok (.iload 4, 2) := by decide +kernel
theorem d_M_allowed_24 : decode c_M_allowed 24 = .ok (.ifCond .le 39, 3) := by decide +kernel
theorem d_M_allowed_27 : decode c_M_allowed 27 = .ok (.aload_n 0, 1) := by decide +kernel
theorem d_M_allowed_28 : decode c_M_allowed 28 = .ok (.iload_n 1, 1) := by decide +kernel
theorem d_M_allowed_29 : decode c_M_allowed 29 = .ok (.iload_n 2, 1) := by decide +kernel
theorem d_M_allowed_30 : decode c_M_allowed 30 = .ok (.iload 4, 2) := by decide +kernel
theorem d_M_allowed_32 : decode c_M_allowed 32 = .ok (.invokevirtual 127, 3) := by decide +kernel
theorem d_M_allowed_35 : decode c_M_allowed 35 = .ok (.istore 5, 2) := by decide +kernel
theorem d_M_allowed_37 : decode c_M_allowed 37 = .ok (.iload 5, 2) := by decide +kernel
theorem d_M_allowed_39 : decode c_M_allowed 39 = .ok (.iload_n 3, 1) := by decide +kernel
theorem d_M_allowed_40 : decode c_M_allowed 40 = .ok (.if_icmp .le 14, 3) := by decide +kernel
theorem d_M_allowed_43 : decode c_M_allowed 43 = .ok (.aload_n 0, 1) := by decide +kernel
theorem d_M_allowed_44 : decode c_M_allowed 44 = .ok (.iload_n 1, 1) := by decide +kernel
theorem d_M_allowed_45 : decode c_M_allowed 45 = .ok (.iload_n 2, 1) := by decide +kernel
theorem d_M_allowed_46 : decode c_M_allowed 46 = .ok (.invokevirtual 131, 3) := by decide +kernel
theorem d_M_allowed_49 : decode c_M_allowed 49 = .ok (.iload 5, 2) := by decide +kernel
theorem d_M_allowed_51 : decode c_M_allowed 51 = .ok (.if_icmp .ge 6, 3) := by decide +kernel
theorem d_M_allowed_54 : decode c_M_allowed 54 = .ok (.iload 4, 2) := by decide +kernel
theorem d_M_allowed_56 : decode c_M_allowed 56 = .ok (.ireturn, 1) := by decide +kernel
theorem d_M_allowed_57 : decode c_M_allowed 57 = .ok (.iinc 4 (-5), 3) := by decide +kernel
theorem d_M_allowed_60 : decode c_M_allowed 60 = .ok (.goto (-38), 3) := by decide +kernel
theorem d_M_allowed_63 : decode c_M_allowed 63 = .ok (.iconst 0, 1) := by decide +kernel
theorem d_M_allowed_64 : decode c_M_allowed 64 = .ok (.ireturn, 1) := by decide +kernel
theorem d_M_overtake_0 : decode c_M_overtake 0 = .ok (.iload_n 1, 1) := by decide +kernel
theorem d_M_overtake_1 : decode c_M_overtake 1 = .ok (.iconst 1, 1) := by decide +kernel
theorem d_M_overtake_2 : decode c_M_overtake 2 = .ok (.ldc 142, 2) := by decide +kernel
theorem d_M_overtake_4 : decode c_M_overtake 4 = .ok (.invokestatic 51, 3) := by decide +kernel
theorem d_M_overtake_7 : decode c_M_overtake 7 = .ok (.ifCond .ne 5, 3) := by decide +kernel
theorem d_M_overtake_10 : decode c_M_overtake 10 = .ok (.iconst (-1), 1) := by decide +kernel
theorem d_M_overtake_11 : decode c_M_overtake 11 = .ok (.ireturn, 1) := by decide +kernel
theorem d_M_overtake_12 : decode c_M_overtake 12 = .ok (.iconst 0, 1) := by decide +kernel
theorem d_M_overtake_13 : decode c_M_overtake 13 = .ok (.istore_n 2, 1) := by decide +kernel
theorem d_M_overtake_14 : decode c_M_overtake 14 = .ok (.iconst 0, 1) := by decide +kernel
theorem d_M_overtake_15 : decode c_M_overtake 15 = .ok (.istore_n 3, 1) := by decide +kernel
theorem d_M_overtake_16 : decode c_M_overtake 16 = .ok (.iconst 0, 1) := by decide +kernel
theorem d_M_overtake_17 : decode c_M_overtake 17 = .ok (.istore 4, 2) := by decide +kernel
theorem d_M_overtake_19 : decode c_M_overtake 19 = .ok (.iload 4, 2) := by decide +kernel
theorem d_M_overtake_21 : decode c_M_overtake 21 = .ok (.aload_n 0, 1) := by decide +kernel
theorem d_M_overtake_22 : decode c_M_overtake 22 = .ok (.getfield 44, 3) := by decide +kernel
theorem d_M_overtake_25 : decode c_M_overtake 25 = .ok (.if_icmp .ge 79, 3) := by decide +kernel
theorem d_M_overtake_28 : decode c_M_overtake 28 = .ok (.aload_n 0, 1) := by decide +kernel
theorem d_M_overtake_29 : decode c_M_overtake 29 = .ok (.iload 4, 2) := by decide +kernel
theorem d_M_overtake_31 : decode c_M_overtake 31 = .ok (.iconst 0, 1) := by decide +kernel
theorem d_M_overtake_32 : decode c_M_overtake 32 = .ok (.invokevirtual 135, 3) := by decide +kernel
theorem d_M_overtake_35 : decode c_M_overtake 35 = .ok (.iload_n 1, 1) := by decide +kernel
theorem d_M_overtake_36 : decode c_M_overtake 36 = .ok (.if_icmp .lt 7, 3) := by decide +kernel
theorem d_M_overtake_39 : decode c_M_overtake 39 = .ok (.iconst 1, 1) := by decide +kernel
theorem d_M_overtake_40 : decode c_M_overtake 40 = .ok (.goto 4, 3) := by decide +kernel
theorem d_M_overtake_43 : decode c_M_overtake 43 = .ok (.iconst 0, 1) := by decide +kernel
theorem d_M_overtake_44 : decode c_M_overtake 44 = .ok (.istore 5, 2) := by decide +kernel
theorem d_M_overtake_46 : decode c_M_overtake 46 = .ok (.iload 5, 2) := by decide +kernel
theorem d_M_overtake_48 : decode c_M_overtake 48 = .ok (.ifCond .eq 7, 3) := by decide +kernel
theorem d_M_overtake_51 : decode c_M_overtake 51 = .ok (.iload_n 3, 1) := by decide +kernel
theorem d_M_overtake_52 : decode c_M_overtake 52 = .ok (.goto 7, 3) := by decide +kernel
theorem d_M_overtake_55 : decode c_M_overtake 55 = .ok (.iload 4, 2) := by decide +kernel
theorem d_M_overtake_57 : decode c_M_overtake 57 = .ok (.iconst 1, 1) := by decide +kernel
theorem d_M_overtake_58 : decode c_M_overtake 58 = .ok (.iadd, 1) := by decide +kernel
theorem d_M_overtake_59 : decode c_M_overtake 59 = .ok (.istore_n 3, 1) := by decide +kernel
theorem d_M_overtake_60 : decode c_M_overtake 60 = .ok (.iload 5, 2) := by decide +kernel
theorem d_M_overtake_62 : decode c_M_overtake 62 = .ok (.ifCond .eq 20, 3) := by decide +kernel
theorem d_M_overtake_65 : decode c_M_overtake 65 = .ok (.aload_n 0, 1) := by decide +kernel
theorem d_M_overtake_66 : decode c_M_overtake 66 = .ok (.getfield 19, 3) := by decide +kernel
theorem d_M_overtake_69 : decode c_M_overtake 69 = .ok (.iload 4, 2) := by decide +kernel
theorem d_M_overtake_71 : decode c_M_overtake 71 = .ok (.iaload, 1) := by decide +kernel
theorem d_M_overtake_72 : decode c_M_overtake 72 = .ok (.aload_n 0, 1) := by decide +kernel
theorem d_M_overtake_73 : decode c_M_overtake 73 = .ok (.getfield 19, 3) := by decide +kernel
theorem d_M_overtake_76 : decode c_M_overtake 76 = .ok (.iload_n 3, 1) := by decide +kernel
theorem d_M_overtake_77 : decode c_M_overtake 77 = .ok (.iaload, 1) := by decide +kernel
theorem d_M_overtake_78 : decode c_M_overtake 78 = .ok (.isub, 1) := by decide +kernel
theorem d_M_overtake_79 : decode c_M_overtake 79 = .ok (.goto 4, 3) := by decide +kernel
theorem d_M_overtake_82 : decode c_M_overtake 82 = .ok (.iconst 0, 1) := by decide +kernel
theorem d_M_overtake_83 : decode c_M_overtake 83 = .ok (.istore 6, 2) := by decide +kernel
theorem d_M_overtake_85 : decode c_M_overtake 85 = .ok (.iload 6, 2) := by decide +kernel
theorem d_M_overtake_87 : decode c_M_overtake 87 = .ok (.iload_n 2, 1) := by decide +kernel
theorem d_M_overtake_88 : decode c_M_overtake 88 = .ok (.if_icmp .le 8, 3) := by decide +kernel
theorem d_M_overtake_91 : decode c_M_overtake 91 = .ok (.iload 6, 2) := by decide +kernel
theorem d_M_overtake_93 : decode c_M_overtake 93 = .ok (.goto 4, 3) := by decide +kernel
theorem d_M_overtake_96 : decode c_M_overtake 96 = .ok (.iload_n 2, 1) := by decide +kernel
theorem d_M_overtake_97 : decode c_M_overtake 97 = .ok (.istore_n 2, 1) := by decide +kernel
theorem d_M_overtake_98 : decode c_M_overtake 98 = .ok (.iinc 4 1, 3) := by decide +kernel
theorem d_M_overtake_101 : decode c_M_overtake 101 = .ok (.goto (-82), 3) := by decide +kernel
theorem d_M_overtake_104 : decode c_M_overtake 104 = .ok (.iload_n 2, 1) := by decide +kernel
theorem d_M_overtake_105 : decode c_M_overtake 105 = .ok (.ireturn, 1) := by decide +kernel
theorem d_M_seen_0 : decode c_M_seen 0 = .ok (.iload_n 1, 1) := by decide +kernel
theorem d_M_seen_1 : decode c_M_seen 1 = .ok (.iload_n 2, 1) := by decide +kernel
theorem d_M_seen_2 : decode c_M_seen 2 = .ok (.invokestatic 55, 3) := by decide +kernel
theorem d_M_seen_5 : decode c_M_seen 5 = .ok (.ifCond .eq 14, 3) := by decide +kernel
theorem d_M_seen_8 : decode c_M_seen 8 = .ok (.iload_n 3, 1) := by decide +kernel
theorem d_M_seen_9 : decode c_M_seen 9 = .ok (.ldc 59, 2) := by decide +kernel
theorem d_M_seen_11 : decode c_M_seen 11 = .ok (.ldc 60, 2) := by decide +kernel
theorem d_M_seen_13 : decode c_M_seen 13 = .ok (.invokestatic 51, 3) := by decide +kernel
theorem d_M_seen_16 : decode c_M_seen 16 = .ok (.ifCond .ne 5, 3) := by decide +kernel
theorem d_M_seen_19 : decode c_M_seen 19 = .ok (.iconst (-1), 1) := by decide +kernel
theorem d_M_seen_20 : decode c_M_seen 20 = .ok (.ireturn, 1) := by decide +kernel
theorem d_M_seen_21 : decode c_M_seen 21 = .ok (.iconst 0, 1) := by decide +kernel
theorem d_M_seen_22 : decode c_M_seen 22 = .ok (.istore 4, 2) := by decide +kernel
theorem d_M_seen_24 : decode c_M_seen 24 = .ok (.iconst 0, 1) := by decide +kernel
theorem d_M_seen_25 : decode c_M_seen 25 = .ok (.istore 5, 2) := by decide +kernel
theorem d_M_seen_27 : decode c_M_seen 27 = .ok (.iload 5, 2) := by decide +kernel
theorem d_M_seen_29 : decode c_M_seen 29 = .ok (.aload_n 0, 1) := by decide +kernel
theorem d_M_seen_30 : decode c_M_seen 30 = .ok (.getfield 44, 3) := by decide +kernel
theorem d_M_seen_33 : decode c_M_seen 33 = .ok (.if_icmp .ge 133, 3) := by decide +kernel
theorem d_M_seen_36 : decode c_M_seen 36 = .ok (.iload_n 1, 1) := by decide +kernel
theorem d_M_seen_37 : decode c_M_seen 37 = .ok (.aload_n 0, 1) := by decide +kernel
theorem d_M_seen_38 : decode c_M_seen 38 = .ok (.getfield 7, 3) := by decide +kernel
theorem d_M_seen_41 : decode c_M_seen 41 = .ok (.iload 5, 2) := by decide +kernel
theorem d_M_seen_43 : decode c_M_seen 43 = .ok (.iaload, 1) := by decide +kernel
theorem d_M_seen_44 : decode c_M_seen 44 = .ok (.isub, 1) := by decide +kernel
theorem d_M_seen_45 : decode c_M_seen 45 = .ok (.i2l, 1) := by decide +kernel
theorem d_M_seen_46 : decode c_M_seen 46 = .ok (.invokestatic 61, 3) := by decide +kernel
theorem d_M_seen_49 : decode c_M_seen 49 = .ok (.iload_n 2, 1) := by decide +kernel
theorem d_M_seen_50 : decode c_M_seen 50 = .ok (.aload_n 0, 1) := by decide +kernel
theorem d_M_seen_51 : decode c_M_seen 51 = .ok (.getfield 13, 3) := by decide +kernel
theorem d_M_seen_54 : decode c_M_seen 54 = .ok (.iload 5, 2) := by decide +kernel
theorem d_M_seen_56 : decode c_M_seen 56 = .ok (.iaload, 1) := by decide +kernel
theorem d_M_seen_57 : decode c_M_seen 57 = .ok (.isub, 1) := by decide +kernel
theorem d_M_seen_58 : decode c_M_seen 58 = .ok (.i2l, 1) := by decide +kernel
theorem d_M_seen_59 : decode c_M_seen 59 = .ok (.invokestatic 61, 3) := by decide +kernel
theorem d_M_seen_62 : decode c_M_seen 62 = .ok (.ladd, 1) := by decide +kernel
theorem d_M_seen_63 : decode c_M_seen 63 = .ok (.ldc2_w 143, 3) := by decide +kernel
theorem d_M_seen_66 : decode c_M_seen 66 = .ok (.lcmp, 1) := by decide +kernel
theorem d_M_seen_67 : decode c_M_seen 67 = .ok (.ifCond .gt 7, 3) := by decide +kernel
theorem d_M_seen_70 : decode c_M_seen 70 = .ok (.iconst 1, 1) := by decide +kernel
theorem d_M_seen_71 : decode c_M_seen 71 = .ok (.goto 4, 3) := by decide +kernel
theorem d_M_seen_74 : decode c_M_seen 74 = .ok (.iconst 0, 1) := by decide +kernel
theorem d_M_seen_75 : decode c_M_seen 75 = .ok (.istore 6, 2) := by decide +kernel
theorem d_M_seen_77 : decode c_M_seen 77 = .ok (.iconst 0, 1) := by decide +kernel
theorem d_M_seen_78 : decode c_M_seen 78 = .ok (.istore 7, 2) := by decide +kernel
theorem d_M_seen_80 : decode c_M_seen 80 = .ok (.iload 7, 2) := by decide +kernel
theorem d_M_seen_82 : decode c_M_seen 82 = .ok (.aload_n 0, 1) := by decide +kernel
theorem d_M_seen_83 : decode c_M_seen 83 = .ok (.getfield 73, 3) := by decide +kernel
theorem d_M_seen_86 : decode c_M_seen 86 = .ok (.if_icmp .ge 59, 3) := by decide +kernel
theorem d_M_seen_89 : decode c_M_seen 89 = .ok (.iload 6, 2) := by decide +kernel
theorem d_M_seen_91 : decode c_M_seen 91 = .ok (.ifCond .eq 54, 3) := by decide +kernel
theorem d_M_seen_94 : decode c_M_seen 94 = .ok (.aload_n 0, 1) := by decide +kernel
theorem d_M_seen_95 : decode c_M_seen 95 = .ok (.iload 7, 2) := by decide +kernel
theorem d_M_seen_97 : decode c_M_seen 97 = .ok (.aload_n 0, 1) := by decide +kernel
theorem d_M_seen_98 : decode c_M_seen 98 = .ok (.getfield 7, 3) := by decide +kernel
theorem d_M_seen_101 : decode c_M_seen 101 = .ok (.iload 5, 2) := by decide +kernel
theorem d_M_seen_103 : decode c_M_seen 103 = .ok (.iaload, 1) := by decide +kernel
theorem d_M_seen_104 : decode c_M_seen 104 = .ok (.aload_n 0, 1) := by decide +kernel
theorem d_M_seen_105 : decode c_M_seen 105 = .ok (.getfield 13, 3) := by decide +kernel
theorem d_M_seen_108 : decode c_M_seen 108 = .ok (.iload 5, 2) := by decide +kernel
theorem d_M_seen_110 : decode c_M_seen 110 = .ok (.iaload, 1) := by decide +kernel
theorem d_M_seen_111 : decode c_M_seen 111 = .ok (.aload_n 0, 1) := by decide +kernel
theorem d_M_seen_112 : decode c_M_seen 112 = .ok (.getfield 16, 3) := by decide +kernel
theorem d_M_seen_115 : decode c_M_seen 115 = .ok (.iload 5, 2) := by decide +kernel
theorem d_M_seen_117 : decode c_M_seen 117 = .ok (.iaload, 1) := by decide +kernel
theorem d_M_seen_118 : decode c_M_seen 118 = .ok (.aload_n 0, 1) := by decide +kernel
theorem d_M_seen_119 : decode c_M_seen 119 = .ok (.getfield 31, 3) := by decide +kernel
theorem d_M_seen_122 : decode c_M_seen 122 = .ok (.iadd, 1) := by decide +kernel
theorem d_M_seen_123 : decode c_M_seen 123 = .ok (.iload_n 1, 1) := by decide +kernel
theorem d_M_seen_124 : decode c_M_seen 124 = .ok (.iload_n 2, 1) := by decide +kernel
theorem d_M_seen_125 : decode c_M_seen 125 = .ok (.iload_n 3, 1) := by decide +kernel
theorem d_M_seen_126 : decode c_M_seen 126 = .ok (.invokevirtual 111, 3) := by decide +kernel
theorem d_M_seen_129 : decode c_M_seen 129 = .ok (.ifCond .ne 7, 3) := by decide +kernel
theorem d_M_seen_132 : decode c_M_seen 132 = .ok (.iconst 1, 1) := by decide +kernel
theorem d_M_seen_133 : decode c_M_seen 133 = .ok (.goto 4, 3) := by decide +kernel
theorem d_M_seen_136 : decode c_M_seen 136 = .ok (.iconst 0, 1) := by decide +kernel
theorem d_M_seen_137 : decode c_M_seen 137 = .ok (.istore 6, 2) := by decide +kernel
theorem d_M_seen_139 : decode c_M_seen 139 = .ok (.iinc 7 1, 3) := by decide +kernel
theorem d_M_seen_142 : decode c_M_seen 142 = .ok (.goto (-62), 3) := by decide +kernel
theorem d_M_seen_145 : decode c_M_seen 145 = .ok (.iload 4, 2) := by decide +kernel
theorem d_M_seen_147 : decode c_M_seen 147 = .ok (.iload 6, 2) := by decide +kernel
theorem d_M_seen_149 : decode c_M_seen 149 = .ok (.ifCond .eq 7, 3) := by decide +kernel
theorem d_M_seen_152 : decode c_M_seen 152 = .ok (.iconst 1, 1) := by decide +kernel
theorem d_M_seen_153 : decode c_M_seen 153 = .ok (.goto 4, 3) := by decide +kernel
theorem d_M_seen_156 : decode c_M_seen 156 = .ok (.iconst 0, 1) := by decide +kernel
theorem d_M_seen_157 : decode c_M_seen 157 = .ok (.iadd, 1) := by decide +kernel
theorem d_M_seen_158 : decode c_M_seen 158 = .ok (.istore 4, 2) := by decide +kernel
theorem d_M_seen_160 : decode c_M_seen 160 = .ok (.iinc 5 1, 3) := by decide +kernel
theorem d_M_seen_163 : decode c_M_seen 163 = .ok (.goto (-136), 3) := by decide +kernel
theorem d_M_seen_166 : decode c_M_seen 166 = .ok (.iload 4, 2) := by decide +kernel
theorem d_M_seen_168 : decode c_M_seen 168 = .ok (.ireturn, 1) := by decide +kernel
theorem d_M_light_0 : decode c_M_light 0 = .ok (.aload_n 0, 1) := by decide +kernel
theorem d_M_light_1 : decode c_M_light 1 = .ok (.iload_n 1, 1) := by decide +kernel
theorem d_M_light_2 : decode c_M_light 2 = .ok (.invokevirtual 69, 3) := by decide +kernel
theorem d_M_light_5 : decode c_M_light 5 = .ok (.ifCond .eq 24, 3) := by decide +kernel
theorem d_M_light_8 : decode c_M_light 8 = .ok (.iload_n 2, 1) := by decide +kernel
theorem d_M_light_9 : decode c_M_light 9 = .ok (.iconst 0, 1) := by decide +kernel
theorem d_M_light_10 : decode c_M_light 10 = .ok (.sipush 1000, 3) := by decide +kernel
theorem d_M_light_13 : decode c_M_light 13 = .ok (.invokestatic 51, 3) := by decide +kernel
theorem d_M_light_16 : decode c_M_light 16 = .ok (.ifCond .eq 13, 3) := by decide +kernel
theorem d_M_light_19 : decode c_M_light 19 = .ok (.iload_n 3, 1) := by decide +kernel
theorem d_M_light_20 : decode c_M_light 20 = .ok (.iconst 0, 1) := by decide +kernel
theorem d_M_light_21 : decode c_M_light 21 = .ok (.bipush 100, 2) := by decide +kernel
theorem d_M_light_23 : decode c_M_light 23 = .ok (.invokestatic 51, 3) := by decide +kernel
theorem d_M_light_26 : decode c_M_light 26 = .ok (.ifCond .ne 5, 3) := by decide +kernel
theorem d_M_light_29 : decode c_M_light 29 = .ok (.iconst (-1), 1) := by decide +kernel
theorem d_M_light_30 : decode c_M_light 30 = .ok (.ireturn, 1) := by decide +kernel
theorem d_M_light_31 : decode c_M_light 31 = .ok (.iload_n 1, 1) := by decide +kernel
theorem d_M_light_32 : decode c_M_light 32 = .ok (.istore 4, 2) := by decide +kernel
theorem d_M_light_34 : decode c_M_light 34 = .ok (.iload 4, 2) := by decide +kernel
theorem d_M_light_36 : decode c_M_light 36 = .ok (.iconst 1, 1) := by decide +kernel
theorem d_M_light_37 : decode c_M_light 37 = .ok (.iadd, 1) := by decide +kernel
theorem d_M_light_38 : decode c_M_light 38 = .ok (.aload_n 0, 1) := by decide +kernel
theorem d_M_light_39 : decode c_M_light 39 = .ok (.getfield 44, 3) := by decide +kernel
theorem d_M_light_42 : decode c_M_light 42 = .ok (.if_icmp .ge 51, 3) := by decide +kernel
theorem d_M_light_45 : decode c_M_light 45 = .ok (.aload_n 0, 1) := by decide +kernel
theorem d_M_light_46 : decode c_M_light 46 = .ok (.getfield 16, 3) := by decide +kernel
theorem d_M_light_49 : decode c_M_light 49 = .ok (.iload 4, 2) := by decide +kernel
theorem d_M_light_51 : decode c_M_light 51 = .ok (.iconst 1, 1) := by decide +kernel
theorem d_M_light_52 : decode c_M_light 52 = .ok (.iadd, 1) := by decide +kernel
theorem d_M_light_53 : decode c_M_light 53 = .ok (.iaload, 1) := by decide +kernel
theorem d_M_light_54 : decode c_M_light 54 = .ok (.aload_n 0, 1) := by decide +kernel
theorem d_M_light_55 : decode c_M_light 55 = .ok (.getfield 16, 3) := by decide +kernel
theorem d_M_light_58 : decode c_M_light 58 = .ok (.iload_n 1, 1) := by decide +kernel
theorem d_M_light_59 : decode c_M_light 59 = .ok (.iaload, 1) := by decide +kernel
theorem d_M_light_60 : decode c_M_light 60 = .ok (.iload_n 2, 1) := by decide +kernel
theorem d_M_light_61 : decode c_M_light 61 = .ok (.iadd, 1) := by decide +kernel
theorem d_M_light_62 : decode c_M_light 62 = .ok (.iload_n 3, 1) := by decide +kernel
theorem d_M_light_63 : decode c_M_light 63 = .ok (.aload_n 0, 1) := by decide +kernel
theorem d_M_light_64 : decode c_M_light 64 = .ok (.getfield 19, 3) := by decide +kernel
theorem d_M_light_67 : decode c_M_light 67 = .ok (.iload 4, 2) := by decide +kernel
theorem d_M_light_69 : decode c_M_light 69 = .ok (.iconst 1, 1) := by decide +kernel
theorem d_M_light_70 : decode c_M_light 70 = .ok (.iadd, 1) := by decide +kernel
theorem d_M_light_71 : decode c_M_light 71 = .ok (.iaload, 1) := by decide +kernel
theorem d_M_light_72 : decode c_M_light 72 = .ok (.aload_n 0, 1) := by decide +kernel
theorem d_M_light_73 : decode c_M_light 73 = .ok (.getfield 19, 3) := by decide +kernel
theorem d_M_light_76 : decode c_M_light 76 = .ok (.iload_n 1, 1) := by decide +kernel
theorem d_M_light_77 : decode c_M_light 77 = .ok (.iaload, 1) := by decide +kernel
theorem d_M_light_78 : decode c_M_light 78 = .ok (.isub, 1) := by decide +kernel
theorem d_M_light_79 : decode c_M_light 79 = .ok (.imul, 1) := by decide +kernel
theorem d_M_light_80 : decode c_M_light 80 = .ok (.bipush 100, 2) := by decide +kernel
theorem d_M_light_82 : decode c_M_light 82 = .ok (.idiv, 1) := by decide +kernel
theorem d_M_light_83 : decode c_M_light 83 = .ok (.iadd, 1) := by decide +kernel
theorem d_M_light_84 : decode c_M_light 84 = .ok (.if_icmp .gt 9, 3) := by decide +kernel
theorem d_M_light_87 : decode c_M_light 87 = .ok (.iinc 4 1, 3) := by decide +kernel
theorem d_M_light_90 : decode c_M_light 90 = .ok (.goto (-56), 3) := by decide +kernel
theorem d_M_light_93 : decode c_M_light 93 = .ok (.aload_n 0, 1) := by decide +kernel
theorem d_M_light_94 : decode c_M_light 94 = .ok (.getfield 19, 3) := by decide +kernel
theorem d_M_light_97 : decode c_M_light 97 = .ok (.iload 4, 2) := by decide +kernel
theorem d_M_light_99 : decode c_M_light 99 = .ok (.iaload, 1) := by decide +kernel
theorem d_M_light_100 : decode c_M_light 100 = .ok (.aload_n 0, 1) := by decide +kernel
theorem d_M_light_101 : decode c_M_light 101 = .ok (.getfield 19, 3) := by decide +kernel
theorem d_M_light_104 : decode c_M_light 104 = .ok (.iload_n 1, 1) := by decide +kernel
theorem d_M_light_105 : decode c_M_light 105 = .ok (.iaload, 1) := by decide +kernel
theorem d_M_light_106 : decode c_M_light 106 = .ok (.isub, 1) := by decide +kernel
theorem d_M_light_107 : decode c_M_light 107 = .ok (.ireturn, 1) := by decide +kernel
theorem d_M_count_0 : decode c_M_count 0 = .ok (.iconst 0, 1) := by decide +kernel
theorem d_M_count_1 : decode c_M_count 1 = .ok (.istore_n 2, 1) := by decide +kernel
theorem d_M_count_2 : decode c_M_count 2 = .ok (.iload_n 1, 1) := by decide +kernel
theorem d_M_count_3 : decode c_M_count 3 = .ok (.tableswitch 179 0 5 #[37, 42, 47, 84, 135, 135], 37) := by decide +kernel
theorem d_M_count_40 : decode c_M_count 40 = .ok (.aload_n 0, 1) := by decide +kernel
theorem d_M_count_41 : decode c_M_count 41 = .ok (.getfield 44, 3) := by decide +kernel
theorem d_M_count_44 : decode c_M_count 44 = .ok (.ireturn, 1) := by decide +kernel
theorem d_M_count_45 : decode c_M_count 45 = .ok (.aload_n 0, 1) := by decide +kernel
theorem d_M_count_46 : decode c_M_count 46 = .ok (.getfield 73, 3) := by decide +kernel
theorem d_M_count_49 : decode c_M_count 49 = .ok (.ireturn, 1) := by decide +kernel
theorem d_M_count_50 : decode c_M_count 50 = .ok (.iconst 0, 1) := by decide +kernel
theorem d_M_count_51 : decode c_M_count 51 = .ok (.istore_n 3, 1) := by decide +kernel
theorem d_M_count_52 : decode c_M_count 52 = .ok (.iload_n 3, 1) := by decide +kernel
theorem d_M_count_53 : decode c_M_count 53 = .ok (.iconst 2, 1) := by decide +kernel
theorem d_M_count_54 : decode c_M_count 54 = .ok (.aload_n 0, 1) := by decide +kernel
theorem d_M_count_55 : decode c_M_count 55 = .ok (.getfield 44, 3) := by decide +kernel
theorem d_M_count_58 : decode c_M_count 58 = .ok (.imul, 1) := by decide +kernel
theorem d_M_count_59 : decode c_M_count 59 = .ok (.if_icmp .ge 26, 3) := by decide +kernel
theorem d_M_count_62 : decode c_M_count 62 = .ok (.iload_n 2, 1) := by decide +kernel
theorem d_M_count_63 : decode c_M_count 63 = .ok (.aload_n 0, 1) := by decide +kernel
theorem d_M_count_64 : decode c_M_count 64 = .ok (.getfield 25, 3) := by decide +kernel
theorem d_M_count_67 : decode c_M_count 67 = .ok (.iload_n 3, 1) := by decide +kernel
theorem d_M_count_68 : decode c_M_count 68 = .ok (.iaload, 1) := by decide +kernel
theorem d_M_count_69 : decode c_M_count 69 = .ok (.ifCond .lt 7, 3) := by decide +kernel
theorem d_M_count_72 : decode c_M_count 72 = .ok (.iconst 1, 1) := by decide +kernel
theorem d_M_count_73 : decode c_M_count 73 = .ok (.goto 4, 3) := by decide +kernel
theorem d_M_count_76 : decode c_M_count 76 = .ok (.iconst 0, 1) := by decide +kernel
theorem d_M_count_77 : decode c_M_count 77 = .ok (.iadd, 1) := by decide +kernel
theorem d_M_count_78 : decode c_M_count 78 = .ok (.istore_n 2, 1) := by decide +kernel
theorem d_M_count_79 : decode c_M_count 79 = .ok (.iinc 3 1, 3) := by decide +kernel
theorem d_M_count_82 : decode c_M_count 82 = .ok (.goto (-30), 3) := by decide +kernel
theorem d_M_count_85 : decode c_M_count 85 = .ok (.iload_n 2, 1) := by decide +kernel
theorem d_M_count_86 : decode c_M_count 86 = .ok (.ireturn, 1) := by decide +kernel
theorem d_M_count_87 : decode c_M_count 87 = .ok (.iconst 0, 1) := by decide +kernel
theorem d_M_count_88 : decode c_M_count 88 = .ok (.istore_n 3, 1) := by decide +kernel
theorem d_M_count_89 : decode c_M_count 89 = .ok (.iload_n 3, 1) := by decide +kernel
theorem d_M_count_90 : decode c_M_count 90 = .ok (.aload_n 0, 1) := by decide +kernel
theorem d_M_count_91 : decode c_M_count 91 = .ok (.getfield 44, 3) := by decide +kernel
theorem d_M_count_94 : decode c_M_count 94 = .ok (.if_icmp .ge 42, 3) := by decide +kernel
theorem d_M_count_97 : decode c_M_count 97 = .ok (.iconst 0, 1) := by decide +kernel
theorem d_M_count_98 : decode c_M_count 98 = .ok (.istore 4, 2) := by decide +kernel
theorem d_M_count_100 : decode c_M_count 100 = .ok (.iload 4, 2) := by decide +kernel
theorem d_M_count_102 : decode c_M_count 102 = .ok (.iload_n 3, 1) := by decide +kernel
theorem d_M_count_103 : decode c_M_count 103 = .ok (.if_icmp .ge 27, 3) := by decide +kernel
theorem d_M_count_106 : decode c_M_count 106 = .ok (.iload_n 2, 1) := by decide +kernel
theorem d_M_count_107 : decode c_M_count 107 = .ok (.aload_n 0, 1) := by decide +kernel
theorem d_M_count_108 : decode c_M_count 108 = .ok (.iload 4, 2) := by decide +kernel
theorem d_M_count_110 : decode c_M_count 110 = .ok (.iload_n 3, 1) := by decide +kernel
theorem d_M_count_111 : decode c_M_count 111 = .ok (.invokevirtual 115, 3) := by decide +kernel
theorem d_M_count_114 : decode c_M_count 114 = .ok (.ifCond .ne 7, 3) := by decide +kernel
theorem d_M_count_117 : decode c_M_count 117 = .ok (.iconst 1, 1) := by decide +kernel
theorem d_M_count_118 : decode c_M_count 118 = .ok (.goto 4, 3) := by decide +kernel
theorem d_M_count_121 : decode c_M_count 121 = .ok (.iconst 0, 1) := by decide +kernel
theorem d_M_count_122 : decode c_M_count 122 = .ok (.iadd, 1) := by decide +kernel
theorem d_M_count_123 : decode c_M_count 123 = .ok (.istore_n 2, 1) := by decide +kernel
theorem d_M_count_124 : decode c_M_count 124 = .ok (.iinc 4 1, 3) := by decide +kernel
theorem d_M_count_127 : decode c_M_count 127 = .ok (.goto (-27), 3) := by decide +kernel
theorem d_M_count_130 : decode c_M_count 130 = .ok (.iinc 3 1, 3) := by decide +kernel
theorem d_M_count_133 : decode c_M_count 133 = .ok (.goto (-44), 3) := by decide +kernel
theorem d_M_count_136 : decode c_M_count 136 = .ok (.iload_n 2, 1) := by decide +kernel
theorem d_M_count_137 : decode c_M_count 137 = .ok (.ireturn, 1) := by decide +kernel
theorem d_M_count_138 : decode c_M_count 138 = .ok (.iconst 0, 1) := by decide +kernel
theorem d_M_count_139 : decode c_M_count 139 = .ok (.istore_n 3, 1) := by decide +kernel
theorem d_M_count_140 : decode c_M_count 140 = .ok (.iload_n 3, 1) := by decide +kernel
theorem d_M_count_141 : decode c_M_count 141 = .ok (.aload_n 0, 1) := by decide +kernel
theorem d_M_count_142 : decode c_M_count 142 = .ok (.getfield 44, 3) := by decide +kernel
theorem d_M_count_145 : decode c_M_count 145 = .ok (.if_icmp .ge 35, 3) := by decide +kernel
theorem d_M_count_148 : decode c_M_count 148 = .ok (.iload_n 2, 1) := by decide +kernel
theorem d_M_count_149 : decode c_M_count 149 = .ok (.aload_n 0, 1) := by decide +kernel
theorem d_M_count_150 : decode c_M_count 150 = .ok (.iload_n 3, 1) := by decide +kernel
theorem d_M_count_151 : decode c_M_count 151 = .ok (.iload_n 1, 1) := by decide +kernel
theorem d_M_count_152 : decode c_M_count 152 = .ok (.iconst 5, 1) := by decide +kernel
theorem d_M_count_153 : decode c_M_count 153 = .ok (.if_icmp .ne 7, 3) := by decide +kernel
theorem d_M_count_156 : decode c_M_count 156 = .ok (.iconst 1, 1) := by decide +kernel
theorem d_M_count_157 : decode c_M_count 157 = .ok (.goto 4, 3) := by decide +kernel
theorem d_M_count_160 : decode c_M_count 160 = .ok (.iconst 0, 1) := by decide +kernel
theorem d_M_count_161 : decode c_M_count 161 = .ok (.invokevirtual 138, 3) := by decide +kernel
theorem d_M_count_164 : decode c_M_count 164 = .ok (.ifCond .eq 7, 3) := by decide +kernel
theorem d_M_count_167 : decode c_M_count 167 = .ok (.iconst 1, 1) := by decide +kernel
theorem d_M_count_168 : decode c_M_count 168 = .ok (.goto 4, 3) := by decide +kernel
theorem d_M_count_171 : decode c_M_count 171 = .ok (.iconst 0, 1) := by decide +kernel
theorem d_M_count_172 : decode c_M_count 172 = .ok (.iadd, 1) := by decide +kernel
theorem d_M_count_173 : decode c_M_count 173 = .ok (.istore_n 2, 1) := by decide +kernel
theorem d_M_count_174 : decode c_M_count 174 = .ok (.iinc 3 1, 3) := by decide +kernel
theorem d_M_count_177 : decode c_M_count 177 = .ok (.goto (-37), 3) := by decide +kernel
theorem d_M_count_180 : decode c_M_count 180 = .ok (.iload_n 2, 1) := by decide +kernel
theorem d_M_count_181 : decode c_M_count 181 = .ok (.ireturn, 1) := by decide +kernel
theorem d_M_count_182 : decode c_M_count 182 = .ok (.iconst (-1), 1) := by decide +kernel
theorem d_M_count_183 : decode c_M_count 183 = .ok (.ireturn, 1) := by decide +kernel
end
section
theorem d_L_law_0 : decode c_L_law 0 = .ok (.new 7, 3) := by decide +kernel
theorem d_L_law_3 : decode c_L_law 3 = .ok (.dup, 1) := by decide +kernel
theorem d_L_law_4 : decode c_L_law 4 = .ok (.invokespecial 9, 3) := by decide +kernel
theorem d_L_law_7 : decode c_L_law 7 = .ok (.astore_n 1, 1) := by decide +kernel
theorem d_L_law_8 : decode c_L_law 8 = .ok (.new 10, 3) := by decide +kernel
theorem d_L_law_11 : decode c_L_law 11 = .ok (.dup, 1) := by decide +kernel
theorem d_L_law_12 : decode c_L_law 12 = .ok (.invokespecial 12, 3) := by decide +kernel
theorem d_L_law_15 : decode c_L_law 15 = .ok (.astore_n 2, 1) := by decide +kernel
theorem d_L_law_16 : decode c_L_law 16 = .ok (.iconst 0, 1) := by decide +kernel
theorem d_L_law_17 : decode c_L_law 17 = .ok (.istore_n 3, 1) := by decide +kernel
theorem d_L_law_18 : decode c_L_law 18 = .ok (.iload_n 3, 1) := by decide +kernel
theorem d_L_law_19 : decode c_L_law 19 = .ok (.aload_n 0, 1) := by decide +kernel
theorem d_L_law_20 : decode c_L_law 20 = .ok (.arraylength, 1) := by decide +kernel
theorem d_L_law_21 : decode c_L_law 21 = .ok (.bipush 6, 2) := by decide +kernel
theorem d_L_law_23 : decode c_L_law 23 = .ok (.isub, 1) := by decide +kernel
theorem d_L_law_24 : decode c_L_law 24 = .ok (.if_icmp .gt 783, 3) := by decide +kernel
theorem d_L_law_27 : decode c_L_law 27 = .ok (.aload_n 0, 1) := by decide +kernel
theorem d_L_law_28 : decode c_L_law 28 = .ok (.iload_n 3, 1) := by decide +kernel
theorem d_L_law_29 : decode c_L_law 29 = .ok (.iaload, 1) := by decide +kernel
theorem d_L_law_30 : decode c_L_law 30 = .ok (.bipush 31, 2) := by decide +kernel
theorem d_L_law_32 : decode c_L_law 32 = .ok (.iand, 1) := by decide +kernel
theorem d_L_law_33 : decode c_L_law 33 = .ok (.tableswitch 768 0 16 #[83, 126, 159, 202, 265, 298, 331, 354, 397, 446, 495, 554, 587, 636, 659, 702, 745], 83) := by decide +kernel
theorem d_L_law_116 : decode c_L_law 116 = .ok (.aload_n 1, 1) := by decide +kernel
theorem d_L_law_117 : decode c_L_law 117 = .ok (.aload_n 0, 1) := by decide +kernel
theorem d_L_law_118 : decode c_L_law 118 = .ok (.iload_n 3, 1) := by decide +kernel
theorem d_L_law_119 : decode c_L_law 119 = .ok (.iconst 1, 1) := by decide +kernel
theorem d_L_law_120 : decode c_L_law 120 = .ok (.iadd, 1) := by decide +kernel
theorem d_L_law_121 : decode c_L_law 121 = .ok (.iaload, 1) := by decide +kernel
theorem d_L_law_122 : decode c_L_law 122 = .ok (.aload_n 0, 1) := by decide +kernel
theorem d_L_law_123 : decode c_L_law 123 = .ok (.iload_n 3, 1) := by decide +kernel
theorem d_L_law_124 : decode c_L_law 124 = .ok (.iconst 2, 1) := by decide +kernel
theorem d_L_law_125 : decode c_L_law 125 = .ok (.iadd, 1) := by decide +kernel
theorem d_L_law_126 : decode c_L_law 126 = .ok (.iaload, 1) := by decide +kernel
theorem d_L_law_127 : decode c_L_law 127 = .ok (.aload_n 0, 1) := by decide +kernel
theorem d_L_law_128 : decode c_L_law 128 = .ok (.iload_n 3, 1) := by decide +kernel
theorem d_L_law_129 : decode c_L_law 129 = .ok (.iconst 3, 1) := by decide +kernel
theorem d_L_law_130 : decode c_L_law 130 = .ok (.iadd, 1) := by decide +kernel
theorem d_L_law_131 : decode c_L_law 131 = .ok (.iaload, 1) := by decide +kernel
theorem d_L_law_132 : decode c_L_law 132 = .ok (.invokevirtual 13, 3) := by decide +kernel
theorem d_L_law_135 : decode c_L_law 135 = .ok (.aload_n 2, 1) := by decide +kernel
theorem d_L_law_136 : decode c_L_law 136 = .ok (.aload_n 0, 1) := by decide +kernel
theorem d_L_law_137 : decode c_L_law 137 = .ok (.iload_n 3, 1) := by decide +kernel
theorem d_L_law_138 : decode c_L_law 138 = .ok (.iconst 1, 1) := by decide +kernel
theorem d_L_law_139 : decode c_L_law 139 = .ok (.iadd, 1) := by decide +kernel
theorem d_L_law_140 : decode c_L_law 140 = .ok (.iaload, 1) := by decide +kernel
theorem d_L_law_141 : decode c_L_law 141 = .ok (.aload_n 0, 1) := by decide +kernel
theorem d_L_law_142 : decode c_L_law 142 = .ok (.iload_n 3, 1) := by decide +kernel
theorem d_L_law_143 : decode c_L_law 143 = .ok (.iconst 2, 1) := by decide +kernel
theorem d_L_law_144 : decode c_L_law 144 = .ok (.iadd, 1) := by decide +kernel
theorem d_L_law_145 : decode c_L_law 145 = .ok (.iaload, 1) := by decide +kernel
theorem d_L_law_146 : decode c_L_law 146 = .ok (.aload_n 0, 1) := by decide +kernel
theorem d_L_law_147 : decode c_L_law 147 = .ok (.iload_n 3, 1) := by decide +kernel
theorem d_L_law_148 : decode c_L_law 148 = .ok (.iconst 3, 1) := by decide +kernel
theorem d_L_law_149 : decode c_L_law 149 = .ok (.iadd, 1) := by decide +kernel
theorem d_L_law_150 : decode c_L_law 150 = .ok (.iaload, 1) := by decide +kernel
theorem d_L_law_151 : decode c_L_law 151 = .ok (.invokevirtual 17, 3) := by decide +kernel
theorem d_L_law_154 : decode c_L_law 154 = .ok (.if_icmp .eq 647, 3) := by decide +kernel
theorem d_L_law_157 : decode c_L_law 157 = .ok (.iconst 0, 1) := by decide +kernel
theorem d_L_law_158 : decode c_L_law 158 = .ok (.ireturn, 1) := by decide +kernel
theorem d_L_law_159 : decode c_L_law 159 = .ok (.aload_n 1, 1) := by decide +kernel
theorem d_L_law_160 : decode c_L_law 160 = .ok (.aload_n 0, 1) := by decide +kernel
theorem d_L_law_161 : decode c_L_law 161 = .ok (.iload_n 3, 1) := by decide +kernel
theorem d_L_law_162 : decode c_L_law 162 = .ok (.iconst 1, 1) := by decide +kernel
theorem d_L_law_163 : decode c_L_law 163 = .ok (.iadd, 1) := by decide +kernel
theorem d_L_law_164 : decode c_L_law 164 = .ok (.iaload, 1) := by decide +kernel
theorem d_L_law_165 : decode c_L_law 165 = .ok (.aload_n 0, 1) := by decide +kernel
theorem d_L_law_166 : decode c_L_law 166 = .ok (.iload_n 3, 1) := by decide +kernel
theorem d_L_law_167 : decode c_L_law 167 = .ok (.iconst 2, 1) := by decide +kernel
theorem d_L_law_168 : decode c_L_law 168 = .ok (.iadd, 1) := by decide +kernel
theorem d_L_law_169 : decode c_L_law 169 = .ok (.iaload, 1) := by decide +kernel
theorem d_L_law_170 : decode c_L_law 170 = .ok (.invokevirtual 18, 3) := by decide +kernel
theorem d_L_law_173 : decode c_L_law 173 = .ok (.aload_n 2, 1) := by decide +kernel
theorem d_L_law_174 : decode c_L_law 174 = .ok (.aload_n 0, 1) := by decide +kernel
theorem d_L_law_175 : decode c_L_law 175 = .ok (.iload_n 3, 1) := by decide +kernel
theorem d_L_law_176 : decode c_L_law 176 = .ok (.iconst 1, 1) := by decide +kernel
theorem d_L_law_177 : decode c_L_law 177 = .ok (.iadd, 1) := by decide +kernel
theorem d_L_law_178 : decode c_L_law 178 = .ok (.iaload, 1) := by decide +kernel
theorem d_L_law_179 : decode c_L_law 179 = .ok (.aload_n 0, 1) := by decide +kernel
theorem d_L_law_180 : decode c_L_law 180 = .ok (.iload_n 3, 1) := by decide +kernel
theorem d_L_law_181 : decode c_L_law 181 = .ok (.iconst 2, 1) := by decide +kernel
theorem d_L_law_182 : decode c_L_law 182 = .ok (.iadd, 1) := by decide +kernel
theorem d_L_law_183 : decode c_L_law 183 = .ok (.iaload, 1) := by decide +kernel
theorem d_L_law_184 : decode c_L_law 184 = .ok (.invokevirtual 22, 3) := by decide +kernel
theorem d_L_law_187 : decode c_L_law 187 = .ok (.if_icmp .eq 614, 3) := by decide +kernel
theorem d_L_law_190 : decode c_L_law 190 = .ok (.iconst 0, 1) := by decide +kernel
theorem d_L_law_191 : decode c_L_law 191 = .ok (.ireturn, 1) := by decide +kernel
theorem d_L_law_192 : decode c_L_law 192 = .ok (.aload_n 1, 1) := by decide +kernel
theorem d_L_law_193 : decode c_L_law 193 = .ok (.aload_n 0, 1) := by decide +kernel
theorem d_L_law_194 : decode c_L_law 194 = .ok (.iload_n 3, 1) := by decide +kernel
theorem d_L_law_195 : decode c_L_law 195 = .ok (.iconst 1, 1) := by decide +kernel
theorem d_L_law_196 : decode c_L_law 196 = .ok (.iadd, 1) := by decide +kernel
theorem d_L_law_197 : decode c_L_law 197 = .ok (.iaload, 1) := by decide +kernel
theorem d_L_law_198 : decode c_L_law 198 = .ok (.aload_n 0, 1) := by decide +kernel
theorem d_L_law_199 : decode c_L_law 199 = .ok (.iload_n 3, 1) := by decide +kernel
theorem d_L_law_200 : decode c_L_law 200 = .ok (.iconst 2, 1) := by decide +kernel
theorem d_L_law_201 : decode c_L_law 201 = .ok (.iadd, 1) := by decide +kernel
theorem d_L_law_202 : decode c_L_law 202 = .ok (.iaload, 1) := by decide +kernel
theorem d_L_law_203 : decode c_L_law 203 = .ok (.aload_n 0, 1) := by decide +kernel
theorem d_L_law_204 : decode c_L_law 204 = .ok (.iload_n 3, 1) := by decide +kernel
theorem d_L_law_205 : decode c_L_law 205 = .ok (.iconst 3, 1) := by decide +kernel
theorem d_L_law_206 : decode c_L_law 206 = .ok (.iadd, 1) := by decide +kernel
theorem d_L_law_207 : decode c_L_law 207 = .ok (.iaload, 1) := by decide +kernel
theorem d_L_law_208 : decode c_L_law 208 = .ok (.invokevirtual 23, 3) := by decide +kernel
theorem d_L_law_211 : decode c_L_law 211 = .ok (.aload_n 2, 1) := by decide +kernel
theorem d_L_law_212 : decode c_L_law 212 = .ok (.aload_n 0, 1) := by decide +kernel
theorem d_L_law_213 : decode c_L_law 213 = .ok (.iload_n 3, 1) := by decide +kernel
theorem d_L_law_214 : decode c_L_law 214 = .ok (.iconst 1, 1) := by decide +kernel
theorem d_L_law_215 : decode c_L_law 215 = .ok (.iadd, 1) := by decide +kernel
theorem d_L_law_216 : decode c_L_law 216 = .ok (.iaload, 1) := by decide +kernel
theorem d_L_law_217 : decode c_L_law 217 = .ok (.aload_n 0, 1) := by decide +kernel
theorem d_L_law_218 : decode c_L_law 218 = .ok (.iload_n 3, 1) := by decide +kernel
theorem d_L_law_219 : decode c_L_law 219 = .ok (.iconst 2, 1) := by decide +kernel
theorem d_L_law_220 : decode c_L_law 220 = .ok (.iadd, 1) := by decide +kernel
theorem d_L_law_221 : decode c_L_law 221 = .ok (.iaload, 1) := by decide +kernel
theorem d_L_law_222 : decode c_L_law 222 = .ok (.aload_n 0, 1) := by decide +kernel
theorem d_L_law_223 : decode c_L_law 223 = .ok (.iload_n 3, 1) := by decide +kernel
theorem d_L_law_224 : decode c_L_law 224 = .ok (.iconst 3, 1) := by decide +kernel
theorem d_L_law_225 : decode c_L_law 225 = .ok (.iadd, 1) := by decide +kernel
theorem d_L_law_226 : decode c_L_law 226 = .ok (.iaload, 1) := by decide +kernel
theorem d_L_law_227 : decode c_L_law 227 = .ok (.invokevirtual 27, 3) := by decide +kernel
theorem d_L_law_230 : decode c_L_law 230 = .ok (.if_icmp .eq 571, 3) := by decide +kernel
theorem d_L_law_233 : decode c_L_law 233 = .ok (.iconst 0, 1) := by decide +kernel
theorem d_L_law_234 : decode c_L_law 234 = .ok (.ireturn, 1) := by decide +kernel
theorem d_L_law_235 : decode c_L_law 235 = .ok (.aload_n 1, 1) := by decide +kernel
theorem d_L_law_236 : decode c_L_law 236 = .ok (.aload_n 0, 1) := by decide +kernel
theorem d_L_law_237 : decode c_L_law 237 = .ok (.iload_n 3, 1) := by decide +kernel
theorem d_L_law_238 : decode c_L_law 238 = .ok (.iconst 1, 1) := by decide +kernel
theorem d_L_law_239 : decode c_L_law 239 = .ok (.iadd, 1) := by decide +kernel
theorem d_L_law_240 : decode c_L_law 240 = .ok (.iaload, 1) := by decide +kernel
theorem d_L_law_241 : decode c_L_law 241 = .ok (.aload_n 0, 1) := by decide +kernel
theorem d_L_law_242 : decode c_L_law 242 = .ok (.iload_n 3, 1) := by decide +kernel
theorem d_L_law_243 : decode c_L_law 243 = .ok (.iconst 2, 1) := by decide +kernel
theorem d_L_law_244 : decode c_L_law 244 = .ok (.iadd, 1) := by decide +kernel
theorem d_L_law_245 : decode c_L_law 245 = .ok (.iaload, 1) := by decide +kernel
theorem d_L_law_246 : decode c_L_law 246 = .ok (.aload_n 0, 1) := by decide +kernel
theorem d_L_law_247 : decode c_L_law 247 = .ok (.iload_n 3, 1) := by decide +kernel
theorem d_L_law_248 : decode c_L_law 248 = .ok (.iconst 3, 1) := by decide +kernel
theorem d_L_law_249 : decode c_L_law 249 = .ok (.iadd, 1) := by decide +kernel
theorem d_L_law_250 : decode c_L_law 250 = .ok (.iaload, 1) := by decide +kernel
theorem d_L_law_251 : decode c_L_law 251 = .ok (.aload_n 0, 1) := by decide +kernel
theorem d_L_law_252 : decode c_L_law 252 = .ok (.iload_n 3, 1) := by decide +kernel
theorem d_L_law_253 : decode c_L_law 253 = .ok (.iconst 4, 1) := by decide +kernel
theorem d_L_law_254 : decode c_L_law 254 = .ok (.iadd, 1) := by decide +kernel
theorem d_L_law_255 : decode c_L_law 255 = .ok (.iaload, 1) := by decide +kernel
theorem d_L_law_256 : decode c_L_law 256 = .ok (.aload_n 0, 1) := by decide +kernel
theorem d_L_law_257 : decode c_L_law 257 = .ok (.iload_n 3, 1) := by decide +kernel
theorem d_L_law_258 : decode c_L_law 258 = .ok (.iconst 5, 1) := by decide +kernel
theorem d_L_law_259 : decode c_L_law 259 = .ok (.iadd, 1) := by decide +kernel
theorem d_L_law_260 : decode c_L_law 260 = .ok (.iaload, 1) := by decide +kernel
theorem d_L_law_261 : decode c_L_law 261 = .ok (.invokevirtual 28, 3) := by decide +kernel
theorem d_L_law_264 : decode c_L_law 264 = .ok (.aload_n 2, 1) := by decide +kernel
theorem d_L_law_265 : decode c_L_law 265 = .ok (.aload_n 0, 1) := by decide +kernel
theorem d_L_law_266 : decode c_L_law 266 = .ok (.iload_n 3, 1) := by decide +kernel
theorem d_L_law_267 : decode c_L_law 267 = .ok (.iconst 1, 1) := by decide +kernel
theorem d_L_law_268 : decode c_L_law 268 = .ok (.iadd, 1) := by decide +kernel
theorem d_L_law_269 : decode c_L_law 269 = .ok (.iaload, 1) := by decide +kernel
theorem d_L_law_270 : decode c_L_law 270 = .ok (.aload_n 0, 1) := by decide +kernel
theorem d_L_law_271 : decode c_L_law 271 = .ok (.iload_n 3, 1) := by decide +kernel
theorem d_L_law_272 : decode c_L_law 272 = .ok (.iconst 2, 1) := by decide +kernel
theorem d_L_law_273 : decode c_L_law 273 = .ok (.iadd, 1) := by decide +kernel
theorem d_L_law_274 : decode c_L_law 274 = .ok (.iaload, 1) := by decide +kernel
theorem d_L_law_275 : decode c_L_law 275 = .ok (.aload_n 0, 1) := by decide +kernel
theorem d_L_law_276 : decode c_L_law 276 = .ok (.iload_n 3, 1) := by decide +kernel
theorem d_L_law_277 : decode c_L_law 277 = .ok (.iconst 3, 1) := by decide +kernel
theorem d_L_law_278 : decode c_L_law 278 = .ok (.iadd, 1) := by decide +kernel
theorem d_L_law_279 : decode c_L_law 279 = .ok (.iaload, 1) := by decide +kernel
theorem d_L_law_280 : decode c_L_law 280 = .ok (.aload_n 0, 1) := by decide +kernel
theorem d_L_law_281 : decode c_L_law 281 = .ok (.iload_n 3, 1) := by decide +kernel
theorem d_L_law_282 : decode c_L_law 282 = .ok (.iconst 4, 1) := by decide +kernel
theorem d_L_law_283 : decode c_L_law 283 = .ok (.iadd, 1) := by decide +kernel
theorem d_L_law_284 : decode c_L_law 284 = .ok (.iaload, 1) := by decide +kernel
theorem d_L_law_285 : decode c_L_law 285 = .ok (.aload_n 0, 1) := by decide +kernel
theorem d_L_law_286 : decode c_L_law 286 = .ok (.iload_n 3, 1) := by decide +kernel
theorem d_L_law_287 : decode c_L_law 287 = .ok (.iconst 5, 1) := by decide +kernel
theorem d_L_law_288 : decode c_L_law 288 = .ok (.iadd, 1) := by decide +kernel
theorem d_L_law_289 : decode c_L_law 289 = .ok (.iaload, 1) := by decide +kernel
theorem d_L_law_290 : decode c_L_law 290 = .ok (.invokevirtual 32, 3) := by decide +kernel
theorem d_L_law_293 : decode c_L_law 293 = .ok (.if_icmp .eq 508, 3) := by decide +kernel
theorem d_L_law_296 : decode c_L_law 296 = .ok (.iconst 0, 1) := by decide +kernel
theorem d_L_law_297 : decode c_L_law 297 = .ok (.ireturn, 1) := by decide +kernel
theorem d_L_law_298 : decode c_L_law 298 = .ok (.aload_n 1, 1) := by decide +kernel
theorem d_L_law_299 : decode c_L_law 299 = .ok (.aload_n 0, 1) := by decide +kernel
theorem d_L_law_300 : decode c_L_law 300 = .ok (.iload_n 3, 1) := by decide +kernel
theorem d_L_law_301 : decode c_L_law 301 = .ok (.iconst 1, 1) := by decide +kernel
theorem d_L_law_302 : decode c_L_law 302 = .ok (.iadd, 1) := by decide +kernel
theorem d_L_law_303 : decode c_L_law 303 = .ok (.iaload, 1) := by decide +kernel
theorem d_L_law_304 : decode c_L_law 304 = .ok (.aload_n 0, 1) := by decide +kernel
theorem d_L_law_305 : decode c_L_law 305 = .ok (.iload_n 3, 1) := by decide +kernel
theorem d_L_law_306 : decode c_L_law 306 = .ok (.iconst 2, 1) := by decide +kernel
theorem d_L_law_307 : decode c_L_law 307 = .ok (.iadd, 1) := by decide +kernel
theorem d_L_law_308 : decode c_L_law 308 = .ok (.iaload, 1) := by decide +kernel
theorem d_L_law_309 : decode c_L_law 309 = .ok (.invokevirtual 33, 3) := by decide +kernel
theorem d_L_law_312 : decode c_L_law 312 = .ok (.aload_n 2, 1) := by decide +kernel
theorem d_L_law_313 : decode c_L_law 313 = .ok (.aload_n 0, 1) := by decide +kernel
theorem d_L_law_314 : decode c_L_law 314 = .ok (.iload_n 3, 1) := by decide +kernel
theorem d_L_law_315 : decode c_L_law 315 = .ok (.iconst 1, 1) := by decide +kernel
theorem d_L_law_316 : decode c_L_law 316 = .ok (.iadd, 1) := by decide +kernel
theorem d_L_law_317 : decode c_L_law 317 = .ok (.iaload, 1) := by decide +kernel
theorem d_L_law_318 : decode c_L_law 318 = .ok (.aload_n 0, 1) := by decide +kernel
theorem d_L_law_319 : decode c_L_law 319 = .ok (.iload_n 3, 1) := by decide +kernel
theorem d_L_law_320 : decode c_L_law 320 = .ok (.iconst 2, 1) := by decide +kernel
theorem d_L_law_321 : decode c_L_law 321 = .ok (.iadd, 1) := by decide +kernel
theorem d_L_law_322 : decode c_L_law 322 = .ok (.iaload, 1) := by decide +kernel
theorem d_L_law_323 : decode c_L_law 323 = .ok (.invokevirtual 36, 3) := by decide +kernel
theorem d_L_law_326 : decode c_L_law 326 = .ok (.if_icmp .eq 475, 3) := by decide +kernel
theorem d_L_law_329 : decode c_L_law 329 = .ok (.iconst 0, 1) := by decide +kernel
theorem d_L_law_330 : decode c_L_law 330 = .ok (.ireturn, 1) := by decide +kernel
theorem d_L_law_331 : decode c_L_law 331 = .ok (.aload_n 1, 1) := by decide +kernel
theorem d_L_law_332 : decode c_L_law 332 = .ok (.aload_n 0, 1) := by decide +kernel
theorem d_L_law_333 : decode c_L_law 333 = .ok (.iload_n 3, 1) := by decide +kernel
theorem d_L_law_334 : decode c_L_law 334 = .ok (.iconst 1, 1) := by decide +kernel
theorem d_L_law_335 : decode c_L_law 335 = .ok (.iadd, 1) := by decide +kernel
theorem d_L_law_336 : decode c_L_law 336 = .ok (.iaload, 1) := by decide +kernel
theorem d_L_law_337 : decode c_L_law 337 = .ok (.aload_n 0, 1) := by decide +kernel
theorem d_L_law_338 : decode c_L_law 338 = .ok (.iload_n 3, 1) := by decide +kernel
theorem d_L_law_339 : decode c_L_law 339 = .ok (.iconst 2, 1) := by decide +kernel
theorem d_L_law_340 : decode c_L_law 340 = .ok (.iadd, 1) := by decide +kernel
theorem d_L_law_341 : decode c_L_law 341 = .ok (.iaload, 1) := by decide +kernel
theorem d_L_law_342 : decode c_L_law 342 = .ok (.invokevirtual 37, 3) := by decide +kernel
theorem d_L_law_345 : decode c_L_law 345 = .ok (.aload_n 2, 1) := by decide +kernel
theorem d_L_law_346 : decode c_L_law 346 = .ok (.aload_n 0, 1) := by decide +kernel
theorem d_L_law_347 : decode c_L_law 347 = .ok (.iload_n 3, 1) := by decide +kernel
theorem d_L_law_348 : decode c_L_law 348 = .ok (.iconst 1, 1) := by decide +kernel
theorem d_L_law_349 : decode c_L_law 349 = .ok (.iadd, 1) := by decide +kernel
theorem d_L_law_350 : decode c_L_law 350 = .ok (.iaload, 1) := by decide +kernel
theorem d_L_law_351 : decode c_L_law 351 = .ok (.aload_n 0, 1) := by decide +kernel
theorem d_L_law_352 : decode c_L_law 352 = .ok (.iload_n 3, 1) := by decide +kernel
theorem d_L_law_353 : decode c_L_law 353 = .ok (.iconst 2, 1) := by decide +kernel
theorem d_L_law_354 : decode c_L_law 354 = .ok (.iadd, 1) := by decide +kernel
theorem d_L_law_355 : decode c_L_law 355 = .ok (.iaload, 1) := by decide +kernel
theorem d_L_law_356 : decode c_L_law 356 = .ok (.invokevirtual 40, 3) := by decide +kernel
theorem d_L_law_359 : decode c_L_law 359 = .ok (.if_icmp .eq 442, 3) := by decide +kernel
theorem d_L_law_362 : decode c_L_law 362 = .ok (.iconst 0, 1) := by decide +kernel
theorem d_L_law_363 : decode c_L_law 363 = .ok (.ireturn, 1) := by decide +kernel
theorem d_L_law_364 : decode c_L_law 364 = .ok (.aload_n 1, 1) := by decide +kernel
theorem d_L_law_365 : decode c_L_law 365 = .ok (.aload_n 0, 1) := by decide +kernel
theorem d_L_law_366 : decode c_L_law 366 = .ok (.iload_n 3, 1) := by decide +kernel
theorem d_L_law_367 : decode c_L_law 367 = .ok (.iconst 1, 1) := by decide +kernel
theorem d_L_law_368 : decode c_L_law 368 = .ok (.iadd, 1) := by decide +kernel
theorem d_L_law_369 : decode c_L_law 369 = .ok (.iaload, 1) := by decide +kernel
theorem d_L_law_370 : decode c_L_law 370 = .ok (.invokevirtual 41, 3) := by decide +kernel
theorem d_L_law_373 : decode c_L_law 373 = .ok (.aload_n 2, 1) := by decide +kernel
theorem d_L_law_374 : decode c_L_law 374 = .ok (.aload_n 0, 1) := by decide +kernel
theorem d_L_law_375 : decode c_L_law 375 = .ok (.iload_n 3, 1) := by decide +kernel
theorem d_L_law_376 : decode c_L_law 376 = .ok (.iconst 1, 1) := by decide +kernel
theorem d_L_law_377 : decode c_L_law 377 = .ok (.iadd, 1) := by decide +kernel
theorem d_L_law_378 : decode c_L_law 378 = .ok (.iaload, 1) := by decide +kernel
theorem d_L_law_379 : decode c_L_law 379 = .ok (.invokevirtual 45, 3) := by decide +kernel
theorem d_L_law_382 : decode c_L_law 382 = .ok (.if_icmp .eq 419, 3) := by decide +kernel
theorem d_L_law_385 : decode c_L_law 385 = .ok (.iconst 0, 1) := by decide +kernel
theorem d_L_law_386 : decode c_L_law 386 = .ok (.ireturn, 1) := by decide +kernel
theorem d_L_law_387 : decode c_L_law 387 = .ok (.aload_n 1, 1) := by decide +kernel
theorem d_L_law_388 : decode c_L_law 388 = .ok (.aload_n 0, 1) := by decide +kernel
theorem d_L_law_389 : decode c_L_law 389 = .ok (.iload_n 3, 1) := by decide +kernel
theorem d_L_law_390 : decode c_L_law 390 = .ok (.iconst 1, 1) := by decide +kernel
theorem d_L_law_391 : decode c_L_law 391 = .ok (.iadd, 1) := by decide +kernel
theorem d_L_law_392 : decode c_L_law 392 = .ok (.iaload, 1) := by decide +kernel
theorem d_L_law_393 : decode c_L_law 393 = .ok (.aload_n 0, 1) := by decide +kernel
theorem d_L_law_394 : decode c_L_law 394 = .ok (.iload_n 3, 1) := by decide +kernel
theorem d_L_law_395 : decode c_L_law 395 = .ok (.iconst 2, 1) := by decide +kernel
theorem d_L_law_396 : decode c_L_law 396 = .ok (.iadd, 1) := by decide +kernel
theorem d_L_law_397 : decode c_L_law 397 = .ok (.iaload, 1) := by decide +kernel
theorem d_L_law_398 : decode c_L_law 398 = .ok (.aload_n 0, 1) := by decide +kernel
theorem d_L_law_399 : decode c_L_law 399 = .ok (.iload_n 3, 1) := by decide +kernel
theorem d_L_law_400 : decode c_L_law 400 = .ok (.iconst 3, 1) := by decide +kernel
theorem d_L_law_401 : decode c_L_law 401 = .ok (.iadd, 1) := by decide +kernel
theorem d_L_law_402 : decode c_L_law 402 = .ok (.iaload, 1) := by decide +kernel
theorem d_L_law_403 : decode c_L_law 403 = .ok (.invokevirtual 46, 3) := by decide +kernel
theorem d_L_law_406 : decode c_L_law 406 = .ok (.aload_n 2, 1) := by decide +kernel
theorem d_L_law_407 : decode c_L_law 407 = .ok (.aload_n 0, 1) := by decide +kernel
theorem d_L_law_408 : decode c_L_law 408 = .ok (.iload_n 3, 1) := by decide +kernel
theorem d_L_law_409 : decode c_L_law 409 = .ok (.iconst 1, 1) := by decide +kernel
theorem d_L_law_410 : decode c_L_law 410 = .ok (.iadd, 1) := by decide +kernel
theorem d_L_law_411 : decode c_L_law 411 = .ok (.iaload, 1) := by decide +kernel
theorem d_L_law_412 : decode c_L_law 412 = .ok (.aload_n 0, 1) := by decide +kernel
theorem d_L_law_413 : decode c_L_law 413 = .ok (.iload_n 3, 1) := by decide +kernel
theorem d_L_law_414 : decode c_L_law 414 = .ok (.iconst 2, 1) := by decide +kernel
theorem d_L_law_415 : decode c_L_law 415 = .ok (.iadd, 1) := by decide +kernel
theorem d_L_law_416 : decode c_L_law 416 = .ok (.iaload, 1) := by decide +kernel
theorem d_L_law_417 : decode c_L_law 417 = .ok (.aload_n 0, 1) := by decide +kernel
theorem d_L_law_418 : decode c_L_law 418 = .ok (.iload_n 3, 1) := by decide +kernel
theorem d_L_law_419 : decode c_L_law 419 = .ok (.iconst 3, 1) := by decide +kernel
theorem d_L_law_420 : decode c_L_law 420 = .ok (.iadd, 1) := by decide +kernel
theorem d_L_law_421 : decode c_L_law 421 = .ok (.iaload, 1) := by decide +kernel
theorem d_L_law_422 : decode c_L_law 422 = .ok (.invokevirtual 49, 3) := by decide +kernel
theorem d_L_law_425 : decode c_L_law 425 = .ok (.if_icmp .eq 376, 3) := by decide +kernel
theorem d_L_law_428 : decode c_L_law 428 = .ok (.iconst 0, 1) := by decide +kernel
theorem d_L_law_429 : decode c_L_law 429 = .ok (.ireturn, 1) := by decide +kernel
theorem d_L_law_430 : decode c_L_law 430 = .ok (.aload_n 1, 1) := by decide +kernel
theorem d_L_law_431 : decode c_L_law 431 = .ok (.aload_n 0, 1) := by decide +kernel
theorem d_L_law_432 : decode c_L_law 432 = .ok (.iload_n 3, 1) := by decide +kernel
theorem d_L_law_433 : decode c_L_law 433 = .ok (.iconst 1, 1) := by decide +kernel
theorem d_L_law_434 : decode c_L_law 434 = .ok (.iadd, 1) := by decide +kernel
theorem d_L_law_435 : decode c_L_law 435 = .ok (.iaload, 1) := by decide +kernel
theorem d_L_law_436 : decode c_L_law 436 = .ok (.aload_n 0, 1) := by decide +kernel
theorem d_L_law_437 : decode c_L_law 437 = .ok (.iload_n 3, 1) := by decide +kernel
theorem d_L_law_438 : decode c_L_law 438 = .ok (.iconst 2, 1) := by decide +kernel
theorem d_L_law_439 : decode c_L_law 439 = .ok (.iadd, 1) := by decide +kernel
theorem d_L_law_440 : decode c_L_law 440 = .ok (.iaload, 1) := by decide +kernel
theorem d_L_law_441 : decode c_L_law 441 = .ok (.ifCond .eq 7, 3) := by decide +kernel
theorem d_L_law_444 : decode c_L_law 444 = .ok (.iconst 1, 1) := by decide +kernel
theorem d_L_law_445 : decode c_L_law 445 = .ok (.goto 4, 3) := by decide +kernel
theorem d_L_law_448 : decode c_L_law 448 = .ok (.iconst 0, 1) := by decide +kernel
theorem d_L_law_449 : decode c_L_law 449 = .ok (.invokevirtual 50, 3) := by decide +kernel
theorem d_L_law_452 : decode c_L_law 452 = .ok (.aload_n 2, 1) := by decide +kernel
theorem d_L_law_453 : decode c_L_law 453 = .ok (.aload_n 0, 1) := by decide +kernel
theorem d_L_law_454 : decode c_L_law 454 = .ok (.iload_n 3, 1) := by decide +kernel
theorem d_L_law_455 : decode c_L_law 455 = .ok (.iconst 1, 1) := by decide +kernel
theorem d_L_law_456 : decode c_L_law 456 = .ok (.iadd, 1) := by decide +kernel
theorem d_L_law_457 : decode c_L_law 457 = .ok (.iaload, 1) := by decide +kernel
theorem d_L_law_458 : decode c_L_law 458 = .ok (.aload_n 0, 1) := by decide +kernel
theorem d_L_law_459 : decode c_L_law 459 = .ok (.iload_n 3, 1) := by decide +kernel
theorem d_L_law_460 : decode c_L_law 460 = .ok (.iconst 2, 1) := by decide +kernel
theorem d_L_law_461 : decode c_L_law 461 = .ok (.iadd, 1) := by decide +kernel
theorem d_L_law_462 : decode c_L_law 462 = .ok (.iaload, 1) := by decide +kernel
theorem d_L_law_463 : decode c_L_law 463 = .ok (.ifCond .eq 7, 3) := by decide +kernel
theorem d_L_law_466 : decode c_L_law 466 = .ok (.iconst 1, 1) := by decide +kernel
theorem d_L_law_467 : decode c_L_law 467 = .ok (.goto 4, 3) := by decide +kernel
theorem d_L_law_470 : decode c_L_law 470 = .ok (.iconst 0, 1) := by decide +kernel
theorem d_L_law_471 : decode c_L_law 471 = .ok (.invokevirtual 54, 3) := by decide +kernel
theorem d_L_law_474 : decode c_L_law 474 = .ok (.if_icmp .eq 327, 3) := by decide +kernel
theorem d_L_law_477 : decode c_L_law 477 = .ok (.iconst 0, 1) := by decide +kernel
theorem d_L_law_478 : decode c_L_law 478 = .ok (.ireturn, 1) := by decide +kernel
theorem d_L_law_479 : decode c_L_law 479 = .ok (.aload_n 1, 1) := by decide +kernel
theorem d_L_law_480 : decode c_L_law 480 = .ok (.aload_n 0, 1) := by decide +kernel
theorem d_L_law_481 : decode c_L_law 481 = .ok (.iload_n 3, 1) := by decide +kernel
theorem d_L_law_482 : decode c_L_law 482 = .ok (.iconst 1, 1) := by decide +kernel
theorem d_L_law_483 : decode c_L_law 483 = .ok (.iadd, 1) := by decide +kernel
theorem d_L_law_484 : decode c_L_law 484 = .ok (.iaload, 1) := by decide +kernel
theorem d_L_law_485 : decode c_L_law 485 = .ok (.aload_n 0, 1) := by decide +kernel
theorem d_L_law_486 : decode c_L_law 486 = .ok (.iload_n 3, 1) := by decide +kernel
theorem d_L_law_487 : decode c_L_law 487 = .ok (.iconst 2, 1) := by decide +kernel
theorem d_L_law_488 : decode c_L_law 488 = .ok (.iadd, 1) := by decide +kernel
theorem d_L_law_489 : decode c_L_law 489 = .ok (.iaload, 1) := by decide +kernel
theorem d_L_law_490 : decode c_L_law 490 = .ok (.ifCond .eq 7, 3) := by decide +kernel
theorem d_L_law_493 : decode c_L_law 493 = .ok (.iconst 1, 1) := by decide +kernel
theorem d_L_law_494 : decode c_L_law 494 = .ok (.goto 4, 3) := by decide +kernel
theorem d_L_law_497 : decode c_L_law 497 = .ok (.iconst 0, 1) := by decide +kernel
theorem d_L_law_498 : decode c_L_law 498 = .ok (.invokevirtual 55, 3) := by decide +kernel
theorem d_L_law_501 : decode c_L_law 501 = .ok (.aload_n 2, 1) := by decide +kernel
theorem d_L_law_502 : decode c_L_law 502 = .ok (.aload_n 0, 1) := by decide +kernel
theorem d_L_law_503 : decode c_L_law 503 = .ok (.iload_n 3, 1) := by decide +kernel
theorem d_L_law_504 : decode c_L_law 504 = .ok (.iconst 1, 1) := by decide +kernel
theorem d_L_law_505 : decode c_L_law 505 = .ok (.iadd, 1) := by decide +kernel
theorem d_L_law_506 : decode c_L_law 506 = .ok (.iaload, 1) := by decide +kernel
theorem d_L_law_507 : decode c_L_law 507 = .ok (.aload_n 0, 1) := by decide +kernel
theorem d_L_law_508 : decode c_L_law 508 = .ok (.iload_n 3, 1) := by decide +kernel
theorem d_L_law_509 : decode c_L_law 509 = .ok (.iconst 2, 1) := by decide +kernel
theorem d_L_law_510 : decode c_L_law 510 = .ok (.iadd, 1) := by decide +kernel
theorem d_L_law_511 : decode c_L_law 511 = .ok (.iaload, 1) := by decide +kernel
theorem d_L_law_512 : decode c_L_law 512 = .ok (.ifCond .eq 7, 3) := by decide +kernel
theorem d_L_law_515 : decode c_L_law 515 = .ok (.iconst 1, 1) := by decide +kernel
theorem d_L_law_516 : decode c_L_law 516 = .ok (.goto 4, 3) := by decide +kernel
theorem d_L_law_519 : decode c_L_law 519 = .ok (.iconst 0, 1) := by decide +kernel
theorem d_L_law_520 : decode c_L_law 520 = .ok (.invokevirtual 58, 3) := by decide +kernel
theorem d_L_law_523 : decode c_L_law 523 = .ok (.if_icmp .eq 278, 3) := by decide +kernel
theorem d_L_law_526 : decode c_L_law 526 = .ok (.iconst 0, 1) := by decide +kernel
theorem d_L_law_527 : decode c_L_law 527 = .ok (.ireturn, 1) := by decide +kernel
theorem d_L_law_528 : decode c_L_law 528 = .ok (.aload_n 1, 1) := by decide +kernel
theorem d_L_law_529 : decode c_L_law 529 = .ok (.aload_n 0, 1) := by decide +kernel
theorem d_L_law_530 : decode c_L_law 530 = .ok (.iload_n 3, 1) := by decide +kernel
theorem d_L_law_531 : decode c_L_law 531 = .ok (.iconst 1, 1) := by decide +kernel
theorem d_L_law_532 : decode c_L_law 532 = .ok (.iadd, 1) := by decide +kernel
theorem d_L_law_533 : decode c_L_law 533 = .ok (.iaload, 1) := by decide +kernel
theorem d_L_law_534 : decode c_L_law 534 = .ok (.ifCond .eq 7, 3) := by decide +kernel
theorem d_L_law_537 : decode c_L_law 537 = .ok (.iconst 1, 1) := by decide +kernel
theorem d_L_law_538 : decode c_L_law 538 = .ok (.goto 4, 3) := by decide +kernel
theorem d_L_law_541 : decode c_L_law 541 = .ok (.iconst 0, 1) := by decide +kernel
theorem d_L_law_542 : decode c_L_law 542 = .ok (.aload_n 0, 1) := by decide +kernel
theorem d_L_law_543 : decode c_L_law 543 = .ok (.iload_n 3, 1) := by decide +kernel
theorem d_L_law_544 : decode c_L_law 544 = .ok (.iconst 2, 1) := by decide +kernel
theorem d_L_law_545 : decode c_L_law 545 = .ok (.iadd, 1) := by decide +kernel
theorem d_L_law_546 : decode c_L_law 546 = .ok (.iaload, 1) := by decide +kernel
theorem d_L_law_547 : decode c_L_law 547 = .ok (.aload_n 0, 1) := by decide +kernel
theorem d_L_law_548 : decode c_L_law 548 = .ok (.iload_n 3, 1) := by decide +kernel
theorem d_L_law_549 : decode c_L_law 549 = .ok (.iconst 3, 1) := by decide +kernel
theorem d_L_law_550 : decode c_L_law 550 = .ok (.iadd, 1) := by decide +kernel
theorem d_L_law_551 : decode c_L_law 551 = .ok (.iaload, 1) := by decide +kernel
theorem d_L_law_552 : decode c_L_law 552 = .ok (.invokevirtual 59, 3) := by decide +kernel
theorem d_L_law_555 : decode c_L_law 555 = .ok (.aload_n 2, 1) := by decide +kernel
theorem d_L_law_556 : decode c_L_law 556 = .ok (.aload_n 0, 1) := by decide +kernel
theorem d_L_law_557 : decode c_L_law 557 = .ok (.iload_n 3, 1) := by decide +kernel
theorem d_L_law_558 : decode c_L_law 558 = .ok (.iconst 1, 1) := by decide +kernel
theorem d_L_law_559 : decode c_L_law 559 = .ok (.iadd, 1) := by decide +kernel
theorem d_L_law_560 : decode c_L_law 560 = .ok (.iaload, 1) := by decide +kernel
theorem d_L_law_561 : decode c_L_law 561 = .ok (.ifCond .eq 7, 3) := by decide +kernel
theorem d_L_law_564 : decode c_L_law 564 = .ok (.iconst 1, 1) := by decide +kernel
theorem d_L_law_565 : decode c_L_law 565 = .ok (.goto 4, 3) := by decide +kernel
theorem d_L_law_568 : decode c_L_law 568 = .ok (.iconst 0, 1) := by decide +kernel
theorem d_L_law_569 : decode c_L_law 569 = .ok (.aload_n 0, 1) := by decide +kernel
theorem d_L_law_570 : decode c_L_law 570 = .ok (.iload_n 3, 1) := by decide +kernel
theorem d_L_law_571 : decode c_L_law 571 = .ok (.iconst 2, 1) := by decide +kernel
theorem d_L_law_572 : decode c_L_law 572 = .ok (.iadd, 1) := by decide +kernel
theorem d_L_law_573 : decode c_L_law 573 = .ok (.iaload, 1) := by decide +kernel
theorem d_L_law_574 : decode c_L_law 574 = .ok (.aload_n 0, 1) := by decide +kernel
theorem d_L_law_575 : decode c_L_law 575 = .ok (.iload_n 3, 1) := by decide +kernel
theorem d_L_law_576 : decode c_L_law 576 = .ok (.iconst 3, 1) := by decide +kernel
theorem d_L_law_577 : decode c_L_law 577 = .ok (.iadd, 1) := by decide +kernel
theorem d_L_law_578 : decode c_L_law 578 = .ok (.iaload, 1) := by decide +kernel
theorem d_L_law_579 : decode c_L_law 579 = .ok (.invokevirtual 63, 3) := by decide +kernel
theorem d_L_law_582 : decode c_L_law 582 = .ok (.if_icmp .eq 219, 3) := by decide +kernel
theorem d_L_law_585 : decode c_L_law 585 = .ok (.iconst 0, 1) := by decide +kernel
theorem d_L_law_586 : decode c_L_law 586 = .ok (.ireturn, 1) := by decide +kernel
theorem d_L_law_587 : decode c_L_law 587 = .ok (.aload_n 1, 1) := by decide +kernel
theorem d_L_law_588 : decode c_L_law 588 = .ok (.aload_n 0, 1) := by decide +kernel
theorem d_L_law_589 : decode c_L_law 589 = .ok (.iload_n 3, 1) := by decide +kernel
theorem d_L_law_590 : decode c_L_law 590 = .ok (.iconst 1, 1) := by decide +kernel
theorem d_L_law_591 : decode c_L_law 591 = .ok (.iadd, 1) := by decide +kernel
theorem d_L_law_592 : decode c_L_law 592 = .ok (.iaload, 1) := by decide +kernel
theorem d_L_law_593 : decode c_L_law 593 = .ok (.aload_n 0, 1) := by decide +kernel
theorem d_L_law_594 : decode c_L_law 594 = .ok (.iload_n 3, 1) := by decide +kernel
theorem d_L_law_595 : decode c_L_law 595 = .ok (.iconst 2, 1) := by decide +kernel
theorem d_L_law_596 : decode c_L_law 596 = .ok (.iadd, 1) := by decide +kernel
theorem d_L_law_597 : decode c_L_law 597 = .ok (.iaload, 1) := by decide +kernel
theorem d_L_law_598 : decode c_L_law 598 = .ok (.invokevirtual 64, 3) := by decide +kernel
theorem d_L_law_601 : decode c_L_law 601 = .ok (.aload_n 2, 1) := by decide +kernel
theorem d_L_law_602 : decode c_L_law 602 = .ok (.aload_n 0, 1) := by decide +kernel
theorem d_L_law_603 : decode c_L_law 603 = .ok (.iload_n 3, 1) := by decide +kernel
theorem d_L_law_604 : decode c_L_law 604 = .ok (.iconst 1, 1) := by decide +kernel
theorem d_L_law_605 : decode c_L_law 605 = .ok (.iadd, 1) := by decide +kernel
theorem d_L_law_606 : decode c_L_law 606 = .ok (.iaload, 1) := by decide +kernel
theorem d_L_law_607 : decode c_L_law 607 = .ok (.aload_n 0, 1) := by decide +kernel
theorem d_L_law_608 : decode c_L_law 608 = .ok (.iload_n 3, 1) := by decide +kernel
theorem d_L_law_609 : decode c_L_law 609 = .ok (.iconst 2, 1) := by decide +kernel
theorem d_L_law_610 : decode c_L_law 610 = .ok (.iadd, 1) := by decide +kernel
theorem d_L_law_611 : decode c_L_law 611 = .ok (.iaload, 1) := by decide +kernel
theorem d_L_law_612 : decode c_L_law 612 = .ok (.invokevirtual 68, 3) := by decide +kernel
theorem d_L_law_615 : decode c_L_law 615 = .ok (.if_icmp .eq 186, 3) := by decide +kernel
theorem d_L_law_618 : decode c_L_law 618 = .ok (.iconst 0, 1) := by decide +kernel
theorem d_L_law_619 : decode c_L_law 619 = .ok (.ireturn, 1) := by decide +kernel
theorem d_L_law_620 : decode c_L_law 620 = .ok (.aload_n 1, 1) := by decide +kernel
theorem d_L_law_621 : decode c_L_law 621 = .ok (.aload_n 0, 1) := by decide +kernel
theorem d_L_law_622 : decode c_L_law 622 = .ok (.iload_n 3, 1) := by decide +kernel
theorem d_L_law_623 : decode c_L_law 623 = .ok (.iconst 1, 1) := by decide +kernel
theorem d_L_law_624 : decode c_L_law 624 = .ok (.iadd, 1) := by decide +kernel
theorem d_L_law_625 : decode c_L_law 625 = .ok (.iaload, 1) := by decide +kernel
theorem d_L_law_626 : decode c_L_law 626 = .ok (.aload_n 0, 1) := by decide +kernel
theorem d_L_law_627 : decode c_L_law 627 = .ok (.iload_n 3, 1) := by decide +kernel
theorem d_L_law_628 : decode c_L_law 628 = .ok (.iconst 2, 1) := by decide +kernel
theorem d_L_law_629 : decode c_L_law 629 = .ok (.iadd, 1) := by decide +kernel
theorem d_L_law_630 : decode c_L_law 630 = .ok (.iaload, 1) := by decide +kernel
theorem d_L_law_631 : decode c_L_law 631 = .ok (.ifCond .eq 7, 3) := by decide +kernel
theorem d_L_law_634 : decode c_L_law 634 = .ok (.iconst 1, 1) := by decide +kernel
theorem d_L_law_635 : decode c_L_law 635 = .ok (.goto 4, 3) := by decide +kernel
theorem d_L_law_638 : decode c_L_law 638 = .ok (.iconst 0, 1) := by decide +kernel
theorem d_L_law_639 : decode c_L_law 639 = .ok (.invokevirtual 69, 3) := by decide +kernel
theorem d_L_law_642 : decode c_L_law 642 = .ok (.aload_n 2, 1) := by decide +kernel
theorem d_L_law_643 : decode c_L_law 643 = .ok (.aload_n 0, 1) := by decide +kernel
theorem d_L_law_644 : decode c_L_law 644 = .ok (.iload_n 3, 1) := by decide +kernel
theorem d_L_law_645 : decode c_L_law 645 = .ok (.iconst 1, 1) := by decide +kernel
theorem d_L_law_646 : decode c_L_law 646 = .ok (.iadd, 1) := by decide +kernel
theorem d_L_law_647 : decode c_L_law 647 = .ok (.iaload, 1) := by decide +kernel
theorem d_L_law_648 : decode c_L_law 648 = .ok (.aload_n 0, 1) := by decide +kernel
theorem d_L_law_649 : decode c_L_law 649 = .ok (.iload_n 3, 1) := by decide +kernel
theorem d_L_law_650 : decode c_L_law 650 = .ok (.iconst 2, 1) := by decide +kernel
theorem d_L_law_651 : decode c_L_law 651 = .ok (.iadd, 1) := by decide +kernel
theorem d_L_law_652 : decode c_L_law 652 = .ok (.iaload, 1) := by decide +kernel
theorem d_L_law_653 : decode c_L_law 653 = .ok (.ifCond .eq 7, 3) := by decide +kernel
theorem d_L_law_656 : decode c_L_law 656 = .ok (.iconst 1, 1) := by decide +kernel
theorem d_L_law_657 : decode c_L_law 657 = .ok (.goto 4, 3) := by decide +kernel
theorem d_L_law_660 : decode c_L_law 660 = .ok (.iconst 0, 1) := by decide +kernel
theorem d_L_law_661 : decode c_L_law 661 = .ok (.invokevirtual 72, 3) := by decide +kernel
theorem d_L_law_664 : decode c_L_law 664 = .ok (.if_icmp .eq 137, 3) := by decide +kernel
theorem d_L_law_667 : decode c_L_law 667 = .ok (.iconst 0, 1) := by decide +kernel
theorem d_L_law_668 : decode c_L_law 668 = .ok (.ireturn, 1) := by decide +kernel
theorem d_L_law_669 : decode c_L_law 669 = .ok (.aload_n 1, 1) := by decide +kernel
theorem d_L_law_670 : decode c_L_law 670 = .ok (.aload_n 0, 1) := by decide +kernel
theorem d_L_law_671 : decode c_L_law 671 = .ok (.iload_n 3, 1) := by decide +kernel
theorem d_L_law_672 : decode c_L_law 672 = .ok (.iconst 1, 1) := by decide +kernel
theorem d_L_law_673 : decode c_L_law 673 = .ok (.iadd, 1) := by decide +kernel
theorem d_L_law_674 : decode c_L_law 674 = .ok (.iaload, 1) := by decide +kernel
theorem d_L_law_675 : decode c_L_law 675 = .ok (.invokevirtual 73, 3) := by decide +kernel
theorem d_L_law_678 : decode c_L_law 678 = .ok (.aload_n 2, 1) := by decide +kernel
theorem d_L_law_679 : decode c_L_law 679 = .ok (.aload_n 0, 1) := by decide +kernel
theorem d_L_law_680 : decode c_L_law 680 = .ok (.iload_n 3, 1) := by decide +kernel
theorem d_L_law_681 : decode c_L_law 681 = .ok (.iconst 1, 1) := by decide +kernel
theorem d_L_law_682 : decode c_L_law 682 = .ok (.iadd, 1) := by decide +kernel
theorem d_L_law_683 : decode c_L_law 683 = .ok (.iaload, 1) := by decide +kernel
theorem d_L_law_684 : decode c_L_law 684 = .ok (.invokevirtual 76, 3) := by decide +kernel
theorem d_L_law_687 : decode c_L_law 687 = .ok (.if_icmp .eq 114, 3) := by decide +kernel
theorem d_L_law_690 : decode c_L_law 690 = .ok (.iconst 0, 1) := by decide +kernel
theorem d_L_law_691 : decode c_L_law 691 = .ok (.ireturn, 1) := by decide +kernel
theorem d_L_law_692 : decode c_L_law 692 = .ok (.aload_n 1, 1) := by decide +kernel
theorem d_L_law_693 : decode c_L_law 693 = .ok (.aload_n 0, 1) := by decide +kernel
theorem d_L_law_694 : decode c_L_law 694 = .ok (.iload_n 3, 1) := by decide +kernel
theorem d_L_law_695 : decode c_L_law 695 = .ok (.iconst 1, 1) := by decide +kernel
theorem d_L_law_696 : decode c_L_law 696 = .ok (.iadd, 1) := by decide +kernel
theorem d_L_law_697 : decode c_L_law 697 = .ok (.iaload, 1) := by decide +kernel
theorem d_L_law_698 : decode c_L_law 698 = .ok (.aload_n 0, 1) := by decide +kernel
theorem d_L_law_699 : decode c_L_law 699 = .ok (.iload_n 3, 1) := by decide +kernel
theorem d_L_law_700 : decode c_L_law 700 = .ok (.iconst 2, 1) := by decide +kernel
theorem d_L_law_701 : decode c_L_law 701 = .ok (.iadd, 1) := by decide +kernel
theorem d_L_law_702 : decode c_L_law 702 = .ok (.iaload, 1) := by decide +kernel
theorem d_L_law_703 : decode c_L_law 703 = .ok (.aload_n 0, 1) := by decide +kernel
theorem d_L_law_704 : decode c_L_law 704 = .ok (.iload_n 3, 1) := by decide +kernel
theorem d_L_law_705 : decode c_L_law 705 = .ok (.iconst 3, 1) := by decide +kernel
theorem d_L_law_706 : decode c_L_law 706 = .ok (.iadd, 1) := by decide +kernel
theorem d_L_law_707 : decode c_L_law 707 = .ok (.iaload, 1) := by decide +kernel
theorem d_L_law_708 : decode c_L_law 708 = .ok (.invokevirtual 77, 3) := by decide +kernel
theorem d_L_law_711 : decode c_L_law 711 = .ok (.aload_n 2, 1) := by decide +kernel
theorem d_L_law_712 : decode c_L_law 712 = .ok (.aload_n 0, 1) := by decide +kernel
theorem d_L_law_713 : decode c_L_law 713 = .ok (.iload_n 3, 1) := by decide +kernel
theorem d_L_law_714 : decode c_L_law 714 = .ok (.iconst 1, 1) := by decide +kernel
theorem d_L_law_715 : decode c_L_law 715 = .ok (.iadd, 1) := by decide +kernel
theorem d_L_law_716 : decode c_L_law 716 = .ok (.iaload, 1) := by decide +kernel
theorem d_L_law_717 : decode c_L_law 717 = .ok (.aload_n 0, 1) := by decide +kernel
theorem d_L_law_718 : decode c_L_law 718 = .ok (.iload_n 3, 1) := by decide +kernel
theorem d_L_law_719 : decode c_L_law 719 = .ok (.iconst 2, 1) := by decide +kernel
theorem d_L_law_720 : decode c_L_law 720 = .ok (.iadd, 1) := by decide +kernel
theorem d_L_law_721 : decode c_L_law 721 = .ok (.iaload, 1) := by decide +kernel
theorem d_L_law_722 : decode c_L_law 722 = .ok (.aload_n 0, 1) := by decide +kernel
theorem d_L_law_723 : decode c_L_law 723 = .ok (.iload_n 3, 1) := by decide +kernel
theorem d_L_law_724 : decode c_L_law 724 = .ok (.iconst 3, 1) := by decide +kernel
theorem d_L_law_725 : decode c_L_law 725 = .ok (.iadd, 1) := by decide +kernel
theorem d_L_law_726 : decode c_L_law 726 = .ok (.iaload, 1) := by decide +kernel
theorem d_L_law_727 : decode c_L_law 727 = .ok (.invokevirtual 80, 3) := by decide +kernel
theorem d_L_law_730 : decode c_L_law 730 = .ok (.if_icmp .eq 71, 3) := by decide +kernel
theorem d_L_law_733 : decode c_L_law 733 = .ok (.iconst 0, 1) := by decide +kernel
theorem d_L_law_734 : decode c_L_law 734 = .ok (.ireturn, 1) := by decide +kernel
theorem d_L_law_735 : decode c_L_law 735 = .ok (.aload_n 1, 1) := by decide +kernel
theorem d_L_law_736 : decode c_L_law 736 = .ok (.aload_n 0, 1) := by decide +kernel
theorem d_L_law_737 : decode c_L_law 737 = .ok (.iload_n 3, 1) := by decide +kernel
theorem d_L_law_738 : decode c_L_law 738 = .ok (.iconst 1, 1) := by decide +kernel
theorem d_L_law_739 : decode c_L_law 739 = .ok (.iadd, 1) := by decide +kernel
theorem d_L_law_740 : decode c_L_law 740 = .ok (.iaload, 1) := by decide +kernel
theorem d_L_law_741 : decode c_L_law 741 = .ok (.aload_n 0, 1) := by decide +kernel
theorem d_L_law_742 : decode c_L_law 742 = .ok (.iload_n 3, 1) := by decide +kernel
theorem d_L_law_743 : decode c_L_law 743 = .ok (.iconst 2, 1) := by decide +kernel
theorem d_L_law_744 : decode c_L_law 744 = .ok (.iadd, 1) := by decide +kernel
theorem d_L_law_745 : decode c_L_law 745 = .ok (.iaload, 1) := by decide +kernel
theorem d_L_law_746 : decode c_L_law 746 = .ok (.aload_n 0, 1) := by decide +kernel
theorem d_L_law_747 : decode c_L_law 747 = .ok (.iload_n 3, 1) := by decide +kernel
theorem d_L_law_748 : decode c_L_law 748 = .ok (.iconst 3, 1) := by decide +kernel
theorem d_L_law_749 : decode c_L_law 749 = .ok (.iadd, 1) := by decide +kernel
theorem d_L_law_750 : decode c_L_law 750 = .ok (.iaload, 1) := by decide +kernel
theorem d_L_law_751 : decode c_L_law 751 = .ok (.invokevirtual 81, 3) := by decide +kernel
theorem d_L_law_754 : decode c_L_law 754 = .ok (.aload_n 2, 1) := by decide +kernel
theorem d_L_law_755 : decode c_L_law 755 = .ok (.aload_n 0, 1) := by decide +kernel
theorem d_L_law_756 : decode c_L_law 756 = .ok (.iload_n 3, 1) := by decide +kernel
theorem d_L_law_757 : decode c_L_law 757 = .ok (.iconst 1, 1) := by decide +kernel
theorem d_L_law_758 : decode c_L_law 758 = .ok (.iadd, 1) := by decide +kernel
theorem d_L_law_759 : decode c_L_law 759 = .ok (.iaload, 1) := by decide +kernel
theorem d_L_law_760 : decode c_L_law 760 = .ok (.aload_n 0, 1) := by decide +kernel
theorem d_L_law_761 : decode c_L_law 761 = .ok (.iload_n 3, 1) := by decide +kernel
theorem d_L_law_762 : decode c_L_law 762 = .ok (.iconst 2, 1) := by decide +kernel
theorem d_L_law_763 : decode c_L_law 763 = .ok (.iadd, 1) := by decide +kernel
theorem d_L_law_764 : decode c_L_law 764 = .ok (.iaload, 1) := by decide +kernel
theorem d_L_law_765 : decode c_L_law 765 = .ok (.aload_n 0, 1) := by decide +kernel
theorem d_L_law_766 : decode c_L_law 766 = .ok (.iload_n 3, 1) := by decide +kernel
theorem d_L_law_767 : decode c_L_law 767 = .ok (.iconst 3, 1) := by decide +kernel
theorem d_L_law_768 : decode c_L_law 768 = .ok (.iadd, 1) := by decide +kernel
theorem d_L_law_769 : decode c_L_law 769 = .ok (.iaload, 1) := by decide +kernel
theorem d_L_law_770 : decode c_L_law 770 = .ok (.invokevirtual 84, 3) := by decide +kernel
theorem d_L_law_773 : decode c_L_law 773 = .ok (.if_icmp .eq 28, 3) := by decide +kernel
theorem d_L_law_776 : decode c_L_law 776 = .ok (.iconst 0, 1) := by decide +kernel
theorem d_L_law_777 : decode c_L_law 777 = .ok (.ireturn, 1) := by decide +kernel
theorem d_L_law_778 : decode c_L_law 778 = .ok (.aload_n 1, 1) := by decide +kernel
theorem d_L_law_779 : decode c_L_law 779 = .ok (.aload_n 0, 1) := by decide +kernel
theorem d_L_law_780 : decode c_L_law 780 = .ok (.iload_n 3, 1) := by decide +kernel
theorem d_L_law_781 : decode c_L_law 781 = .ok (.iconst 1, 1) := by decide +kernel
theorem d_L_law_782 : decode c_L_law 782 = .ok (.iadd, 1) := by decide +kernel
theorem d_L_law_783 : decode c_L_law 783 = .ok (.iaload, 1) := by decide +kernel
theorem d_L_law_784 : decode c_L_law 784 = .ok (.invokevirtual 85, 3) := by decide +kernel
theorem d_L_law_787 : decode c_L_law 787 = .ok (.aload_n 2, 1) := by decide +kernel
theorem d_L_law_788 : decode c_L_law 788 = .ok (.aload_n 0, 1) := by decide +kernel
theorem d_L_law_789 : decode c_L_law 789 = .ok (.iload_n 3, 1) := by decide +kernel
theorem d_L_law_790 : decode c_L_law 790 = .ok (.iconst 1, 1) := by decide +kernel
theorem d_L_law_791 : decode c_L_law 791 = .ok (.iadd, 1) := by decide +kernel
theorem d_L_law_792 : decode c_L_law 792 = .ok (.iaload, 1) := by decide +kernel
theorem d_L_law_793 : decode c_L_law 793 = .ok (.invokevirtual 88, 3) := by decide +kernel
theorem d_L_law_796 : decode c_L_law 796 = .ok (.if_icmp .eq 5, 3) := by decide +kernel
theorem d_L_law_799 : decode c_L_law 799 = .ok (.iconst 0, 1) := by decide +kernel
theorem d_L_law_800 : decode c_L_law 800 = .ok (.ireturn, 1) := by decide +kernel
theorem d_L_law_801 : decode c_L_law 801 = .ok (.iinc 3 6, 3) := by decide +kernel
theorem d_L_law_804 : decode c_L_law 804 = .ok (.goto (-786), 3) := by decide +kernel
theorem d_L_law_807 : decode c_L_law 807 = .ok (.iconst 1, 1) := by decide +kernel
theorem d_L_law_808 : decode c_L_law 808 = .ok (.ireturn, 1) := by decide +kernel
end
section
def zs (S : Nat → Int → Int) (k : Nat) (f : Int → Int) : Nat → Int → Int := fun j => if j = k then f else S j
theorem zs_s (S : Nat → Int → Int) (k : Nat) (f : Int → Int) : zs S k f k = f := if_pos rfl
theorem zs_n {S : Nat → Int → Int} {k j : Nat} {f : Int → Int} (h : j ≠ k) : zs S k f j = S j := if_neg h
theorem zu_b {lo hi : Int} {g : Int → Int} {i v : Int} (h : ∀ j, zB lo hi (g j)) (hv : zB lo hi v) : ∀ j, zB lo hi (zu g i v j) := by
  intro j
  unfold zu
  split
  · exact hv
  · exact h j
def wS (ad : Nat → Nat) (cI : ClassId) (S : Nat → Int → Int) (k0 k1 k2 k3 : Int) : va_W := [(ad 0, .inr (1, [.ref (ad 1), .ref (ad 2), .ref (ad 3), .ref (ad 4), .ref (ad 5), .ref (ad 6), .ref (ad 7), .int (zi (S 11 0)), .int (zi (S 11 1)), .int (zi (S 11 2)), .int (zi (S 11 3)), .int (zi (S 11 4)), .int (zi (S 11 5))])), (ad 1, .inl (cI, 60, .inl (zA (S 0)))), (ad 2, .inl (cI, 60, .inl (zA (S 1)))), (ad 3, .inl (cI, 60, .inl (zA (S 2)))), (ad 4, .inl (cI, 60, .inl (zA (S 3)))), (ad 5, .inl (cI, 60, .inl (zA (S 4)))), (ad 6, .inl (cI, 120, .inl (zA (S 5)))), (ad 7, .inr (0, [.ref (ad 8), .ref (ad 9), .ref (ad 10), .ref (ad 11), .ref (ad 12), .int (zi (S 11 6)), .long (zl k0), .long (zl k1), .long (zl k2), .long (zl k3)])), (ad 8, .inl (cI, 8, .inl (zA (S 6)))), (ad 9, .inl (cI, 8, .inl (zA (S 7)))), (ad 10, .inl (cI, 8, .inl (zA (S 8)))), (ad 11, .inl (cI, 8, .inl (zA (S 9)))), (ad 12, .inl (cI, 8, .inl (zA (S 10))))]
def wM (ad : Nat → Nat) (cI : ClassId) (N : Nat → Int → Int) (k0 k1 k2 k3 : Int) : va_W := [(ad 0, .inr (2, [.int (zi (N 7 0)), .ref (ad 1), .ref (ad 2), .ref (ad 3), .ref (ad 4), .ref (ad 5), .ref (ad 6), .int (zi (N 7 1)), .ref (ad 7), .int (zi (N 7 2)), .int (zi (N 7 3)), .int (zi (N 7 4)), .int (zi (N 7 5)), .long (zl k0), .long (zl k1), .long (zl k2), .long (zl k3)])), (ad 1, .inl (cI, 60, .inl (zA (N 0)))), (ad 2, .inl (cI, 60, .inl (zA (N 1)))), (ad 3, .inl (cI, 60, .inl (zA (N 2)))), (ad 4, .inl (cI, 60, .inl (zA (N 3)))), (ad 5, .inl (cI, 60, .inl (zA (N 4)))), (ad 6, .inl (cI, 120, .inl (zA (N 5)))), (ad 7, .inl (cI, 40, .inl (zA (N 6))))]
def iS (S : Nat → Int → Int) : Prop := (∀ i : Int, zB (-15000) 15000 (S 0 i)) ∧ (∀ i : Int, zB (-15000) 15000 (S 1 i)) ∧ (∀ i : Int, zB (-100000) 100000 (S 2 i)) ∧ (∀ i : Int, zB (0) 2545620 (S 3 i)) ∧ (∀ i : Int, zB (0) 200 (S 4 i)) ∧ (∀ i : Int, zB (-1) 1000 (S 5 i)) ∧ (∀ i : Int, zB (-15000) 15000 (S 6 i)) ∧ (∀ i : Int, zB (-15000) 15000 (S 7 i)) ∧ (∀ i : Int, zB (-15000) 15000 (S 8 i)) ∧ (∀ i : Int, zB (-15000) 15000 (S 9 i)) ∧ (∀ i : Int, zB (-100000) 100000 (S 10 i)) ∧ zB 0 60 (S 11 0) ∧ zB 0 1000 (S 11 2) ∧ zB 0 1000 (S 11 3) ∧ zB 0 100 (S 11 4) ∧ zB 50 1000 (S 11 5) ∧ zB 0 8 (S 11 6)
theorem iS_a0 {S : Nat → Int → Int} (h : iS S) (i : Int) : zB (-15000) 15000 (S 0 i) := h.1 i
theorem iS_a1 {S : Nat → Int → Int} (h : iS S) (i : Int) : zB (-15000) 15000 (S 1 i) := h.2.1 i
theorem iS_a2 {S : Nat → Int → Int} (h : iS S) (i : Int) : zB (-100000) 100000 (S 2 i) := h.2.2.1 i
theorem iS_a3 {S : Nat → Int → Int} (h : iS S) (i : Int) : zB (0) 2545620 (S 3 i) := h.2.2.2.1 i
theorem iS_a4 {S : Nat → Int → Int} (h : iS S) (i : Int) : zB (0) 200 (S 4 i) := h.2.2.2.2.1 i
theorem iS_a5 {S : Nat → Int → Int} (h : iS S) (i : Int) : zB (-1) 1000 (S 5 i) := h.2.2.2.2.2.1 i
theorem iS_a6 {S : Nat → Int → Int} (h : iS S) (i : Int) : zB (-15000) 15000 (S 6 i) := h.2.2.2.2.2.2.1 i
theorem iS_a7 {S : Nat → Int → Int} (h : iS S) (i : Int) : zB (-15000) 15000 (S 7 i) := h.2.2.2.2.2.2.2.1 i
theorem iS_a8 {S : Nat → Int → Int} (h : iS S) (i : Int) : zB (-15000) 15000 (S 8 i) := h.2.2.2.2.2.2.2.2.1 i
theorem iS_a9 {S : Nat → Int → Int} (h : iS S) (i : Int) : zB (-15000) 15000 (S 9 i) := h.2.2.2.2.2.2.2.2.2.1 i
theorem iS_a10 {S : Nat → Int → Int} (h : iS S) (i : Int) : zB (-100000) 100000 (S 10 i) := h.2.2.2.2.2.2.2.2.2.2.1 i
theorem iS_s0 {S : Nat → Int → Int} (h : iS S) : zB 0 60 (S 11 0) := h.2.2.2.2.2.2.2.2.2.2.2.1
theorem iS_s2 {S : Nat → Int → Int} (h : iS S) : zB 0 1000 (S 11 2) := h.2.2.2.2.2.2.2.2.2.2.2.2.1
theorem iS_s3 {S : Nat → Int → Int} (h : iS S) : zB 0 1000 (S 11 3) := h.2.2.2.2.2.2.2.2.2.2.2.2.2.1
theorem iS_s4 {S : Nat → Int → Int} (h : iS S) : zB 0 100 (S 11 4) := h.2.2.2.2.2.2.2.2.2.2.2.2.2.2.1
theorem iS_s5 {S : Nat → Int → Int} (h : iS S) : zB 50 1000 (S 11 5) := h.2.2.2.2.2.2.2.2.2.2.2.2.2.2.2.1
theorem iS_s6 {S : Nat → Int → Int} (h : iS S) : zB 0 8 (S 11 6) := h.2.2.2.2.2.2.2.2.2.2.2.2.2.2.2.2
def iN (N : Nat → Int → Int) : Prop := (∀ i : Int, zB (-15000) 15000 (N 0 i)) ∧ (∀ i : Int, zB (-15000) 15000 (N 1 i)) ∧ (∀ i : Int, zB (-100000) 100000 (N 2 i)) ∧ (∀ i : Int, zB (0) 2545620 (N 3 i)) ∧ (∀ i : Int, zB (0) 200 (N 4 i)) ∧ (∀ i : Int, zB (-1) 1000 (N 5 i)) ∧ (∀ i : Int, zB (-100000) 100000 (N 6 i)) ∧ zB 0 60 (N 7 0) ∧ zB 0 8 (N 7 1) ∧ zB 0 1000 (N 7 2) ∧ zB 0 1000 (N 7 3) ∧ zB 0 100 (N 7 4) ∧ zB 50 1000 (N 7 5)
theorem iN_a0 {N : Nat → Int → Int} (h : iN N) (i : Int) : zB (-15000) 15000 (N 0 i) := h.1 i
theorem iN_a1 {N : Nat → Int → Int} (h : iN N) (i : Int) : zB (-15000) 15000 (N 1 i) := h.2.1 i
theorem iN_a2 {N : Nat → Int → Int} (h : iN N) (i : Int) : zB (-100000) 100000 (N 2 i) := h.2.2.1 i
theorem iN_a3 {N : Nat → Int → Int} (h : iN N) (i : Int) : zB (0) 2545620 (N 3 i) := h.2.2.2.1 i
theorem iN_a4 {N : Nat → Int → Int} (h : iN N) (i : Int) : zB (0) 200 (N 4 i) := h.2.2.2.2.1 i
theorem iN_a5 {N : Nat → Int → Int} (h : iN N) (i : Int) : zB (-1) 1000 (N 5 i) := h.2.2.2.2.2.1 i
theorem iN_a6 {N : Nat → Int → Int} (h : iN N) (i : Int) : zB (-100000) 100000 (N 6 i) := h.2.2.2.2.2.2.1 i
theorem iN_s0 {N : Nat → Int → Int} (h : iN N) : zB 0 60 (N 7 0) := h.2.2.2.2.2.2.2.1
theorem iN_s1 {N : Nat → Int → Int} (h : iN N) : zB 0 8 (N 7 1) := h.2.2.2.2.2.2.2.2.1
theorem iN_s2 {N : Nat → Int → Int} (h : iN N) : zB 0 1000 (N 7 2) := h.2.2.2.2.2.2.2.2.2.1
theorem iN_s3 {N : Nat → Int → Int} (h : iN N) : zB 0 1000 (N 7 3) := h.2.2.2.2.2.2.2.2.2.2.1
theorem iN_s4 {N : Nat → Int → Int} (h : iN N) : zB 0 100 (N 7 4) := h.2.2.2.2.2.2.2.2.2.2.2.1
theorem iN_s5 {N : Nat → Int → Int} (h : iN N) : zB 50 1000 (N 7 5) := h.2.2.2.2.2.2.2.2.2.2.2.2
def zAd (n : Nat) (ad : Nat → Nat) : Nat → Prop := fun q => ∃ i, i < n ∧ q = ad i
def zJ (n : Nat) (ad : Nat → Nat) : Prop := ∀ i j, i < n → j < n → ad i = ad j → i = j
theorem zD_of {n : Nat} {ad : Nat → Nat} {ws : va_W} (hj : zJ n ad) (h : ws.map (fun q => q.1) = (List.range n).map ad) : va_D (zAd n ad) ws := by
  have key : ∀ (k : Nat) (q : Nat × va_E), ws[k]? = some q → k < n ∧ q.1 = ad k := by
    intro k q hk
    have h1 : (ws.map (fun q => q.1))[k]? = some q.1 := by rw [List.getElem?_map, hk]; rfl
    rw [h, List.getElem?_map] at h1
    by_cases hn : k < n
    · rw [List.getElem?_range hn] at h1
      exact ⟨hn, (Option.some.inj h1).symm⟩
    · rw [List.getElem?_eq_none (by rw [List.length_range]; omega)] at h1
      cases h1
  refine ⟨fun i j p q hi hk hpq => ?_, fun k q hk => ?_⟩
  · obtain ⟨a1, a2⟩ := key i p hi
    obtain ⟨b1, b2⟩ := key j q hk
    exact hj i j a1 b1 (by rw [← a2, ← b2, hpq])
  · obtain ⟨a1, a2⟩ := key k q hk
    exact ⟨k, a1, a2⟩
abbrev zAS (ad : Nat → Nat) : Nat → Prop := zAd 13 ad
abbrev zAM (ad : Nat → Nat) : Nat → Prop := zAd 8 ad
theorem zDS {ad : Nat → Nat} (hj : zJ 13 ad) (cI : ClassId) (S : Nat → Int → Int) (k0 k1 k2 k3 : Int) : va_D (zAS ad) (wS ad cI S k0 k1 k2 k3) := zD_of hj rfl
theorem zDM {ad : Nat → Nat} (hj : zJ 8 ad) (cI : ClassId) (N : Nat → Int → Int) (k0 k1 k2 k3 : Int) : va_D (zAM ad) (wM ad cI N k0 k1 k2 k3) := zD_of hj rfl
/-- the words of the nest -/
def zN (U : State) : Prop := va_Nw (.methodLinkNest R_S 113 y_B_firstAcross R_S) U ∧ va_Nw (.fieldLinkNest R_S 119 R_B "size" "I" R_S) U ∧ va_Nw (.methodLinkNest R_S 76 y_B_add R_S) U ∧ va_Nw (.methodLinkNest R_S 30 y_B_init R_S) U
theorem zN.same {u U : State} (h : u.vm = U.vm) (q : zN u) : zN U := ⟨va_Nw.same rfl h q.1, va_Nw.same rfl h q.2.1, va_Nw.same rfl h q.2.2.1, va_Nw.same rfl h q.2.2.2⟩
theorem zN.warm {s U : State} (h : s.WarmedH U.vm) (q : zN s) : zN U := ⟨va_Nw.warmM h q.1, va_Nw.warmF h q.2.1, va_Nw.warmM h q.2.2.1, va_Nw.warmM h q.2.2.2⟩
def zWS (dC : Nat → ClassId) (dI : Nat → Nat → Nat) (ad : Nat → Nat) (cI : ClassId) (S : Nat → Int → Int) (k0 k1 k2 k3 : Int) : State → Prop := fun U => va_P (dC, dI) classes (wS ad cI S k0 k1 k2 k3) U.heap ∧ va_K (dC, dI) classes [(cI, .int)] U ∧ zN U
def zWM (dC : Nat → ClassId) (dI : Nat → Nat → Nat) (ad : Nat → Nat) (cI : ClassId) (N : Nat → Int → Int) (k0 k1 k2 k3 : Int) : State → Prop := fun U => va_P (dC, dI) classes (wM ad cI N k0 k1 k2 k3) U.heap ∧ va_K (dC, dI) classes [(cI, .int)] U
section ZP
variable {s : State} {H : Heap} {dC : Nat → ClassId} {dI : Nat → Nat → Nat} {ad : Nat → Nat} {cI : ClassId} {S : Nat → Int → Int} {k0 k1 k2 k3 : Int}
theorem zWS_blind (av : List Value) : FrameBlind (va_Pc av (zWS dC dI ad cI S k0 k1 k2 k3)) := fun a U g mk q => by
  obtain ⟨q0, qP, qK, qN⟩ := q
  exact ⟨q0, qP, va_K.moved (u := U) (U := U.calling g mk a) (Vm.Alike.refl U.vm) qK, zN.same (u := U) rfl qN⟩
theorem zWM_blind (av : List Value) : FrameBlind (va_Pc av (zWM dC dI ad cI S k0 k1 k2 k3)) := fun a U g mk q => by
  obtain ⟨q0, qP, qK⟩ := q
  exact ⟨q0, qP, va_K.moved (u := U) (U := U.calling g mk a) (Vm.Alike.refl U.vm) qK⟩
theorem zpS0 (hP : va_P (dC, dI) classes (wS ad cI S k0 k1 k2 k3) H) (hK : va_K (dC, dI) classes [(cI, .int)] s) (hN : zN s) (As : List Value) : PreV s H R_S (ad 0) (va_Pc (.ref (ad 0) :: As) (zWS dC dI ad cI S k0 k1 k2 k3)) As :=
  ⟨zWS_blind _, va_recv hK hP (ci := 1) (q0 := 0) rfl rfl, fun U hU hW => ⟨rfl, by rw [hU]; exact hP, va_K.moved hW.alike hK, hN.warm hW⟩⟩
theorem zpS7 (hP : va_P (dC, dI) classes (wS ad cI S k0 k1 k2 k3) H) (hK : va_K (dC, dI) classes [(cI, .int)] s) (hN : zN s) (As : List Value) : PreV s H R_B (ad 7) (va_Pc (.ref (ad 7) :: As) (zWS dC dI ad cI S k0 k1 k2 k3)) As :=
  ⟨zWS_blind _, va_recv hK hP (ci := 0) (q0 := 7) rfl rfl, fun U hU hW => ⟨rfl, by rw [hU]; exact hP, va_K.moved hW.alike hK, hN.warm hW⟩⟩
theorem zpM0 (hP : va_P (dC, dI) classes (wM ad cI S k0 k1 k2 k3) H) (hK : va_K (dC, dI) classes [(cI, .int)] s) (As : List Value) : PreV s H R_M (ad 0) (va_Pc (.ref (ad 0) :: As) (zWM dC dI ad cI S k0 k1 k2 k3)) As :=
  ⟨zWM_blind _, va_recv hK hP (ci := 2) (q0 := 0) rfl rfl, fun U hU hW => ⟨rfl, by rw [hU]; exact hP, va_K.moved hW.alike hK⟩⟩
theorem zp0 (As : List Value) : PreS s H (va_Pc As (fun _ => True)) As := ⟨fun a U g mk q => ⟨q.1, trivial⟩, fun U hU hW => ⟨rfl, trivial⟩⟩
end ZP
section ZC
variable {R rm : Room} {s : State} {args : Array Value} {own C host : String} {index maxL mc ms : Nat} {y : MethodName} {bytes : ByteArray} {ret : Option FieldType} {c0 : Cond}
def zq (y : MethodName) (n : Nat) : Prop := y.cls ≠ "java/lang/invoke/MethodHandle" ∧ y.cls ≠ "java/lang/invoke/VarHandle" ∧ (parseMethodDescriptor y.desc).map (fun d => d.parameters.length) = some n
theorem zcB (n : Nat) (ht : ∀ w ∈ c0 :: zT, w.before args s = true) (hc : Cond.code y bytes maxL ret ∈ zT) (hini : Cond.initialized y.cls ∈ zT) (hl : Cond.methodLink own index y ∈ zT) (hrc : rm.cells = mc) (hrs : rm.slots = ms) (hd : zq y n) (hR : rm.frames + 1 ≤ R.frames ∧ 8 + (maxL + 11) + rm.locals ≤ R.locals) :
    CallB R s args own index y bytes maxL ret (Cond.code y bytes maxL ret :: zT) rm mc ms n :=
  callB_of n ht (zG hc) rfl hrc hrs (ht _ (List.mem_cons_of_mem _ hini)) (ht _ (List.mem_cons_of_mem _ hl)) hd hR
theorem zcV (n : Nat) (ht : ∀ w ∈ c0 :: zT, w.before args s = true) (hc : Cond.code y bytes maxL ret ∈ zT) (hini : Cond.initialized y.cls ∈ zT) (hl : Cond.methodLink own index y ∈ zT) (hi : Cond.instanceMethod y ∈ zT) (hse : Cond.selects C y y ∈ zT) (hrc : rm.cells = mc) (hrs : rm.slots = ms) (hd : zq y n) (hR : rm.frames + 1 ≤ R.frames ∧ 8 + (maxL + 11) + rm.locals ≤ R.locals) :
    CallW R s args own C index y bytes maxL ret (Cond.code y bytes maxL ret :: zT) rm mc ms n :=
  ⟨zcB n ht hc hini hl hrc hrs hd hR, ht _ (List.mem_cons_of_mem _ hi), ht _ (List.mem_cons_of_mem _ hse)⟩
theorem zcS (n : Nat) (ht : ∀ w ∈ c0 :: zT, w.before args s = true) (hc : Cond.code y bytes maxL ret ∈ zT) (hini : Cond.initialized y.cls ∈ zT) (hl : Cond.methodLink own index y ∈ zT) (hst : Cond.static y ∈ zT) (hrc : rm.cells = mc) (hrs : rm.slots = ms) (hd : zq y n) (hR : rm.frames + 1 ≤ R.frames ∧ 8 + (maxL + 11) + rm.locals ≤ R.locals) :
    CallB R s args own index y bytes maxL ret (Cond.code y bytes maxL ret :: zT) rm mc ms n ∧ (Cond.static y).before args s = true :=
  ⟨zcB n ht hc hini hl hrc hrs hd hR, ht _ (List.mem_cons_of_mem _ hst)⟩
theorem zcN (n : Nat) (ht : ∀ w ∈ c0 :: zT, w.before args s = true) (hc : Cond.code y bytes maxL ret ∈ zT) (hini : Cond.initialized y.cls ∈ zT) (hl : va_Nw (.methodLinkNest own index y host) s) (hi : Cond.instanceMethod y ∈ zT) (hse : Cond.selects C y y ∈ zT) (hrc : rm.cells = mc) (hrs : rm.slots = ms) (hd : zq y n) (hR : rm.frames + 1 ≤ R.frames ∧ 8 + (maxL + 11) + rm.locals ≤ R.locals) :
    va_CN R s args own index y host bytes maxL ret (Cond.code y bytes maxL ret :: zT) rm mc ms n ∧ (Cond.instanceMethod y).before args s = true ∧ (Cond.selects C y y).before args s = true :=
  ⟨va_cnB n ht (zG hc) rfl hrc hrs hl (ht _ (List.mem_cons_of_mem _ hini)) hd hR, ht _ (List.mem_cons_of_mem _ hi), ht _ (List.mem_cons_of_mem _ hse)⟩
end ZC
theorem zl_max {a b : Int} (ha : zL a) (hb : zL b) : (if zl b < zl a then zl a else zl b) = zl (zmax a b) := by
  rw [zl_if]
  congr 1
  have h := zl_lt hb ha
  unfold zmax
  by_cases q : b < a
  · rw [if_pos (h.mpr q)]
    split <;> omega
  · rw [if_neg (fun z => q (h.mp z))]
    split <;> omega
section ZRL
variable {p : Program} {l : Launch} {e : Env} {R : Room} {s : State} {m : MethodId} {args : Array Value} {below : List Frame} {meth : Method} {c : Code} {H : Heap} {locs : List Loc} {cells slots : Nat} {Q : State → Prop}
variable {cc : ByteArray} {pc : Nat} {ls : Array Slot} {rest : List Value}
theorem zr_maxl (hx : p.tables.exec = Jvm.exec) (hb : c.code = cc) (hml : c.maxLocals = ls.size) {own : String} {index : Nat} (hown : s.vm.findClass own = some m.cls) (hlink : (Cond.methodLink own index Lib.MathLoose.max_long.x).before args s = true) (hstat : (Cond.static Lib.MathLoose.max_long.x).before args s = true) (hini : (Cond.initialized "java/lang/Math").before args s = true) (hcode : (Cond.code Lib.MathLoose.max_long.x Lib.MathLoose.max_long.code 4 (some .long)).before args s = true) (hframes : 1 ≤ R.frames) (hlocals : (rest.map fun v => v.category).sum + 15 ≤ R.locals) (hc : cells ≤ R.cells) (hs : slots ≤ R.slots) {a b : Int} (ha : zL a) (hb' : zL b) (hd : decode cc pc = .ok (.invokestatic index, 3)) (k : W p l e R s m args below meth c H locs cells slots Q (F0 m (pc + 3) ls (.long (zl (zmax a b)) :: rest))) : W p l e R s m args below meth c H locs cells slots Q (F0 m pc ls (.long (zl b) :: .long (zl a) :: rest)) :=
  va_mmax_long hx hb hml hown hlink hstat hini hcode hframes hlocals hc hs hd (by rw [zl_max ha hb']; exact k)
end ZRL
theorem zb_maxl {lo hi a1 a2 b1 b2 a b : Int} (ha : zB a1 a2 a) (hb : zB b1 b2 b) (h1 : lo ≤ a1 ∨ lo ≤ b1) (h2 : a2 ≤ hi) (h3 : b2 ≤ hi) : zB lo hi (zmax a b) := by
  obtain ⟨p1, p2⟩ := ha
  obtain ⟨q1, q2⟩ := hb
  unfold zmax
  split <;> constructor <;> omega
theorem q_S_init : zq y_S_init 0 := ⟨by decide +kernel, by decide +kernel, by decide +kernel⟩
theorem q_S_station : zq y_S_station 3 := ⟨by decide +kernel, by decide +kernel, by decide +kernel⟩
theorem q_S_heights : zq y_S_heights 2 := ⟨by decide +kernel, by decide +kernel, by decide +kernel⟩
theorem q_S_clear : zq y_S_clear 3 := ⟨by decide +kernel, by decide +kernel, by decide +kernel⟩
theorem q_S_box : zq y_S_box 5 := ⟨by decide +kernel, by decide +kernel, by decide +kernel⟩
theorem q_S_speed : zq y_S_speed 2 := ⟨by decide +kernel, by decide +kernel, by decide +kernel⟩
theorem q_S_brake : zq y_S_brake 2 := ⟨by decide +kernel, by decide +kernel, by decide +kernel⟩
theorem q_S_way : zq y_S_way 1 := ⟨by decide +kernel, by decide +kernel, by decide +kernel⟩
theorem q_S_view : zq y_S_view 3 := ⟨by decide +kernel, by decide +kernel, by decide +kernel⟩
theorem q_S_sight : zq y_S_sight 2 := ⟨by decide +kernel, by decide +kernel, by decide +kernel⟩
theorem q_S_need : zq y_S_need 2 := ⟨by decide +kernel, by decide +kernel, by decide +kernel⟩
theorem q_S_blind : zq y_S_blind 3 := ⟨by decide +kernel, by decide +kernel, by decide +kernel⟩
theorem q_S_setBack : zq y_S_setBack 2 := ⟨by decide +kernel, by decide +kernel, by decide +kernel⟩
theorem q_S_allowed : zq y_S_allowed 2 := ⟨by decide +kernel, by decide +kernel, by decide +kernel⟩
theorem q_S_overtake : zq y_S_overtake 1 := ⟨by decide +kernel, by decide +kernel, by decide +kernel⟩
theorem q_S_seen : zq y_S_seen 3 := ⟨by decide +kernel, by decide +kernel, by decide +kernel⟩
theorem q_S_light : zq y_S_light 3 := ⟨by decide +kernel, by decide +kernel, by decide +kernel⟩
theorem q_S_count : zq y_S_count 1 := ⟨by decide +kernel, by decide +kernel, by decide +kernel⟩
theorem q_S_isWithin : zq y_S_isWithin 3 := ⟨by decide +kernel, by decide +kernel, by decide +kernel⟩
theorem q_S_isInPlane : zq y_S_isInPlane 2 := ⟨by decide +kernel, by decide +kernel, by decide +kernel⟩
theorem q_S_isLevel : zq y_S_isLevel 1 := ⟨by decide +kernel, by decide +kernel, by decide +kernel⟩
theorem q_S_isSide : zq y_S_isSide 1 := ⟨by decide +kernel, by decide +kernel, by decide +kernel⟩
theorem q_S_isStation : zq y_S_isStation 1 := ⟨by decide +kernel, by decide +kernel, by decide +kernel⟩
theorem q_S_squareOf : zq y_S_squareOf 2 := ⟨by decide +kernel, by decide +kernel, by decide +kernel⟩
theorem q_S_squareBetween : zq y_S_squareBetween 2 := ⟨by decide +kernel, by decide +kernel, by decide +kernel⟩
theorem q_S_stepBetween : zq y_S_stepBetween 2 := ⟨by decide +kernel, by decide +kernel, by decide +kernel⟩
theorem q_S_rootOf : zq y_S_rootOf 1 := ⟨by decide +kernel, by decide +kernel, by decide +kernel⟩
theorem q_S_interruption : zq y_S_interruption 2 := ⟨by decide +kernel, by decide +kernel, by decide +kernel⟩
theorem q_S_isGroundAbove : zq y_S_isGroundAbove 3 := ⟨by decide +kernel, by decide +kernel, by decide +kernel⟩
theorem q_S_isBankInWay : zq y_S_isBankInWay 3 := ⟨by decide +kernel, by decide +kernel, by decide +kernel⟩
theorem q_S_crossAt : zq y_S_crossAt 3 := ⟨by decide +kernel, by decide +kernel, by decide +kernel⟩
theorem q_S_sideOf : zq y_S_sideOf 1 := ⟨by decide +kernel, by decide +kernel, by decide +kernel⟩
theorem q_S_isFarther : zq y_S_isFarther 3 := ⟨by decide +kernel, by decide +kernel, by decide +kernel⟩
theorem q_S_widened : zq y_S_widened 5 := ⟨by decide +kernel, by decide +kernel, by decide +kernel⟩
theorem q_S_sightFrom : zq y_S_sightFrom 2 := ⟨by decide +kernel, by decide +kernel, by decide +kernel⟩
theorem q_S_needWith : zq y_S_needWith 3 := ⟨by decide +kernel, by decide +kernel, by decide +kernel⟩
theorem q_S_slopeBeyond : zq y_S_slopeBeyond 2 := ⟨by decide +kernel, by decide +kernel, by decide +kernel⟩
theorem q_S_roadBeyond : zq y_S_roadBeyond 2 := ⟨by decide +kernel, by decide +kernel, by decide +kernel⟩
theorem q_S_isBlind : zq y_S_isBlind 2 := ⟨by decide +kernel, by decide +kernel, by decide +kernel⟩
theorem q_S_blindStations : zq y_S_blindStations 1 := ⟨by decide +kernel, by decide +kernel, by decide +kernel⟩
theorem q_S_freeViews : zq y_S_freeViews 0 := ⟨by decide +kernel, by decide +kernel, by decide +kernel⟩
theorem q_M_init : zq y_M_init 0 := ⟨by decide +kernel, by decide +kernel, by decide +kernel⟩
theorem q_M_within : zq y_M_within 3 := ⟨by decide +kernel, by decide +kernel, by decide +kernel⟩
theorem q_M_isStation : zq y_M_isStation 1 := ⟨by decide +kernel, by decide +kernel, by decide +kernel⟩
theorem q_M_root : zq y_M_root 1 := ⟨by decide +kernel, by decide +kernel, by decide +kernel⟩
theorem q_M_square : zq y_M_square 1 := ⟨by decide +kernel, by decide +kernel, by decide +kernel⟩
theorem q_M_isPoint : zq y_M_isPoint 2 := ⟨by decide +kernel, by decide +kernel, by decide +kernel⟩
theorem q_M_station : zq y_M_station 3 := ⟨by decide +kernel, by decide +kernel, by decide +kernel⟩
theorem q_M_heights : zq y_M_heights 2 := ⟨by decide +kernel, by decide +kernel, by decide +kernel⟩
theorem q_M_clear : zq y_M_clear 3 := ⟨by decide +kernel, by decide +kernel, by decide +kernel⟩
theorem q_M_box : zq y_M_box 5 := ⟨by decide +kernel, by decide +kernel, by decide +kernel⟩
theorem q_M_speed : zq y_M_speed 2 := ⟨by decide +kernel, by decide +kernel, by decide +kernel⟩
theorem q_M_brake : zq y_M_brake 2 := ⟨by decide +kernel, by decide +kernel, by decide +kernel⟩
theorem q_M_way : zq y_M_way 1 := ⟨by decide +kernel, by decide +kernel, by decide +kernel⟩
theorem q_M_isAbove : zq y_M_isAbove 3 := ⟨by decide +kernel, by decide +kernel, by decide +kernel⟩
theorem q_M_beside : zq y_M_beside 3 := ⟨by decide +kernel, by decide +kernel, by decide +kernel⟩
theorem q_M_lengthSquare : zq y_M_lengthSquare 2 := ⟨by decide +kernel, by decide +kernel, by decide +kernel⟩
theorem q_M_isBanked : zq y_M_isBanked 3 := ⟨by decide +kernel, by decide +kernel, by decide +kernel⟩
theorem q_M_cut : zq y_M_cut 4 := ⟨by decide +kernel, by decide +kernel, by decide +kernel⟩
theorem q_M_isBelow : zq y_M_isBelow 5 := ⟨by decide +kernel, by decide +kernel, by decide +kernel⟩
theorem q_M_isBoxed : zq y_M_isBoxed 7 := ⟨by decide +kernel, by decide +kernel, by decide +kernel⟩
theorem q_M_interrupter : zq y_M_interrupter 2 := ⟨by decide +kernel, by decide +kernel, by decide +kernel⟩
theorem q_M_view : zq y_M_view 3 := ⟨by decide +kernel, by decide +kernel, by decide +kernel⟩
theorem q_M_sightOf : zq y_M_sightOf 2 := ⟨by decide +kernel, by decide +kernel, by decide +kernel⟩
theorem q_M_needOf : zq y_M_needOf 3 := ⟨by decide +kernel, by decide +kernel, by decide +kernel⟩
theorem q_M_remaining : zq y_M_remaining 2 := ⟨by decide +kernel, by decide +kernel, by decide +kernel⟩
theorem q_M_isBlind : zq y_M_isBlind 2 := ⟨by decide +kernel, by decide +kernel, by decide +kernel⟩
theorem q_M_sight : zq y_M_sight 2 := ⟨by decide +kernel, by decide +kernel, by decide +kernel⟩
theorem q_M_need : zq y_M_need 2 := ⟨by decide +kernel, by decide +kernel, by decide +kernel⟩
theorem q_M_blind : zq y_M_blind 3 := ⟨by decide +kernel, by decide +kernel, by decide +kernel⟩
theorem q_M_setBack : zq y_M_setBack 2 := ⟨by decide +kernel, by decide +kernel, by decide +kernel⟩
theorem q_M_allowed : zq y_M_allowed 2 := ⟨by decide +kernel, by decide +kernel, by decide +kernel⟩
theorem q_M_overtake : zq y_M_overtake 1 := ⟨by decide +kernel, by decide +kernel, by decide +kernel⟩
theorem q_M_seen : zq y_M_seen 3 := ⟨by decide +kernel, by decide +kernel, by decide +kernel⟩
theorem q_M_light : zq y_M_light 3 := ⟨by decide +kernel, by decide +kernel, by decide +kernel⟩
theorem q_M_count : zq y_M_count 1 := ⟨by decide +kernel, by decide +kernel, by decide +kernel⟩
theorem q_B_init : zq y_B_init 0 := ⟨by decide +kernel, by decide +kernel, by decide +kernel⟩
theorem q_B_add : zq y_B_add 5 := ⟨by decide +kernel, by decide +kernel, by decide +kernel⟩
theorem q_B_firstAcross : zq y_B_firstAcross 6 := ⟨by decide +kernel, by decide +kernel, by decide +kernel⟩
theorem q_B_takeWhole : zq y_B_takeWhole 0 := ⟨by decide +kernel, by decide +kernel, by decide +kernel⟩
theorem q_B_narrow : zq y_B_narrow 4 := ⟨by decide +kernel, by decide +kernel, by decide +kernel⟩
theorem q_B_dipsBelow : zq y_B_dipsBelow 3 := ⟨by decide +kernel, by decide +kernel, by decide +kernel⟩
end
section
theorem zb_mulq {a b c d x y : Int} (h : zB a b x) (g : zB c d y) (ha : 0 ≤ a) (hc : 0 ≤ c) : zB (a * c) (b * d) (x * y) := by
  obtain ⟨h1, h2⟩ := h
  obtain ⟨g1, g2⟩ := g
  have hx : 0 ≤ x := Int.le_trans ha h1
  have hy : 0 ≤ y := Int.le_trans hc g1
  exact ⟨Int.mul_le_mul h1 g1 hc hx, Int.mul_le_mul h2 g2 hy (Int.le_trans hx h2)⟩
end
section
def f_S_isWithin (a b d : Int) : Int := if a < b then (0) else (if d < a then (0) else (1))
theorem bb_S_isWithin (a b d : Int) : zB 0 1 (f_S_isWithin a b d) := by
  unfold f_S_isWithin
  repeat' split
  all_goals first | exact ⟨by decide, by decide⟩ 
theorem gf_S_isWithin {a b d : Int} (h : ¬ f_S_isWithin a b d = 0) : zB b d a := by
  unfold f_S_isWithin at h
  by_cases h1 : a < b
  · rw [if_pos h1] at h; exact absurd rfl h
  · rw [if_neg h1] at h
    by_cases h2 : d < a
    · rw [if_pos h2] at h; exact absurd rfl h
    · exact ⟨by omega, by omega⟩
set_option maxHeartbeats 4000000 in
set_option maxRecDepth 100000 in
theorem k_S_isWithin (l : Launch) (a b d : Int) (hb_a : zB (-2147483648) 2147483647 a) (hb_b : zB (-2147483648) 2147483647 b) (hb_d : zB (-2147483648) 2147483647 d) : Met l y_S_isWithin (Cond.code y_S_isWithin c_S_isWithin 3 (some .boolean) :: zT) { frames := 0, cells := 0, slots := 0, locals := 0 } (va_Pc ([.int (zi a), .int (zi b), .int (zi d)] : List Value) (fun _ => True)) (zR (.int (zi (f_S_isWithin a b d)))) 0 0 (fun _ => False) := by
  refine zh (cc := c_S_isWithin) (C := R_S) (by decide) rfl rfl (Nat.le_of_ble_eq_true rfl) ?_
  intro p e s m below meth c ls hx hb hr hlocks hml hown hname hts hl hB
  have hw : ∀ w9 ∈ zT, w9.before ([.int (zi a), .int (zi b), .int (zi d)] : List Value).toArray s = true := fun w9 h => hts w9 (List.mem_cons_of_mem _ h)
  obtain ⟨hl_a, hh_a⟩ := id hb_a
  obtain ⟨hl_b, hh_b⟩ := id hb_b
  obtain ⟨hl_d, hh_d⟩ := id hb_d
  generalize hq : f_S_isWithin a b d = r
  unfold f_S_isWithin at hq
  replace hl : lv_has ls 3 [(0, .int (zi a)), (1, .int (zi b)), (2, .int (zi d))] := hl
  refine lv_iload_n hx hb d_S_isWithin_0 rfl (lv_at hl 0 rfl) ?_
  refine lv_iload_n hx hb d_S_isWithin_1 rfl (lv_at hl 1 rfl) ?_
  refine zr_icmp_lt (tgt := 14) hx hb (zB.I hb_a (by decide) (by decide)) (zB.I hb_b (by decide) (by decide)) d_S_isWithin_2 (by decide) (fun c_1 => ?_) (fun c_1 => ?_)
  · replace hq := (if_pos c_1).symm.trans hq
    refine lv_iconst (v := zi 0) hx hb d_S_isWithin_14 rfl ?_
    exact ze_z hx hb hr hlocks (zB.w (zb_c 0) (by decide) (by decide)) hq d_S_isWithin_15
  · replace hq := (if_neg c_1).symm.trans hq
    refine lv_iload_n hx hb d_S_isWithin_5 rfl (lv_at hl 0 rfl) ?_
    refine lv_iload_n hx hb d_S_isWithin_6 rfl (lv_at hl 2 rfl) ?_
    refine zr_icmp_gt (tgt := 14) hx hb (zB.I hb_a (by decide) (by decide)) (zB.I hb_d (by decide) (by decide)) d_S_isWithin_7 (by decide) (fun c_2 => ?_) (fun c_2 => ?_)
    · replace hq := (if_pos c_2).symm.trans hq
      refine lv_iconst (v := zi 0) hx hb d_S_isWithin_14 rfl ?_
      exact ze_z hx hb hr hlocks (zB.w (zb_c 0) (by decide) (by decide)) hq d_S_isWithin_15
    · replace hq := (if_neg c_2).symm.trans hq
      refine lv_iconst (v := zi 1) hx hb d_S_isWithin_10 rfl ?_
      refine lv_goto (tgt := 15) hx hb d_S_isWithin_11 (by decide) ?_
      exact ze_z hx hb hr hlocks (zB.w (zb_c 1) (by decide) (by decide)) hq d_S_isWithin_15
def f_S_isInPlane (a b : Int) : Int := if (f_S_isWithin a (-15000) 15000) = 0 then (0) else (if (f_S_isWithin b (-15000) 15000) = 0 then (0) else (1))
theorem bb_S_isInPlane (a b : Int) : zB 0 1 (f_S_isInPlane a b) := by
  unfold f_S_isInPlane
  repeat' split
  all_goals first | exact ⟨by decide, by decide⟩  | apply bb_S_isWithin
theorem gf_S_isInPlane {a b : Int} (h : ¬ f_S_isInPlane a b = 0) : zB (-15000) 15000 a ∧ zB (-15000) 15000 b := by
  unfold f_S_isInPlane at h
  by_cases h1 : f_S_isWithin a (-15000) 15000 = 0
  · rw [if_pos h1] at h; exact absurd rfl h
  · rw [if_neg h1] at h
    by_cases h2 : f_S_isWithin b (-15000) 15000 = 0
    · rw [if_pos h2] at h; exact absurd rfl h
    · exact ⟨gf_S_isWithin h1, gf_S_isWithin h2⟩
set_option maxHeartbeats 4000000 in
set_option maxRecDepth 100000 in
theorem k_S_isInPlane (l : Launch) (a b : Int) (hb_a : zB (-2147483648) 2147483647 a) (hb_b : zB (-2147483648) 2147483647 b) : Met l y_S_isInPlane (Cond.code y_S_isInPlane c_S_isInPlane 2 (some .boolean) :: zT) { frames := 1, cells := 0, slots := 0, locals := 22 } (va_Pc ([.int (zi a), .int (zi b)] : List Value) (fun _ => True)) (zR (.int (zi (f_S_isInPlane a b)))) 0 0 (fun _ => False) := by
  refine zh (cc := c_S_isInPlane) (C := R_S) (by decide) rfl rfl (Nat.le_of_ble_eq_true rfl) ?_
  intro p e s m below meth c ls hx hb hr hlocks hml hown hname hts hl hB
  have hw : ∀ w9 ∈ zT, w9.before ([.int (zi a), .int (zi b)] : List Value).toArray s = true := fun w9 h => hts w9 (List.mem_cons_of_mem _ h)
  obtain ⟨hl_a, hh_a⟩ := id hb_a
  obtain ⟨hl_b, hh_b⟩ := id hb_b
  generalize hq : f_S_isInPlane a b = r
  unfold f_S_isInPlane at hq
  replace hl : lv_has ls 2 [(0, .int (zi a)), (1, .int (zi b))] := hl
  refine lv_iload_n hx hb d_S_isInPlane_0 rfl (lv_at hl 0 rfl) ?_
  refine lv_sipush (v := zi (-15000)) hx hb d_S_isInPlane_1 (by decide) ?_
  refine lv_sipush (v := zi 15000) hx hb d_S_isInPlane_4 (by decide) ?_
  refine zc_n (va_runS (As := [.int (zi a), .int (zi (-15000)), .int (zi 15000)]) (rest := []) ⟨hx, hb, hml, hown, hts⟩ (k_S_isWithin l a (-15000) 15000 (zB.w hb_a (by decide) (by decide)) (zB.w (zb_c (-15000)) (by decide) (by decide)) (zB.w (zb_c 15000) (by decide) (by decide)) ) (zcS 3 hts m_53 m_1 m_51 m_52 rfl rfl q_S_isWithin ⟨Nat.le_of_ble_eq_true rfl, Nat.le_of_ble_eq_true rfl⟩) (zp0 [.int (zi a), .int (zi (-15000)), .int (zi 15000)]) rfl rfl hl.1 rfl (lv_room (Nat.le_of_ble_eq_true rfl)) d_S_isInPlane_7 ⟨Nat.zero_le _, Nat.zero_le _⟩) ?_
  refine zr_if_eq (tgt := 30) hx hb (zB.I (bb_S_isWithin a (-15000) 15000) (by decide) (by decide)) d_S_isInPlane_10 (by decide) (fun c_1 => ?_) (fun c_1 => ?_)
  · replace hq := (if_pos c_1).symm.trans hq
    have r_2 : zB 0 0 (f_S_isWithin a (-15000) 15000) := ⟨(Int.le_of_eq c_1.symm), (Int.le_of_eq c_1)⟩
    refine lv_iconst (v := zi 0) hx hb d_S_isInPlane_30 rfl ?_
    exact ze_z hx hb hr hlocks (zB.w (zb_c 0) (by decide) (by decide)) hq d_S_isInPlane_31
  · replace hq := (if_neg c_1).symm.trans hq
    have r_3 : zB 1 1 (f_S_isWithin a (-15000) 15000) := ⟨(by have := (bb_S_isWithin a (-15000) 15000).1; omega), (bb_S_isWithin a (-15000) 15000).2⟩
    have g_4 := gf_S_isWithin c_1
    obtain ⟨g_4l, g_4h⟩ := id g_4
    refine lv_iload_n hx hb d_S_isInPlane_13 rfl (lv_at hl 1 rfl) ?_
    refine lv_sipush (v := zi (-15000)) hx hb d_S_isInPlane_14 (by decide) ?_
    refine lv_sipush (v := zi 15000) hx hb d_S_isInPlane_17 (by decide) ?_
    refine zc_n (va_runS (As := [.int (zi b), .int (zi (-15000)), .int (zi 15000)]) (rest := []) ⟨hx, hb, hml, hown, hts⟩ (k_S_isWithin l b (-15000) 15000 (zB.w hb_b (by decide) (by decide)) (zB.w (zb_c (-15000)) (by decide) (by decide)) (zB.w (zb_c 15000) (by decide) (by decide)) ) (zcS 3 hts m_53 m_1 m_51 m_52 rfl rfl q_S_isWithin ⟨Nat.le_of_ble_eq_true rfl, Nat.le_of_ble_eq_true rfl⟩) (zp0 [.int (zi b), .int (zi (-15000)), .int (zi 15000)]) rfl rfl hl.1 rfl (lv_room (Nat.le_of_ble_eq_true rfl)) d_S_isInPlane_20 ⟨Nat.zero_le _, Nat.zero_le _⟩) ?_
    refine zr_if_eq (tgt := 30) hx hb (zB.I (bb_S_isWithin b (-15000) 15000) (by decide) (by decide)) d_S_isInPlane_23 (by decide) (fun c_5 => ?_) (fun c_5 => ?_)
    · replace hq := (if_pos c_5).symm.trans hq
      have r_6 : zB 0 0 (f_S_isWithin b (-15000) 15000) := ⟨(Int.le_of_eq c_5.symm), (Int.le_of_eq c_5)⟩
      refine lv_iconst (v := zi 0) hx hb d_S_isInPlane_30 rfl ?_
      exact ze_z hx hb hr hlocks (zB.w (zb_c 0) (by decide) (by decide)) hq d_S_isInPlane_31
    · replace hq := (if_neg c_5).symm.trans hq
      have r_7 : zB 1 1 (f_S_isWithin b (-15000) 15000) := ⟨(by have := (bb_S_isWithin b (-15000) 15000).1; omega), (bb_S_isWithin b (-15000) 15000).2⟩
      have g_8 := gf_S_isWithin c_5
      obtain ⟨g_8l, g_8h⟩ := id g_8
      refine lv_iconst (v := zi 1) hx hb d_S_isInPlane_26 rfl ?_
      refine lv_goto (tgt := 31) hx hb d_S_isInPlane_27 (by decide) ?_
      exact ze_z hx hb hr hlocks (zB.w (zb_c 1) (by decide) (by decide)) hq d_S_isInPlane_31
def f_S_isLevel (a : Int) : Int := f_S_isWithin a (-100000) 100000
theorem bb_S_isLevel (a : Int) : zB 0 1 (f_S_isLevel a) := by
  unfold f_S_isLevel
  repeat' split
  all_goals first | exact ⟨by decide, by decide⟩  | apply bb_S_isWithin
theorem gf_S_isLevel {a : Int} (h : ¬ f_S_isLevel a = 0) : zB (-100000) 100000 a := gf_S_isWithin h
set_option maxHeartbeats 4000000 in
set_option maxRecDepth 100000 in
theorem k_S_isLevel (l : Launch) (a : Int) (hb_a : zB (-2147483648) 2147483647 a) : Met l y_S_isLevel (Cond.code y_S_isLevel c_S_isLevel 1 (some .boolean) :: zT) { frames := 1, cells := 0, slots := 0, locals := 22 } (va_Pc ([.int (zi a)] : List Value) (fun _ => True)) (zR (.int (zi (f_S_isLevel a)))) 0 0 (fun _ => False) := by
  refine zh (cc := c_S_isLevel) (C := R_S) (by decide) rfl rfl (Nat.le_of_ble_eq_true rfl) ?_
  intro p e s m below meth c ls hx hb hr hlocks hml hown hname hts hl hB
  have hw : ∀ w9 ∈ zT, w9.before ([.int (zi a)] : List Value).toArray s = true := fun w9 h => hts w9 (List.mem_cons_of_mem _ h)
  obtain ⟨hl_a, hh_a⟩ := id hb_a
  generalize hq : f_S_isLevel a = r
  unfold f_S_isLevel at hq
  replace hl : lv_has ls 1 [(0, .int (zi a))] := hl
  refine lv_iload_n hx hb d_S_isLevel_0 rfl (lv_at hl 0 rfl) ?_
  refine lv_ldc (v := zi (-100000)) hx hb hown (hw _ m_57) d_S_isLevel_1 ?_
  refine lv_ldc (v := zi 100000) hx hb hown (hw _ m_58) d_S_isLevel_3 ?_
  refine zc_n (va_runS (As := [.int (zi a), .int (zi (-100000)), .int (zi 100000)]) (rest := []) ⟨hx, hb, hml, hown, hts⟩ (k_S_isWithin l a (-100000) 100000 (zB.w hb_a (by decide) (by decide)) (zB.w (zb_c (-100000)) (by decide) (by decide)) (zB.w (zb_c 100000) (by decide) (by decide)) ) (zcS 3 hts m_53 m_1 m_51 m_52 rfl rfl q_S_isWithin ⟨Nat.le_of_ble_eq_true rfl, Nat.le_of_ble_eq_true rfl⟩) (zp0 [.int (zi a), .int (zi (-100000)), .int (zi 100000)]) rfl rfl hl.1 rfl (lv_room (Nat.le_of_ble_eq_true rfl)) d_S_isLevel_5 ⟨Nat.zero_le _, Nat.zero_le _⟩) ?_
  exact ze_z hx hb hr hlocks (zB.w (bb_S_isWithin a (-100000) 100000) (by decide) (by decide)) hq d_S_isLevel_8
def f_S_isSide (a : Int) : Int := if a = 0 then (1) else (if a = 1 then (1) else (0))
theorem bb_S_isSide (a : Int) : zB 0 1 (f_S_isSide a) := by
  unfold f_S_isSide
  repeat' split
  all_goals first | exact ⟨by decide, by decide⟩  | apply bb_S_isWithin
theorem gf_S_isSide {a : Int} (h : ¬ f_S_isSide a = 0) : zB 0 1 a := by
  unfold f_S_isSide at h
  by_cases h1 : a = 0
  · exact ⟨by omega, by omega⟩
  · rw [if_neg h1] at h
    by_cases h2 : a = 1
    · exact ⟨by omega, by omega⟩
    · rw [if_neg h2] at h; exact absurd rfl h
set_option maxHeartbeats 4000000 in
set_option maxRecDepth 100000 in
theorem k_S_isSide (l : Launch) (a : Int) (hb_a : zB (-2147483648) 2147483647 a) : Met l y_S_isSide (Cond.code y_S_isSide c_S_isSide 1 (some .boolean) :: zT) { frames := 0, cells := 0, slots := 0, locals := 0 } (va_Pc ([.int (zi a)] : List Value) (fun _ => True)) (zR (.int (zi (f_S_isSide a)))) 0 0 (fun _ => False) := by
  refine zh (cc := c_S_isSide) (C := R_S) (by decide) rfl rfl (Nat.le_of_ble_eq_true rfl) ?_
  intro p e s m below meth c ls hx hb hr hlocks hml hown hname hts hl hB
  have hw : ∀ w9 ∈ zT, w9.before ([.int (zi a)] : List Value).toArray s = true := fun w9 h => hts w9 (List.mem_cons_of_mem _ h)
  obtain ⟨hl_a, hh_a⟩ := id hb_a
  generalize hq : f_S_isSide a = r
  unfold f_S_isSide at hq
  replace hl : lv_has ls 1 [(0, .int (zi a))] := hl
  refine lv_iload_n hx hb d_S_isSide_0 rfl (lv_at hl 0 rfl) ?_
  refine zr_if_eq (tgt := 9) hx hb (zB.I hb_a (by decide) (by decide)) d_S_isSide_1 (by decide) (fun c_1 => ?_) (fun c_1 => ?_)
  · replace hq := (if_pos c_1).symm.trans hq
    have r_2 : zB 0 0 a := ⟨(Int.le_of_eq c_1.symm), (Int.le_of_eq c_1)⟩
    refine lv_iconst (v := zi 1) hx hb d_S_isSide_9 rfl ?_
    refine lv_goto (tgt := 14) hx hb d_S_isSide_10 (by decide) ?_
    exact ze_z hx hb hr hlocks (zB.w (zb_c 1) (by decide) (by decide)) hq d_S_isSide_14
  · replace hq := (if_neg c_1).symm.trans hq
    refine lv_iload_n hx hb d_S_isSide_4 rfl (lv_at hl 0 rfl) ?_
    refine lv_iconst (v := zi 1) hx hb d_S_isSide_5 rfl ?_
    refine zr_icmp_ne (tgt := 13) hx hb (zB.I hb_a (by decide) (by decide)) (zB.I (zb_c 1) (by decide) (by decide)) d_S_isSide_6 (by decide) (fun c_3 => ?_) (fun c_3 => ?_)
    · replace hq := (if_neg c_3).symm.trans hq
      refine lv_iconst (v := zi 0) hx hb d_S_isSide_13 rfl ?_
      exact ze_z hx hb hr hlocks (zB.w (zb_c 0) (by decide) (by decide)) hq d_S_isSide_14
    · replace hq := (if_pos c_3).symm.trans hq
      have r_4 : zB 1 1 a := ⟨(Int.le_of_eq c_3.symm), (Int.le_of_eq c_3)⟩
      refine lv_iconst (v := zi 1) hx hb d_S_isSide_9 rfl ?_
      refine lv_goto (tgt := 14) hx hb d_S_isSide_10 (by decide) ?_
      exact ze_z hx hb hr hlocks (zB.w (zb_c 1) (by decide) (by decide)) hq d_S_isSide_14
def f_S_isStation (S : Nat → Int → Int) (a : Int) : Int := if a < 0 then (0) else (if a < (S 11 0) then (1) else (0))
theorem bb_S_isStation (S : Nat → Int → Int) (a : Int) : zB 0 1 (f_S_isStation S a) := by
  unfold f_S_isStation
  repeat' split
  all_goals first | exact ⟨by decide, by decide⟩  | apply bb_S_isWithin
theorem gf_S_isStation {S : Nat → Int → Int} {a : Int} (hI : iS S) (h : ¬ f_S_isStation S a = 0) : zB 0 59 a ∧ a < S 11 0 := by
  have hh := (iS_s0 hI).2
  unfold f_S_isStation at h
  by_cases h1 : a < 0
  · rw [if_pos h1] at h; exact absurd rfl h
  · rw [if_neg h1] at h
    by_cases h2 : a < S 11 0
    · exact ⟨⟨by omega, by omega⟩, h2⟩
    · rw [if_neg h2] at h; exact absurd rfl h
set_option maxHeartbeats 4000000 in
set_option maxRecDepth 100000 in
theorem k_S_isStation (l : Launch) (dC : Nat → ClassId) (dI : Nat → Nat → Nat) (ad : Nat → Nat) (cI : ClassId) (S : Nat → Int → Int) (k0 k1 k2 k3 : Int) (hI : iS S) (a : Int) (hb_a : zB (-2147483648) 2147483647 a) : Met l y_S_isStation (Cond.code y_S_isStation c_S_isStation 2 (some .boolean) :: zT) { frames := 0, cells := 0, slots := 0, locals := 0 } (va_Pc ([.ref (ad 0), .int (zi a)] : List Value) (zWS dC dI ad cI S k0 k1 k2 k3)) (zR (.int (zi (f_S_isStation S a)))) 0 0 (fun _ => False) := by
  refine zh (cc := c_S_isStation) (C := R_S) (by decide) rfl rfl (Nat.le_of_ble_eq_true rfl) ?_
  intro p e s m below meth c ls hx hb hr hlocks hml hown hname hts hl hB
  have hw : ∀ w9 ∈ zT, w9.before ([.ref (ad 0), .int (zi a)] : List Value).toArray s = true := fun w9 h => hts w9 (List.mem_cons_of_mem _ h)
  obtain ⟨hP, hK, hN⟩ := hB
  obtain ⟨hn0, hn1⟩ := id (iS_s0 hI)
  obtain ⟨hz0, hz1⟩ := id (iS_s6 hI)
  obtain ⟨hl_a, hh_a⟩ := id hb_a
  generalize hq : f_S_isStation S a = r
  unfold f_S_isStation at hq
  replace hl : lv_has ls 2 [(0, .ref (ad 0)), (1, .int (zi a))] := hl
  refine lv_iload_n hx hb d_S_isStation_0 rfl (lv_at hl 1 rfl) ?_
  refine zr_if_lt (tgt := 16) hx hb (zB.I hb_a (by decide) (by decide)) d_S_isStation_1 (by decide) (fun c_1 => ?_) (fun c_1 => ?_)
  · replace hq := (if_pos c_1).symm.trans hq
    have r_2 : zB (-2147483648) (-1) a := ⟨hb_a.1, (Int.le_sub_one_of_lt c_1)⟩
    refine lv_iconst (v := zi 0) hx hb d_S_isStation_16 rfl ?_
    exact ze_z hx hb hr hlocks (zB.w (zb_c 0) (by decide) (by decide)) hq d_S_isStation_17
  · replace hq := (if_neg c_1).symm.trans hq
    have r_3 : zB 0 2147483647 a := ⟨(Int.not_lt.mp c_1), hb_a.2⟩
    refine lv_iload_n hx hb d_S_isStation_4 rfl (lv_at hl 1 rfl) ?_
    refine lv_aload_n hx hb d_S_isStation_5 rfl (lv_at hl 0 rfl) ?_
    refine va_get (D := (dC, dI)) (ci := 1) (v := .int (zi (S 11 0))) (C := R_S) (T := T_S) (N := 13) hx hb hw i_S hown hK hP 0 rfl rfl 7 (by decide) (hw _ m_38) (fun _ h9 => h9) rfl d_S_isStation_6 ?_
    refine zr_icmp_ge (tgt := 16) hx hb (zB.I r_3 (by decide) (by decide)) (zB.I (iS_s0 hI) (by decide) (by decide)) d_S_isStation_9 (by decide) (fun c_4 => ?_) (fun c_4 => ?_)
    · replace hq := (if_neg c_4).symm.trans hq
      refine lv_iconst (v := zi 0) hx hb d_S_isStation_16 rfl ?_
      exact ze_z hx hb hr hlocks (zB.w (zb_c 0) (by decide) (by decide)) hq d_S_isStation_17
    · replace hq := (if_pos c_4).symm.trans hq
      refine lv_iconst (v := zi 1) hx hb d_S_isStation_12 rfl ?_
      refine lv_goto (tgt := 17) hx hb d_S_isStation_13 (by decide) ?_
      exact ze_z hx hb hr hlocks (zB.w (zb_c 1) (by decide) (by decide)) hq d_S_isStation_17
def f_S_squareOf (a b : Int) : Int := (a * a) + (b * b)
theorem br_S_squareOf (a b : Int) (ha : zB (-30000) 30000 a) (hb : zB (-30000) 30000 b) : zB 0 1800000000 (f_S_squareOf a b) := zB.w (zb_add (zb_sq ha) (zb_sq hb)) (by decide) (by decide)
set_option maxHeartbeats 4000000 in
set_option maxRecDepth 100000 in
theorem k_S_squareOf (l : Launch) (a b : Int) (hb_a : zB (-30000) 30000 a) (hb_b : zB (-30000) 30000 b) : Met l y_S_squareOf (Cond.code y_S_squareOf c_S_squareOf 4 (some .long) :: zT) { frames := 0, cells := 0, slots := 0, locals := 0 } (va_Pc ([.long (zl a), .long (zl b)] : List Value) (fun _ => True)) (zR (.long (zl (f_S_squareOf a b)))) 0 0 (fun _ => False) := by
  refine zh (cc := c_S_squareOf) (C := R_S) (by decide) rfl rfl (Nat.le_of_ble_eq_true rfl) ?_
  intro p e s m below meth c ls hx hb hr hlocks hml hown hname hts hl hB
  have hw : ∀ w9 ∈ zT, w9.before ([.long (zl a), .long (zl b)] : List Value).toArray s = true := fun w9 h => hts w9 (List.mem_cons_of_mem _ h)
  obtain ⟨hl_a, hh_a⟩ := id hb_a
  obtain ⟨hl_b, hh_b⟩ := id hb_b
  generalize hq : f_S_squareOf a b = r
  unfold f_S_squareOf at hq
  replace hl : lv_has ls 4 [(0, .long (zl a)), (2, .long (zl b))] := hl
  refine lv_lload_n hx hb d_S_squareOf_0 rfl (lv_at hl 0 rfl) ?_
  refine lv_lload_n hx hb d_S_squareOf_1 rfl (lv_at hl 0 rfl) ?_
  have b_1 : zB 0 900000000 (a * a) := zB.w (zb_sq (A := 30000) (zB.w hb_a (by decide) (by decide))) (by decide) (by decide)
  refine zr_lmul hx hb d_S_squareOf_2 ?_
  refine lv_lload_n hx hb d_S_squareOf_3 rfl (lv_at hl 1 rfl) ?_
  refine lv_lload_n hx hb d_S_squareOf_4 rfl (lv_at hl 1 rfl) ?_
  have b_2 : zB 0 900000000 (b * b) := zB.w (zb_sq (A := 30000) (zB.w hb_b (by decide) (by decide))) (by decide) (by decide)
  refine zr_lmul hx hb d_S_squareOf_5 ?_
  have b_3 : zB 0 1800000000 ((a * a) + (b * b)) := zB.w (zb_add b_1 b_2) (by decide) (by decide)
  refine zr_ladd hx hb d_S_squareOf_6 ?_
  exact ze_l hx hb hr hlocks hq d_S_squareOf_7
def f_S_squareBetween (S : Nat → Int → Int) (a b : Int) : Int := f_S_squareOf ((S 0 b) - (S 0 a)) ((S 1 b) - (S 1 a))
theorem br_S_squareBetween (S : Nat → Int → Int) (a b : Int) (hI : iS S) (_ : zB 0 59 a) (_ : zB 0 59 b) : zB 0 1800000000 (f_S_squareBetween S a b) := br_S_squareOf _ _ (zB.w (zb_sub (iS_a0 hI b) (iS_a0 hI a)) (by decide) (by decide)) (zB.w (zb_sub (iS_a1 hI b) (iS_a1 hI a)) (by decide) (by decide))
set_option maxHeartbeats 4000000 in
set_option maxRecDepth 100000 in
theorem k_S_squareBetween (l : Launch) (dC : Nat → ClassId) (dI : Nat → Nat → Nat) (ad : Nat → Nat) (cI : ClassId) (S : Nat → Int → Int) (k0 k1 k2 k3 : Int) (hI : iS S) (a b : Int) (hb_a : zB 0 59 a) (hb_b : zB 0 59 b) : Met l y_S_squareBetween (Cond.code y_S_squareBetween c_S_squareBetween 3 (some .long) :: zT) { frames := 1, cells := 0, slots := 0, locals := 23 } (va_Pc ([.ref (ad 0), .int (zi a), .int (zi b)] : List Value) (zWS dC dI ad cI S k0 k1 k2 k3)) (zR (.long (zl (f_S_squareBetween S a b)))) 0 0 (fun _ => False) := by
  refine zh (cc := c_S_squareBetween) (C := R_S) (by decide) rfl rfl (Nat.le_of_ble_eq_true rfl) ?_
  intro p e s m below meth c ls hx hb hr hlocks hml hown hname hts hl hB
  have hw : ∀ w9 ∈ zT, w9.before ([.ref (ad 0), .int (zi a), .int (zi b)] : List Value).toArray s = true := fun w9 h => hts w9 (List.mem_cons_of_mem _ h)
  obtain ⟨hP, hK, hN⟩ := hB
  obtain ⟨hn0, hn1⟩ := id (iS_s0 hI)
  obtain ⟨hz0, hz1⟩ := id (iS_s6 hI)
  obtain ⟨hl_a, hh_a⟩ := id hb_a
  obtain ⟨hl_b, hh_b⟩ := id hb_b
  generalize hq : f_S_squareBetween S a b = r
  unfold f_S_squareBetween at hq
  replace hl : lv_has ls 3 [(0, .ref (ad 0)), (1, .int (zi a)), (2, .int (zi b))] := hl
  refine lv_aload_n hx hb d_S_squareBetween_0 rfl (lv_at hl 0 rfl) ?_
  refine va_get (D := (dC, dI)) (ci := 1) (v := .ref (ad 1)) (C := R_S) (T := T_S) (N := 13) hx hb hw i_S hown hK hP 0 rfl rfl 0 (by decide) (hw _ m_31) (fun _ h9 => h9) rfl d_S_squareBetween_1 ?_
  refine lv_iload_n hx hb d_S_squareBetween_4 rfl (lv_at hl 2 rfl) ?_
  refine zr_iald hx hb hK hP 1 0 (cA := cI) (n := 60) (g := S 0) rfl rfl (i := b) (by omega) (by omega) (by decide) d_S_squareBetween_5 ?_
  refine lv_aload_n hx hb d_S_squareBetween_6 rfl (lv_at hl 0 rfl) ?_
  refine va_get (D := (dC, dI)) (ci := 1) (v := .ref (ad 1)) (C := R_S) (T := T_S) (N := 13) hx hb hw i_S hown hK hP 0 rfl rfl 0 (by decide) (hw _ m_31) (fun _ h9 => h9) rfl d_S_squareBetween_7 ?_
  refine lv_iload_n hx hb d_S_squareBetween_10 rfl (lv_at hl 1 rfl) ?_
  refine zr_iald hx hb hK hP 1 0 (cA := cI) (n := 60) (g := S 0) rfl rfl (i := a) (by omega) (by omega) (by decide) d_S_squareBetween_11 ?_
  have b_1 : zB (-30000) 30000 ((S 0 b) - (S 0 a)) := zB.w (zb_sub (iS_a0 hI b) (iS_a0 hI a)) (by decide) (by decide)
  refine zr_isub hx hb d_S_squareBetween_12 ?_
  refine zr_i2l hx hb (zB.I b_1 (by decide) (by decide)) d_S_squareBetween_13 ?_
  refine lv_aload_n hx hb d_S_squareBetween_14 rfl (lv_at hl 0 rfl) ?_
  refine va_get (D := (dC, dI)) (ci := 1) (v := .ref (ad 2)) (C := R_S) (T := T_S) (N := 13) hx hb hw i_S hown hK hP 0 rfl rfl 1 (by decide) (hw _ m_32) (fun _ h9 => h9) rfl d_S_squareBetween_15 ?_
  refine lv_iload_n hx hb d_S_squareBetween_18 rfl (lv_at hl 2 rfl) ?_
  refine zr_iald hx hb hK hP 2 0 (cA := cI) (n := 60) (g := S 1) rfl rfl (i := b) (by omega) (by omega) (by decide) d_S_squareBetween_19 ?_
  refine lv_aload_n hx hb d_S_squareBetween_20 rfl (lv_at hl 0 rfl) ?_
  refine va_get (D := (dC, dI)) (ci := 1) (v := .ref (ad 2)) (C := R_S) (T := T_S) (N := 13) hx hb hw i_S hown hK hP 0 rfl rfl 1 (by decide) (hw _ m_32) (fun _ h9 => h9) rfl d_S_squareBetween_21 ?_
  refine lv_iload_n hx hb d_S_squareBetween_24 rfl (lv_at hl 1 rfl) ?_
  refine zr_iald hx hb hK hP 2 0 (cA := cI) (n := 60) (g := S 1) rfl rfl (i := a) (by omega) (by omega) (by decide) d_S_squareBetween_25 ?_
  have b_2 : zB (-30000) 30000 ((S 1 b) - (S 1 a)) := zB.w (zb_sub (iS_a1 hI b) (iS_a1 hI a)) (by decide) (by decide)
  refine zr_isub hx hb d_S_squareBetween_26 ?_
  refine zr_i2l hx hb (zB.I b_2 (by decide) (by decide)) d_S_squareBetween_27 ?_
  refine zc_n (va_runS (As := [.long (zl ((S 0 b) - (S 0 a))), .long (zl ((S 1 b) - (S 1 a)))]) (rest := []) ⟨hx, hb, hml, hown, hts⟩ (k_S_squareOf l ((S 0 b) - (S 0 a)) ((S 1 b) - (S 1 a)) (zB.w b_1 (by decide) (by decide)) (zB.w b_2 (by decide) (by decide)) ) (zcS 2 hts m_67 m_1 m_65 m_66 rfl rfl q_S_squareOf ⟨Nat.le_of_ble_eq_true rfl, Nat.le_of_ble_eq_true rfl⟩) (zp0 [.long (zl ((S 0 b) - (S 0 a))), .long (zl ((S 1 b) - (S 1 a)))]) rfl rfl hl.1 rfl (lv_room (Nat.le_of_ble_eq_true rfl)) d_S_squareBetween_28 ⟨Nat.zero_le _, Nat.zero_le _⟩) ?_
  have b_3 : zB 0 1800000000 (f_S_squareOf ((S 0 b) - (S 0 a)) ((S 1 b) - (S 1 a))) := br_S_squareOf ((S 0 b) - (S 0 a)) ((S 1 b) - (S 1 a)) (zB.w b_1 (by decide) (by decide)) (zB.w b_2 (by decide) (by decide)) 
  exact ze_l hx hb hr hlocks hq d_S_squareBetween_31
def f_S_rootOf_l (v : Int) (z : Int → Int) : Nat → Int → Int → Int
  | 0, _, _ => 0
  | k + 1, t, i => if i < 0 then (z t) else (if v < ((t + (2 ^ (Int.toNat i))) * (t + (2 ^ (Int.toNat i)))) then (f_S_rootOf_l v z k t (i + (-1))) else (f_S_rootOf_l v z k (t + (2 ^ (Int.toNat i))) (i + (-1))))
theorem f_S_rootOf_l_s (v : Int) (z : Int → Int) (k : Nat) (t i : Int) : f_S_rootOf_l v z (k + 1) t i = (if i < 0 then (z t) else (if v < ((t + (2 ^ (Int.toNat i))) * (t + (2 ^ (Int.toNat i)))) then (f_S_rootOf_l v z k t (i + (-1))) else (f_S_rootOf_l v z k (t + (2 ^ (Int.toNat i))) (i + (-1))))) := rfl
def f_S_rootOf (v : Int) : Int := f_S_rootOf_l v (fun t => t) 17 0 15
set_option maxHeartbeats 4000000 in
set_option maxRecDepth 100000 in
theorem k_S_rootOf (l : Launch) (v : Int) (hb_v : zB 0 1800000000 v) : Met l y_S_rootOf (Cond.code y_S_rootOf c_S_rootOf 6 (some .int) :: zT) { frames := 0, cells := 0, slots := 0, locals := 0 } (va_Pc ([.long (zl v)] : List Value) (fun _ => True)) (zR (.int (zi (f_S_rootOf v)))) 0 0 (fun _ => False) := by
  refine zh (cc := c_S_rootOf) (C := R_S) (by decide) rfl rfl (Nat.le_of_ble_eq_true rfl) ?_
  intro p e s m below meth c ls hx hb hr hlocks hml hown hname hts hl hB
  have hw : ∀ w9 ∈ zT, w9.before ([.long (zl v)] : List Value).toArray s = true := fun w9 h => hts w9 (List.mem_cons_of_mem _ h)
  obtain ⟨hl_v, hh_v⟩ := id hb_v
  generalize hq : f_S_rootOf v = r
  unfold f_S_rootOf at hq
  replace hl : lv_has ls 6 [(0, .long (zl v))] := hl
  refine lv_iconst (v := zi 0) hx hb d_S_rootOf_0 rfl ?_
  refine lv_istore_n (lv' := [(2, .int (zi 0)), (0, .long (zl v))]) hx hb d_S_rootOf_1 rfl hl (by decide) rfl (fun ls hl => ?_)
  refine lv_bipush (v := zi 15) hx hb d_S_rootOf_2 (by decide) ?_
  refine lv_istore_n (lv' := [(3, .int (zi 15)), (2, .int (zi 0)), (0, .long (zl v))]) hx hb d_S_rootOf_4 rfl hl (by decide) rfl (fun ls hl => ?_)
  have L_l : ∀ (z : Int → Int), (∀ (t : Int), zB 0 524288 t → ∀ (ls : Array Slot), z t = r → lv_has ls 6 [(0, .long (zl v)), (2, .int (zi t))] → W p l e { frames := 0, cells := 0, slots := 0, locals := 0 } s m ([.long (zl v)] : List Value).toArray below meth c s.heap [] 0 0 (MQ below (zR (.int (zi r))) ([.long (zl v)] : List Value).toArray s 0 0 (fun _ => False)) (F0 m 37 ls [])) → ∀ (k : Nat) (t i : Int) (ls : Array Slot), zB 0 524288 t → zB (-1) 15 i → t ≤ 32768 * (15 - i) → i + 1 < (k : Int) → f_S_rootOf_l v z k t i = r → lv_has ls 6 [(0, .long (zl v)), (2, .int (zi t)), (3, .int (zi i))] → W p l e { frames := 0, cells := 0, slots := 0, locals := 0 } s m ([.long (zl v)] : List Value).toArray below meth c s.heap [] 0 0 (MQ below (zR (.int (zi r))) ([.long (zl v)] : List Value).toArray s 0 0 (fun _ => False)) (F0 m 5 ls []) := by
    intro z hz k
    induction k with
    | zero =>
      intro t i ls hb_t hb_i hi_0 hk hq hl
      exact absurd hk (by have := hb_t.1; have := hb_t.2; have := hb_i.1; have := hb_i.2; omega)
    | succ k ih =>
      intro t i ls hb_t hb_i hi_0 hk hq hl
      obtain ⟨hl_t, hh_t⟩ := id hb_t
      obtain ⟨hl_i, hh_i⟩ := id hb_i
      replace hq := (f_S_rootOf_l_s v z k t i).symm.trans hq
      refine lv_iload_n hx hb d_S_rootOf_5 rfl (lv_at hl 2 rfl) ?_
      refine zr_if_lt (tgt := 37) hx hb (zB.I hb_i (by decide) (by decide)) d_S_rootOf_6 (by decide) (fun c_1 => ?_) (fun c_1 => ?_)
      · replace hq := (if_pos c_1).symm.trans hq
        have r_2 : zB (-1) (-1) i := ⟨hb_i.1, (Int.le_sub_one_of_lt c_1)⟩
        exact hz t (zB.w hb_t (by decide) (by decide)) ls hq (lv_sub hl [0, 1] rfl)
      · replace hq := (if_neg c_1).symm.trans hq
        have r_3 : zB 0 15 i := ⟨(Int.not_lt.mp c_1), hb_i.2⟩
        refine lv_iload_n hx hb d_S_rootOf_9 rfl (lv_at hl 1 rfl) ?_
        refine lv_iconst (v := zi 1) hx hb d_S_rootOf_10 rfl ?_
        refine lv_iload_n hx hb d_S_rootOf_11 rfl (lv_at hl 2 rfl) ?_
        refine zr_shl1 hx hb (zB.w (lo' := 0) (hi' := 30) r_3 (by decide) (by decide)) d_S_rootOf_12 ?_
        have b_4 : zB 1 32768 (2 ^ (Int.toNat i)) := zB.w (zb_pow2 (n := 15) r_3 (by decide)) (by decide) (by decide)
        obtain ⟨hl_b_4, hh_b_4⟩ := id b_4
        have b_5 : zB 1 557056 (t + (2 ^ (Int.toNat i))) := zB.w (zb_add hb_t b_4) (by decide) (by decide)
        refine zr_iadd hx hb d_S_rootOf_13 ?_
        refine zr_i2l hx hb (zB.I b_5 (by decide) (by decide)) d_S_rootOf_14 ?_
        refine lv_lstore (lv' := [(4, .long (zl (t + (2 ^ (Int.toNat i))))), (0, .long (zl v)), (2, .int (zi t)), (3, .int (zi i))]) hx hb d_S_rootOf_15 hl (by decide) rfl (fun ls hl => ?_)
        refine lv_lload hx hb d_S_rootOf_17 (lv_at hl 0 rfl) ?_
        refine lv_lload hx hb d_S_rootOf_19 (lv_at hl 0 rfl) ?_
        have b_6 : zB 0 310311387136 ((t + (2 ^ (Int.toNat i))) * (t + (2 ^ (Int.toNat i)))) := zB.w (zb_sq (A := 557056) (zB.w b_5 (by decide) (by decide))) (by decide) (by decide)
        refine zr_lmul hx hb d_S_rootOf_21 ?_
        refine lv_lload_n hx hb d_S_rootOf_22 rfl (lv_at hl 1 rfl) ?_
        refine zr_lcmp_gt (tgt := 31) hx hb (zB.L b_6 (by decide) (by decide)) (zB.L hb_v (by decide) (by decide)) d_S_rootOf_23 d_S_rootOf_24 (by decide) (fun c_7 => ?_) (fun c_7 => ?_)
        · replace hq := (if_pos c_7).symm.trans hq
          have b_8 : zB (-1) 14 (i + (-1)) := zB.w (zb_add r_3 (zb_c (-1))) (by decide) (by decide)
          refine lv_iinc (v := zi (i + (-1))) (lv' := [(3, .int (zi (i + (-1)))), (4, .long (zl (t + (2 ^ (Int.toNat i))))), (0, .long (zl v)), (2, .int (zi t))]) hx hb d_S_rootOf_31 hl (k := 3) rfl (zi_add _ _) (by decide) rfl (fun ls hl => ?_)
          refine lv_goto (tgt := 5) hx hb d_S_rootOf_34 (by decide) ?_
          exact ih t (i + (-1)) ls (zB.w hb_t (by decide) (by decide)) (zB.w b_8 (by decide) (by decide)) (by omega) (by omega) hq (lv_sub hl [2, 3, 0] rfl)
        · replace hq := (if_neg c_7).symm.trans hq
          refine lv_lload hx hb d_S_rootOf_27 (lv_at hl 0 rfl) ?_
          refine zr_l2i hx hb d_S_rootOf_29 ?_
          refine lv_istore_n (lv' := [(2, .int (zi (t + (2 ^ (Int.toNat i))))), (4, .long (zl (t + (2 ^ (Int.toNat i))))), (0, .long (zl v)), (3, .int (zi i))]) hx hb d_S_rootOf_30 rfl hl (by decide) rfl (fun ls hl => ?_)
          have b_9 : zB (-1) 14 (i + (-1)) := zB.w (zb_add r_3 (zb_c (-1))) (by decide) (by decide)
          refine lv_iinc (v := zi (i + (-1))) (lv' := [(3, .int (zi (i + (-1)))), (2, .int (zi (t + (2 ^ (Int.toNat i))))), (4, .long (zl (t + (2 ^ (Int.toNat i))))), (0, .long (zl v))]) hx hb d_S_rootOf_31 hl (k := 3) rfl (zi_add _ _) (by decide) rfl (fun ls hl => ?_)
          refine lv_goto (tgt := 5) hx hb d_S_rootOf_34 (by decide) ?_
          exact ih (t + (2 ^ (Int.toNat i))) (i + (-1)) ls ⟨by omega, by omega⟩ (zB.w b_9 (by decide) (by decide)) (by omega) (by omega) hq (lv_sub hl [3, 1, 0] rfl)
  refine L_l _ (fun t hb_t ls hq hl => ?_) 17 0 15 ls (zB.w (zb_c 0) (by decide) (by decide)) (zB.w (zb_c 15) (by decide) (by decide)) (by omega) (by omega) hq (lv_sub hl [2, 1, 0] rfl)
  obtain ⟨hl_t, hh_t⟩ := id hb_t
  refine lv_iload_n hx hb d_S_rootOf_37 rfl (lv_at hl 1 rfl) ?_
  exact ze_i hx hb hr hlocks hq d_S_rootOf_38
end
section
theorem fr_S_rootOf (v : Int) : ∀ (j k : Nat) (t : Int), 0 ≤ t → t * t ≤ v → v < (t + 2 ^ j) * (t + 2 ^ j) → j < k →
    0 ≤ f_S_rootOf_l v (fun t => t) k t ((j : Int) - 1) ∧ f_S_rootOf_l v (fun t => t) k t ((j : Int) - 1) * f_S_rootOf_l v (fun t => t) k t ((j : Int) - 1) ≤ v ∧ v < (f_S_rootOf_l v (fun t => t) k t ((j : Int) - 1) + 1) * (f_S_rootOf_l v (fun t => t) k t ((j : Int) - 1) + 1) := by
  intro j
  induction j with
  | zero =>
    intro k t h0 h1 h2 hk
    obtain ⟨k, rfl⟩ : ∃ q, k = q + 1 := ⟨k - 1, by omega⟩
    rw [f_S_rootOf_l_s, if_pos (by omega)]
    exact ⟨h0, h1, h2⟩
  | succ j ih =>
    intro k t h0 h1 h2 hk
    obtain ⟨k, rfl⟩ : ∃ q, k = q + 1 := ⟨k - 1, by omega⟩
    have e1 : ((j + 1 : Nat) : Int) - 1 = (j : Int) := by omega
    have e2 : ((j : Int)).toNat = j := by omega
    have e3 : (j : Int) + (-1) = (j : Int) - 1 := by omega
    have e4 : (2 : Int) ^ (j + 1) = 2 ^ j * 2 := Int.pow_succ 2 j
    have e5 : (0 : Int) < 2 ^ j := by rw [zp_cast]; have : 0 < 2 ^ j := Nat.pow_pos (by decide); omega
    rw [e1, f_S_rootOf_l_s, if_neg (by omega), e2, e3]
    by_cases c : v < (t + 2 ^ j) * (t + 2 ^ j)
    · rw [if_pos c]
      exact ih k t h0 h1 c (by omega)
    · rw [if_neg c]
      refine ih k (t + 2 ^ j) (by omega) (by omega) ?_ (by omega)
      have e6 : t + 2 ^ j + 2 ^ j = t + 2 ^ (j + 1) := by rw [e4]; omega
      rw [e6]
      exact h2
theorem fr_S_root (v : Int) (h : zB 0 1800000000 v) : 0 ≤ f_S_rootOf v ∧ f_S_rootOf v * f_S_rootOf v ≤ v ∧ v < (f_S_rootOf v + 1) * (f_S_rootOf v + 1) := by
  obtain ⟨h1, h2⟩ := h
  exact fr_S_rootOf v 16 17 0 (by decide) (by omega) (by have : ((0 : Int) + 2 ^ 16) * (0 + 2 ^ 16) = 4294967296 := by decide
                                                         omega) (by decide)
theorem zq_le {r v : Int} (h0 : 0 ≤ r) (h : r * r ≤ v) (hv : v ≤ 1800000000) : r ≤ 42426 := by
  rcases Int.lt_or_le 42426 r with q | q
  · have : (42427 : Int) * 42427 ≤ r * r := Int.mul_le_mul q q (by decide) h0
    omega
  · exact q
theorem br_S_rootOf (v : Int) (h : zB 0 1800000000 v) : zB 0 524288 (f_S_rootOf v) := by
  have h1 := fr_S_root v h
  have h2 := zq_le h1.1 h1.2.1 h.2
  exact ⟨h1.1, by omega⟩
def f_S_stepBetween (S : Nat → Int → Int) (a b : Int) : Int := zmax 1 (f_S_rootOf (f_S_squareBetween S a b))
set_option maxHeartbeats 4000000 in
set_option maxRecDepth 100000 in
theorem k_S_stepBetween (l : Launch) (dC : Nat → ClassId) (dI : Nat → Nat → Nat) (ad : Nat → Nat) (cI : ClassId) (S : Nat → Int → Int) (k0 k1 k2 k3 : Int) (hI : iS S) (a b : Int) (hb_a : zB 0 59 a) (hb_b : zB 0 59 b) : Met l y_S_stepBetween (Cond.code y_S_stepBetween c_S_stepBetween 3 (some .int) :: zT) { frames := 2, cells := 0, slots := 0, locals := 45 } (va_Pc ([.ref (ad 0), .int (zi a), .int (zi b)] : List Value) (zWS dC dI ad cI S k0 k1 k2 k3)) (zR (.int (zi (f_S_stepBetween S a b)))) 0 0 (fun _ => False) := by
  refine zh (cc := c_S_stepBetween) (C := R_S) (by decide) rfl rfl (Nat.le_of_ble_eq_true rfl) ?_
  intro p e s m below meth c ls hx hb hr hlocks hml hown hname hts hl hB
  have hw : ∀ w9 ∈ zT, w9.before ([.ref (ad 0), .int (zi a), .int (zi b)] : List Value).toArray s = true := fun w9 h => hts w9 (List.mem_cons_of_mem _ h)
  obtain ⟨hP, hK, hN⟩ := hB
  obtain ⟨hn0, hn1⟩ := id (iS_s0 hI)
  obtain ⟨hz0, hz1⟩ := id (iS_s6 hI)
  obtain ⟨hl_a, hh_a⟩ := id hb_a
  obtain ⟨hl_b, hh_b⟩ := id hb_b
  generalize hq : f_S_stepBetween S a b = r
  unfold f_S_stepBetween at hq
  replace hl : lv_has ls 3 [(0, .ref (ad 0)), (1, .int (zi a)), (2, .int (zi b))] := hl
  refine lv_iconst (v := zi 1) hx hb d_S_stepBetween_0 rfl ?_
  refine lv_aload_n hx hb d_S_stepBetween_1 rfl (lv_at hl 0 rfl) ?_
  refine lv_iload_n hx hb d_S_stepBetween_2 rfl (lv_at hl 1 rfl) ?_
  refine lv_iload_n hx hb d_S_stepBetween_3 rfl (lv_at hl 2 rfl) ?_
  refine zc_n (va_runV (As := [.int (zi a), .int (zi b)]) (rest := [.int (zi 1)]) ⟨hx, hb, hml, hown, hts⟩ (k_S_squareBetween l dC dI ad cI S k0 k1 k2 k3 hI a b (zB.w hb_a (by decide) (by decide)) (zB.w hb_b (by decide) (by decide)) ) (zcV 2 hts m_64 m_1 m_62 m_63 m_373 rfl rfl q_S_squareBetween ⟨Nat.le_of_ble_eq_true rfl, Nat.le_of_ble_eq_true rfl⟩) (zpS0 hP hK hN [.int (zi a), .int (zi b)]) rfl rfl hl.1 rfl (lv_room (Nat.le_of_ble_eq_true rfl)) d_S_stepBetween_4 ⟨Nat.zero_le _, Nat.zero_le _⟩) ?_
  have b_1 : zB 0 1800000000 (f_S_squareBetween S a b) := br_S_squareBetween S a b hI (zB.w hb_a (by decide) (by decide)) (zB.w hb_b (by decide) (by decide)) 
  refine zc_n (va_runS (As := [.long (zl (f_S_squareBetween S a b))]) (rest := [.int (zi 1)]) ⟨hx, hb, hml, hown, hts⟩ (k_S_rootOf l (f_S_squareBetween S a b) (zB.w b_1 (by decide) (by decide)) ) (zcS 1 hts m_70 m_1 m_68 m_69 rfl rfl q_S_rootOf ⟨Nat.le_of_ble_eq_true rfl, Nat.le_of_ble_eq_true rfl⟩) (zp0 [.long (zl (f_S_squareBetween S a b))]) rfl rfl hl.1 rfl (lv_room (Nat.le_of_ble_eq_true rfl)) d_S_stepBetween_7 ⟨Nat.zero_le _, Nat.zero_le _⟩) ?_
  have b_2 : zB 0 524288 (f_S_rootOf (f_S_squareBetween S a b)) := br_S_rootOf (f_S_squareBetween S a b) (zB.w b_1 (by decide) (by decide)) 
  refine zr_max hx hb (hml.trans hl.1.symm) hown (hw _ m_71) (hw _ m_72) (hw _ m_4) (hw _ m_73) (Nat.le_of_ble_eq_true rfl) (Nat.le_of_ble_eq_true rfl) (Nat.zero_le _) (Nat.zero_le _) (zB.I (zb_c 1) (by decide) (by decide)) (zB.I b_2 (by decide) (by decide)) d_S_stepBetween_10 ?_
  have b_3 : zB 1 524288 (zmax 1 (f_S_rootOf (f_S_squareBetween S a b))) := zB.w (zb_maxl (lo := 1) (hi := 524288) (zb_c 1) b_2 (by decide) (by decide) (by decide)) (by decide) (by decide)
  obtain ⟨hl_b_3, hh_b_3⟩ := id b_3
  exact ze_i hx hb hr hlocks hq d_S_stepBetween_13
def f_S_isGroundAbove (S : Nat → Int → Int) (a b d : Int) : Int := if ((((zabs ((S 3 b) - (S 3 a))) - (zabs ((S 3 d) - (S 3 a)))) * ((S 2 a) + (S 11 2))) + ((zabs ((S 3 d) - (S 3 a))) * ((S 2 b) + (S 11 3)))) < ((zabs ((S 3 b) - (S 3 a))) * (S 2 d)) then (1) else (0)
theorem bb_S_isGroundAbove (S : Nat → Int → Int) (a b d : Int) : zB 0 1 (f_S_isGroundAbove S a b d) := by
  unfold f_S_isGroundAbove
  repeat' split
  all_goals first | exact ⟨by decide, by decide⟩  | apply bb_S_isWithin
set_option maxHeartbeats 4000000 in
set_option maxRecDepth 100000 in
theorem k_S_isGroundAbove (l : Launch) (dC : Nat → ClassId) (dI : Nat → Nat → Nat) (ad : Nat → Nat) (cI : ClassId) (S : Nat → Int → Int) (k0 k1 k2 k3 : Int) (hI : iS S) (a b d : Int) (hb_a : zB 0 59 a) (hb_b : zB 0 59 b) (hb_d : zB 0 59 d) : Met l y_S_isGroundAbove (Cond.code y_S_isGroundAbove c_S_isGroundAbove 10 (some .boolean) :: zT) { frames := 1, cells := 0, slots := 0, locals := 13 } (va_Pc ([.ref (ad 0), .int (zi a), .int (zi b), .int (zi d)] : List Value) (zWS dC dI ad cI S k0 k1 k2 k3)) (zR (.int (zi (f_S_isGroundAbove S a b d)))) 0 0 (fun _ => False) := by
  refine zh (cc := c_S_isGroundAbove) (C := R_S) (by decide) rfl rfl (Nat.le_of_ble_eq_true rfl) ?_
  intro p e s m below meth c ls hx hb hr hlocks hml hown hname hts hl hB
  have hw : ∀ w9 ∈ zT, w9.before ([.ref (ad 0), .int (zi a), .int (zi b), .int (zi d)] : List Value).toArray s = true := fun w9 h => hts w9 (List.mem_cons_of_mem _ h)
  obtain ⟨hP, hK, hN⟩ := hB
  obtain ⟨hn0, hn1⟩ := id (iS_s0 hI)
  obtain ⟨hz0, hz1⟩ := id (iS_s6 hI)
  obtain ⟨hl_a, hh_a⟩ := id hb_a
  obtain ⟨hl_b, hh_b⟩ := id hb_b
  obtain ⟨hl_d, hh_d⟩ := id hb_d
  generalize hq : f_S_isGroundAbove S a b d = r
  unfold f_S_isGroundAbove at hq
  replace hl : lv_has ls 10 [(0, .ref (ad 0)), (1, .int (zi a)), (2, .int (zi b)), (3, .int (zi d))] := hl
  refine lv_aload_n hx hb d_S_isGroundAbove_0 rfl (lv_at hl 0 rfl) ?_
  refine va_get (D := (dC, dI)) (ci := 1) (v := .ref (ad 4)) (C := R_S) (T := T_S) (N := 13) hx hb hw i_S hown hK hP 0 rfl rfl 3 (by decide) (hw _ m_34) (fun _ h9 => h9) rfl d_S_isGroundAbove_1 ?_
  refine lv_iload_n hx hb d_S_isGroundAbove_4 rfl (lv_at hl 2 rfl) ?_
  refine zr_iald hx hb hK hP 4 0 (cA := cI) (n := 60) (g := S 3) rfl rfl (i := b) (by omega) (by omega) (by decide) d_S_isGroundAbove_5 ?_
  refine lv_aload_n hx hb d_S_isGroundAbove_6 rfl (lv_at hl 0 rfl) ?_
  refine va_get (D := (dC, dI)) (ci := 1) (v := .ref (ad 4)) (C := R_S) (T := T_S) (N := 13) hx hb hw i_S hown hK hP 0 rfl rfl 3 (by decide) (hw _ m_34) (fun _ h9 => h9) rfl d_S_isGroundAbove_7 ?_
  refine lv_iload_n hx hb d_S_isGroundAbove_10 rfl (lv_at hl 1 rfl) ?_
  refine zr_iald hx hb hK hP 4 0 (cA := cI) (n := 60) (g := S 3) rfl rfl (i := a) (by omega) (by omega) (by decide) d_S_isGroundAbove_11 ?_
  have b_1 : zB (-2545620) 2545620 ((S 3 b) - (S 3 a)) := zB.w (zb_sub (iS_a3 hI b) (iS_a3 hI a)) (by decide) (by decide)
  refine zr_isub hx hb d_S_isGroundAbove_12 ?_
  refine zr_abs hx hb (hml.trans hl.1.symm) hown (hw _ m_120) (hw _ m_121) (hw _ m_4) (hw _ m_122) (Nat.le_of_ble_eq_true rfl) (Nat.le_of_ble_eq_true rfl) (Nat.zero_le _) (Nat.zero_le _) (zB.I b_1 (by decide) (by decide)) d_S_isGroundAbove_13 ?_
  have b_2 : zB 0 2545620 (zabs ((S 3 b) - (S 3 a))) := zB.w (zb_zabs (A := 2545620) (zB.w b_1 (by decide) (by decide))) (by decide) (by decide)
  obtain ⟨hl_b_2, hh_b_2⟩ := id b_2
  refine zr_i2l hx hb (zB.I b_2 (by decide) (by decide)) d_S_isGroundAbove_16 ?_
  refine lv_lstore (lv' := [(4, .long (zl (zabs ((S 3 b) - (S 3 a))))), (0, .ref (ad 0)), (1, .int (zi a)), (2, .int (zi b)), (3, .int (zi d))]) hx hb d_S_isGroundAbove_17 hl (by decide) rfl (fun ls hl => ?_)
  refine lv_aload_n hx hb d_S_isGroundAbove_19 rfl (lv_at hl 1 rfl) ?_
  refine va_get (D := (dC, dI)) (ci := 1) (v := .ref (ad 4)) (C := R_S) (T := T_S) (N := 13) hx hb hw i_S hown hK hP 0 rfl rfl 3 (by decide) (hw _ m_34) (fun _ h9 => h9) rfl d_S_isGroundAbove_20 ?_
  refine lv_iload_n hx hb d_S_isGroundAbove_23 rfl (lv_at hl 4 rfl) ?_
  refine zr_iald hx hb hK hP 4 0 (cA := cI) (n := 60) (g := S 3) rfl rfl (i := d) (by omega) (by omega) (by decide) d_S_isGroundAbove_24 ?_
  refine lv_aload_n hx hb d_S_isGroundAbove_25 rfl (lv_at hl 1 rfl) ?_
  refine va_get (D := (dC, dI)) (ci := 1) (v := .ref (ad 4)) (C := R_S) (T := T_S) (N := 13) hx hb hw i_S hown hK hP 0 rfl rfl 3 (by decide) (hw _ m_34) (fun _ h9 => h9) rfl d_S_isGroundAbove_26 ?_
  refine lv_iload_n hx hb d_S_isGroundAbove_29 rfl (lv_at hl 2 rfl) ?_
  refine zr_iald hx hb hK hP 4 0 (cA := cI) (n := 60) (g := S 3) rfl rfl (i := a) (by omega) (by omega) (by decide) d_S_isGroundAbove_30 ?_
  have b_3 : zB (-2545620) 2545620 ((S 3 d) - (S 3 a)) := zB.w (zb_sub (iS_a3 hI d) (iS_a3 hI a)) (by decide) (by decide)
  refine zr_isub hx hb d_S_isGroundAbove_31 ?_
  refine zr_abs hx hb (hml.trans hl.1.symm) hown (hw _ m_120) (hw _ m_121) (hw _ m_4) (hw _ m_122) (Nat.le_of_ble_eq_true rfl) (Nat.le_of_ble_eq_true rfl) (Nat.zero_le _) (Nat.zero_le _) (zB.I b_3 (by decide) (by decide)) d_S_isGroundAbove_32 ?_
  have b_4 : zB 0 2545620 (zabs ((S 3 d) - (S 3 a))) := zB.w (zb_zabs (A := 2545620) (zB.w b_3 (by decide) (by decide))) (by decide) (by decide)
  obtain ⟨hl_b_4, hh_b_4⟩ := id b_4
  refine zr_i2l hx hb (zB.I b_4 (by decide) (by decide)) d_S_isGroundAbove_35 ?_
  refine lv_lstore (lv' := [(6, .long (zl (zabs ((S 3 d) - (S 3 a))))), (4, .long (zl (zabs ((S 3 b) - (S 3 a))))), (0, .ref (ad 0)), (1, .int (zi a)), (2, .int (zi b)), (3, .int (zi d))]) hx hb d_S_isGroundAbove_36 hl (by decide) rfl (fun ls hl => ?_)
  refine lv_lload hx hb d_S_isGroundAbove_38 (lv_at hl 1 rfl) ?_
  refine lv_lload hx hb d_S_isGroundAbove_40 (lv_at hl 0 rfl) ?_
  have b_5 : zB (-2545620) 2545620 ((zabs ((S 3 b) - (S 3 a))) - (zabs ((S 3 d) - (S 3 a)))) := zB.w (zb_sub b_2 b_4) (by decide) (by decide)
  refine zr_lsub hx hb d_S_isGroundAbove_42 ?_
  refine lv_aload_n hx hb d_S_isGroundAbove_43 rfl (lv_at hl 2 rfl) ?_
  refine va_get (D := (dC, dI)) (ci := 1) (v := .ref (ad 3)) (C := R_S) (T := T_S) (N := 13) hx hb hw i_S hown hK hP 0 rfl rfl 2 (by decide) (hw _ m_33) (fun _ h9 => h9) rfl d_S_isGroundAbove_44 ?_
  refine lv_iload_n hx hb d_S_isGroundAbove_47 rfl (lv_at hl 3 rfl) ?_
  refine zr_iald hx hb hK hP 3 0 (cA := cI) (n := 60) (g := S 2) rfl rfl (i := a) (by omega) (by omega) (by decide) d_S_isGroundAbove_48 ?_
  refine lv_aload_n hx hb d_S_isGroundAbove_49 rfl (lv_at hl 2 rfl) ?_
  refine va_get (D := (dC, dI)) (ci := 1) (v := .int (zi (S 11 2))) (C := R_S) (T := T_S) (N := 13) hx hb hw i_S hown hK hP 0 rfl rfl 9 (by decide) (hw _ m_40) (fun _ h9 => h9) rfl d_S_isGroundAbove_50 ?_
  have b_6 : zB (-100000) 101000 ((S 2 a) + (S 11 2)) := zB.w (zb_add (iS_a2 hI a) (iS_s2 hI)) (by decide) (by decide)
  refine zr_iadd hx hb d_S_isGroundAbove_53 ?_
  refine zr_i2l hx hb (zB.I b_6 (by decide) (by decide)) d_S_isGroundAbove_54 ?_
  have b_7 : zB (-257107620000) 257107620000 (((zabs ((S 3 b) - (S 3 a))) - (zabs ((S 3 d) - (S 3 a)))) * ((S 2 a) + (S 11 2))) := zB.w (zb_mul (A := 2545620) (B := 101000) (zB.w b_5 (by decide) (by decide)) (zB.w b_6 (by decide) (by decide))) (by decide) (by decide)
  refine zr_lmul hx hb d_S_isGroundAbove_55 ?_
  refine lv_lload hx hb d_S_isGroundAbove_56 (lv_at hl 0 rfl) ?_
  refine lv_aload_n hx hb d_S_isGroundAbove_58 rfl (lv_at hl 2 rfl) ?_
  refine va_get (D := (dC, dI)) (ci := 1) (v := .ref (ad 3)) (C := R_S) (T := T_S) (N := 13) hx hb hw i_S hown hK hP 0 rfl rfl 2 (by decide) (hw _ m_33) (fun _ h9 => h9) rfl d_S_isGroundAbove_59 ?_
  refine lv_iload_n hx hb d_S_isGroundAbove_62 rfl (lv_at hl 4 rfl) ?_
  refine zr_iald hx hb hK hP 3 0 (cA := cI) (n := 60) (g := S 2) rfl rfl (i := b) (by omega) (by omega) (by decide) d_S_isGroundAbove_63 ?_
  refine lv_aload_n hx hb d_S_isGroundAbove_64 rfl (lv_at hl 2 rfl) ?_
  refine va_get (D := (dC, dI)) (ci := 1) (v := .int (zi (S 11 3))) (C := R_S) (T := T_S) (N := 13) hx hb hw i_S hown hK hP 0 rfl rfl 10 (by decide) (hw _ m_41) (fun _ h9 => h9) rfl d_S_isGroundAbove_65 ?_
  have b_8 : zB (-100000) 101000 ((S 2 b) + (S 11 3)) := zB.w (zb_add (iS_a2 hI b) (iS_s3 hI)) (by decide) (by decide)
  refine zr_iadd hx hb d_S_isGroundAbove_68 ?_
  refine zr_i2l hx hb (zB.I b_8 (by decide) (by decide)) d_S_isGroundAbove_69 ?_
  have b_9 : zB (-257107620000) 257107620000 ((zabs ((S 3 d) - (S 3 a))) * ((S 2 b) + (S 11 3))) := zB.w (zb_mul (A := 2545620) (B := 101000) (zB.w b_4 (by decide) (by decide)) (zB.w b_8 (by decide) (by decide))) (by decide) (by decide)
  refine zr_lmul hx hb d_S_isGroundAbove_70 ?_
  have b_10 : zB (-514215240000) 514215240000 ((((zabs ((S 3 b) - (S 3 a))) - (zabs ((S 3 d) - (S 3 a)))) * ((S 2 a) + (S 11 2))) + ((zabs ((S 3 d) - (S 3 a))) * ((S 2 b) + (S 11 3)))) := zB.w (zb_add b_7 b_9) (by decide) (by decide)
  refine zr_ladd hx hb d_S_isGroundAbove_71 ?_
  refine lv_lstore (lv' := [(8, .long (zl ((((zabs ((S 3 b) - (S 3 a))) - (zabs ((S 3 d) - (S 3 a)))) * ((S 2 a) + (S 11 2))) + ((zabs ((S 3 d) - (S 3 a))) * ((S 2 b) + (S 11 3)))))), (6, .long (zl (zabs ((S 3 d) - (S 3 a))))), (4, .long (zl (zabs ((S 3 b) - (S 3 a))))), (0, .ref (ad 0)), (1, .int (zi a)), (2, .int (zi b)), (3, .int (zi d))]) hx hb d_S_isGroundAbove_72 hl (by decide) rfl (fun ls hl => ?_)
  refine lv_lload hx hb d_S_isGroundAbove_74 (lv_at hl 2 rfl) ?_
  refine lv_aload_n hx hb d_S_isGroundAbove_76 rfl (lv_at hl 3 rfl) ?_
  refine va_get (D := (dC, dI)) (ci := 1) (v := .ref (ad 3)) (C := R_S) (T := T_S) (N := 13) hx hb hw i_S hown hK hP 0 rfl rfl 2 (by decide) (hw _ m_33) (fun _ h9 => h9) rfl d_S_isGroundAbove_77 ?_
  refine lv_iload_n hx hb d_S_isGroundAbove_80 rfl (lv_at hl 6 rfl) ?_
  refine zr_iald hx hb hK hP 3 0 (cA := cI) (n := 60) (g := S 2) rfl rfl (i := d) (by omega) (by omega) (by decide) d_S_isGroundAbove_81 ?_
  refine zr_i2l hx hb (zB.I (iS_a2 hI d) (by decide) (by decide)) d_S_isGroundAbove_82 ?_
  have b_11 : zB (-254562000000) 254562000000 ((zabs ((S 3 b) - (S 3 a))) * (S 2 d)) := zB.w (zb_mul (A := 2545620) (B := 100000) (zB.w b_2 (by decide) (by decide)) (zB.w (iS_a2 hI d) (by decide) (by decide))) (by decide) (by decide)
  refine zr_lmul hx hb d_S_isGroundAbove_83 ?_
  refine lv_lload hx hb d_S_isGroundAbove_84 (lv_at hl 0 rfl) ?_
  refine zr_lcmp_le (tgt := 94) hx hb (zB.L b_11 (by decide) (by decide)) (zB.L b_10 (by decide) (by decide)) d_S_isGroundAbove_86 d_S_isGroundAbove_87 (by decide) (fun c_12 => ?_) (fun c_12 => ?_)
  · replace hq := (if_neg c_12).symm.trans hq
    refine lv_iconst (v := zi 0) hx hb d_S_isGroundAbove_94 rfl ?_
    exact ze_z hx hb hr hlocks (zB.w (zb_c 0) (by decide) (by decide)) hq d_S_isGroundAbove_95
  · replace hq := (if_pos c_12).symm.trans hq
    refine lv_iconst (v := zi 1) hx hb d_S_isGroundAbove_90 rfl ?_
    refine lv_goto (tgt := 95) hx hb d_S_isGroundAbove_91 (by decide) ?_
    exact ze_z hx hb hr hlocks (zB.w (zb_c 1) (by decide) (by decide)) hq d_S_isGroundAbove_95
def f_S_crossAt (S : Nat → Int → Int) (a b d : Int) : Int := (((S 0 b) - (S 0 a)) * ((S 1 d) - (S 1 a))) - (((S 1 b) - (S 1 a)) * ((S 0 d) - (S 0 a)))
theorem br_S_crossAt (S : Nat → Int → Int) (a b d : Int) (hI : iS S) (_ : zB 0 59 a) (_ : zB 0 59 b) (_ : zB 0 59 d) : zB (-1800000000) 1800000000 (f_S_crossAt S a b d) :=
  zB.w (zb_sub (zb_mul (A := 30000) (B := 30000) (zB.w (zb_sub (iS_a0 hI b) (iS_a0 hI a)) (by decide) (by decide)) (zB.w (zb_sub (iS_a1 hI d) (iS_a1 hI a)) (by decide) (by decide))) (zb_mul (A := 30000) (B := 30000) (zB.w (zb_sub (iS_a1 hI b) (iS_a1 hI a)) (by decide) (by decide)) (zB.w (zb_sub (iS_a0 hI d) (iS_a0 hI a)) (by decide) (by decide)))) (by decide) (by decide)
set_option maxHeartbeats 4000000 in
set_option maxRecDepth 100000 in
theorem k_S_crossAt (l : Launch) (dC : Nat → ClassId) (dI : Nat → Nat → Nat) (ad : Nat → Nat) (cI : ClassId) (S : Nat → Int → Int) (k0 k1 k2 k3 : Int) (hI : iS S) (a b d : Int) (hb_a : zB 0 59 a) (hb_b : zB 0 59 b) (hb_d : zB 0 59 d) : Met l y_S_crossAt (Cond.code y_S_crossAt c_S_crossAt 8 (some .long) :: zT) { frames := 0, cells := 0, slots := 0, locals := 0 } (va_Pc ([.ref (ad 0), .int (zi a), .int (zi b), .int (zi d)] : List Value) (zWS dC dI ad cI S k0 k1 k2 k3)) (zR (.long (zl (f_S_crossAt S a b d)))) 0 0 (fun _ => False) := by
  refine zh (cc := c_S_crossAt) (C := R_S) (by decide) rfl rfl (Nat.le_of_ble_eq_true rfl) ?_
  intro p e s m below meth c ls hx hb hr hlocks hml hown hname hts hl hB
  have hw : ∀ w9 ∈ zT, w9.before ([.ref (ad 0), .int (zi a), .int (zi b), .int (zi d)] : List Value).toArray s = true := fun w9 h => hts w9 (List.mem_cons_of_mem _ h)
  obtain ⟨hP, hK, hN⟩ := hB
  obtain ⟨hn0, hn1⟩ := id (iS_s0 hI)
  obtain ⟨hz0, hz1⟩ := id (iS_s6 hI)
  obtain ⟨hl_a, hh_a⟩ := id hb_a
  obtain ⟨hl_b, hh_b⟩ := id hb_b
  obtain ⟨hl_d, hh_d⟩ := id hb_d
  generalize hq : f_S_crossAt S a b d = r
  unfold f_S_crossAt at hq
  replace hl : lv_has ls 8 [(0, .ref (ad 0)), (1, .int (zi a)), (2, .int (zi b)), (3, .int (zi d))] := hl
  refine lv_aload_n hx hb d_S_crossAt_0 rfl (lv_at hl 0 rfl) ?_
  refine va_get (D := (dC, dI)) (ci := 1) (v := .ref (ad 1)) (C := R_S) (T := T_S) (N := 13) hx hb hw i_S hown hK hP 0 rfl rfl 0 (by decide) (hw _ m_31) (fun _ h9 => h9) rfl d_S_crossAt_1 ?_
  refine lv_iload_n hx hb d_S_crossAt_4 rfl (lv_at hl 2 rfl) ?_
  refine zr_iald hx hb hK hP 1 0 (cA := cI) (n := 60) (g := S 0) rfl rfl (i := b) (by omega) (by omega) (by decide) d_S_crossAt_5 ?_
  refine lv_aload_n hx hb d_S_crossAt_6 rfl (lv_at hl 0 rfl) ?_
  refine va_get (D := (dC, dI)) (ci := 1) (v := .ref (ad 1)) (C := R_S) (T := T_S) (N := 13) hx hb hw i_S hown hK hP 0 rfl rfl 0 (by decide) (hw _ m_31) (fun _ h9 => h9) rfl d_S_crossAt_7 ?_
  refine lv_iload_n hx hb d_S_crossAt_10 rfl (lv_at hl 1 rfl) ?_
  refine zr_iald hx hb hK hP 1 0 (cA := cI) (n := 60) (g := S 0) rfl rfl (i := a) (by omega) (by omega) (by decide) d_S_crossAt_11 ?_
  have b_1 : zB (-30000) 30000 ((S 0 b) - (S 0 a)) := zB.w (zb_sub (iS_a0 hI b) (iS_a0 hI a)) (by decide) (by decide)
  refine zr_isub hx hb d_S_crossAt_12 ?_
  refine zr_i2l hx hb (zB.I b_1 (by decide) (by decide)) d_S_crossAt_13 ?_
  refine lv_lstore (lv' := [(4, .long (zl ((S 0 b) - (S 0 a)))), (0, .ref (ad 0)), (1, .int (zi a)), (2, .int (zi b)), (3, .int (zi d))]) hx hb d_S_crossAt_14 hl (by decide) rfl (fun ls hl => ?_)
  refine lv_aload_n hx hb d_S_crossAt_16 rfl (lv_at hl 1 rfl) ?_
  refine va_get (D := (dC, dI)) (ci := 1) (v := .ref (ad 2)) (C := R_S) (T := T_S) (N := 13) hx hb hw i_S hown hK hP 0 rfl rfl 1 (by decide) (hw _ m_32) (fun _ h9 => h9) rfl d_S_crossAt_17 ?_
  refine lv_iload_n hx hb d_S_crossAt_20 rfl (lv_at hl 3 rfl) ?_
  refine zr_iald hx hb hK hP 2 0 (cA := cI) (n := 60) (g := S 1) rfl rfl (i := b) (by omega) (by omega) (by decide) d_S_crossAt_21 ?_
  refine lv_aload_n hx hb d_S_crossAt_22 rfl (lv_at hl 1 rfl) ?_
  refine va_get (D := (dC, dI)) (ci := 1) (v := .ref (ad 2)) (C := R_S) (T := T_S) (N := 13) hx hb hw i_S hown hK hP 0 rfl rfl 1 (by decide) (hw _ m_32) (fun _ h9 => h9) rfl d_S_crossAt_23 ?_
  refine lv_iload_n hx hb d_S_crossAt_26 rfl (lv_at hl 2 rfl) ?_
  refine zr_iald hx hb hK hP 2 0 (cA := cI) (n := 60) (g := S 1) rfl rfl (i := a) (by omega) (by omega) (by decide) d_S_crossAt_27 ?_
  have b_2 : zB (-30000) 30000 ((S 1 b) - (S 1 a)) := zB.w (zb_sub (iS_a1 hI b) (iS_a1 hI a)) (by decide) (by decide)
  refine zr_isub hx hb d_S_crossAt_28 ?_
  refine zr_i2l hx hb (zB.I b_2 (by decide) (by decide)) d_S_crossAt_29 ?_
  refine lv_lstore (lv' := [(6, .long (zl ((S 1 b) - (S 1 a)))), (4, .long (zl ((S 0 b) - (S 0 a)))), (0, .ref (ad 0)), (1, .int (zi a)), (2, .int (zi b)), (3, .int (zi d))]) hx hb d_S_crossAt_30 hl (by decide) rfl (fun ls hl => ?_)
  refine lv_lload hx hb d_S_crossAt_32 (lv_at hl 1 rfl) ?_
  refine lv_aload_n hx hb d_S_crossAt_34 rfl (lv_at hl 2 rfl) ?_
  refine va_get (D := (dC, dI)) (ci := 1) (v := .ref (ad 2)) (C := R_S) (T := T_S) (N := 13) hx hb hw i_S hown hK hP 0 rfl rfl 1 (by decide) (hw _ m_32) (fun _ h9 => h9) rfl d_S_crossAt_35 ?_
  refine lv_iload_n hx hb d_S_crossAt_38 rfl (lv_at hl 5 rfl) ?_
  refine zr_iald hx hb hK hP 2 0 (cA := cI) (n := 60) (g := S 1) rfl rfl (i := d) (by omega) (by omega) (by decide) d_S_crossAt_39 ?_
  refine lv_aload_n hx hb d_S_crossAt_40 rfl (lv_at hl 2 rfl) ?_
  refine va_get (D := (dC, dI)) (ci := 1) (v := .ref (ad 2)) (C := R_S) (T := T_S) (N := 13) hx hb hw i_S hown hK hP 0 rfl rfl 1 (by decide) (hw _ m_32) (fun _ h9 => h9) rfl d_S_crossAt_41 ?_
  refine lv_iload_n hx hb d_S_crossAt_44 rfl (lv_at hl 3 rfl) ?_
  refine zr_iald hx hb hK hP 2 0 (cA := cI) (n := 60) (g := S 1) rfl rfl (i := a) (by omega) (by omega) (by decide) d_S_crossAt_45 ?_
  have b_3 : zB (-30000) 30000 ((S 1 d) - (S 1 a)) := zB.w (zb_sub (iS_a1 hI d) (iS_a1 hI a)) (by decide) (by decide)
  refine zr_isub hx hb d_S_crossAt_46 ?_
  refine zr_i2l hx hb (zB.I b_3 (by decide) (by decide)) d_S_crossAt_47 ?_
  have b_4 : zB (-900000000) 900000000 (((S 0 b) - (S 0 a)) * ((S 1 d) - (S 1 a))) := zB.w (zb_mul (A := 30000) (B := 30000) (zB.w b_1 (by decide) (by decide)) (zB.w b_3 (by decide) (by decide))) (by decide) (by decide)
  refine zr_lmul hx hb d_S_crossAt_48 ?_
  refine lv_lload hx hb d_S_crossAt_49 (lv_at hl 0 rfl) ?_
  refine lv_aload_n hx hb d_S_crossAt_51 rfl (lv_at hl 2 rfl) ?_
  refine va_get (D := (dC, dI)) (ci := 1) (v := .ref (ad 1)) (C := R_S) (T := T_S) (N := 13) hx hb hw i_S hown hK hP 0 rfl rfl 0 (by decide) (hw _ m_31) (fun _ h9 => h9) rfl d_S_crossAt_52 ?_
  refine lv_iload_n hx hb d_S_crossAt_55 rfl (lv_at hl 5 rfl) ?_
  refine zr_iald hx hb hK hP 1 0 (cA := cI) (n := 60) (g := S 0) rfl rfl (i := d) (by omega) (by omega) (by decide) d_S_crossAt_56 ?_
  refine lv_aload_n hx hb d_S_crossAt_57 rfl (lv_at hl 2 rfl) ?_
  refine va_get (D := (dC, dI)) (ci := 1) (v := .ref (ad 1)) (C := R_S) (T := T_S) (N := 13) hx hb hw i_S hown hK hP 0 rfl rfl 0 (by decide) (hw _ m_31) (fun _ h9 => h9) rfl d_S_crossAt_58 ?_
  refine lv_iload_n hx hb d_S_crossAt_61 rfl (lv_at hl 3 rfl) ?_
  refine zr_iald hx hb hK hP 1 0 (cA := cI) (n := 60) (g := S 0) rfl rfl (i := a) (by omega) (by omega) (by decide) d_S_crossAt_62 ?_
  have b_5 : zB (-30000) 30000 ((S 0 d) - (S 0 a)) := zB.w (zb_sub (iS_a0 hI d) (iS_a0 hI a)) (by decide) (by decide)
  refine zr_isub hx hb d_S_crossAt_63 ?_
  refine zr_i2l hx hb (zB.I b_5 (by decide) (by decide)) d_S_crossAt_64 ?_
  have b_6 : zB (-900000000) 900000000 (((S 1 b) - (S 1 a)) * ((S 0 d) - (S 0 a))) := zB.w (zb_mul (A := 30000) (B := 30000) (zB.w b_2 (by decide) (by decide)) (zB.w b_5 (by decide) (by decide))) (by decide) (by decide)
  refine zr_lmul hx hb d_S_crossAt_65 ?_
  have b_7 : zB (-1800000000) 1800000000 ((((S 0 b) - (S 0 a)) * ((S 1 d) - (S 1 a))) - (((S 1 b) - (S 1 a)) * ((S 0 d) - (S 0 a)))) := zB.w (zb_sub b_4 b_6) (by decide) (by decide)
  refine zr_lsub hx hb d_S_crossAt_66 ?_
  exact ze_l hx hb hr hlocks hq d_S_crossAt_67
def f_S_sideOf (v : Int) : Int := if v < 0 then (0) else (1)
theorem br_S_sideOf (v : Int) (_ : zB (-1800000000) 1800000000 v) : zB 0 1 (f_S_sideOf v) := by
  unfold f_S_sideOf
  split <;> exact ⟨by decide, by decide⟩
set_option maxHeartbeats 4000000 in
set_option maxRecDepth 100000 in
theorem k_S_sideOf (l : Launch) (v : Int) (hb_v : zB (-1800000000) 1800000000 v) : Met l y_S_sideOf (Cond.code y_S_sideOf c_S_sideOf 2 (some .int) :: zT) { frames := 0, cells := 0, slots := 0, locals := 0 } (va_Pc ([.long (zl v)] : List Value) (fun _ => True)) (zR (.int (zi (f_S_sideOf v)))) 0 0 (fun _ => False) := by
  refine zh (cc := c_S_sideOf) (C := R_S) (by decide) rfl rfl (Nat.le_of_ble_eq_true rfl) ?_
  intro p e s m below meth c ls hx hb hr hlocks hml hown hname hts hl hB
  have hw : ∀ w9 ∈ zT, w9.before ([.long (zl v)] : List Value).toArray s = true := fun w9 h => hts w9 (List.mem_cons_of_mem _ h)
  obtain ⟨hl_v, hh_v⟩ := id hb_v
  generalize hq : f_S_sideOf v = r
  unfold f_S_sideOf at hq
  replace hl : lv_has ls 2 [(0, .long (zl v))] := hl
  refine lv_lload_n hx hb d_S_sideOf_0 rfl (lv_at hl 0 rfl) ?_
  refine lv_lconst (v := zl 0) hx hb d_S_sideOf_1 (by decide) ?_
  refine zr_lcmp_ge (tgt := 10) hx hb (zB.L hb_v (by decide) (by decide)) (zB.L (zb_c 0) (by decide) (by decide)) d_S_sideOf_2 d_S_sideOf_3 (by decide) (fun c_1 => ?_) (fun c_1 => ?_)
  · replace hq := (if_neg c_1).symm.trans hq
    have r_2 : zB 0 1800000000 v := ⟨(Int.not_lt.mp c_1), hb_v.2⟩
    refine lv_iconst (v := zi 1) hx hb d_S_sideOf_10 rfl ?_
    exact ze_i hx hb hr hlocks hq d_S_sideOf_11
  · replace hq := (if_pos c_1).symm.trans hq
    have r_3 : zB (-1800000000) (-1) v := ⟨hb_v.1, (Int.le_sub_one_of_lt c_1)⟩
    refine lv_iconst (v := zi 0) hx hb d_S_sideOf_6 rfl ?_
    refine lv_goto (tgt := 11) hx hb d_S_sideOf_7 (by decide) ?_
    exact ze_i hx hb hr hlocks hq d_S_sideOf_11
def f_S_isFarther (a b d : Int) : Int := if ((d * d) * b) < (a * a) then (1) else (0)
theorem bb_S_isFarther (a b d : Int) : zB 0 1 (f_S_isFarther a b d) := by
  unfold f_S_isFarther
  repeat' split
  all_goals first | exact ⟨by decide, by decide⟩  | apply bb_S_isWithin
set_option maxHeartbeats 4000000 in
set_option maxRecDepth 100000 in
theorem k_S_isFarther (l : Launch) (a b d : Int) (hb_a : zB (-1800000000) 1800000000 a) (hb_b : zB 0 1800000000 b) (hb_d : zB (-1) 1001 d) : Met l y_S_isFarther (Cond.code y_S_isFarther c_S_isFarther 6 (some .boolean) :: zT) { frames := 0, cells := 0, slots := 0, locals := 0 } (va_Pc ([.long (zl a), .long (zl b), .long (zl d)] : List Value) (fun _ => True)) (zR (.int (zi (f_S_isFarther a b d)))) 0 0 (fun _ => False) := by
  refine zh (cc := c_S_isFarther) (C := R_S) (by decide) rfl rfl (Nat.le_of_ble_eq_true rfl) ?_
  intro p e s m below meth c ls hx hb hr hlocks hml hown hname hts hl hB
  have hw : ∀ w9 ∈ zT, w9.before ([.long (zl a), .long (zl b), .long (zl d)] : List Value).toArray s = true := fun w9 h => hts w9 (List.mem_cons_of_mem _ h)
  obtain ⟨hl_a, hh_a⟩ := id hb_a
  obtain ⟨hl_b, hh_b⟩ := id hb_b
  obtain ⟨hl_d, hh_d⟩ := id hb_d
  generalize hq : f_S_isFarther a b d = r
  unfold f_S_isFarther at hq
  replace hl : lv_has ls 6 [(0, .long (zl a)), (2, .long (zl b)), (4, .long (zl d))] := hl
  refine lv_lload_n hx hb d_S_isFarther_0 rfl (lv_at hl 0 rfl) ?_
  refine lv_lload_n hx hb d_S_isFarther_1 rfl (lv_at hl 0 rfl) ?_
  have b_1 : zB 0 3240000000000000000 (a * a) := zB.w (zb_sq (A := 1800000000) (zB.w hb_a (by decide) (by decide))) (by decide) (by decide)
  refine zr_lmul hx hb d_S_isFarther_2 ?_
  refine lv_lload hx hb d_S_isFarther_3 (lv_at hl 2 rfl) ?_
  refine lv_lload hx hb d_S_isFarther_5 (lv_at hl 2 rfl) ?_
  have b_2 : zB 0 1002001 (d * d) := zB.w (zb_sq (A := 1001) (zB.w hb_d (by decide) (by decide))) (by decide) (by decide)
  refine zr_lmul hx hb d_S_isFarther_7 ?_
  refine lv_lload_n hx hb d_S_isFarther_8 rfl (lv_at hl 1 rfl) ?_
  have b_3 : zB 0 1803601800000000 ((d * d) * b) := zB.w (zb_mulq b_2 hb_b (by decide) (by decide)) (by decide) (by decide)
  refine zr_lmul hx hb d_S_isFarther_9 ?_
  refine zr_lcmp_le (tgt := 18) hx hb (zB.L b_1 (by decide) (by decide)) (zB.L b_3 (by decide) (by decide)) d_S_isFarther_10 d_S_isFarther_11 (by decide) (fun c_4 => ?_) (fun c_4 => ?_)
  · replace hq := (if_neg c_4).symm.trans hq
    refine lv_iconst (v := zi 0) hx hb d_S_isFarther_18 rfl ?_
    exact ze_z hx hb hr hlocks (zB.w (zb_c 0) (by decide) (by decide)) hq d_S_isFarther_19
  · replace hq := (if_pos c_4).symm.trans hq
    refine lv_iconst (v := zi 1) hx hb d_S_isFarther_14 rfl ?_
    refine lv_goto (tgt := 19) hx hb d_S_isFarther_15 (by decide) ?_
    exact ze_z hx hb hr hlocks (zB.w (zb_c 1) (by decide) (by decide)) hq d_S_isFarther_19
def f_S_isBankInWay (S : Nat → Int → Int) (a b d : Int) : Int := if (f_S_crossAt S a b d) = 0 then (0) else (if (S 5 ((2 * d) + (f_S_sideOf (f_S_crossAt S a b d)))) = (-1) then (0) else (if (f_S_isFarther (f_S_crossAt S a b d) (f_S_squareBetween S a b) (S 5 ((2 * d) + (f_S_sideOf (f_S_crossAt S a b d))))) = 0 then (0) else (1)))
theorem bb_S_isBankInWay (S : Nat → Int → Int) (a b d : Int) : zB 0 1 (f_S_isBankInWay S a b d) := by
  unfold f_S_isBankInWay
  repeat' split
  all_goals first | exact ⟨by decide, by decide⟩  | apply bb_S_isWithin
set_option maxHeartbeats 4000000 in
set_option maxRecDepth 100000 in
theorem k_S_isBankInWay (l : Launch) (dC : Nat → ClassId) (dI : Nat → Nat → Nat) (ad : Nat → Nat) (cI : ClassId) (S : Nat → Int → Int) (k0 k1 k2 k3 : Int) (hI : iS S) (a b d : Int) (hb_a : zB 0 59 a) (hb_b : zB 0 59 b) (hb_d : zB 0 59 d) : Met l y_S_isBankInWay (Cond.code y_S_isBankInWay c_S_isBankInWay 7 (some .boolean) :: zT) { frames := 2, cells := 0, slots := 0, locals := 45 } (va_Pc ([.ref (ad 0), .int (zi a), .int (zi b), .int (zi d)] : List Value) (zWS dC dI ad cI S k0 k1 k2 k3)) (zR (.int (zi (f_S_isBankInWay S a b d)))) 0 0 (fun _ => False) := by
  refine zh (cc := c_S_isBankInWay) (C := R_S) (by decide) rfl rfl (Nat.le_of_ble_eq_true rfl) ?_
  intro p e s m below meth c ls hx hb hr hlocks hml hown hname hts hl hB
  have hw : ∀ w9 ∈ zT, w9.before ([.ref (ad 0), .int (zi a), .int (zi b), .int (zi d)] : List Value).toArray s = true := fun w9 h => hts w9 (List.mem_cons_of_mem _ h)
  obtain ⟨hP, hK, hN⟩ := hB
  obtain ⟨hn0, hn1⟩ := id (iS_s0 hI)
  obtain ⟨hz0, hz1⟩ := id (iS_s6 hI)
  obtain ⟨hl_a, hh_a⟩ := id hb_a
  obtain ⟨hl_b, hh_b⟩ := id hb_b
  obtain ⟨hl_d, hh_d⟩ := id hb_d
  generalize hq : f_S_isBankInWay S a b d = r
  unfold f_S_isBankInWay at hq
  replace hl : lv_has ls 7 [(0, .ref (ad 0)), (1, .int (zi a)), (2, .int (zi b)), (3, .int (zi d))] := hl
  refine lv_aload_n hx hb d_S_isBankInWay_0 rfl (lv_at hl 0 rfl) ?_
  refine lv_iload_n hx hb d_S_isBankInWay_1 rfl (lv_at hl 1 rfl) ?_
  refine lv_iload_n hx hb d_S_isBankInWay_2 rfl (lv_at hl 2 rfl) ?_
  refine lv_iload_n hx hb d_S_isBankInWay_3 rfl (lv_at hl 3 rfl) ?_
  refine zc_n (va_runV (As := [.int (zi a), .int (zi b), .int (zi d)]) (rest := []) ⟨hx, hb, hml, hown, hts⟩ (k_S_crossAt l dC dI ad cI S k0 k1 k2 k3 hI a b d (zB.w hb_a (by decide) (by decide)) (zB.w hb_b (by decide) (by decide)) (zB.w hb_d (by decide) (by decide)) ) (zcV 3 hts m_128 m_1 m_126 m_127 m_379 rfl rfl q_S_crossAt ⟨Nat.le_of_ble_eq_true rfl, Nat.le_of_ble_eq_true rfl⟩) (zpS0 hP hK hN [.int (zi a), .int (zi b), .int (zi d)]) rfl rfl hl.1 rfl (lv_room (Nat.le_of_ble_eq_true rfl)) d_S_isBankInWay_4 ⟨Nat.zero_le _, Nat.zero_le _⟩) ?_
  have b_1 : zB (-1800000000) 1800000000 (f_S_crossAt S a b d) := br_S_crossAt S a b d hI (zB.w hb_a (by decide) (by decide)) (zB.w hb_b (by decide) (by decide)) (zB.w hb_d (by decide) (by decide)) 
  refine lv_lstore (lv' := [(4, .long (zl (f_S_crossAt S a b d))), (0, .ref (ad 0)), (1, .int (zi a)), (2, .int (zi b)), (3, .int (zi d))]) hx hb d_S_isBankInWay_7 hl (by decide) rfl (fun ls hl => ?_)
  refine lv_lload hx hb d_S_isBankInWay_9 (lv_at hl 0 rfl) ?_
  refine lv_lconst (v := zl 0) hx hb d_S_isBankInWay_11 (by decide) ?_
  refine zr_lcmp_ne (tgt := 18) hx hb (zB.L b_1 (by decide) (by decide)) (zB.L (zb_c 0) (by decide) (by decide)) d_S_isBankInWay_12 d_S_isBankInWay_13 (by decide) (fun c_2 => ?_) (fun c_2 => ?_)
  · replace hq := (if_neg c_2).symm.trans hq
    refine lv_aload_n hx hb d_S_isBankInWay_18 rfl (lv_at hl 1 rfl) ?_
    refine va_get (D := (dC, dI)) (ci := 1) (v := .ref (ad 6)) (C := R_S) (T := T_S) (N := 13) hx hb hw i_S hown hK hP 0 rfl rfl 5 (by decide) (hw _ m_36) (fun _ h9 => h9) rfl d_S_isBankInWay_19 ?_
    refine lv_iconst (v := zi 2) hx hb d_S_isBankInWay_22 rfl ?_
    refine lv_iload_n hx hb d_S_isBankInWay_23 rfl (lv_at hl 4 rfl) ?_
    have b_3 : zB 0 118 (2 * d) := zB.w (zb_mulq (zb_c 2) hb_d (by decide) (by decide)) (by decide) (by decide)
    refine zr_imul hx hb d_S_isBankInWay_24 ?_
    refine lv_lload hx hb d_S_isBankInWay_25 (lv_at hl 0 rfl) ?_
    refine zc_n (va_runS (As := [.long (zl (f_S_crossAt S a b d))]) (rest := [.int (zi (2 * d)), .ref (ad 6)]) ⟨hx, hb, hml, hown, hts⟩ (k_S_sideOf l (f_S_crossAt S a b d) (zB.w b_1 (by decide) (by decide)) ) (zcS 1 hts m_131 m_1 m_129 m_130 rfl rfl q_S_sideOf ⟨Nat.le_of_ble_eq_true rfl, Nat.le_of_ble_eq_true rfl⟩) (zp0 [.long (zl (f_S_crossAt S a b d))]) rfl rfl hl.1 rfl (lv_room (Nat.le_of_ble_eq_true rfl)) d_S_isBankInWay_27 ⟨Nat.zero_le _, Nat.zero_le _⟩) ?_
    have b_4 : zB 0 1 (f_S_sideOf (f_S_crossAt S a b d)) := br_S_sideOf (f_S_crossAt S a b d) (zB.w b_1 (by decide) (by decide)) 
    obtain ⟨hl_b_4, hh_b_4⟩ := id b_4
    have b_5 : zB 0 119 ((2 * d) + (f_S_sideOf (f_S_crossAt S a b d))) := zB.w (zb_add b_3 b_4) (by decide) (by decide)
    refine zr_iadd hx hb d_S_isBankInWay_30 ?_
    refine zr_iald hx hb hK hP 6 0 (cA := cI) (n := 120) (g := S 5) rfl rfl (i := (2 * d) + (f_S_sideOf (f_S_crossAt S a b d))) (by omega) (by omega) (by decide) d_S_isBankInWay_31 ?_
    refine lv_istore (lv' := [(6, .int (zi (S 5 ((2 * d) + (f_S_sideOf (f_S_crossAt S a b d)))))), (4, .long (zl (f_S_crossAt S a b d))), (0, .ref (ad 0)), (1, .int (zi a)), (2, .int (zi b)), (3, .int (zi d))]) hx hb d_S_isBankInWay_32 hl (by decide) rfl (fun ls hl => ?_)
    refine lv_iload hx hb d_S_isBankInWay_34 (lv_at hl 0 rfl) ?_
    refine lv_iconst (v := zi (-1)) hx hb d_S_isBankInWay_36 rfl ?_
    refine zr_icmp_eq (tgt := 61) hx hb (zB.I (iS_a5 hI ((2 * d) + (f_S_sideOf (f_S_crossAt S a b d)))) (by decide) (by decide)) (zB.I (zb_c (-1)) (by decide) (by decide)) d_S_isBankInWay_37 (by decide) (fun c_6 => ?_) (fun c_6 => ?_)
    · replace hq := (if_pos c_6).symm.trans hq
      have r_7 : zB (-1) (-1) (S 5 ((2 * d) + (f_S_sideOf (f_S_crossAt S a b d)))) := ⟨(Int.le_of_eq c_6.symm), (Int.le_of_eq c_6)⟩
      refine lv_iconst (v := zi 0) hx hb d_S_isBankInWay_61 rfl ?_
      exact ze_z hx hb hr hlocks (zB.w (zb_c 0) (by decide) (by decide)) hq d_S_isBankInWay_62
    · replace hq := (if_neg c_6).symm.trans hq
      have r_8 : zB 0 1000 (S 5 ((2 * d) + (f_S_sideOf (f_S_crossAt S a b d)))) := ⟨(by have := (iS_a5 hI ((2 * d) + (f_S_sideOf (f_S_crossAt S a b d)))).1; omega), (iS_a5 hI ((2 * d) + (f_S_sideOf (f_S_crossAt S a b d)))).2⟩
      refine lv_lload hx hb d_S_isBankInWay_40 (lv_at hl 1 rfl) ?_
      refine lv_aload_n hx hb d_S_isBankInWay_42 rfl (lv_at hl 2 rfl) ?_
      refine lv_iload_n hx hb d_S_isBankInWay_43 rfl (lv_at hl 3 rfl) ?_
      refine lv_iload_n hx hb d_S_isBankInWay_44 rfl (lv_at hl 4 rfl) ?_
      refine zc_n (va_runV (As := [.int (zi a), .int (zi b)]) (rest := [.long (zl (f_S_crossAt S a b d))]) ⟨hx, hb, hml, hown, hts⟩ (k_S_squareBetween l dC dI ad cI S k0 k1 k2 k3 hI a b (zB.w hb_a (by decide) (by decide)) (zB.w hb_b (by decide) (by decide)) ) (zcV 2 hts m_64 m_1 m_62 m_63 m_373 rfl rfl q_S_squareBetween ⟨Nat.le_of_ble_eq_true rfl, Nat.le_of_ble_eq_true rfl⟩) (zpS0 hP hK hN [.int (zi a), .int (zi b)]) rfl rfl hl.1 rfl (lv_room (Nat.le_of_ble_eq_true rfl)) d_S_isBankInWay_45 ⟨Nat.zero_le _, Nat.zero_le _⟩) ?_
      have b_9 : zB 0 1800000000 (f_S_squareBetween S a b) := br_S_squareBetween S a b hI (zB.w hb_a (by decide) (by decide)) (zB.w hb_b (by decide) (by decide)) 
      refine lv_iload hx hb d_S_isBankInWay_48 (lv_at hl 0 rfl) ?_
      refine zr_i2l hx hb (zB.I r_8 (by decide) (by decide)) d_S_isBankInWay_50 ?_
      refine zc_n (va_runS (As := [.long (zl (f_S_crossAt S a b d)), .long (zl (f_S_squareBetween S a b)), .long (zl (S 5 ((2 * d) + (f_S_sideOf (f_S_crossAt S a b d)))))]) (rest := []) ⟨hx, hb, hml, hown, hts⟩ (k_S_isFarther l (f_S_crossAt S a b d) (f_S_squareBetween S a b) (S 5 ((2 * d) + (f_S_sideOf (f_S_crossAt S a b d)))) (zB.w b_1 (by decide) (by decide)) (zB.w b_9 (by decide) (by decide)) (zB.w r_8 (by decide) (by decide)) ) (zcS 3 hts m_134 m_1 m_132 m_133 rfl rfl q_S_isFarther ⟨Nat.le_of_ble_eq_true rfl, Nat.le_of_ble_eq_true rfl⟩) (zp0 [.long (zl (f_S_crossAt S a b d)), .long (zl (f_S_squareBetween S a b)), .long (zl (S 5 ((2 * d) + (f_S_sideOf (f_S_crossAt S a b d)))))]) rfl rfl hl.1 rfl (lv_room (Nat.le_of_ble_eq_true rfl)) d_S_isBankInWay_51 ⟨Nat.zero_le _, Nat.zero_le _⟩) ?_
      refine zr_if_eq (tgt := 61) hx hb (zB.I (bb_S_isFarther (f_S_crossAt S a b d) (f_S_squareBetween S a b) (S 5 ((2 * d) + (f_S_sideOf (f_S_crossAt S a b d))))) (by decide) (by decide)) d_S_isBankInWay_54 (by decide) (fun c_10 => ?_) (fun c_10 => ?_)
      · replace hq := (if_pos c_10).symm.trans hq
        have r_11 : zB 0 0 (f_S_isFarther (f_S_crossAt S a b d) (f_S_squareBetween S a b) (S 5 ((2 * d) + (f_S_sideOf (f_S_crossAt S a b d))))) := ⟨(Int.le_of_eq c_10.symm), (Int.le_of_eq c_10)⟩
        refine lv_iconst (v := zi 0) hx hb d_S_isBankInWay_61 rfl ?_
        exact ze_z hx hb hr hlocks (zB.w (zb_c 0) (by decide) (by decide)) hq d_S_isBankInWay_62
      · replace hq := (if_neg c_10).symm.trans hq
        have r_12 : zB 1 1 (f_S_isFarther (f_S_crossAt S a b d) (f_S_squareBetween S a b) (S 5 ((2 * d) + (f_S_sideOf (f_S_crossAt S a b d))))) := ⟨(by have := (bb_S_isFarther (f_S_crossAt S a b d) (f_S_squareBetween S a b) (S 5 ((2 * d) + (f_S_sideOf (f_S_crossAt S a b d))))).1; omega), (bb_S_isFarther (f_S_crossAt S a b d) (f_S_squareBetween S a b) (S 5 ((2 * d) + (f_S_sideOf (f_S_crossAt S a b d))))).2⟩
        refine lv_iconst (v := zi 1) hx hb d_S_isBankInWay_57 rfl ?_
        refine lv_goto (tgt := 62) hx hb d_S_isBankInWay_58 (by decide) ?_
        exact ze_z hx hb hr hlocks (zB.w (zb_c 1) (by decide) (by decide)) hq d_S_isBankInWay_62
  · replace hq := (if_pos c_2).symm.trans hq
    have r_13 : zB 0 0 (f_S_crossAt S a b d) := ⟨(Int.le_of_eq c_2.symm), (Int.le_of_eq c_2)⟩
    refine lv_iconst (v := zi 0) hx hb d_S_isBankInWay_16 rfl ?_
    exact ze_z hx hb hr hlocks (zB.w (zb_c 0) (by decide) (by decide)) hq d_S_isBankInWay_17
def f_S_widened_l (S : Nat → Int → Int) (w : Int) (a : Int) (b : Int) (d : Int) (v : Int) (z : Int → Int) : Nat → Int → Int
  | 0, _ => 0
  | k + 1, t => if 1000 < t then (z t) else (if (f_S_isFarther (f_S_crossAt S a b d) (f_S_squareBetween S a b) t) = 0 then (z t) else (f_S_widened_l S w a b d v z k (t + 1)))
theorem f_S_widened_l_s (S : Nat → Int → Int) (w : Int) (a : Int) (b : Int) (d : Int) (v : Int) (z : Int → Int) (k : Nat) (t : Int) : f_S_widened_l S w a b d v z (k + 1) t = (if 1000 < t then (z t) else (if (f_S_isFarther (f_S_crossAt S a b d) (f_S_squareBetween S a b) t) = 0 then (z t) else (f_S_widened_l S w a b d v z k (t + 1)))) := rfl
def f_S_widened (S : Nat → Int → Int) (w a b d v : Int) : Int := if (f_S_crossAt S a b d) = 0 then (w) else (if (f_S_sideOf (f_S_crossAt S a b d)) = v then (f_S_widened_l S w a b d v (fun t => t) 1003 w) else (w))
theorem br_S_widened (S : Nat → Int → Int) (w a b d v : Int) (_ : iS S) (hw : zB 0 1001 w) (_ : zB 0 59 a) (_ : zB 0 59 b) (_ : zB 0 59 d) (_ : zB 0 1 v) : zB 0 1001 (f_S_widened S w a b d v) := by
  have key : ∀ (k : Nat) (t : Int), zB 0 1001 t → zB 0 1001 (f_S_widened_l S w a b d v (fun t => t) k t) := by
    intro k
    induction k with
    | zero => intro t h; show zB 0 1001 0; exact ⟨by decide, by decide⟩
    | succ k ih =>
      intro t h
      obtain ⟨h1, h2⟩ := id h
      rw [f_S_widened_l_s]
      repeat' split
      all_goals first | exact h | exact ih _ ⟨by omega, by omega⟩
  unfold f_S_widened
  repeat' split
  all_goals first | exact hw | exact key _ _ hw
set_option maxHeartbeats 4000000 in
set_option maxRecDepth 100000 in
theorem k_S_widened (l : Launch) (dC : Nat → ClassId) (dI : Nat → Nat → Nat) (ad : Nat → Nat) (cI : ClassId) (S : Nat → Int → Int) (k0 k1 k2 k3 : Int) (hI : iS S) (w a b d v : Int) (hb_w : zB 0 1001 w) (hb_a : zB 0 59 a) (hb_b : zB 0 59 b) (hb_d : zB 0 59 d) (hb_v : zB 0 1 v) : Met l y_S_widened (Cond.code y_S_widened c_S_widened 11 (some .int) :: zT) { frames := 2, cells := 0, slots := 0, locals := 45 } (va_Pc ([.ref (ad 0), .int (zi w), .int (zi a), .int (zi b), .int (zi d), .int (zi v)] : List Value) (zWS dC dI ad cI S k0 k1 k2 k3)) (zR (.int (zi (f_S_widened S w a b d v)))) 0 0 (fun _ => False) := by
  refine zh (cc := c_S_widened) (C := R_S) (by decide) rfl rfl (Nat.le_of_ble_eq_true rfl) ?_
  intro p e s m below meth c ls hx hb hr hlocks hml hown hname hts hl hB
  have hw : ∀ w9 ∈ zT, w9.before ([.ref (ad 0), .int (zi w), .int (zi a), .int (zi b), .int (zi d), .int (zi v)] : List Value).toArray s = true := fun w9 h => hts w9 (List.mem_cons_of_mem _ h)
  obtain ⟨hP, hK, hN⟩ := hB
  obtain ⟨hn0, hn1⟩ := id (iS_s0 hI)
  obtain ⟨hz0, hz1⟩ := id (iS_s6 hI)
  obtain ⟨hl_w, hh_w⟩ := id hb_w
  obtain ⟨hl_a, hh_a⟩ := id hb_a
  obtain ⟨hl_b, hh_b⟩ := id hb_b
  obtain ⟨hl_d, hh_d⟩ := id hb_d
  obtain ⟨hl_v, hh_v⟩ := id hb_v
  generalize hq : f_S_widened S w a b d v = r
  unfold f_S_widened at hq
  replace hl : lv_has ls 11 [(0, .ref (ad 0)), (1, .int (zi w)), (2, .int (zi a)), (3, .int (zi b)), (4, .int (zi d)), (5, .int (zi v))] := hl
  refine lv_aload_n hx hb d_S_widened_0 rfl (lv_at hl 0 rfl) ?_
  refine lv_iload_n hx hb d_S_widened_1 rfl (lv_at hl 2 rfl) ?_
  refine lv_iload_n hx hb d_S_widened_2 rfl (lv_at hl 3 rfl) ?_
  refine lv_iload hx hb d_S_widened_3 (lv_at hl 4 rfl) ?_
  refine zc_n (va_runV (As := [.int (zi a), .int (zi b), .int (zi d)]) (rest := []) ⟨hx, hb, hml, hown, hts⟩ (k_S_crossAt l dC dI ad cI S k0 k1 k2 k3 hI a b d (zB.w hb_a (by decide) (by decide)) (zB.w hb_b (by decide) (by decide)) (zB.w hb_d (by decide) (by decide)) ) (zcV 3 hts m_128 m_1 m_126 m_127 m_379 rfl rfl q_S_crossAt ⟨Nat.le_of_ble_eq_true rfl, Nat.le_of_ble_eq_true rfl⟩) (zpS0 hP hK hN [.int (zi a), .int (zi b), .int (zi d)]) rfl rfl hl.1 rfl (lv_room (Nat.le_of_ble_eq_true rfl)) d_S_widened_5 ⟨Nat.zero_le _, Nat.zero_le _⟩) ?_
  have b_1 : zB (-1800000000) 1800000000 (f_S_crossAt S a b d) := br_S_crossAt S a b d hI (zB.w hb_a (by decide) (by decide)) (zB.w hb_b (by decide) (by decide)) (zB.w hb_d (by decide) (by decide)) 
  refine lv_lstore (lv' := [(6, .long (zl (f_S_crossAt S a b d))), (0, .ref (ad 0)), (1, .int (zi w)), (2, .int (zi a)), (3, .int (zi b)), (4, .int (zi d)), (5, .int (zi v))]) hx hb d_S_widened_8 hl (by decide) rfl (fun ls hl => ?_)
  refine lv_lload hx hb d_S_widened_10 (lv_at hl 0 rfl) ?_
  refine lv_lconst (v := zl 0) hx hb d_S_widened_12 (by decide) ?_
  refine zr_lcmp_eq (tgt := 27) hx hb (zB.L b_1 (by decide) (by decide)) (zB.L (zb_c 0) (by decide) (by decide)) d_S_widened_13 d_S_widened_14 (by decide) (fun c_2 => ?_) (fun c_2 => ?_)
  · replace hq := (if_pos c_2).symm.trans hq
    have r_3 : zB 0 0 (f_S_crossAt S a b d) := ⟨(Int.le_of_eq c_2.symm), (Int.le_of_eq c_2)⟩
    refine lv_iload_n hx hb d_S_widened_27 rfl (lv_at hl 2 rfl) ?_
    exact ze_i hx hb hr hlocks hq d_S_widened_28
  · replace hq := (if_neg c_2).symm.trans hq
    refine lv_lload hx hb d_S_widened_17 (lv_at hl 0 rfl) ?_
    refine zc_n (va_runS (As := [.long (zl (f_S_crossAt S a b d))]) (rest := []) ⟨hx, hb, hml, hown, hts⟩ (k_S_sideOf l (f_S_crossAt S a b d) (zB.w b_1 (by decide) (by decide)) ) (zcS 1 hts m_131 m_1 m_129 m_130 rfl rfl q_S_sideOf ⟨Nat.le_of_ble_eq_true rfl, Nat.le_of_ble_eq_true rfl⟩) (zp0 [.long (zl (f_S_crossAt S a b d))]) rfl rfl hl.1 rfl (lv_room (Nat.le_of_ble_eq_true rfl)) d_S_widened_19 ⟨Nat.zero_le _, Nat.zero_le _⟩) ?_
    have b_4 : zB 0 1 (f_S_sideOf (f_S_crossAt S a b d)) := br_S_sideOf (f_S_crossAt S a b d) (zB.w b_1 (by decide) (by decide)) 
    obtain ⟨hl_b_4, hh_b_4⟩ := id b_4
    refine lv_iload hx hb d_S_widened_22 (lv_at hl 6 rfl) ?_
    refine zr_icmp_eq (tgt := 29) hx hb (zB.I b_4 (by decide) (by decide)) (zB.I hb_v (by decide) (by decide)) d_S_widened_24 (by decide) (fun c_5 => ?_) (fun c_5 => ?_)
    · replace hq := (if_pos c_5).symm.trans hq
      refine lv_aload_n hx hb d_S_widened_29 rfl (lv_at hl 1 rfl) ?_
      refine lv_iload_n hx hb d_S_widened_30 rfl (lv_at hl 3 rfl) ?_
      refine lv_iload_n hx hb d_S_widened_31 rfl (lv_at hl 4 rfl) ?_
      refine zc_n (va_runV (As := [.int (zi a), .int (zi b)]) (rest := []) ⟨hx, hb, hml, hown, hts⟩ (k_S_squareBetween l dC dI ad cI S k0 k1 k2 k3 hI a b (zB.w hb_a (by decide) (by decide)) (zB.w hb_b (by decide) (by decide)) ) (zcV 2 hts m_64 m_1 m_62 m_63 m_373 rfl rfl q_S_squareBetween ⟨Nat.le_of_ble_eq_true rfl, Nat.le_of_ble_eq_true rfl⟩) (zpS0 hP hK hN [.int (zi a), .int (zi b)]) rfl rfl hl.1 rfl (lv_room (Nat.le_of_ble_eq_true rfl)) d_S_widened_32 ⟨Nat.zero_le _, Nat.zero_le _⟩) ?_
      have b_6 : zB 0 1800000000 (f_S_squareBetween S a b) := br_S_squareBetween S a b hI (zB.w hb_a (by decide) (by decide)) (zB.w hb_b (by decide) (by decide)) 
      refine lv_lstore (lv' := [(8, .long (zl (f_S_squareBetween S a b))), (6, .long (zl (f_S_crossAt S a b d))), (0, .ref (ad 0)), (1, .int (zi w)), (2, .int (zi a)), (3, .int (zi b)), (4, .int (zi d)), (5, .int (zi v))]) hx hb d_S_widened_35 hl (by decide) rfl (fun ls hl => ?_)
      refine lv_iload_n hx hb d_S_widened_37 rfl (lv_at hl 3 rfl) ?_
      refine lv_istore (lv' := [(10, .int (zi w)), (8, .long (zl (f_S_squareBetween S a b))), (6, .long (zl (f_S_crossAt S a b d))), (0, .ref (ad 0)), (1, .int (zi w)), (2, .int (zi a)), (3, .int (zi b)), (4, .int (zi d)), (5, .int (zi v))]) hx hb d_S_widened_38 hl (by decide) rfl (fun ls hl => ?_)
      have L_l : ∀ (z : Int → Int), (∀ (t : Int), zB 0 1001 t → ∀ (ls : Array Slot), z t = r → lv_has ls 11 [(0, .ref (ad 0)), (1, .int (zi w)), (2, .int (zi a)), (3, .int (zi b)), (4, .int (zi d)), (5, .int (zi v)), (6, .long (zl (f_S_crossAt S a b d))), (8, .long (zl (f_S_squareBetween S a b))), (10, .int (zi t))] → W p l e { frames := 2, cells := 0, slots := 0, locals := 45 } s m ([.ref (ad 0), .int (zi w), .int (zi a), .int (zi b), .int (zi d), .int (zi v)] : List Value).toArray below meth c s.heap [] 0 0 (MQ below (zR (.int (zi r))) ([.ref (ad 0), .int (zi w), .int (zi a), .int (zi b), .int (zi d), .int (zi v)] : List Value).toArray s 0 0 (fun _ => False)) (F0 m 67 ls [])) → ∀ (k : Nat) (t : Int) (ls : Array Slot), zB 0 1001 t → 1002 - t < (k : Int) → f_S_widened_l S w a b d v z k t = r → lv_has ls 11 [(0, .ref (ad 0)), (1, .int (zi w)), (2, .int (zi a)), (3, .int (zi b)), (4, .int (zi d)), (5, .int (zi v)), (6, .long (zl (f_S_crossAt S a b d))), (8, .long (zl (f_S_squareBetween S a b))), (10, .int (zi t))] → W p l e { frames := 2, cells := 0, slots := 0, locals := 45 } s m ([.ref (ad 0), .int (zi w), .int (zi a), .int (zi b), .int (zi d), .int (zi v)] : List Value).toArray below meth c s.heap [] 0 0 (MQ below (zR (.int (zi r))) ([.ref (ad 0), .int (zi w), .int (zi a), .int (zi b), .int (zi d), .int (zi v)] : List Value).toArray s 0 0 (fun _ => False)) (F0 m 40 ls []) := by
        intro z hz k
        induction k with
        | zero =>
          intro t ls hb_t  hk hq hl
          exact absurd hk (by have := hb_t.1; have := hb_t.2; omega)
        | succ k ih =>
          intro t ls hb_t  hk hq hl
          obtain ⟨hl_t, hh_t⟩ := id hb_t
          replace hq := (f_S_widened_l_s S w a b d v z k t).symm.trans hq
          refine lv_iload hx hb d_S_widened_40 (lv_at hl 8 rfl) ?_
          refine lv_sipush (v := zi 1000) hx hb d_S_widened_42 (by decide) ?_
          refine zr_icmp_gt (tgt := 67) hx hb (zB.I hb_t (by decide) (by decide)) (zB.I (zb_c 1000) (by decide) (by decide)) d_S_widened_45 (by decide) (fun c_7 => ?_) (fun c_7 => ?_)
          · replace hq := (if_pos c_7).symm.trans hq
            have r_8 : zB 1001 1001 t := ⟨(Int.add_one_le_of_lt c_7), hb_t.2⟩
            exact hz t (zB.w r_8 (by decide) (by decide)) ls hq (lv_sub hl [0, 1, 2, 3, 4, 5, 6, 7, 8] rfl)
          · replace hq := (if_neg c_7).symm.trans hq
            have r_9 : zB 0 1000 t := ⟨hb_t.1, (Int.not_lt.mp c_7)⟩
            refine lv_lload hx hb d_S_widened_48 (lv_at hl 6 rfl) ?_
            refine lv_lload hx hb d_S_widened_50 (lv_at hl 7 rfl) ?_
            refine lv_iload hx hb d_S_widened_52 (lv_at hl 8 rfl) ?_
            refine zr_i2l hx hb (zB.I r_9 (by decide) (by decide)) d_S_widened_54 ?_
            refine zc_n (va_runS (As := [.long (zl (f_S_crossAt S a b d)), .long (zl (f_S_squareBetween S a b)), .long (zl t)]) (rest := []) ⟨hx, hb, hml, hown, hts⟩ (k_S_isFarther l (f_S_crossAt S a b d) (f_S_squareBetween S a b) t (zB.w b_1 (by decide) (by decide)) (zB.w b_6 (by decide) (by decide)) (zB.w r_9 (by decide) (by decide)) ) (zcS 3 hts m_134 m_1 m_132 m_133 rfl rfl q_S_isFarther ⟨Nat.le_of_ble_eq_true rfl, Nat.le_of_ble_eq_true rfl⟩) (zp0 [.long (zl (f_S_crossAt S a b d)), .long (zl (f_S_squareBetween S a b)), .long (zl t)]) rfl rfl hl.1 rfl (lv_room (Nat.le_of_ble_eq_true rfl)) d_S_widened_55 ⟨Nat.zero_le _, Nat.zero_le _⟩) ?_
            refine zr_if_eq (tgt := 67) hx hb (zB.I (bb_S_isFarther (f_S_crossAt S a b d) (f_S_squareBetween S a b) t) (by decide) (by decide)) d_S_widened_58 (by decide) (fun c_10 => ?_) (fun c_10 => ?_)
            · replace hq := (if_pos c_10).symm.trans hq
              have r_11 : zB 0 0 (f_S_isFarther (f_S_crossAt S a b d) (f_S_squareBetween S a b) t) := ⟨(Int.le_of_eq c_10.symm), (Int.le_of_eq c_10)⟩
              exact hz t (zB.w r_9 (by decide) (by decide)) ls hq (lv_sub hl [0, 1, 2, 3, 4, 5, 6, 7, 8] rfl)
            · replace hq := (if_neg c_10).symm.trans hq
              have r_12 : zB 1 1 (f_S_isFarther (f_S_crossAt S a b d) (f_S_squareBetween S a b) t) := ⟨(by have := (bb_S_isFarther (f_S_crossAt S a b d) (f_S_squareBetween S a b) t).1; omega), (bb_S_isFarther (f_S_crossAt S a b d) (f_S_squareBetween S a b) t).2⟩
              have b_13 : zB 1 1001 (t + 1) := zB.w (zb_add r_9 (zb_c 1)) (by decide) (by decide)
              refine lv_iinc (v := zi (t + 1)) (lv' := [(10, .int (zi (t + 1))), (0, .ref (ad 0)), (1, .int (zi w)), (2, .int (zi a)), (3, .int (zi b)), (4, .int (zi d)), (5, .int (zi v)), (6, .long (zl (f_S_crossAt S a b d))), (8, .long (zl (f_S_squareBetween S a b)))]) hx hb d_S_widened_61 hl (k := 8) rfl (zi_add _ _) (by decide) rfl (fun ls hl => ?_)
              refine lv_goto (tgt := 40) hx hb d_S_widened_64 (by decide) ?_
              exact ih (t + 1) ls (zB.w b_13 (by decide) (by decide))  (by omega) hq (lv_sub hl [1, 2, 3, 4, 5, 6, 7, 8, 0] rfl)
      refine L_l _ (fun t hb_t ls hq hl => ?_) 1003 w ls (zB.w hb_w (by decide) (by decide))  (by omega) hq (lv_sub hl [3, 4, 5, 6, 7, 8, 2, 1, 0] rfl)
      obtain ⟨hl_t, hh_t⟩ := id hb_t
      refine lv_iload hx hb d_S_widened_67 (lv_at hl 8 rfl) ?_
      exact ze_i hx hb hr hlocks hq d_S_widened_69
    · replace hq := (if_neg c_5).symm.trans hq
      refine lv_iload_n hx hb d_S_widened_27 rfl (lv_at hl 2 rfl) ?_
      exact ze_i hx hb hr hlocks hq d_S_widened_28
def f_S_slopeBeyond (S : Nat → Int → Int) (a v : Int) : Int := if v = 0 then (if (f_S_isStation S (a + 1)) = 0 then (0) else (if (zabs ((S 3 (a + 1)) - (S 3 a))) = 0 then (0) else (Int.tdiv (981 * ((S 2 (a + 1)) - (S 2 a))) (10 * (zabs ((S 3 (a + 1)) - (S 3 a))))))) else (if (f_S_isStation S (a - 1)) = 0 then (0) else (if (zabs ((S 3 (a - 1)) - (S 3 a))) = 0 then (0) else (Int.tdiv (981 * ((S 2 (a - 1)) - (S 2 a))) (10 * (zabs ((S 3 (a - 1)) - (S 3 a)))))))
theorem br_S_slopeBeyond (S : Nat → Int → Int) (a v : Int) (hI : iS S) (_ : zB 0 59 a) (_ : zB 0 1 v) : zB (-196200000) 196200000 (f_S_slopeBeyond S a v) := by
  have key : ∀ i j x : Int, zB (-196200000) 196200000 (Int.tdiv (981 * (S 2 i - S 2 j)) x) := fun i j x => zb_tdiv (zB.w (zb_mul (A := 981) (B := 200000) ⟨by decide, by decide⟩ (zB.w (zb_sub (iS_a2 hI i) (iS_a2 hI j)) (by decide) (by decide))) (by decide) (by decide))
  unfold f_S_slopeBeyond
  repeat' split
  all_goals first | exact ⟨by decide, by decide⟩ | exact key _ _ _
set_option maxHeartbeats 4000000 in
set_option maxRecDepth 100000 in
theorem k_S_slopeBeyond (l : Launch) (dC : Nat → ClassId) (dI : Nat → Nat → Nat) (ad : Nat → Nat) (cI : ClassId) (S : Nat → Int → Int) (k0 k1 k2 k3 : Int) (hI : iS S) (a v : Int) (hb_a : zB 0 59 a) (hb_v : zB 0 1 v) : Met l y_S_slopeBeyond (Cond.code y_S_slopeBeyond c_S_slopeBeyond 6 (some .long) :: zT) { frames := 1, cells := 0, slots := 0, locals := 21 } (va_Pc ([.ref (ad 0), .int (zi a), .int (zi v)] : List Value) (zWS dC dI ad cI S k0 k1 k2 k3)) (zR (.long (zl (f_S_slopeBeyond S a v)))) 0 0 (fun _ => False) := by
  refine zh (cc := c_S_slopeBeyond) (C := R_S) (by decide) rfl rfl (Nat.le_of_ble_eq_true rfl) ?_
  intro p e s m below meth c ls hx hb hr hlocks hml hown hname hts hl hB
  have hw : ∀ w9 ∈ zT, w9.before ([.ref (ad 0), .int (zi a), .int (zi v)] : List Value).toArray s = true := fun w9 h => hts w9 (List.mem_cons_of_mem _ h)
  obtain ⟨hP, hK, hN⟩ := hB
  obtain ⟨hn0, hn1⟩ := id (iS_s0 hI)
  obtain ⟨hz0, hz1⟩ := id (iS_s6 hI)
  obtain ⟨hl_a, hh_a⟩ := id hb_a
  obtain ⟨hl_v, hh_v⟩ := id hb_v
  generalize hq : f_S_slopeBeyond S a v = r
  unfold f_S_slopeBeyond at hq
  replace hl : lv_has ls 6 [(0, .ref (ad 0)), (1, .int (zi a)), (2, .int (zi v))] := hl
  refine lv_iload_n hx hb d_S_slopeBeyond_0 rfl (lv_at hl 2 rfl) ?_
  refine zr_if_eq (tgt := 10) hx hb (zB.I hb_v (by decide) (by decide)) d_S_slopeBeyond_1 (by decide) (fun c_1 => ?_) (fun c_1 => ?_)
  · replace hq := (if_pos c_1).symm.trans hq
    have r_2 : zB 0 0 v := ⟨(Int.le_of_eq c_1.symm), (Int.le_of_eq c_1)⟩
    refine lv_iload_n hx hb d_S_slopeBeyond_10 rfl (lv_at hl 1 rfl) ?_
    refine lv_iconst (v := zi 1) hx hb d_S_slopeBeyond_11 rfl ?_
    have b_3 : zB 1 60 (a + 1) := zB.w (zb_add hb_a (zb_c 1)) (by decide) (by decide)
    refine zr_iadd hx hb d_S_slopeBeyond_12 ?_
    refine lv_istore_n (lv' := [(3, .int (zi (a + 1))), (0, .ref (ad 0)), (1, .int (zi a)), (2, .int (zi v))]) hx hb d_S_slopeBeyond_13 rfl hl (by decide) rfl (fun ls hl => ?_)
    refine lv_aload_n hx hb d_S_slopeBeyond_14 rfl (lv_at hl 1 rfl) ?_
    refine lv_iload_n hx hb d_S_slopeBeyond_15 rfl (lv_at hl 0 rfl) ?_
    refine zc_n (va_runV (As := [.int (zi (a + 1))]) (rest := []) ⟨hx, hb, hml, hown, hts⟩ (k_S_isStation l dC dI ad cI S k0 k1 k2 k3 hI (a + 1) (zB.w b_3 (by decide) (by decide)) ) (zcV 1 hts m_84 m_1 m_82 m_83 m_374 rfl rfl q_S_isStation ⟨Nat.le_of_ble_eq_true rfl, Nat.le_of_ble_eq_true rfl⟩) (zpS0 hP hK hN [.int (zi (a + 1))]) rfl rfl hl.1 rfl (lv_room (Nat.le_of_ble_eq_true rfl)) d_S_slopeBeyond_16 ⟨Nat.zero_le _, Nat.zero_le _⟩) ?_
    refine zr_if_ne (tgt := 24) hx hb (zB.I (bb_S_isStation S (a + 1)) (by decide) (by decide)) d_S_slopeBeyond_19 (by decide) (fun c_4 => ?_) (fun c_4 => ?_)
    · replace hq := (if_neg c_4).symm.trans hq
      have r_5 : zB 1 1 (f_S_isStation S (a + 1)) := ⟨(by have := (bb_S_isStation S (a + 1)).1; omega), (bb_S_isStation S (a + 1)).2⟩
      have g_6 := gf_S_isStation hI c_4
      obtain ⟨g_6l, g_6h⟩ := id g_6.1
      have g_6n := g_6.2
      refine lv_aload_n hx hb d_S_slopeBeyond_24 rfl (lv_at hl 1 rfl) ?_
      refine va_get (D := (dC, dI)) (ci := 1) (v := .ref (ad 4)) (C := R_S) (T := T_S) (N := 13) hx hb hw i_S hown hK hP 0 rfl rfl 3 (by decide) (hw _ m_34) (fun _ h9 => h9) rfl d_S_slopeBeyond_25 ?_
      refine lv_iload_n hx hb d_S_slopeBeyond_28 rfl (lv_at hl 0 rfl) ?_
      refine zr_iald hx hb hK hP 4 0 (cA := cI) (n := 60) (g := S 3) rfl rfl (i := a + 1) (by omega) (by omega) (by decide) d_S_slopeBeyond_29 ?_
      refine lv_aload_n hx hb d_S_slopeBeyond_30 rfl (lv_at hl 1 rfl) ?_
      refine va_get (D := (dC, dI)) (ci := 1) (v := .ref (ad 4)) (C := R_S) (T := T_S) (N := 13) hx hb hw i_S hown hK hP 0 rfl rfl 3 (by decide) (hw _ m_34) (fun _ h9 => h9) rfl d_S_slopeBeyond_31 ?_
      refine lv_iload_n hx hb d_S_slopeBeyond_34 rfl (lv_at hl 2 rfl) ?_
      refine zr_iald hx hb hK hP 4 0 (cA := cI) (n := 60) (g := S 3) rfl rfl (i := a) (by omega) (by omega) (by decide) d_S_slopeBeyond_35 ?_
      have b_7 : zB (-2545620) 2545620 ((S 3 (a + 1)) - (S 3 a)) := zB.w (zb_sub (iS_a3 hI (a + 1)) (iS_a3 hI a)) (by decide) (by decide)
      refine zr_isub hx hb d_S_slopeBeyond_36 ?_
      refine zr_abs hx hb (hml.trans hl.1.symm) hown (hw _ m_120) (hw _ m_121) (hw _ m_4) (hw _ m_122) (Nat.le_of_ble_eq_true rfl) (Nat.le_of_ble_eq_true rfl) (Nat.zero_le _) (Nat.zero_le _) (zB.I b_7 (by decide) (by decide)) d_S_slopeBeyond_37 ?_
      have b_8 : zB 0 2545620 (zabs ((S 3 (a + 1)) - (S 3 a))) := zB.w (zb_zabs (A := 2545620) (zB.w b_7 (by decide) (by decide))) (by decide) (by decide)
      obtain ⟨hl_b_8, hh_b_8⟩ := id b_8
      refine zr_i2l hx hb (zB.I b_8 (by decide) (by decide)) d_S_slopeBeyond_40 ?_
      refine lv_lstore (lv' := [(4, .long (zl (zabs ((S 3 (a + 1)) - (S 3 a))))), (3, .int (zi (a + 1))), (0, .ref (ad 0)), (1, .int (zi a)), (2, .int (zi v))]) hx hb d_S_slopeBeyond_41 hl (by decide) rfl (fun ls hl => ?_)
      refine lv_lload hx hb d_S_slopeBeyond_43 (lv_at hl 0 rfl) ?_
      refine lv_lconst (v := zl 0) hx hb d_S_slopeBeyond_45 (by decide) ?_
      refine zr_lcmp_ne (tgt := 54) hx hb (zB.L b_8 (by decide) (by decide)) (zB.L (zb_c 0) (by decide) (by decide)) d_S_slopeBeyond_46 d_S_slopeBeyond_47 (by decide) (fun c_9 => ?_) (fun c_9 => ?_)
      · replace hq := (if_neg c_9).symm.trans hq
        have r_10 : zB 1 2545620 (zabs ((S 3 (a + 1)) - (S 3 a))) := ⟨(by have := b_8.1; omega), b_8.2⟩
        refine lv_ldc2 (v := zl 981) hx hb hown (hw _ m_168) d_S_slopeBeyond_54 ?_
        refine lv_aload_n hx hb d_S_slopeBeyond_57 rfl (lv_at hl 2 rfl) ?_
        refine va_get (D := (dC, dI)) (ci := 1) (v := .ref (ad 3)) (C := R_S) (T := T_S) (N := 13) hx hb hw i_S hown hK hP 0 rfl rfl 2 (by decide) (hw _ m_33) (fun _ h9 => h9) rfl d_S_slopeBeyond_58 ?_
        refine lv_iload_n hx hb d_S_slopeBeyond_61 rfl (lv_at hl 1 rfl) ?_
        refine zr_iald hx hb hK hP 3 0 (cA := cI) (n := 60) (g := S 2) rfl rfl (i := a + 1) (by omega) (by omega) (by decide) d_S_slopeBeyond_62 ?_
        refine lv_aload_n hx hb d_S_slopeBeyond_63 rfl (lv_at hl 2 rfl) ?_
        refine va_get (D := (dC, dI)) (ci := 1) (v := .ref (ad 3)) (C := R_S) (T := T_S) (N := 13) hx hb hw i_S hown hK hP 0 rfl rfl 2 (by decide) (hw _ m_33) (fun _ h9 => h9) rfl d_S_slopeBeyond_64 ?_
        refine lv_iload_n hx hb d_S_slopeBeyond_67 rfl (lv_at hl 3 rfl) ?_
        refine zr_iald hx hb hK hP 3 0 (cA := cI) (n := 60) (g := S 2) rfl rfl (i := a) (by omega) (by omega) (by decide) d_S_slopeBeyond_68 ?_
        have b_11 : zB (-200000) 200000 ((S 2 (a + 1)) - (S 2 a)) := zB.w (zb_sub (iS_a2 hI (a + 1)) (iS_a2 hI a)) (by decide) (by decide)
        refine zr_isub hx hb d_S_slopeBeyond_69 ?_
        refine zr_i2l hx hb (zB.I b_11 (by decide) (by decide)) d_S_slopeBeyond_70 ?_
        have b_12 : zB (-196200000) 196200000 (981 * ((S 2 (a + 1)) - (S 2 a))) := zB.w (zb_mul (A := 981) (B := 200000) (zB.w (zb_c 981) (by decide) (by decide)) (zB.w b_11 (by decide) (by decide))) (by decide) (by decide)
        refine zr_lmul hx hb d_S_slopeBeyond_71 ?_
        refine lv_ldc2 (v := zl 10) hx hb hown (hw _ m_162) d_S_slopeBeyond_72 ?_
        refine lv_lload hx hb d_S_slopeBeyond_75 (lv_at hl 0 rfl) ?_
        have b_13 : zB 10 25456200 (10 * (zabs ((S 3 (a + 1)) - (S 3 a)))) := zB.w (zb_mulq (zb_c 10) r_10 (by decide) (by decide)) (by decide) (by decide)
        refine zr_lmul hx hb d_S_slopeBeyond_77 ?_
        refine zr_ldiv hx hb (zB.L b_12 (by decide) (by decide)) (zB.L b_13 (by decide) (by decide)) (Int.lt_of_lt_of_le (by decide) b_13.1) d_S_slopeBeyond_78 ?_
        have b_14 : zB (-196200000) 196200000 (Int.tdiv (981 * ((S 2 (a + 1)) - (S 2 a))) (10 * (zabs ((S 3 (a + 1)) - (S 3 a))))) := zB.w (zb_tdiv (A := 196200000) (b := (10 * (zabs ((S 3 (a + 1)) - (S 3 a))))) (zB.w b_12 (by decide) (by decide))) (by decide) (by decide)
        exact ze_l hx hb hr hlocks hq d_S_slopeBeyond_79
      · replace hq := (if_pos c_9).symm.trans hq
        have r_15 : zB 0 0 (zabs ((S 3 (a + 1)) - (S 3 a))) := ⟨(Int.le_of_eq c_9.symm), (Int.le_of_eq c_9)⟩
        refine lv_lconst (v := zl 0) hx hb d_S_slopeBeyond_50 (by decide) ?_
        refine lv_goto (tgt := 79) hx hb d_S_slopeBeyond_51 (by decide) ?_
        exact ze_l hx hb hr hlocks hq d_S_slopeBeyond_79
    · replace hq := (if_pos c_4).symm.trans hq
      have r_16 : zB 0 0 (f_S_isStation S (a + 1)) := ⟨(Int.le_of_eq c_4.symm), (Int.le_of_eq c_4)⟩
      refine lv_lconst (v := zl 0) hx hb d_S_slopeBeyond_22 (by decide) ?_
      exact ze_l hx hb hr hlocks hq d_S_slopeBeyond_23
  · replace hq := (if_neg c_1).symm.trans hq
    have r_17 : zB 1 1 v := ⟨(by have := hb_v.1; omega), hb_v.2⟩
    refine lv_iload_n hx hb d_S_slopeBeyond_4 rfl (lv_at hl 1 rfl) ?_
    refine lv_iconst (v := zi 1) hx hb d_S_slopeBeyond_5 rfl ?_
    have b_18 : zB (-1) 58 (a - 1) := zB.w (zb_sub hb_a (zb_c 1)) (by decide) (by decide)
    refine zr_isub hx hb d_S_slopeBeyond_6 ?_
    refine lv_goto (tgt := 13) hx hb d_S_slopeBeyond_7 (by decide) ?_
    refine lv_istore_n (lv' := [(3, .int (zi (a - 1))), (0, .ref (ad 0)), (1, .int (zi a)), (2, .int (zi v))]) hx hb d_S_slopeBeyond_13 rfl hl (by decide) rfl (fun ls hl => ?_)
    refine lv_aload_n hx hb d_S_slopeBeyond_14 rfl (lv_at hl 1 rfl) ?_
    refine lv_iload_n hx hb d_S_slopeBeyond_15 rfl (lv_at hl 0 rfl) ?_
    refine zc_n (va_runV (As := [.int (zi (a - 1))]) (rest := []) ⟨hx, hb, hml, hown, hts⟩ (k_S_isStation l dC dI ad cI S k0 k1 k2 k3 hI (a - 1) (zB.w b_18 (by decide) (by decide)) ) (zcV 1 hts m_84 m_1 m_82 m_83 m_374 rfl rfl q_S_isStation ⟨Nat.le_of_ble_eq_true rfl, Nat.le_of_ble_eq_true rfl⟩) (zpS0 hP hK hN [.int (zi (a - 1))]) rfl rfl hl.1 rfl (lv_room (Nat.le_of_ble_eq_true rfl)) d_S_slopeBeyond_16 ⟨Nat.zero_le _, Nat.zero_le _⟩) ?_
    refine zr_if_ne (tgt := 24) hx hb (zB.I (bb_S_isStation S (a - 1)) (by decide) (by decide)) d_S_slopeBeyond_19 (by decide) (fun c_19 => ?_) (fun c_19 => ?_)
    · replace hq := (if_neg c_19).symm.trans hq
      have r_20 : zB 1 1 (f_S_isStation S (a - 1)) := ⟨(by have := (bb_S_isStation S (a - 1)).1; omega), (bb_S_isStation S (a - 1)).2⟩
      have g_21 := gf_S_isStation hI c_19
      obtain ⟨g_21l, g_21h⟩ := id g_21.1
      have g_21n := g_21.2
      refine lv_aload_n hx hb d_S_slopeBeyond_24 rfl (lv_at hl 1 rfl) ?_
      refine va_get (D := (dC, dI)) (ci := 1) (v := .ref (ad 4)) (C := R_S) (T := T_S) (N := 13) hx hb hw i_S hown hK hP 0 rfl rfl 3 (by decide) (hw _ m_34) (fun _ h9 => h9) rfl d_S_slopeBeyond_25 ?_
      refine lv_iload_n hx hb d_S_slopeBeyond_28 rfl (lv_at hl 0 rfl) ?_
      refine zr_iald hx hb hK hP 4 0 (cA := cI) (n := 60) (g := S 3) rfl rfl (i := a - 1) (by omega) (by omega) (by decide) d_S_slopeBeyond_29 ?_
      refine lv_aload_n hx hb d_S_slopeBeyond_30 rfl (lv_at hl 1 rfl) ?_
      refine va_get (D := (dC, dI)) (ci := 1) (v := .ref (ad 4)) (C := R_S) (T := T_S) (N := 13) hx hb hw i_S hown hK hP 0 rfl rfl 3 (by decide) (hw _ m_34) (fun _ h9 => h9) rfl d_S_slopeBeyond_31 ?_
      refine lv_iload_n hx hb d_S_slopeBeyond_34 rfl (lv_at hl 2 rfl) ?_
      refine zr_iald hx hb hK hP 4 0 (cA := cI) (n := 60) (g := S 3) rfl rfl (i := a) (by omega) (by omega) (by decide) d_S_slopeBeyond_35 ?_
      have b_22 : zB (-2545620) 2545620 ((S 3 (a - 1)) - (S 3 a)) := zB.w (zb_sub (iS_a3 hI (a - 1)) (iS_a3 hI a)) (by decide) (by decide)
      refine zr_isub hx hb d_S_slopeBeyond_36 ?_
      refine zr_abs hx hb (hml.trans hl.1.symm) hown (hw _ m_120) (hw _ m_121) (hw _ m_4) (hw _ m_122) (Nat.le_of_ble_eq_true rfl) (Nat.le_of_ble_eq_true rfl) (Nat.zero_le _) (Nat.zero_le _) (zB.I b_22 (by decide) (by decide)) d_S_slopeBeyond_37 ?_
      have b_23 : zB 0 2545620 (zabs ((S 3 (a - 1)) - (S 3 a))) := zB.w (zb_zabs (A := 2545620) (zB.w b_22 (by decide) (by decide))) (by decide) (by decide)
      obtain ⟨hl_b_23, hh_b_23⟩ := id b_23
      refine zr_i2l hx hb (zB.I b_23 (by decide) (by decide)) d_S_slopeBeyond_40 ?_
      refine lv_lstore (lv' := [(4, .long (zl (zabs ((S 3 (a - 1)) - (S 3 a))))), (3, .int (zi (a - 1))), (0, .ref (ad 0)), (1, .int (zi a)), (2, .int (zi v))]) hx hb d_S_slopeBeyond_41 hl (by decide) rfl (fun ls hl => ?_)
      refine lv_lload hx hb d_S_slopeBeyond_43 (lv_at hl 0 rfl) ?_
      refine lv_lconst (v := zl 0) hx hb d_S_slopeBeyond_45 (by decide) ?_
      refine zr_lcmp_ne (tgt := 54) hx hb (zB.L b_23 (by decide) (by decide)) (zB.L (zb_c 0) (by decide) (by decide)) d_S_slopeBeyond_46 d_S_slopeBeyond_47 (by decide) (fun c_24 => ?_) (fun c_24 => ?_)
      · replace hq := (if_neg c_24).symm.trans hq
        have r_25 : zB 1 2545620 (zabs ((S 3 (a - 1)) - (S 3 a))) := ⟨(by have := b_23.1; omega), b_23.2⟩
        refine lv_ldc2 (v := zl 981) hx hb hown (hw _ m_168) d_S_slopeBeyond_54 ?_
        refine lv_aload_n hx hb d_S_slopeBeyond_57 rfl (lv_at hl 2 rfl) ?_
        refine va_get (D := (dC, dI)) (ci := 1) (v := .ref (ad 3)) (C := R_S) (T := T_S) (N := 13) hx hb hw i_S hown hK hP 0 rfl rfl 2 (by decide) (hw _ m_33) (fun _ h9 => h9) rfl d_S_slopeBeyond_58 ?_
        refine lv_iload_n hx hb d_S_slopeBeyond_61 rfl (lv_at hl 1 rfl) ?_
        refine zr_iald hx hb hK hP 3 0 (cA := cI) (n := 60) (g := S 2) rfl rfl (i := a - 1) (by omega) (by omega) (by decide) d_S_slopeBeyond_62 ?_
        refine lv_aload_n hx hb d_S_slopeBeyond_63 rfl (lv_at hl 2 rfl) ?_
        refine va_get (D := (dC, dI)) (ci := 1) (v := .ref (ad 3)) (C := R_S) (T := T_S) (N := 13) hx hb hw i_S hown hK hP 0 rfl rfl 2 (by decide) (hw _ m_33) (fun _ h9 => h9) rfl d_S_slopeBeyond_64 ?_
        refine lv_iload_n hx hb d_S_slopeBeyond_67 rfl (lv_at hl 3 rfl) ?_
        refine zr_iald hx hb hK hP 3 0 (cA := cI) (n := 60) (g := S 2) rfl rfl (i := a) (by omega) (by omega) (by decide) d_S_slopeBeyond_68 ?_
        have b_26 : zB (-200000) 200000 ((S 2 (a - 1)) - (S 2 a)) := zB.w (zb_sub (iS_a2 hI (a - 1)) (iS_a2 hI a)) (by decide) (by decide)
        refine zr_isub hx hb d_S_slopeBeyond_69 ?_
        refine zr_i2l hx hb (zB.I b_26 (by decide) (by decide)) d_S_slopeBeyond_70 ?_
        have b_27 : zB (-196200000) 196200000 (981 * ((S 2 (a - 1)) - (S 2 a))) := zB.w (zb_mul (A := 981) (B := 200000) (zB.w (zb_c 981) (by decide) (by decide)) (zB.w b_26 (by decide) (by decide))) (by decide) (by decide)
        refine zr_lmul hx hb d_S_slopeBeyond_71 ?_
        refine lv_ldc2 (v := zl 10) hx hb hown (hw _ m_162) d_S_slopeBeyond_72 ?_
        refine lv_lload hx hb d_S_slopeBeyond_75 (lv_at hl 0 rfl) ?_
        have b_28 : zB 10 25456200 (10 * (zabs ((S 3 (a - 1)) - (S 3 a)))) := zB.w (zb_mulq (zb_c 10) r_25 (by decide) (by decide)) (by decide) (by decide)
        refine zr_lmul hx hb d_S_slopeBeyond_77 ?_
        refine zr_ldiv hx hb (zB.L b_27 (by decide) (by decide)) (zB.L b_28 (by decide) (by decide)) (Int.lt_of_lt_of_le (by decide) b_28.1) d_S_slopeBeyond_78 ?_
        have b_29 : zB (-196200000) 196200000 (Int.tdiv (981 * ((S 2 (a - 1)) - (S 2 a))) (10 * (zabs ((S 3 (a - 1)) - (S 3 a))))) := zB.w (zb_tdiv (A := 196200000) (b := (10 * (zabs ((S 3 (a - 1)) - (S 3 a))))) (zB.w b_27 (by decide) (by decide))) (by decide) (by decide)
        exact ze_l hx hb hr hlocks hq d_S_slopeBeyond_79
      · replace hq := (if_pos c_24).symm.trans hq
        have r_30 : zB 0 0 (zabs ((S 3 (a - 1)) - (S 3 a))) := ⟨(Int.le_of_eq c_24.symm), (Int.le_of_eq c_24)⟩
        refine lv_lconst (v := zl 0) hx hb d_S_slopeBeyond_50 (by decide) ?_
        refine lv_goto (tgt := 79) hx hb d_S_slopeBeyond_51 (by decide) ?_
        exact ze_l hx hb hr hlocks hq d_S_slopeBeyond_79
    · replace hq := (if_pos c_19).symm.trans hq
      have r_31 : zB 0 0 (f_S_isStation S (a - 1)) := ⟨(Int.le_of_eq c_19.symm), (Int.le_of_eq c_19)⟩
      refine lv_lconst (v := zl 0) hx hb d_S_slopeBeyond_22 (by decide) ?_
      exact ze_l hx hb hr hlocks hq d_S_slopeBeyond_23
def f_S_needWith (S : Nat → Int → Int) (a v w : Int) : Int := (Int.tdiv ((w * (S 11 4)) * 10) 36) + (Int.tdiv ((w * w) * 100000) (2592 * (zmax 20 ((S 11 5) + (f_S_slopeBeyond S a v)))))
theorem br_S_needWith (S : Nat → Int → Int) (a v w : Int) (hI : iS S) (ha : zB 0 59 a) (hv : zB 0 1 v) (hw : zB 0 200 w) : zB 0 82716 (f_S_needWith S a v w) := by
  have h1 : zB 0 5555 (Int.tdiv ((w * S 11 4) * 10) 36) := zB.w (zb_tdivp (c := 36) (zb_mulp (zb_mulp hw (iS_s4 hI) (by decide) (by decide)) (zb_c 10) (by decide) (by decide)) (by decide) (by decide) (by decide)) (by decide) (by decide)
  have h2 : zB 20 196201000 (zmax 20 (S 11 5 + f_S_slopeBeyond S a v)) := zb_maxl (zb_c 20) (zb_add (iS_s5 hI) (br_S_slopeBeyond S a v hI ha hv)) (by decide) (by decide) (by decide)
  have h3 : zB 0 77161 (Int.tdiv ((w * w) * 100000) (2592 * zmax 20 (S 11 5 + f_S_slopeBeyond S a v))) := zB.w (zb_tdivp (c := 51840) (zb_mulp (zb_mulp hw hw (by decide) (by decide)) (zb_c 100000) (by decide) (by decide)) (by decide) (by decide) (by have := h2.1; omega)) (by decide) (by decide)
  exact zB.w (zb_add h1 h3) (by decide) (by decide)
set_option maxHeartbeats 4000000 in
set_option maxRecDepth 100000 in
theorem k_S_needWith (l : Launch) (dC : Nat → ClassId) (dI : Nat → Nat → Nat) (ad : Nat → Nat) (cI : ClassId) (S : Nat → Int → Int) (k0 k1 k2 k3 : Int) (hI : iS S) (a v w : Int) (hb_a : zB 0 59 a) (hb_v : zB 0 1 v) (hb_w : zB 0 200 w) : Met l y_S_needWith (Cond.code y_S_needWith c_S_needWith 8 (some .int) :: zT) { frames := 2, cells := 0, slots := 0, locals := 46 } (va_Pc ([.ref (ad 0), .int (zi a), .int (zi v), .int (zi w)] : List Value) (zWS dC dI ad cI S k0 k1 k2 k3)) (zR (.int (zi (f_S_needWith S a v w)))) 0 0 (fun _ => False) := by
  refine zh (cc := c_S_needWith) (C := R_S) (by decide) rfl rfl (Nat.le_of_ble_eq_true rfl) ?_
  intro p e s m below meth c ls hx hb hr hlocks hml hown hname hts hl hB
  have hw : ∀ w9 ∈ zT, w9.before ([.ref (ad 0), .int (zi a), .int (zi v), .int (zi w)] : List Value).toArray s = true := fun w9 h => hts w9 (List.mem_cons_of_mem _ h)
  obtain ⟨hP, hK, hN⟩ := hB
  obtain ⟨hn0, hn1⟩ := id (iS_s0 hI)
  obtain ⟨hz0, hz1⟩ := id (iS_s6 hI)
  obtain ⟨hl_a, hh_a⟩ := id hb_a
  obtain ⟨hl_v, hh_v⟩ := id hb_v
  obtain ⟨hl_w, hh_w⟩ := id hb_w
  generalize hq : f_S_needWith S a v w = r
  unfold f_S_needWith at hq
  replace hl : lv_has ls 8 [(0, .ref (ad 0)), (1, .int (zi a)), (2, .int (zi v)), (3, .int (zi w))] := hl
  refine lv_iload_n hx hb d_S_needWith_0 rfl (lv_at hl 3 rfl) ?_
  refine zr_i2l hx hb (zB.I hb_w (by decide) (by decide)) d_S_needWith_1 ?_
  refine lv_aload_n hx hb d_S_needWith_2 rfl (lv_at hl 0 rfl) ?_
  refine va_get (D := (dC, dI)) (ci := 1) (v := .int (zi (S 11 4))) (C := R_S) (T := T_S) (N := 13) hx hb hw i_S hown hK hP 0 rfl rfl 11 (by decide) (hw _ m_42) (fun _ h9 => h9) rfl d_S_needWith_3 ?_
  refine zr_i2l hx hb (zB.I (iS_s4 hI) (by decide) (by decide)) d_S_needWith_6 ?_
  have b_1 : zB 0 20000 (w * (S 11 4)) := zB.w (zb_mulq hb_w (iS_s4 hI) (by decide) (by decide)) (by decide) (by decide)
  refine zr_lmul hx hb d_S_needWith_7 ?_
  refine lv_ldc2 (v := zl 10) hx hb hown (hw _ m_162) d_S_needWith_8 ?_
  have b_2 : zB 0 200000 ((w * (S 11 4)) * 10) := zB.w (zb_mulq b_1 (zb_c 10) (by decide) (by decide)) (by decide) (by decide)
  refine zr_lmul hx hb d_S_needWith_11 ?_
  refine lv_ldc2 (v := zl 36) hx hb hown (hw _ m_163) d_S_needWith_12 ?_
  refine zr_ldiv hx hb (zB.L b_2 (by decide) (by decide)) (zB.L (zb_c 36) (by decide) (by decide)) (Int.lt_of_lt_of_le (by decide) (zb_c 36).1) d_S_needWith_15 ?_
  have b_3 : zB 0 5555 (Int.tdiv ((w * (S 11 4)) * 10) 36) := zB.w (zb_tdivp (c := 36) b_2 (by decide) (by decide) (zb_c 36).1) (by decide) (by decide)
  refine lv_lstore (lv' := [(4, .long (zl (Int.tdiv ((w * (S 11 4)) * 10) 36))), (0, .ref (ad 0)), (1, .int (zi a)), (2, .int (zi v)), (3, .int (zi w))]) hx hb d_S_needWith_16 hl (by decide) rfl (fun ls hl => ?_)
  refine lv_ldc2 (v := zl 20) hx hb hown (hw _ m_164) d_S_needWith_18 ?_
  refine lv_aload_n hx hb d_S_needWith_21 rfl (lv_at hl 1 rfl) ?_
  refine va_get (D := (dC, dI)) (ci := 1) (v := .int (zi (S 11 5))) (C := R_S) (T := T_S) (N := 13) hx hb hw i_S hown hK hP 0 rfl rfl 12 (by decide) (hw _ m_43) (fun _ h9 => h9) rfl d_S_needWith_22 ?_
  refine zr_i2l hx hb (zB.I (iS_s5 hI) (by decide) (by decide)) d_S_needWith_25 ?_
  refine lv_aload_n hx hb d_S_needWith_26 rfl (lv_at hl 1 rfl) ?_
  refine lv_iload_n hx hb d_S_needWith_27 rfl (lv_at hl 2 rfl) ?_
  refine lv_iload_n hx hb d_S_needWith_28 rfl (lv_at hl 3 rfl) ?_
  refine zc_n (va_runV (As := [.int (zi a), .int (zi v)]) (rest := [.long (zl (S 11 5)), .long (zl 20)]) ⟨hx, hb, hml, hown, hts⟩ (k_S_slopeBeyond l dC dI ad cI S k0 k1 k2 k3 hI a v (zB.w hb_a (by decide) (by decide)) (zB.w hb_v (by decide) (by decide)) ) (zcV 2 hts m_167 m_1 m_165 m_166 m_386 rfl rfl q_S_slopeBeyond ⟨Nat.le_of_ble_eq_true rfl, Nat.le_of_ble_eq_true rfl⟩) (zpS0 hP hK hN [.int (zi a), .int (zi v)]) rfl rfl hl.1 rfl (lv_room (Nat.le_of_ble_eq_true rfl)) d_S_needWith_29 ⟨Nat.zero_le _, Nat.zero_le _⟩) ?_
  have b_4 : zB (-196200000) 196200000 (f_S_slopeBeyond S a v) := br_S_slopeBeyond S a v hI (zB.w hb_a (by decide) (by decide)) (zB.w hb_v (by decide) (by decide)) 
  have b_5 : zB (-196199950) 196201000 ((S 11 5) + (f_S_slopeBeyond S a v)) := zB.w (zb_add (iS_s5 hI) b_4) (by decide) (by decide)
  refine zr_ladd hx hb d_S_needWith_32 ?_
  refine zr_maxl hx hb (hml.trans hl.1.symm) hown (hw _ m_169) (hw _ m_170) (hw _ m_4) (hw _ m_171) (Nat.le_of_ble_eq_true rfl) (Nat.le_of_ble_eq_true rfl) (Nat.zero_le _) (Nat.zero_le _) (zB.L (zb_c 20) (by decide) (by decide)) (zB.L b_5 (by decide) (by decide)) d_S_needWith_33 ?_
  have b_6 : zB 20 196201000 (zmax 20 ((S 11 5) + (f_S_slopeBeyond S a v))) := zB.w (zb_maxl (lo := 20) (hi := 196201000) (zb_c 20) b_5 (by decide) (by decide) (by decide)) (by decide) (by decide)
  refine lv_lstore (lv' := [(6, .long (zl (zmax 20 ((S 11 5) + (f_S_slopeBeyond S a v))))), (4, .long (zl (Int.tdiv ((w * (S 11 4)) * 10) 36))), (0, .ref (ad 0)), (1, .int (zi a)), (2, .int (zi v)), (3, .int (zi w))]) hx hb d_S_needWith_36 hl (by decide) rfl (fun ls hl => ?_)
  refine lv_lload hx hb d_S_needWith_38 (lv_at hl 1 rfl) ?_
  refine lv_iload_n hx hb d_S_needWith_40 rfl (lv_at hl 5 rfl) ?_
  refine zr_i2l hx hb (zB.I hb_w (by decide) (by decide)) d_S_needWith_41 ?_
  refine lv_iload_n hx hb d_S_needWith_42 rfl (lv_at hl 5 rfl) ?_
  refine zr_i2l hx hb (zB.I hb_w (by decide) (by decide)) d_S_needWith_43 ?_
  have b_7 : zB 0 40000 (w * w) := zB.w (zb_sq (A := 200) (zB.w hb_w (by decide) (by decide))) (by decide) (by decide)
  refine zr_lmul hx hb d_S_needWith_44 ?_
  refine lv_ldc2 (v := zl 100000) hx hb hown (hw _ m_172) d_S_needWith_45 ?_
  have b_8 : zB 0 4000000000 ((w * w) * 100000) := zB.w (zb_mulq b_7 (zb_c 100000) (by decide) (by decide)) (by decide) (by decide)
  refine zr_lmul hx hb d_S_needWith_48 ?_
  refine lv_ldc2 (v := zl 2592) hx hb hown (hw _ m_173) d_S_needWith_49 ?_
  refine lv_lload hx hb d_S_needWith_52 (lv_at hl 0 rfl) ?_
  have b_9 : zB 51840 508552992000 (2592 * (zmax 20 ((S 11 5) + (f_S_slopeBeyond S a v)))) := zB.w (zb_mulq (zb_c 2592) b_6 (by decide) (by decide)) (by decide) (by decide)
  refine zr_lmul hx hb d_S_needWith_54 ?_
  refine zr_ldiv hx hb (zB.L b_8 (by decide) (by decide)) (zB.L b_9 (by decide) (by decide)) (Int.lt_of_lt_of_le (by decide) b_9.1) d_S_needWith_55 ?_
  have b_10 : zB 0 77160 (Int.tdiv ((w * w) * 100000) (2592 * (zmax 20 ((S 11 5) + (f_S_slopeBeyond S a v))))) := zB.w (zb_tdivp (c := 51840) b_8 (by decide) (by decide) b_9.1) (by decide) (by decide)
  have b_11 : zB 0 82715 ((Int.tdiv ((w * (S 11 4)) * 10) 36) + (Int.tdiv ((w * w) * 100000) (2592 * (zmax 20 ((S 11 5) + (f_S_slopeBeyond S a v)))))) := zB.w (zb_add b_3 b_10) (by decide) (by decide)
  refine zr_ladd hx hb d_S_needWith_56 ?_
  refine zr_l2i hx hb d_S_needWith_57 ?_
  exact ze_i hx hb hr hlocks hq d_S_needWith_58
def f_S_roadBeyond (S : Nat → Int → Int) (a v : Int) : Int := if v = 0 then ((S 3 ((S 11 0) - 1)) - (S 3 a)) else (S 3 a)
theorem br_S_roadBeyond (S : Nat → Int → Int) (a v : Int) (hI : iS S) (_ : zB 0 59 a) (_ : zB 0 1 v) (_ : 0 < S 11 0) : zB (-2545620) 2545620 (f_S_roadBeyond S a v) := by
  unfold f_S_roadBeyond
  split
  · exact zB.w (zb_sub (iS_a3 hI _) (iS_a3 hI _)) (by decide) (by decide)
  · exact zB.w (iS_a3 hI _) (by decide) (by decide)
set_option maxHeartbeats 4000000 in
set_option maxRecDepth 100000 in
theorem k_S_roadBeyond (l : Launch) (dC : Nat → ClassId) (dI : Nat → Nat → Nat) (ad : Nat → Nat) (cI : ClassId) (S : Nat → Int → Int) (k0 k1 k2 k3 : Int) (hI : iS S) (a v : Int) (hb_a : zB 0 59 a) (hb_v : zB 0 1 v) (hy_0 : 0 < S 11 0) : Met l y_S_roadBeyond (Cond.code y_S_roadBeyond c_S_roadBeyond 3 (some .int) :: zT) { frames := 0, cells := 0, slots := 0, locals := 0 } (va_Pc ([.ref (ad 0), .int (zi a), .int (zi v)] : List Value) (zWS dC dI ad cI S k0 k1 k2 k3)) (zR (.int (zi (f_S_roadBeyond S a v)))) 0 0 (fun _ => False) := by
  refine zh (cc := c_S_roadBeyond) (C := R_S) (by decide) rfl rfl (Nat.le_of_ble_eq_true rfl) ?_
  intro p e s m below meth c ls hx hb hr hlocks hml hown hname hts hl hB
  have hw : ∀ w9 ∈ zT, w9.before ([.ref (ad 0), .int (zi a), .int (zi v)] : List Value).toArray s = true := fun w9 h => hts w9 (List.mem_cons_of_mem _ h)
  obtain ⟨hP, hK, hN⟩ := hB
  obtain ⟨hn0, hn1⟩ := id (iS_s0 hI)
  obtain ⟨hz0, hz1⟩ := id (iS_s6 hI)
  obtain ⟨hl_a, hh_a⟩ := id hb_a
  obtain ⟨hl_v, hh_v⟩ := id hb_v
  generalize hq : f_S_roadBeyond S a v = r
  unfold f_S_roadBeyond at hq
  replace hl : lv_has ls 3 [(0, .ref (ad 0)), (1, .int (zi a)), (2, .int (zi v))] := hl
  refine lv_iload_n hx hb d_S_roadBeyond_0 rfl (lv_at hl 2 rfl) ?_
  refine zr_if_eq (tgt := 13) hx hb (zB.I hb_v (by decide) (by decide)) d_S_roadBeyond_1 (by decide) (fun c_1 => ?_) (fun c_1 => ?_)
  · replace hq := (if_pos c_1).symm.trans hq
    have r_2 : zB 0 0 v := ⟨(Int.le_of_eq c_1.symm), (Int.le_of_eq c_1)⟩
    refine lv_aload_n hx hb d_S_roadBeyond_13 rfl (lv_at hl 0 rfl) ?_
    refine va_get (D := (dC, dI)) (ci := 1) (v := .ref (ad 4)) (C := R_S) (T := T_S) (N := 13) hx hb hw i_S hown hK hP 0 rfl rfl 3 (by decide) (hw _ m_34) (fun _ h9 => h9) rfl d_S_roadBeyond_14 ?_
    refine lv_aload_n hx hb d_S_roadBeyond_17 rfl (lv_at hl 0 rfl) ?_
    refine va_get (D := (dC, dI)) (ci := 1) (v := .int (zi (S 11 0))) (C := R_S) (T := T_S) (N := 13) hx hb hw i_S hown hK hP 0 rfl rfl 7 (by decide) (hw _ m_38) (fun _ h9 => h9) rfl d_S_roadBeyond_18 ?_
    refine lv_iconst (v := zi 1) hx hb d_S_roadBeyond_21 rfl ?_
    have b_3 : zB (-1) 59 ((S 11 0) - 1) := zB.w (zb_sub (iS_s0 hI) (zb_c 1)) (by decide) (by decide)
    refine zr_isub hx hb d_S_roadBeyond_22 ?_
    refine zr_iald hx hb hK hP 4 0 (cA := cI) (n := 60) (g := S 3) rfl rfl (i := (S 11 0) - 1) (by omega) (by omega) (by decide) d_S_roadBeyond_23 ?_
    refine lv_aload_n hx hb d_S_roadBeyond_24 rfl (lv_at hl 0 rfl) ?_
    refine va_get (D := (dC, dI)) (ci := 1) (v := .ref (ad 4)) (C := R_S) (T := T_S) (N := 13) hx hb hw i_S hown hK hP 0 rfl rfl 3 (by decide) (hw _ m_34) (fun _ h9 => h9) rfl d_S_roadBeyond_25 ?_
    refine lv_iload_n hx hb d_S_roadBeyond_28 rfl (lv_at hl 1 rfl) ?_
    refine zr_iald hx hb hK hP 4 0 (cA := cI) (n := 60) (g := S 3) rfl rfl (i := a) (by omega) (by omega) (by decide) d_S_roadBeyond_29 ?_
    have b_4 : zB (-2545620) 2545620 ((S 3 ((S 11 0) - 1)) - (S 3 a)) := zB.w (zb_sub (iS_a3 hI ((S 11 0) - 1)) (iS_a3 hI a)) (by decide) (by decide)
    refine zr_isub hx hb d_S_roadBeyond_30 ?_
    exact ze_i hx hb hr hlocks hq d_S_roadBeyond_31
  · replace hq := (if_neg c_1).symm.trans hq
    have r_5 : zB 1 1 v := ⟨(by have := hb_v.1; omega), hb_v.2⟩
    refine lv_aload_n hx hb d_S_roadBeyond_4 rfl (lv_at hl 0 rfl) ?_
    refine va_get (D := (dC, dI)) (ci := 1) (v := .ref (ad 4)) (C := R_S) (T := T_S) (N := 13) hx hb hw i_S hown hK hP 0 rfl rfl 3 (by decide) (hw _ m_34) (fun _ h9 => h9) rfl d_S_roadBeyond_5 ?_
    refine lv_iload_n hx hb d_S_roadBeyond_8 rfl (lv_at hl 1 rfl) ?_
    refine zr_iald hx hb hK hP 4 0 (cA := cI) (n := 60) (g := S 3) rfl rfl (i := a) (by omega) (by omega) (by decide) d_S_roadBeyond_9 ?_
    refine lv_goto (tgt := 31) hx hb d_S_roadBeyond_10 (by decide) ?_
    exact ze_i hx hb hr hlocks hq d_S_roadBeyond_31
end
section
set_option maxHeartbeats 4000000 in
set_option maxRecDepth 100000 in
theorem k_B_takeWhole (l : Launch) (dC : Nat → ClassId) (dI : Nat → Nat → Nat) (ad : Nat → Nat) (cI : ClassId) (S : Nat → Int → Int) (k0 k1 k2 k3 : Int) (hI : iS S) (hj : zJ 13 ad) : Met l y_B_takeWhole (Cond.code y_B_takeWhole c_B_takeWhole 1 none :: zT) { frames := 0, cells := 0, slots := 0, locals := 0 } (va_Pc ([.ref (ad 7)] : List Value) (zWS dC dI ad cI S k0 k1 k2 k3)) (zQ none (fun H => va_P (dC, dI) classes (wS ad cI S 0 1 1 1) H) (zAS ad)) 0 0 (zAS ad) := by
  refine zh (cc := c_B_takeWhole) (C := R_B) (by decide) rfl rfl (Nat.le_of_ble_eq_true rfl) ?_
  intro p e s m below meth c ls hx hb hr hlocks hml hown hname hts hl hB
  have hw : ∀ w9 ∈ zT, w9.before ([.ref (ad 7)] : List Value).toArray s = true := fun w9 h => hts w9 (List.mem_cons_of_mem _ h)
  obtain ⟨hP, hK, hN⟩ := hB
  obtain ⟨hn0, hn1⟩ := id (iS_s0 hI)
  have hD := zDS hj cI
  have hS : va_S (zAS ad) s.heap s.heap [] := va_S.rf
  obtain ⟨hz0, hz1⟩ := id (iS_s6 hI)
  replace hl : lv_has ls 1 [(0, .ref (ad 7))] := hl
  refine lv_aload_n hx hb d_B_takeWhole_0 rfl (lv_at hl 0 rfl) ?_
  refine lv_lconst (v := zl 0) hx hb d_B_takeWhole_1 (by decide) ?_
  refine va_put (D := (dC, dI)) (ci := 0) (v := .long (zl 0)) (ty := .long) (C := R_B) (T := T_B) (N := 10) hx hb hw i_B t_B ty_B nm_B hown hK hP (hD _ _ _ _ _) hS 7 rfl rfl 6 (by decide) (hw _ m_26) (fun _ h9 => h9) rfl (by decide +kernel) rfl rfl (Nat.le_of_ble_eq_true rfl) d_B_takeWhole_2 (fun H locs hP _ hS => ?_)
  replace hP : va_P (dC, dI) classes (wS ad cI S 0 k1 k2 k3) H := hP
  refine lv_aload_n hx hb d_B_takeWhole_5 rfl (lv_at hl 0 rfl) ?_
  refine lv_lconst (v := zl 1) hx hb d_B_takeWhole_6 (by decide) ?_
  refine va_put (D := (dC, dI)) (ci := 0) (v := .long (zl 1)) (ty := .long) (C := R_B) (T := T_B) (N := 10) hx hb hw i_B t_B ty_B nm_B hown hK hP (hD _ _ _ _ _) hS 7 rfl rfl 7 (by decide) (hw _ m_27) (fun _ h9 => h9) rfl (by decide +kernel) rfl rfl (Nat.le_of_ble_eq_true rfl) d_B_takeWhole_7 (fun H locs hP _ hS => ?_)
  replace hP : va_P (dC, dI) classes (wS ad cI S 0 1 k2 k3) H := hP
  refine lv_aload_n hx hb d_B_takeWhole_10 rfl (lv_at hl 0 rfl) ?_
  refine lv_lconst (v := zl 1) hx hb d_B_takeWhole_11 (by decide) ?_
  refine va_put (D := (dC, dI)) (ci := 0) (v := .long (zl 1)) (ty := .long) (C := R_B) (T := T_B) (N := 10) hx hb hw i_B t_B ty_B nm_B hown hK hP (hD _ _ _ _ _) hS 7 rfl rfl 8 (by decide) (hw _ m_28) (fun _ h9 => h9) rfl (by decide +kernel) rfl rfl (Nat.le_of_ble_eq_true rfl) d_B_takeWhole_12 (fun H locs hP _ hS => ?_)
  replace hP : va_P (dC, dI) classes (wS ad cI S 0 1 1 k3) H := hP
  refine lv_aload_n hx hb d_B_takeWhole_15 rfl (lv_at hl 0 rfl) ?_
  refine lv_lconst (v := zl 1) hx hb d_B_takeWhole_16 (by decide) ?_
  refine va_put (D := (dC, dI)) (ci := 0) (v := .long (zl 1)) (ty := .long) (C := R_B) (T := T_B) (N := 10) hx hb hw i_B t_B ty_B nm_B hown hK hP (hD _ _ _ _ _) hS 7 rfl rfl 9 (by decide) (hw _ m_29) (fun _ h9 => h9) rfl (by decide +kernel) rfl rfl (Nat.le_of_ble_eq_true rfl) d_B_takeWhole_17 (fun H locs hP _ hS => ?_)
  replace hP : va_P (dC, dI) classes (wS ad cI S 0 1 1 1) H := hP
  exact zw_v hx hb hr hlocks hP hS d_B_takeWhole_20
def f_B_narrow (a b d v : Int) (k0 k1 k2 k3 : Int) : Int × Int × Int × Int × Int := if b = 0 then (if a < d then ((0, k0, k1, k2, k3)) else (if v < a then ((0, k0, k1, k2, k3)) else ((1, k0, k1, k2, k3)))) else (if 0 < b then (if (k0 * (zabs b)) < ((d - a) * k1) then (if ((v - a) * k3) < (k2 * (zabs b)) then (if ((v - a) * (zabs b)) < ((d - a) * (zabs b)) then ((0, d - a, zabs b, v - a, zabs b)) else ((1, d - a, zabs b, v - a, zabs b))) else (if (k2 * (zabs b)) < ((d - a) * k3) then ((0, d - a, zabs b, k2, k3)) else ((1, d - a, zabs b, k2, k3)))) else (if ((v - a) * k3) < (k2 * (zabs b)) then (if ((v - a) * k1) < (k0 * (zabs b)) then ((0, k0, k1, v - a, zabs b)) else ((1, k0, k1, v - a, zabs b))) else (if (k2 * k1) < (k0 * k3) then ((0, k0, k1, k2, k3)) else ((1, k0, k1, k2, k3))))) else (if (k0 * (zabs b)) < ((a - v) * k1) then (if ((a - d) * k3) < (k2 * (zabs b)) then (if ((a - d) * (zabs b)) < ((a - v) * (zabs b)) then ((0, a - v, zabs b, a - d, zabs b)) else ((1, a - v, zabs b, a - d, zabs b))) else (if (k2 * (zabs b)) < ((a - v) * k3) then ((0, a - v, zabs b, k2, k3)) else ((1, a - v, zabs b, k2, k3)))) else (if ((a - d) * k3) < (k2 * (zabs b)) then (if ((a - d) * k1) < (k0 * (zabs b)) then ((0, k0, k1, a - d, zabs b)) else ((1, k0, k1, a - d, zabs b))) else (if (k2 * k1) < (k0 * k3) then ((0, k0, k1, k2, k3)) else ((1, k0, k1, k2, k3))))))
theorem b_B_narrow (a b d v k0 k1 k2 k3 : Int) (ha : zB (-15000) 15000 a) (hb : zB (-30000) 30000 b) (hd : zB (-15000) 15000 d) (hv : zB (-15000) 15000 v) (h0 : zB (-30000) 30000 k0) (h1 : zB (-30000) 30000 k1) (h2 : zB (-30000) 30000 k2) (h3 : zB (-30000) 30000 k3) : zB (-30000) 30000 (f_B_narrow a b d v k0 k1 k2 k3).2.1 ∧ zB (-30000) 30000 (f_B_narrow a b d v k0 k1 k2 k3).2.2.1 ∧ zB (-30000) 30000 (f_B_narrow a b d v k0 k1 k2 k3).2.2.2.1 ∧ zB (-30000) 30000 (f_B_narrow a b d v k0 k1 k2 k3).2.2.2.2 := by
  generalize hq : f_B_narrow a b d v k0 k1 k2 k3 = r
  unfold f_B_narrow at hq
  unfold zabs at hq
  unfold zB at *
  repeat' split at hq
  all_goals (subst hq; refine ⟨?_, ?_, ?_, ?_⟩ <;> dsimp only <;> omega)
theorem bb_B_narrow (a b d v k0 k1 k2 k3 : Int) : zB 0 1 (f_B_narrow a b d v k0 k1 k2 k3).1 := by
  generalize hq : f_B_narrow a b d v k0 k1 k2 k3 = r
  unfold f_B_narrow at hq
  repeat' split at hq
  all_goals (subst hq; first | exact (⟨by decide, by decide⟩ : zB 0 1 0) | exact (⟨by decide, by decide⟩ : zB 0 1 1))
set_option maxHeartbeats 4000000 in
set_option maxRecDepth 100000 in
theorem k_B_narrow (l : Launch) (dC : Nat → ClassId) (dI : Nat → Nat → Nat) (ad : Nat → Nat) (cI : ClassId) (S : Nat → Int → Int) (k0 k1 k2 k3 : Int) (hI : iS S) (hj : zJ 13 ad) (hb_k0 : zB (-30000) 30000 k0) (hb_k1 : zB (-30000) 30000 k1) (hb_k2 : zB (-30000) 30000 k2) (hb_k3 : zB (-30000) 30000 k3) (a b d v : Int) (hb_a : zB (-15000) 15000 a) (hb_b : zB (-30000) 30000 b) (hb_d : zB (-15000) 15000 d) (hb_v : zB (-15000) 15000 v) : Met l y_B_narrow (Cond.code y_B_narrow c_B_narrow 11 (some .boolean) :: zT) { frames := 1, cells := 0, slots := 0, locals := 13 } (va_Pc ([.ref (ad 7), .int (zi a), .int (zi b), .int (zi d), .int (zi v)] : List Value) (zWS dC dI ad cI S k0 k1 k2 k3)) (zQ (some (.int (zi (f_B_narrow a b d v k0 k1 k2 k3).1))) (fun H => va_P (dC, dI) classes (wS ad cI S (f_B_narrow a b d v k0 k1 k2 k3).2.1 (f_B_narrow a b d v k0 k1 k2 k3).2.2.1 (f_B_narrow a b d v k0 k1 k2 k3).2.2.2.1 (f_B_narrow a b d v k0 k1 k2 k3).2.2.2.2) H) (zAS ad)) 0 0 (zAS ad) := by
  refine zh (cc := c_B_narrow) (C := R_B) (by decide) rfl rfl (Nat.le_of_ble_eq_true rfl) ?_
  intro p e s m below meth c ls hx hb hr hlocks hml hown hname hts hl hB
  have hw : ∀ w9 ∈ zT, w9.before ([.ref (ad 7), .int (zi a), .int (zi b), .int (zi d), .int (zi v)] : List Value).toArray s = true := fun w9 h => hts w9 (List.mem_cons_of_mem _ h)
  obtain ⟨hP, hK, hN⟩ := hB
  obtain ⟨hn0, hn1⟩ := id (iS_s0 hI)
  have hD := zDS hj cI
  have hS : va_S (zAS ad) s.heap s.heap [] := va_S.rf
  obtain ⟨hz0, hz1⟩ := id (iS_s6 hI)
  obtain ⟨hl_a, hh_a⟩ := id hb_a
  obtain ⟨hl_b, hh_b⟩ := id hb_b
  obtain ⟨hl_d, hh_d⟩ := id hb_d
  obtain ⟨hl_v, hh_v⟩ := id hb_v
  generalize hq : f_B_narrow a b d v k0 k1 k2 k3 = r
  unfold f_B_narrow at hq
  replace hl : lv_has ls 11 [(0, .ref (ad 7)), (1, .int (zi a)), (2, .int (zi b)), (3, .int (zi d)), (4, .int (zi v))] := hl
  refine lv_iload_n hx hb d_B_narrow_0 rfl (lv_at hl 2 rfl) ?_
  refine zr_if_ne (tgt := 21) hx hb (zB.I hb_b (by decide) (by decide)) d_B_narrow_1 (by decide) (fun c_1 => ?_) (fun c_1 => ?_)
  · replace hq := (if_neg c_1).symm.trans hq
    refine lv_iload_n hx hb d_B_narrow_21 rfl (lv_at hl 2 rfl) ?_
    refine zr_abs hx hb (hml.trans hl.1.symm) hown (hw _ m_144) (hw _ m_121) (hw _ m_4) (hw _ m_122) (Nat.le_of_ble_eq_true rfl) (Nat.le_of_ble_eq_true rfl) (Nat.zero_le _) (Nat.zero_le _) (zB.I hb_b (by decide) (by decide)) d_B_narrow_22 ?_
    have b_2 : zB 0 30000 (zabs b) := zB.w (zb_zabs (A := 30000) (zB.w hb_b (by decide) (by decide))) (by decide) (by decide)
    obtain ⟨hl_b_2, hh_b_2⟩ := id b_2
    refine zr_i2l hx hb (zB.I b_2 (by decide) (by decide)) d_B_narrow_25 ?_
    refine lv_lstore (lv' := [(5, .long (zl (zabs b))), (0, .ref (ad 7)), (1, .int (zi a)), (2, .int (zi b)), (3, .int (zi d)), (4, .int (zi v))]) hx hb d_B_narrow_26 hl (by decide) rfl (fun ls hl => ?_)
    refine lv_iload_n hx hb d_B_narrow_28 rfl (lv_at hl 3 rfl) ?_
    refine zr_if_le (tgt := 39) hx hb (zB.I hb_b (by decide) (by decide)) d_B_narrow_29 (by decide) (fun c_3 => ?_) (fun c_3 => ?_)
    · replace hq := (if_neg c_3).symm.trans hq
      have r_4 : zB (-30000) 0 b := ⟨hb_b.1, (Int.not_lt.mp c_3)⟩
      refine lv_iload_n hx hb d_B_narrow_39 rfl (lv_at hl 2 rfl) ?_
      refine lv_iload hx hb d_B_narrow_40 (lv_at hl 5 rfl) ?_
      have b_5 : zB (-30000) 30000 (a - v) := zB.w (zb_sub hb_a hb_v) (by decide) (by decide)
      refine zr_isub hx hb d_B_narrow_42 ?_
      refine zr_i2l hx hb (zB.I b_5 (by decide) (by decide)) d_B_narrow_43 ?_
      refine lv_lstore (lv' := [(7, .long (zl (a - v))), (5, .long (zl (zabs b))), (0, .ref (ad 7)), (1, .int (zi a)), (2, .int (zi b)), (3, .int (zi d)), (4, .int (zi v))]) hx hb d_B_narrow_44 hl (by decide) rfl (fun ls hl => ?_)
      refine lv_iload_n hx hb d_B_narrow_46 rfl (lv_at hl 4 rfl) ?_
      refine zr_if_le (tgt := 58) hx hb (zB.I r_4 (by decide) (by decide)) d_B_narrow_47 (by decide) (fun _ => ?_) (fun c => absurd c c_3)
      refine lv_iload_n hx hb d_B_narrow_58 rfl (lv_at hl 3 rfl) ?_
      refine lv_iload_n hx hb d_B_narrow_59 rfl (lv_at hl 5 rfl) ?_
      have b_6 : zB (-30000) 30000 (a - d) := zB.w (zb_sub hb_a hb_d) (by decide) (by decide)
      refine zr_isub hx hb d_B_narrow_60 ?_
      refine zr_i2l hx hb (zB.I b_6 (by decide) (by decide)) d_B_narrow_61 ?_
      refine lv_lstore (lv' := [(9, .long (zl (a - d))), (7, .long (zl (a - v))), (5, .long (zl (zabs b))), (0, .ref (ad 7)), (1, .int (zi a)), (2, .int (zi b)), (3, .int (zi d)), (4, .int (zi v))]) hx hb d_B_narrow_62 hl (by decide) rfl (fun ls hl => ?_)
      refine lv_lload hx hb d_B_narrow_64 (lv_at hl 1 rfl) ?_
      refine lv_aload_n hx hb d_B_narrow_66 rfl (lv_at hl 3 rfl) ?_
      refine va_get (D := (dC, dI)) (ci := 0) (v := .long (zl k1)) (C := R_B) (T := T_B) (N := 10) hx hb hw i_B hown hK hP 7 rfl rfl 7 (by decide) (hw _ m_27) (fun _ h9 => h9) rfl d_B_narrow_67 ?_
      have b_7 : zB (-900000000) 900000000 ((a - v) * k1) := zB.w (zb_mul (A := 30000) (B := 30000) (zB.w b_5 (by decide) (by decide)) (zB.w hb_k1 (by decide) (by decide))) (by decide) (by decide)
      refine zr_lmul hx hb d_B_narrow_70 ?_
      refine lv_aload_n hx hb d_B_narrow_71 rfl (lv_at hl 3 rfl) ?_
      refine va_get (D := (dC, dI)) (ci := 0) (v := .long (zl k0)) (C := R_B) (T := T_B) (N := 10) hx hb hw i_B hown hK hP 7 rfl rfl 6 (by decide) (hw _ m_26) (fun _ h9 => h9) rfl d_B_narrow_72 ?_
      refine lv_lload hx hb d_B_narrow_75 (lv_at hl 2 rfl) ?_
      have b_8 : zB (-900000000) 900000000 (k0 * (zabs b)) := zB.w (zb_mul (A := 30000) (B := 30000) (zB.w hb_k0 (by decide) (by decide)) (zB.w b_2 (by decide) (by decide))) (by decide) (by decide)
      refine zr_lmul hx hb d_B_narrow_77 ?_
      refine zr_lcmp_le (tgt := 94) hx hb (zB.L b_7 (by decide) (by decide)) (zB.L b_8 (by decide) (by decide)) d_B_narrow_78 d_B_narrow_79 (by decide) (fun c_9 => ?_) (fun c_9 => ?_)
      · replace hq := (if_neg c_9).symm.trans hq
        refine lv_lload hx hb d_B_narrow_94 (lv_at hl 0 rfl) ?_
        refine lv_aload_n hx hb d_B_narrow_96 rfl (lv_at hl 3 rfl) ?_
        refine va_get (D := (dC, dI)) (ci := 0) (v := .long (zl k3)) (C := R_B) (T := T_B) (N := 10) hx hb hw i_B hown hK hP 7 rfl rfl 9 (by decide) (hw _ m_29) (fun _ h9 => h9) rfl d_B_narrow_97 ?_
        have b_10 : zB (-900000000) 900000000 ((a - d) * k3) := zB.w (zb_mul (A := 30000) (B := 30000) (zB.w b_6 (by decide) (by decide)) (zB.w hb_k3 (by decide) (by decide))) (by decide) (by decide)
        refine zr_lmul hx hb d_B_narrow_100 ?_
        refine lv_aload_n hx hb d_B_narrow_101 rfl (lv_at hl 3 rfl) ?_
        refine va_get (D := (dC, dI)) (ci := 0) (v := .long (zl k2)) (C := R_B) (T := T_B) (N := 10) hx hb hw i_B hown hK hP 7 rfl rfl 8 (by decide) (hw _ m_28) (fun _ h9 => h9) rfl d_B_narrow_102 ?_
        refine lv_lload hx hb d_B_narrow_105 (lv_at hl 2 rfl) ?_
        have b_11 : zB (-900000000) 900000000 (k2 * (zabs b)) := zB.w (zb_mul (A := 30000) (B := 30000) (zB.w hb_k2 (by decide) (by decide)) (zB.w b_2 (by decide) (by decide))) (by decide) (by decide)
        refine zr_lmul hx hb d_B_narrow_107 ?_
        refine zr_lcmp_ge (tgt := 124) hx hb (zB.L b_10 (by decide) (by decide)) (zB.L b_11 (by decide) (by decide)) d_B_narrow_108 d_B_narrow_109 (by decide) (fun c_12 => ?_) (fun c_12 => ?_)
        · replace hq := (if_neg c_12).symm.trans hq
          refine lv_aload_n hx hb d_B_narrow_124 rfl (lv_at hl 3 rfl) ?_
          refine va_get (D := (dC, dI)) (ci := 0) (v := .long (zl k0)) (C := R_B) (T := T_B) (N := 10) hx hb hw i_B hown hK hP 7 rfl rfl 6 (by decide) (hw _ m_26) (fun _ h9 => h9) rfl d_B_narrow_125 ?_
          refine lv_aload_n hx hb d_B_narrow_128 rfl (lv_at hl 3 rfl) ?_
          refine va_get (D := (dC, dI)) (ci := 0) (v := .long (zl k3)) (C := R_B) (T := T_B) (N := 10) hx hb hw i_B hown hK hP 7 rfl rfl 9 (by decide) (hw _ m_29) (fun _ h9 => h9) rfl d_B_narrow_129 ?_
          have b_13 : zB (-900000000) 900000000 (k0 * k3) := zB.w (zb_mul (A := 30000) (B := 30000) (zB.w hb_k0 (by decide) (by decide)) (zB.w hb_k3 (by decide) (by decide))) (by decide) (by decide)
          refine zr_lmul hx hb d_B_narrow_132 ?_
          refine lv_aload_n hx hb d_B_narrow_133 rfl (lv_at hl 3 rfl) ?_
          refine va_get (D := (dC, dI)) (ci := 0) (v := .long (zl k2)) (C := R_B) (T := T_B) (N := 10) hx hb hw i_B hown hK hP 7 rfl rfl 8 (by decide) (hw _ m_28) (fun _ h9 => h9) rfl d_B_narrow_134 ?_
          refine lv_aload_n hx hb d_B_narrow_137 rfl (lv_at hl 3 rfl) ?_
          refine va_get (D := (dC, dI)) (ci := 0) (v := .long (zl k1)) (C := R_B) (T := T_B) (N := 10) hx hb hw i_B hown hK hP 7 rfl rfl 7 (by decide) (hw _ m_27) (fun _ h9 => h9) rfl d_B_narrow_138 ?_
          have b_14 : zB (-900000000) 900000000 (k2 * k1) := zB.w (zb_mul (A := 30000) (B := 30000) (zB.w hb_k2 (by decide) (by decide)) (zB.w hb_k1 (by decide) (by decide))) (by decide) (by decide)
          refine zr_lmul hx hb d_B_narrow_141 ?_
          refine zr_lcmp_gt (tgt := 150) hx hb (zB.L b_13 (by decide) (by decide)) (zB.L b_14 (by decide) (by decide)) d_B_narrow_142 d_B_narrow_143 (by decide) (fun c_15 => ?_) (fun c_15 => ?_)
          · replace hq := (if_pos c_15).symm.trans hq
            refine lv_iconst (v := zi 0) hx hb d_B_narrow_150 rfl ?_
            subst hq
            exact zw_z hx hb hr hlocks (zB.w (zb_c 0) (by decide) (by decide)) rfl hP hS d_B_narrow_151
          · replace hq := (if_neg c_15).symm.trans hq
            refine lv_iconst (v := zi 1) hx hb d_B_narrow_146 rfl ?_
            refine lv_goto (tgt := 151) hx hb d_B_narrow_147 (by decide) ?_
            subst hq
            exact zw_z hx hb hr hlocks (zB.w (zb_c 1) (by decide) (by decide)) rfl hP hS d_B_narrow_151
        · replace hq := (if_pos c_12).symm.trans hq
          refine lv_aload_n hx hb d_B_narrow_112 rfl (lv_at hl 3 rfl) ?_
          refine lv_lload hx hb d_B_narrow_113 (lv_at hl 0 rfl) ?_
          refine va_put (D := (dC, dI)) (ci := 0) (v := .long (zl (a - d))) (ty := .long) (C := R_B) (T := T_B) (N := 10) hx hb hw i_B t_B ty_B nm_B hown hK hP (hD _ _ _ _ _) hS 7 rfl rfl 8 (by decide) (hw _ m_28) (fun _ h9 => h9) rfl (by decide +kernel) rfl rfl (Nat.le_of_ble_eq_true rfl) d_B_narrow_115 (fun H locs hP _ hS => ?_)
          replace hP : va_P (dC, dI) classes (wS ad cI S k0 k1 (a - d) k3) H := hP
          refine lv_aload_n hx hb d_B_narrow_118 rfl (lv_at hl 3 rfl) ?_
          refine lv_lload hx hb d_B_narrow_119 (lv_at hl 2 rfl) ?_
          refine va_put (D := (dC, dI)) (ci := 0) (v := .long (zl (zabs b))) (ty := .long) (C := R_B) (T := T_B) (N := 10) hx hb hw i_B t_B ty_B nm_B hown hK hP (hD _ _ _ _ _) hS 7 rfl rfl 9 (by decide) (hw _ m_29) (fun _ h9 => h9) rfl (by decide +kernel) rfl rfl (Nat.le_of_ble_eq_true rfl) d_B_narrow_121 (fun H locs hP _ hS => ?_)
          replace hP : va_P (dC, dI) classes (wS ad cI S k0 k1 (a - d) (zabs b)) H := hP
          refine lv_aload_n hx hb d_B_narrow_124 rfl (lv_at hl 3 rfl) ?_
          refine va_get (D := (dC, dI)) (ci := 0) (v := .long (zl k0)) (C := R_B) (T := T_B) (N := 10) hx hb hw i_B hown hK hP 7 rfl rfl 6 (by decide) (hw _ m_26) (fun _ h9 => h9) rfl d_B_narrow_125 ?_
          refine lv_aload_n hx hb d_B_narrow_128 rfl (lv_at hl 3 rfl) ?_
          refine va_get (D := (dC, dI)) (ci := 0) (v := .long (zl (zabs b))) (C := R_B) (T := T_B) (N := 10) hx hb hw i_B hown hK hP 7 rfl rfl 9 (by decide) (hw _ m_29) (fun _ h9 => h9) rfl d_B_narrow_129 ?_
          refine zr_lmul hx hb d_B_narrow_132 ?_
          refine lv_aload_n hx hb d_B_narrow_133 rfl (lv_at hl 3 rfl) ?_
          refine va_get (D := (dC, dI)) (ci := 0) (v := .long (zl (a - d))) (C := R_B) (T := T_B) (N := 10) hx hb hw i_B hown hK hP 7 rfl rfl 8 (by decide) (hw _ m_28) (fun _ h9 => h9) rfl d_B_narrow_134 ?_
          refine lv_aload_n hx hb d_B_narrow_137 rfl (lv_at hl 3 rfl) ?_
          refine va_get (D := (dC, dI)) (ci := 0) (v := .long (zl k1)) (C := R_B) (T := T_B) (N := 10) hx hb hw i_B hown hK hP 7 rfl rfl 7 (by decide) (hw _ m_27) (fun _ h9 => h9) rfl d_B_narrow_138 ?_
          have b_16 : zB (-900000000) 900000000 ((a - d) * k1) := zB.w (zb_mul (A := 30000) (B := 30000) (zB.w b_6 (by decide) (by decide)) (zB.w hb_k1 (by decide) (by decide))) (by decide) (by decide)
          refine zr_lmul hx hb d_B_narrow_141 ?_
          refine zr_lcmp_gt (tgt := 150) hx hb (zB.L b_8 (by decide) (by decide)) (zB.L b_16 (by decide) (by decide)) d_B_narrow_142 d_B_narrow_143 (by decide) (fun c_17 => ?_) (fun c_17 => ?_)
          · replace hq := (if_pos c_17).symm.trans hq
            refine lv_iconst (v := zi 0) hx hb d_B_narrow_150 rfl ?_
            subst hq
            exact zw_z hx hb hr hlocks (zB.w (zb_c 0) (by decide) (by decide)) rfl hP hS d_B_narrow_151
          · replace hq := (if_neg c_17).symm.trans hq
            refine lv_iconst (v := zi 1) hx hb d_B_narrow_146 rfl ?_
            refine lv_goto (tgt := 151) hx hb d_B_narrow_147 (by decide) ?_
            subst hq
            exact zw_z hx hb hr hlocks (zB.w (zb_c 1) (by decide) (by decide)) rfl hP hS d_B_narrow_151
      · replace hq := (if_pos c_9).symm.trans hq
        refine lv_aload_n hx hb d_B_narrow_82 rfl (lv_at hl 3 rfl) ?_
        refine lv_lload hx hb d_B_narrow_83 (lv_at hl 1 rfl) ?_
        refine va_put (D := (dC, dI)) (ci := 0) (v := .long (zl (a - v))) (ty := .long) (C := R_B) (T := T_B) (N := 10) hx hb hw i_B t_B ty_B nm_B hown hK hP (hD _ _ _ _ _) hS 7 rfl rfl 6 (by decide) (hw _ m_26) (fun _ h9 => h9) rfl (by decide +kernel) rfl rfl (Nat.le_of_ble_eq_true rfl) d_B_narrow_85 (fun H locs hP _ hS => ?_)
        replace hP : va_P (dC, dI) classes (wS ad cI S (a - v) k1 k2 k3) H := hP
        refine lv_aload_n hx hb d_B_narrow_88 rfl (lv_at hl 3 rfl) ?_
        refine lv_lload hx hb d_B_narrow_89 (lv_at hl 2 rfl) ?_
        refine va_put (D := (dC, dI)) (ci := 0) (v := .long (zl (zabs b))) (ty := .long) (C := R_B) (T := T_B) (N := 10) hx hb hw i_B t_B ty_B nm_B hown hK hP (hD _ _ _ _ _) hS 7 rfl rfl 7 (by decide) (hw _ m_27) (fun _ h9 => h9) rfl (by decide +kernel) rfl rfl (Nat.le_of_ble_eq_true rfl) d_B_narrow_91 (fun H locs hP _ hS => ?_)
        replace hP : va_P (dC, dI) classes (wS ad cI S (a - v) (zabs b) k2 k3) H := hP
        refine lv_lload hx hb d_B_narrow_94 (lv_at hl 0 rfl) ?_
        refine lv_aload_n hx hb d_B_narrow_96 rfl (lv_at hl 3 rfl) ?_
        refine va_get (D := (dC, dI)) (ci := 0) (v := .long (zl k3)) (C := R_B) (T := T_B) (N := 10) hx hb hw i_B hown hK hP 7 rfl rfl 9 (by decide) (hw _ m_29) (fun _ h9 => h9) rfl d_B_narrow_97 ?_
        have b_18 : zB (-900000000) 900000000 ((a - d) * k3) := zB.w (zb_mul (A := 30000) (B := 30000) (zB.w b_6 (by decide) (by decide)) (zB.w hb_k3 (by decide) (by decide))) (by decide) (by decide)
        refine zr_lmul hx hb d_B_narrow_100 ?_
        refine lv_aload_n hx hb d_B_narrow_101 rfl (lv_at hl 3 rfl) ?_
        refine va_get (D := (dC, dI)) (ci := 0) (v := .long (zl k2)) (C := R_B) (T := T_B) (N := 10) hx hb hw i_B hown hK hP 7 rfl rfl 8 (by decide) (hw _ m_28) (fun _ h9 => h9) rfl d_B_narrow_102 ?_
        refine lv_lload hx hb d_B_narrow_105 (lv_at hl 2 rfl) ?_
        have b_19 : zB (-900000000) 900000000 (k2 * (zabs b)) := zB.w (zb_mul (A := 30000) (B := 30000) (zB.w hb_k2 (by decide) (by decide)) (zB.w b_2 (by decide) (by decide))) (by decide) (by decide)
        refine zr_lmul hx hb d_B_narrow_107 ?_
        refine zr_lcmp_ge (tgt := 124) hx hb (zB.L b_18 (by decide) (by decide)) (zB.L b_19 (by decide) (by decide)) d_B_narrow_108 d_B_narrow_109 (by decide) (fun c_20 => ?_) (fun c_20 => ?_)
        · replace hq := (if_neg c_20).symm.trans hq
          refine lv_aload_n hx hb d_B_narrow_124 rfl (lv_at hl 3 rfl) ?_
          refine va_get (D := (dC, dI)) (ci := 0) (v := .long (zl (a - v))) (C := R_B) (T := T_B) (N := 10) hx hb hw i_B hown hK hP 7 rfl rfl 6 (by decide) (hw _ m_26) (fun _ h9 => h9) rfl d_B_narrow_125 ?_
          refine lv_aload_n hx hb d_B_narrow_128 rfl (lv_at hl 3 rfl) ?_
          refine va_get (D := (dC, dI)) (ci := 0) (v := .long (zl k3)) (C := R_B) (T := T_B) (N := 10) hx hb hw i_B hown hK hP 7 rfl rfl 9 (by decide) (hw _ m_29) (fun _ h9 => h9) rfl d_B_narrow_129 ?_
          have b_21 : zB (-900000000) 900000000 ((a - v) * k3) := zB.w (zb_mul (A := 30000) (B := 30000) (zB.w b_5 (by decide) (by decide)) (zB.w hb_k3 (by decide) (by decide))) (by decide) (by decide)
          refine zr_lmul hx hb d_B_narrow_132 ?_
          refine lv_aload_n hx hb d_B_narrow_133 rfl (lv_at hl 3 rfl) ?_
          refine va_get (D := (dC, dI)) (ci := 0) (v := .long (zl k2)) (C := R_B) (T := T_B) (N := 10) hx hb hw i_B hown hK hP 7 rfl rfl 8 (by decide) (hw _ m_28) (fun _ h9 => h9) rfl d_B_narrow_134 ?_
          refine lv_aload_n hx hb d_B_narrow_137 rfl (lv_at hl 3 rfl) ?_
          refine va_get (D := (dC, dI)) (ci := 0) (v := .long (zl (zabs b))) (C := R_B) (T := T_B) (N := 10) hx hb hw i_B hown hK hP 7 rfl rfl 7 (by decide) (hw _ m_27) (fun _ h9 => h9) rfl d_B_narrow_138 ?_
          refine zr_lmul hx hb d_B_narrow_141 ?_
          refine zr_lcmp_gt (tgt := 150) hx hb (zB.L b_21 (by decide) (by decide)) (zB.L b_19 (by decide) (by decide)) d_B_narrow_142 d_B_narrow_143 (by decide) (fun c_22 => ?_) (fun c_22 => ?_)
          · replace hq := (if_pos c_22).symm.trans hq
            refine lv_iconst (v := zi 0) hx hb d_B_narrow_150 rfl ?_
            subst hq
            exact zw_z hx hb hr hlocks (zB.w (zb_c 0) (by decide) (by decide)) rfl hP hS d_B_narrow_151
          · replace hq := (if_neg c_22).symm.trans hq
            refine lv_iconst (v := zi 1) hx hb d_B_narrow_146 rfl ?_
            refine lv_goto (tgt := 151) hx hb d_B_narrow_147 (by decide) ?_
            subst hq
            exact zw_z hx hb hr hlocks (zB.w (zb_c 1) (by decide) (by decide)) rfl hP hS d_B_narrow_151
        · replace hq := (if_pos c_20).symm.trans hq
          refine lv_aload_n hx hb d_B_narrow_112 rfl (lv_at hl 3 rfl) ?_
          refine lv_lload hx hb d_B_narrow_113 (lv_at hl 0 rfl) ?_
          refine va_put (D := (dC, dI)) (ci := 0) (v := .long (zl (a - d))) (ty := .long) (C := R_B) (T := T_B) (N := 10) hx hb hw i_B t_B ty_B nm_B hown hK hP (hD _ _ _ _ _) hS 7 rfl rfl 8 (by decide) (hw _ m_28) (fun _ h9 => h9) rfl (by decide +kernel) rfl rfl (Nat.le_of_ble_eq_true rfl) d_B_narrow_115 (fun H locs hP _ hS => ?_)
          replace hP : va_P (dC, dI) classes (wS ad cI S (a - v) (zabs b) (a - d) k3) H := hP
          refine lv_aload_n hx hb d_B_narrow_118 rfl (lv_at hl 3 rfl) ?_
          refine lv_lload hx hb d_B_narrow_119 (lv_at hl 2 rfl) ?_
          refine va_put (D := (dC, dI)) (ci := 0) (v := .long (zl (zabs b))) (ty := .long) (C := R_B) (T := T_B) (N := 10) hx hb hw i_B t_B ty_B nm_B hown hK hP (hD _ _ _ _ _) hS 7 rfl rfl 9 (by decide) (hw _ m_29) (fun _ h9 => h9) rfl (by decide +kernel) rfl rfl (Nat.le_of_ble_eq_true rfl) d_B_narrow_121 (fun H locs hP _ hS => ?_)
          replace hP : va_P (dC, dI) classes (wS ad cI S (a - v) (zabs b) (a - d) (zabs b)) H := hP
          refine lv_aload_n hx hb d_B_narrow_124 rfl (lv_at hl 3 rfl) ?_
          refine va_get (D := (dC, dI)) (ci := 0) (v := .long (zl (a - v))) (C := R_B) (T := T_B) (N := 10) hx hb hw i_B hown hK hP 7 rfl rfl 6 (by decide) (hw _ m_26) (fun _ h9 => h9) rfl d_B_narrow_125 ?_
          refine lv_aload_n hx hb d_B_narrow_128 rfl (lv_at hl 3 rfl) ?_
          refine va_get (D := (dC, dI)) (ci := 0) (v := .long (zl (zabs b))) (C := R_B) (T := T_B) (N := 10) hx hb hw i_B hown hK hP 7 rfl rfl 9 (by decide) (hw _ m_29) (fun _ h9 => h9) rfl d_B_narrow_129 ?_
          have b_23 : zB (-900000000) 900000000 ((a - v) * (zabs b)) := zB.w (zb_mul (A := 30000) (B := 30000) (zB.w b_5 (by decide) (by decide)) (zB.w b_2 (by decide) (by decide))) (by decide) (by decide)
          refine zr_lmul hx hb d_B_narrow_132 ?_
          refine lv_aload_n hx hb d_B_narrow_133 rfl (lv_at hl 3 rfl) ?_
          refine va_get (D := (dC, dI)) (ci := 0) (v := .long (zl (a - d))) (C := R_B) (T := T_B) (N := 10) hx hb hw i_B hown hK hP 7 rfl rfl 8 (by decide) (hw _ m_28) (fun _ h9 => h9) rfl d_B_narrow_134 ?_
          refine lv_aload_n hx hb d_B_narrow_137 rfl (lv_at hl 3 rfl) ?_
          refine va_get (D := (dC, dI)) (ci := 0) (v := .long (zl (zabs b))) (C := R_B) (T := T_B) (N := 10) hx hb hw i_B hown hK hP 7 rfl rfl 7 (by decide) (hw _ m_27) (fun _ h9 => h9) rfl d_B_narrow_138 ?_
          have b_24 : zB (-900000000) 900000000 ((a - d) * (zabs b)) := zB.w (zb_mul (A := 30000) (B := 30000) (zB.w b_6 (by decide) (by decide)) (zB.w b_2 (by decide) (by decide))) (by decide) (by decide)
          refine zr_lmul hx hb d_B_narrow_141 ?_
          refine zr_lcmp_gt (tgt := 150) hx hb (zB.L b_23 (by decide) (by decide)) (zB.L b_24 (by decide) (by decide)) d_B_narrow_142 d_B_narrow_143 (by decide) (fun c_25 => ?_) (fun c_25 => ?_)
          · replace hq := (if_pos c_25).symm.trans hq
            refine lv_iconst (v := zi 0) hx hb d_B_narrow_150 rfl ?_
            subst hq
            exact zw_z hx hb hr hlocks (zB.w (zb_c 0) (by decide) (by decide)) rfl hP hS d_B_narrow_151
          · replace hq := (if_neg c_25).symm.trans hq
            refine lv_iconst (v := zi 1) hx hb d_B_narrow_146 rfl ?_
            refine lv_goto (tgt := 151) hx hb d_B_narrow_147 (by decide) ?_
            subst hq
            exact zw_z hx hb hr hlocks (zB.w (zb_c 1) (by decide) (by decide)) rfl hP hS d_B_narrow_151
    · replace hq := (if_pos c_3).symm.trans hq
      have r_26 : zB 1 30000 b := ⟨(Int.add_one_le_of_lt c_3), hb_b.2⟩
      refine lv_iload_n hx hb d_B_narrow_32 rfl (lv_at hl 4 rfl) ?_
      refine lv_iload_n hx hb d_B_narrow_33 rfl (lv_at hl 2 rfl) ?_
      have b_27 : zB (-30000) 30000 (d - a) := zB.w (zb_sub hb_d hb_a) (by decide) (by decide)
      refine zr_isub hx hb d_B_narrow_34 ?_
      refine zr_i2l hx hb (zB.I b_27 (by decide) (by decide)) d_B_narrow_35 ?_
      refine lv_goto (tgt := 44) hx hb d_B_narrow_36 (by decide) ?_
      refine lv_lstore (lv' := [(7, .long (zl (d - a))), (5, .long (zl (zabs b))), (0, .ref (ad 7)), (1, .int (zi a)), (2, .int (zi b)), (3, .int (zi d)), (4, .int (zi v))]) hx hb d_B_narrow_44 hl (by decide) rfl (fun ls hl => ?_)
      refine lv_iload_n hx hb d_B_narrow_46 rfl (lv_at hl 4 rfl) ?_
      refine zr_if_le (tgt := 58) hx hb (zB.I r_26 (by decide) (by decide)) d_B_narrow_47 (by decide) (fun c => absurd c_3 c) (fun _ => ?_)
      refine lv_iload hx hb d_B_narrow_50 (lv_at hl 6 rfl) ?_
      refine lv_iload_n hx hb d_B_narrow_52 rfl (lv_at hl 3 rfl) ?_
      have b_28 : zB (-30000) 30000 (v - a) := zB.w (zb_sub hb_v hb_a) (by decide) (by decide)
      refine zr_isub hx hb d_B_narrow_53 ?_
      refine zr_i2l hx hb (zB.I b_28 (by decide) (by decide)) d_B_narrow_54 ?_
      refine lv_goto (tgt := 62) hx hb d_B_narrow_55 (by decide) ?_
      refine lv_lstore (lv' := [(9, .long (zl (v - a))), (7, .long (zl (d - a))), (5, .long (zl (zabs b))), (0, .ref (ad 7)), (1, .int (zi a)), (2, .int (zi b)), (3, .int (zi d)), (4, .int (zi v))]) hx hb d_B_narrow_62 hl (by decide) rfl (fun ls hl => ?_)
      refine lv_lload hx hb d_B_narrow_64 (lv_at hl 1 rfl) ?_
      refine lv_aload_n hx hb d_B_narrow_66 rfl (lv_at hl 3 rfl) ?_
      refine va_get (D := (dC, dI)) (ci := 0) (v := .long (zl k1)) (C := R_B) (T := T_B) (N := 10) hx hb hw i_B hown hK hP 7 rfl rfl 7 (by decide) (hw _ m_27) (fun _ h9 => h9) rfl d_B_narrow_67 ?_
      have b_29 : zB (-900000000) 900000000 ((d - a) * k1) := zB.w (zb_mul (A := 30000) (B := 30000) (zB.w b_27 (by decide) (by decide)) (zB.w hb_k1 (by decide) (by decide))) (by decide) (by decide)
      refine zr_lmul hx hb d_B_narrow_70 ?_
      refine lv_aload_n hx hb d_B_narrow_71 rfl (lv_at hl 3 rfl) ?_
      refine va_get (D := (dC, dI)) (ci := 0) (v := .long (zl k0)) (C := R_B) (T := T_B) (N := 10) hx hb hw i_B hown hK hP 7 rfl rfl 6 (by decide) (hw _ m_26) (fun _ h9 => h9) rfl d_B_narrow_72 ?_
      refine lv_lload hx hb d_B_narrow_75 (lv_at hl 2 rfl) ?_
      have b_30 : zB (-900000000) 900000000 (k0 * (zabs b)) := zB.w (zb_mul (A := 30000) (B := 30000) (zB.w hb_k0 (by decide) (by decide)) (zB.w b_2 (by decide) (by decide))) (by decide) (by decide)
      refine zr_lmul hx hb d_B_narrow_77 ?_
      refine zr_lcmp_le (tgt := 94) hx hb (zB.L b_29 (by decide) (by decide)) (zB.L b_30 (by decide) (by decide)) d_B_narrow_78 d_B_narrow_79 (by decide) (fun c_31 => ?_) (fun c_31 => ?_)
      · replace hq := (if_neg c_31).symm.trans hq
        refine lv_lload hx hb d_B_narrow_94 (lv_at hl 0 rfl) ?_
        refine lv_aload_n hx hb d_B_narrow_96 rfl (lv_at hl 3 rfl) ?_
        refine va_get (D := (dC, dI)) (ci := 0) (v := .long (zl k3)) (C := R_B) (T := T_B) (N := 10) hx hb hw i_B hown hK hP 7 rfl rfl 9 (by decide) (hw _ m_29) (fun _ h9 => h9) rfl d_B_narrow_97 ?_
        have b_32 : zB (-900000000) 900000000 ((v - a) * k3) := zB.w (zb_mul (A := 30000) (B := 30000) (zB.w b_28 (by decide) (by decide)) (zB.w hb_k3 (by decide) (by decide))) (by decide) (by decide)
        refine zr_lmul hx hb d_B_narrow_100 ?_
        refine lv_aload_n hx hb d_B_narrow_101 rfl (lv_at hl 3 rfl) ?_
        refine va_get (D := (dC, dI)) (ci := 0) (v := .long (zl k2)) (C := R_B) (T := T_B) (N := 10) hx hb hw i_B hown hK hP 7 rfl rfl 8 (by decide) (hw _ m_28) (fun _ h9 => h9) rfl d_B_narrow_102 ?_
        refine lv_lload hx hb d_B_narrow_105 (lv_at hl 2 rfl) ?_
        have b_33 : zB (-900000000) 900000000 (k2 * (zabs b)) := zB.w (zb_mul (A := 30000) (B := 30000) (zB.w hb_k2 (by decide) (by decide)) (zB.w b_2 (by decide) (by decide))) (by decide) (by decide)
        refine zr_lmul hx hb d_B_narrow_107 ?_
        refine zr_lcmp_ge (tgt := 124) hx hb (zB.L b_32 (by decide) (by decide)) (zB.L b_33 (by decide) (by decide)) d_B_narrow_108 d_B_narrow_109 (by decide) (fun c_34 => ?_) (fun c_34 => ?_)
        · replace hq := (if_neg c_34).symm.trans hq
          refine lv_aload_n hx hb d_B_narrow_124 rfl (lv_at hl 3 rfl) ?_
          refine va_get (D := (dC, dI)) (ci := 0) (v := .long (zl k0)) (C := R_B) (T := T_B) (N := 10) hx hb hw i_B hown hK hP 7 rfl rfl 6 (by decide) (hw _ m_26) (fun _ h9 => h9) rfl d_B_narrow_125 ?_
          refine lv_aload_n hx hb d_B_narrow_128 rfl (lv_at hl 3 rfl) ?_
          refine va_get (D := (dC, dI)) (ci := 0) (v := .long (zl k3)) (C := R_B) (T := T_B) (N := 10) hx hb hw i_B hown hK hP 7 rfl rfl 9 (by decide) (hw _ m_29) (fun _ h9 => h9) rfl d_B_narrow_129 ?_
          have b_35 : zB (-900000000) 900000000 (k0 * k3) := zB.w (zb_mul (A := 30000) (B := 30000) (zB.w hb_k0 (by decide) (by decide)) (zB.w hb_k3 (by decide) (by decide))) (by decide) (by decide)
          refine zr_lmul hx hb d_B_narrow_132 ?_
          refine lv_aload_n hx hb d_B_narrow_133 rfl (lv_at hl 3 rfl) ?_
          refine va_get (D := (dC, dI)) (ci := 0) (v := .long (zl k2)) (C := R_B) (T := T_B) (N := 10) hx hb hw i_B hown hK hP 7 rfl rfl 8 (by decide) (hw _ m_28) (fun _ h9 => h9) rfl d_B_narrow_134 ?_
          refine lv_aload_n hx hb d_B_narrow_137 rfl (lv_at hl 3 rfl) ?_
          refine va_get (D := (dC, dI)) (ci := 0) (v := .long (zl k1)) (C := R_B) (T := T_B) (N := 10) hx hb hw i_B hown hK hP 7 rfl rfl 7 (by decide) (hw _ m_27) (fun _ h9 => h9) rfl d_B_narrow_138 ?_
          have b_36 : zB (-900000000) 900000000 (k2 * k1) := zB.w (zb_mul (A := 30000) (B := 30000) (zB.w hb_k2 (by decide) (by decide)) (zB.w hb_k1 (by decide) (by decide))) (by decide) (by decide)
          refine zr_lmul hx hb d_B_narrow_141 ?_
          refine zr_lcmp_gt (tgt := 150) hx hb (zB.L b_35 (by decide) (by decide)) (zB.L b_36 (by decide) (by decide)) d_B_narrow_142 d_B_narrow_143 (by decide) (fun c_37 => ?_) (fun c_37 => ?_)
          · replace hq := (if_pos c_37).symm.trans hq
            refine lv_iconst (v := zi 0) hx hb d_B_narrow_150 rfl ?_
            subst hq
            exact zw_z hx hb hr hlocks (zB.w (zb_c 0) (by decide) (by decide)) rfl hP hS d_B_narrow_151
          · replace hq := (if_neg c_37).symm.trans hq
            refine lv_iconst (v := zi 1) hx hb d_B_narrow_146 rfl ?_
            refine lv_goto (tgt := 151) hx hb d_B_narrow_147 (by decide) ?_
            subst hq
            exact zw_z hx hb hr hlocks (zB.w (zb_c 1) (by decide) (by decide)) rfl hP hS d_B_narrow_151
        · replace hq := (if_pos c_34).symm.trans hq
          refine lv_aload_n hx hb d_B_narrow_112 rfl (lv_at hl 3 rfl) ?_
          refine lv_lload hx hb d_B_narrow_113 (lv_at hl 0 rfl) ?_
          refine va_put (D := (dC, dI)) (ci := 0) (v := .long (zl (v - a))) (ty := .long) (C := R_B) (T := T_B) (N := 10) hx hb hw i_B t_B ty_B nm_B hown hK hP (hD _ _ _ _ _) hS 7 rfl rfl 8 (by decide) (hw _ m_28) (fun _ h9 => h9) rfl (by decide +kernel) rfl rfl (Nat.le_of_ble_eq_true rfl) d_B_narrow_115 (fun H locs hP _ hS => ?_)
          replace hP : va_P (dC, dI) classes (wS ad cI S k0 k1 (v - a) k3) H := hP
          refine lv_aload_n hx hb d_B_narrow_118 rfl (lv_at hl 3 rfl) ?_
          refine lv_lload hx hb d_B_narrow_119 (lv_at hl 2 rfl) ?_
          refine va_put (D := (dC, dI)) (ci := 0) (v := .long (zl (zabs b))) (ty := .long) (C := R_B) (T := T_B) (N := 10) hx hb hw i_B t_B ty_B nm_B hown hK hP (hD _ _ _ _ _) hS 7 rfl rfl 9 (by decide) (hw _ m_29) (fun _ h9 => h9) rfl (by decide +kernel) rfl rfl (Nat.le_of_ble_eq_true rfl) d_B_narrow_121 (fun H locs hP _ hS => ?_)
          replace hP : va_P (dC, dI) classes (wS ad cI S k0 k1 (v - a) (zabs b)) H := hP
          refine lv_aload_n hx hb d_B_narrow_124 rfl (lv_at hl 3 rfl) ?_
          refine va_get (D := (dC, dI)) (ci := 0) (v := .long (zl k0)) (C := R_B) (T := T_B) (N := 10) hx hb hw i_B hown hK hP 7 rfl rfl 6 (by decide) (hw _ m_26) (fun _ h9 => h9) rfl d_B_narrow_125 ?_
          refine lv_aload_n hx hb d_B_narrow_128 rfl (lv_at hl 3 rfl) ?_
          refine va_get (D := (dC, dI)) (ci := 0) (v := .long (zl (zabs b))) (C := R_B) (T := T_B) (N := 10) hx hb hw i_B hown hK hP 7 rfl rfl 9 (by decide) (hw _ m_29) (fun _ h9 => h9) rfl d_B_narrow_129 ?_
          refine zr_lmul hx hb d_B_narrow_132 ?_
          refine lv_aload_n hx hb d_B_narrow_133 rfl (lv_at hl 3 rfl) ?_
          refine va_get (D := (dC, dI)) (ci := 0) (v := .long (zl (v - a))) (C := R_B) (T := T_B) (N := 10) hx hb hw i_B hown hK hP 7 rfl rfl 8 (by decide) (hw _ m_28) (fun _ h9 => h9) rfl d_B_narrow_134 ?_
          refine lv_aload_n hx hb d_B_narrow_137 rfl (lv_at hl 3 rfl) ?_
          refine va_get (D := (dC, dI)) (ci := 0) (v := .long (zl k1)) (C := R_B) (T := T_B) (N := 10) hx hb hw i_B hown hK hP 7 rfl rfl 7 (by decide) (hw _ m_27) (fun _ h9 => h9) rfl d_B_narrow_138 ?_
          have b_38 : zB (-900000000) 900000000 ((v - a) * k1) := zB.w (zb_mul (A := 30000) (B := 30000) (zB.w b_28 (by decide) (by decide)) (zB.w hb_k1 (by decide) (by decide))) (by decide) (by decide)
          refine zr_lmul hx hb d_B_narrow_141 ?_
          refine zr_lcmp_gt (tgt := 150) hx hb (zB.L b_30 (by decide) (by decide)) (zB.L b_38 (by decide) (by decide)) d_B_narrow_142 d_B_narrow_143 (by decide) (fun c_39 => ?_) (fun c_39 => ?_)
          · replace hq := (if_pos c_39).symm.trans hq
            refine lv_iconst (v := zi 0) hx hb d_B_narrow_150 rfl ?_
            subst hq
            exact zw_z hx hb hr hlocks (zB.w (zb_c 0) (by decide) (by decide)) rfl hP hS d_B_narrow_151
          · replace hq := (if_neg c_39).symm.trans hq
            refine lv_iconst (v := zi 1) hx hb d_B_narrow_146 rfl ?_
            refine lv_goto (tgt := 151) hx hb d_B_narrow_147 (by decide) ?_
            subst hq
            exact zw_z hx hb hr hlocks (zB.w (zb_c 1) (by decide) (by decide)) rfl hP hS d_B_narrow_151
      · replace hq := (if_pos c_31).symm.trans hq
        refine lv_aload_n hx hb d_B_narrow_82 rfl (lv_at hl 3 rfl) ?_
        refine lv_lload hx hb d_B_narrow_83 (lv_at hl 1 rfl) ?_
        refine va_put (D := (dC, dI)) (ci := 0) (v := .long (zl (d - a))) (ty := .long) (C := R_B) (T := T_B) (N := 10) hx hb hw i_B t_B ty_B nm_B hown hK hP (hD _ _ _ _ _) hS 7 rfl rfl 6 (by decide) (hw _ m_26) (fun _ h9 => h9) rfl (by decide +kernel) rfl rfl (Nat.le_of_ble_eq_true rfl) d_B_narrow_85 (fun H locs hP _ hS => ?_)
        replace hP : va_P (dC, dI) classes (wS ad cI S (d - a) k1 k2 k3) H := hP
        refine lv_aload_n hx hb d_B_narrow_88 rfl (lv_at hl 3 rfl) ?_
        refine lv_lload hx hb d_B_narrow_89 (lv_at hl 2 rfl) ?_
        refine va_put (D := (dC, dI)) (ci := 0) (v := .long (zl (zabs b))) (ty := .long) (C := R_B) (T := T_B) (N := 10) hx hb hw i_B t_B ty_B nm_B hown hK hP (hD _ _ _ _ _) hS 7 rfl rfl 7 (by decide) (hw _ m_27) (fun _ h9 => h9) rfl (by decide +kernel) rfl rfl (Nat.le_of_ble_eq_true rfl) d_B_narrow_91 (fun H locs hP _ hS => ?_)
        replace hP : va_P (dC, dI) classes (wS ad cI S (d - a) (zabs b) k2 k3) H := hP
        refine lv_lload hx hb d_B_narrow_94 (lv_at hl 0 rfl) ?_
        refine lv_aload_n hx hb d_B_narrow_96 rfl (lv_at hl 3 rfl) ?_
        refine va_get (D := (dC, dI)) (ci := 0) (v := .long (zl k3)) (C := R_B) (T := T_B) (N := 10) hx hb hw i_B hown hK hP 7 rfl rfl 9 (by decide) (hw _ m_29) (fun _ h9 => h9) rfl d_B_narrow_97 ?_
        have b_40 : zB (-900000000) 900000000 ((v - a) * k3) := zB.w (zb_mul (A := 30000) (B := 30000) (zB.w b_28 (by decide) (by decide)) (zB.w hb_k3 (by decide) (by decide))) (by decide) (by decide)
        refine zr_lmul hx hb d_B_narrow_100 ?_
        refine lv_aload_n hx hb d_B_narrow_101 rfl (lv_at hl 3 rfl) ?_
        refine va_get (D := (dC, dI)) (ci := 0) (v := .long (zl k2)) (C := R_B) (T := T_B) (N := 10) hx hb hw i_B hown hK hP 7 rfl rfl 8 (by decide) (hw _ m_28) (fun _ h9 => h9) rfl d_B_narrow_102 ?_
        refine lv_lload hx hb d_B_narrow_105 (lv_at hl 2 rfl) ?_
        have b_41 : zB (-900000000) 900000000 (k2 * (zabs b)) := zB.w (zb_mul (A := 30000) (B := 30000) (zB.w hb_k2 (by decide) (by decide)) (zB.w b_2 (by decide) (by decide))) (by decide) (by decide)
        refine zr_lmul hx hb d_B_narrow_107 ?_
        refine zr_lcmp_ge (tgt := 124) hx hb (zB.L b_40 (by decide) (by decide)) (zB.L b_41 (by decide) (by decide)) d_B_narrow_108 d_B_narrow_109 (by decide) (fun c_42 => ?_) (fun c_42 => ?_)
        · replace hq := (if_neg c_42).symm.trans hq
          refine lv_aload_n hx hb d_B_narrow_124 rfl (lv_at hl 3 rfl) ?_
          refine va_get (D := (dC, dI)) (ci := 0) (v := .long (zl (d - a))) (C := R_B) (T := T_B) (N := 10) hx hb hw i_B hown hK hP 7 rfl rfl 6 (by decide) (hw _ m_26) (fun _ h9 => h9) rfl d_B_narrow_125 ?_
          refine lv_aload_n hx hb d_B_narrow_128 rfl (lv_at hl 3 rfl) ?_
          refine va_get (D := (dC, dI)) (ci := 0) (v := .long (zl k3)) (C := R_B) (T := T_B) (N := 10) hx hb hw i_B hown hK hP 7 rfl rfl 9 (by decide) (hw _ m_29) (fun _ h9 => h9) rfl d_B_narrow_129 ?_
          have b_43 : zB (-900000000) 900000000 ((d - a) * k3) := zB.w (zb_mul (A := 30000) (B := 30000) (zB.w b_27 (by decide) (by decide)) (zB.w hb_k3 (by decide) (by decide))) (by decide) (by decide)
          refine zr_lmul hx hb d_B_narrow_132 ?_
          refine lv_aload_n hx hb d_B_narrow_133 rfl (lv_at hl 3 rfl) ?_
          refine va_get (D := (dC, dI)) (ci := 0) (v := .long (zl k2)) (C := R_B) (T := T_B) (N := 10) hx hb hw i_B hown hK hP 7 rfl rfl 8 (by decide) (hw _ m_28) (fun _ h9 => h9) rfl d_B_narrow_134 ?_
          refine lv_aload_n hx hb d_B_narrow_137 rfl (lv_at hl 3 rfl) ?_
          refine va_get (D := (dC, dI)) (ci := 0) (v := .long (zl (zabs b))) (C := R_B) (T := T_B) (N := 10) hx hb hw i_B hown hK hP 7 rfl rfl 7 (by decide) (hw _ m_27) (fun _ h9 => h9) rfl d_B_narrow_138 ?_
          refine zr_lmul hx hb d_B_narrow_141 ?_
          refine zr_lcmp_gt (tgt := 150) hx hb (zB.L b_43 (by decide) (by decide)) (zB.L b_41 (by decide) (by decide)) d_B_narrow_142 d_B_narrow_143 (by decide) (fun c_44 => ?_) (fun c_44 => ?_)
          · replace hq := (if_pos c_44).symm.trans hq
            refine lv_iconst (v := zi 0) hx hb d_B_narrow_150 rfl ?_
            subst hq
            exact zw_z hx hb hr hlocks (zB.w (zb_c 0) (by decide) (by decide)) rfl hP hS d_B_narrow_151
          · replace hq := (if_neg c_44).symm.trans hq
            refine lv_iconst (v := zi 1) hx hb d_B_narrow_146 rfl ?_
            refine lv_goto (tgt := 151) hx hb d_B_narrow_147 (by decide) ?_
            subst hq
            exact zw_z hx hb hr hlocks (zB.w (zb_c 1) (by decide) (by decide)) rfl hP hS d_B_narrow_151
        · replace hq := (if_pos c_42).symm.trans hq
          refine lv_aload_n hx hb d_B_narrow_112 rfl (lv_at hl 3 rfl) ?_
          refine lv_lload hx hb d_B_narrow_113 (lv_at hl 0 rfl) ?_
          refine va_put (D := (dC, dI)) (ci := 0) (v := .long (zl (v - a))) (ty := .long) (C := R_B) (T := T_B) (N := 10) hx hb hw i_B t_B ty_B nm_B hown hK hP (hD _ _ _ _ _) hS 7 rfl rfl 8 (by decide) (hw _ m_28) (fun _ h9 => h9) rfl (by decide +kernel) rfl rfl (Nat.le_of_ble_eq_true rfl) d_B_narrow_115 (fun H locs hP _ hS => ?_)
          replace hP : va_P (dC, dI) classes (wS ad cI S (d - a) (zabs b) (v - a) k3) H := hP
          refine lv_aload_n hx hb d_B_narrow_118 rfl (lv_at hl 3 rfl) ?_
          refine lv_lload hx hb d_B_narrow_119 (lv_at hl 2 rfl) ?_
          refine va_put (D := (dC, dI)) (ci := 0) (v := .long (zl (zabs b))) (ty := .long) (C := R_B) (T := T_B) (N := 10) hx hb hw i_B t_B ty_B nm_B hown hK hP (hD _ _ _ _ _) hS 7 rfl rfl 9 (by decide) (hw _ m_29) (fun _ h9 => h9) rfl (by decide +kernel) rfl rfl (Nat.le_of_ble_eq_true rfl) d_B_narrow_121 (fun H locs hP _ hS => ?_)
          replace hP : va_P (dC, dI) classes (wS ad cI S (d - a) (zabs b) (v - a) (zabs b)) H := hP
          refine lv_aload_n hx hb d_B_narrow_124 rfl (lv_at hl 3 rfl) ?_
          refine va_get (D := (dC, dI)) (ci := 0) (v := .long (zl (d - a))) (C := R_B) (T := T_B) (N := 10) hx hb hw i_B hown hK hP 7 rfl rfl 6 (by decide) (hw _ m_26) (fun _ h9 => h9) rfl d_B_narrow_125 ?_
          refine lv_aload_n hx hb d_B_narrow_128 rfl (lv_at hl 3 rfl) ?_
          refine va_get (D := (dC, dI)) (ci := 0) (v := .long (zl (zabs b))) (C := R_B) (T := T_B) (N := 10) hx hb hw i_B hown hK hP 7 rfl rfl 9 (by decide) (hw _ m_29) (fun _ h9 => h9) rfl d_B_narrow_129 ?_
          have b_45 : zB (-900000000) 900000000 ((d - a) * (zabs b)) := zB.w (zb_mul (A := 30000) (B := 30000) (zB.w b_27 (by decide) (by decide)) (zB.w b_2 (by decide) (by decide))) (by decide) (by decide)
          refine zr_lmul hx hb d_B_narrow_132 ?_
          refine lv_aload_n hx hb d_B_narrow_133 rfl (lv_at hl 3 rfl) ?_
          refine va_get (D := (dC, dI)) (ci := 0) (v := .long (zl (v - a))) (C := R_B) (T := T_B) (N := 10) hx hb hw i_B hown hK hP 7 rfl rfl 8 (by decide) (hw _ m_28) (fun _ h9 => h9) rfl d_B_narrow_134 ?_
          refine lv_aload_n hx hb d_B_narrow_137 rfl (lv_at hl 3 rfl) ?_
          refine va_get (D := (dC, dI)) (ci := 0) (v := .long (zl (zabs b))) (C := R_B) (T := T_B) (N := 10) hx hb hw i_B hown hK hP 7 rfl rfl 7 (by decide) (hw _ m_27) (fun _ h9 => h9) rfl d_B_narrow_138 ?_
          have b_46 : zB (-900000000) 900000000 ((v - a) * (zabs b)) := zB.w (zb_mul (A := 30000) (B := 30000) (zB.w b_28 (by decide) (by decide)) (zB.w b_2 (by decide) (by decide))) (by decide) (by decide)
          refine zr_lmul hx hb d_B_narrow_141 ?_
          refine zr_lcmp_gt (tgt := 150) hx hb (zB.L b_45 (by decide) (by decide)) (zB.L b_46 (by decide) (by decide)) d_B_narrow_142 d_B_narrow_143 (by decide) (fun c_47 => ?_) (fun c_47 => ?_)
          · replace hq := (if_pos c_47).symm.trans hq
            refine lv_iconst (v := zi 0) hx hb d_B_narrow_150 rfl ?_
            subst hq
            exact zw_z hx hb hr hlocks (zB.w (zb_c 0) (by decide) (by decide)) rfl hP hS d_B_narrow_151
          · replace hq := (if_neg c_47).symm.trans hq
            refine lv_iconst (v := zi 1) hx hb d_B_narrow_146 rfl ?_
            refine lv_goto (tgt := 151) hx hb d_B_narrow_147 (by decide) ?_
            subst hq
            exact zw_z hx hb hr hlocks (zB.w (zb_c 1) (by decide) (by decide)) rfl hP hS d_B_narrow_151
  · replace hq := (if_pos c_1).symm.trans hq
    have r_48 : zB 0 0 b := ⟨(Int.le_of_eq c_1.symm), (Int.le_of_eq c_1)⟩
    refine lv_iload_n hx hb d_B_narrow_4 rfl (lv_at hl 3 rfl) ?_
    refine lv_iload_n hx hb d_B_narrow_5 rfl (lv_at hl 1 rfl) ?_
    refine zr_icmp_gt (tgt := 19) hx hb (zB.I hb_d (by decide) (by decide)) (zB.I hb_a (by decide) (by decide)) d_B_narrow_6 (by decide) (fun c_49 => ?_) (fun c_49 => ?_)
    · replace hq := (if_pos c_49).symm.trans hq
      refine lv_iconst (v := zi 0) hx hb d_B_narrow_19 rfl ?_
      subst hq
      exact zw_z hx hb hr hlocks (zB.w (zb_c 0) (by decide) (by decide)) rfl hP hS d_B_narrow_20
    · replace hq := (if_neg c_49).symm.trans hq
      refine lv_iload_n hx hb d_B_narrow_9 rfl (lv_at hl 1 rfl) ?_
      refine lv_iload hx hb d_B_narrow_10 (lv_at hl 4 rfl) ?_
      refine zr_icmp_gt (tgt := 19) hx hb (zB.I hb_a (by decide) (by decide)) (zB.I hb_v (by decide) (by decide)) d_B_narrow_12 (by decide) (fun c_50 => ?_) (fun c_50 => ?_)
      · replace hq := (if_pos c_50).symm.trans hq
        refine lv_iconst (v := zi 0) hx hb d_B_narrow_19 rfl ?_
        subst hq
        exact zw_z hx hb hr hlocks (zB.w (zb_c 0) (by decide) (by decide)) rfl hP hS d_B_narrow_20
      · replace hq := (if_neg c_50).symm.trans hq
        refine lv_iconst (v := zi 1) hx hb d_B_narrow_15 rfl ?_
        refine lv_goto (tgt := 20) hx hb d_B_narrow_16 (by decide) ?_
        subst hq
        exact zw_z hx hb hr hlocks (zB.w (zb_c 1) (by decide) (by decide)) rfl hP hS d_B_narrow_20
def f_B_dipsBelow (a b d : Int) (k0 k1 k2 k3 : Int) : Int := if (((k1 - k0) * b) + (k0 * d)) < (a * k1) then (1) else (if (((k3 - k2) * b) + (k2 * d)) < (a * k3) then (1) else (0))
theorem bb_B_dipsBelow (a b d : Int) (k0 k1 k2 k3 : Int) : zB 0 1 (f_B_dipsBelow a b d k0 k1 k2 k3) := by
  unfold f_B_dipsBelow
  repeat' split
  all_goals first | exact ⟨by decide, by decide⟩ 
set_option maxHeartbeats 4000000 in
set_option maxRecDepth 100000 in
theorem k_B_dipsBelow (l : Launch) (dC : Nat → ClassId) (dI : Nat → Nat → Nat) (ad : Nat → Nat) (cI : ClassId) (S : Nat → Int → Int) (k0 k1 k2 k3 : Int) (hI : iS S) (hb_k0 : zB (-30000) 30000 k0) (hb_k1 : zB (-30000) 30000 k1) (hb_k2 : zB (-30000) 30000 k2) (hb_k3 : zB (-30000) 30000 k3) (a b d : Int) (hb_a : zB (-100000) 100000 a) (hb_b : zB (-101000) 101000 b) (hb_d : zB (-101000) 101000 d) : Met l y_B_dipsBelow (Cond.code y_B_dipsBelow c_B_dipsBelow 11 (some .boolean) :: zT) { frames := 0, cells := 0, slots := 0, locals := 0 } (va_Pc ([.ref (ad 7), .long (zl a), .long (zl b), .long (zl d)] : List Value) (zWS dC dI ad cI S k0 k1 k2 k3)) (zR (.int (zi (f_B_dipsBelow a b d k0 k1 k2 k3)))) 0 0 (fun _ => False) := by
  refine zh (cc := c_B_dipsBelow) (C := R_B) (by decide) rfl rfl (Nat.le_of_ble_eq_true rfl) ?_
  intro p e s m below meth c ls hx hb hr hlocks hml hown hname hts hl hB
  have hw : ∀ w9 ∈ zT, w9.before ([.ref (ad 7), .long (zl a), .long (zl b), .long (zl d)] : List Value).toArray s = true := fun w9 h => hts w9 (List.mem_cons_of_mem _ h)
  obtain ⟨hP, hK, hN⟩ := hB
  obtain ⟨hn0, hn1⟩ := id (iS_s0 hI)
  obtain ⟨hz0, hz1⟩ := id (iS_s6 hI)
  obtain ⟨hl_a, hh_a⟩ := id hb_a
  obtain ⟨hl_b, hh_b⟩ := id hb_b
  obtain ⟨hl_d, hh_d⟩ := id hb_d
  generalize hq : f_B_dipsBelow a b d k0 k1 k2 k3 = r
  unfold f_B_dipsBelow at hq
  replace hl : lv_has ls 11 [(0, .ref (ad 7)), (1, .long (zl a)), (3, .long (zl b)), (5, .long (zl d))] := hl
  refine lv_aload_n hx hb d_B_dipsBelow_0 rfl (lv_at hl 0 rfl) ?_
  refine va_get (D := (dC, dI)) (ci := 0) (v := .long (zl k1)) (C := R_B) (T := T_B) (N := 10) hx hb hw i_B hown hK hP 7 rfl rfl 7 (by decide) (hw _ m_27) (fun _ h9 => h9) rfl d_B_dipsBelow_1 ?_
  refine lv_aload_n hx hb d_B_dipsBelow_4 rfl (lv_at hl 0 rfl) ?_
  refine va_get (D := (dC, dI)) (ci := 0) (v := .long (zl k0)) (C := R_B) (T := T_B) (N := 10) hx hb hw i_B hown hK hP 7 rfl rfl 6 (by decide) (hw _ m_26) (fun _ h9 => h9) rfl d_B_dipsBelow_5 ?_
  have b_1 : zB (-60000) 60000 (k1 - k0) := zB.w (zb_sub hb_k1 hb_k0) (by decide) (by decide)
  refine zr_lsub hx hb d_B_dipsBelow_8 ?_
  refine lv_lload_n hx hb d_B_dipsBelow_9 rfl (lv_at hl 2 rfl) ?_
  have b_2 : zB (-6060000000) 6060000000 ((k1 - k0) * b) := zB.w (zb_mul (A := 60000) (B := 101000) (zB.w b_1 (by decide) (by decide)) (zB.w hb_b (by decide) (by decide))) (by decide) (by decide)
  refine zr_lmul hx hb d_B_dipsBelow_10 ?_
  refine lv_aload_n hx hb d_B_dipsBelow_11 rfl (lv_at hl 0 rfl) ?_
  refine va_get (D := (dC, dI)) (ci := 0) (v := .long (zl k0)) (C := R_B) (T := T_B) (N := 10) hx hb hw i_B hown hK hP 7 rfl rfl 6 (by decide) (hw _ m_26) (fun _ h9 => h9) rfl d_B_dipsBelow_12 ?_
  refine lv_lload hx hb d_B_dipsBelow_15 (lv_at hl 3 rfl) ?_
  have b_3 : zB (-3030000000) 3030000000 (k0 * d) := zB.w (zb_mul (A := 30000) (B := 101000) (zB.w hb_k0 (by decide) (by decide)) (zB.w hb_d (by decide) (by decide))) (by decide) (by decide)
  refine zr_lmul hx hb d_B_dipsBelow_17 ?_
  have b_4 : zB (-9090000000) 9090000000 (((k1 - k0) * b) + (k0 * d)) := zB.w (zb_add b_2 b_3) (by decide) (by decide)
  refine zr_ladd hx hb d_B_dipsBelow_18 ?_
  refine lv_lstore (lv' := [(7, .long (zl (((k1 - k0) * b) + (k0 * d)))), (0, .ref (ad 7)), (1, .long (zl a)), (3, .long (zl b)), (5, .long (zl d))]) hx hb d_B_dipsBelow_19 hl (by decide) rfl (fun ls hl => ?_)
  refine lv_aload_n hx hb d_B_dipsBelow_21 rfl (lv_at hl 1 rfl) ?_
  refine va_get (D := (dC, dI)) (ci := 0) (v := .long (zl k3)) (C := R_B) (T := T_B) (N := 10) hx hb hw i_B hown hK hP 7 rfl rfl 9 (by decide) (hw _ m_29) (fun _ h9 => h9) rfl d_B_dipsBelow_22 ?_
  refine lv_aload_n hx hb d_B_dipsBelow_25 rfl (lv_at hl 1 rfl) ?_
  refine va_get (D := (dC, dI)) (ci := 0) (v := .long (zl k2)) (C := R_B) (T := T_B) (N := 10) hx hb hw i_B hown hK hP 7 rfl rfl 8 (by decide) (hw _ m_28) (fun _ h9 => h9) rfl d_B_dipsBelow_26 ?_
  have b_5 : zB (-60000) 60000 (k3 - k2) := zB.w (zb_sub hb_k3 hb_k2) (by decide) (by decide)
  refine zr_lsub hx hb d_B_dipsBelow_29 ?_
  refine lv_lload_n hx hb d_B_dipsBelow_30 rfl (lv_at hl 3 rfl) ?_
  have b_6 : zB (-6060000000) 6060000000 ((k3 - k2) * b) := zB.w (zb_mul (A := 60000) (B := 101000) (zB.w b_5 (by decide) (by decide)) (zB.w hb_b (by decide) (by decide))) (by decide) (by decide)
  refine zr_lmul hx hb d_B_dipsBelow_31 ?_
  refine lv_aload_n hx hb d_B_dipsBelow_32 rfl (lv_at hl 1 rfl) ?_
  refine va_get (D := (dC, dI)) (ci := 0) (v := .long (zl k2)) (C := R_B) (T := T_B) (N := 10) hx hb hw i_B hown hK hP 7 rfl rfl 8 (by decide) (hw _ m_28) (fun _ h9 => h9) rfl d_B_dipsBelow_33 ?_
  refine lv_lload hx hb d_B_dipsBelow_36 (lv_at hl 4 rfl) ?_
  have b_7 : zB (-3030000000) 3030000000 (k2 * d) := zB.w (zb_mul (A := 30000) (B := 101000) (zB.w hb_k2 (by decide) (by decide)) (zB.w hb_d (by decide) (by decide))) (by decide) (by decide)
  refine zr_lmul hx hb d_B_dipsBelow_38 ?_
  have b_8 : zB (-9090000000) 9090000000 (((k3 - k2) * b) + (k2 * d)) := zB.w (zb_add b_6 b_7) (by decide) (by decide)
  refine zr_ladd hx hb d_B_dipsBelow_39 ?_
  refine lv_lstore (lv' := [(9, .long (zl (((k3 - k2) * b) + (k2 * d)))), (7, .long (zl (((k1 - k0) * b) + (k0 * d)))), (0, .ref (ad 7)), (1, .long (zl a)), (3, .long (zl b)), (5, .long (zl d))]) hx hb d_B_dipsBelow_40 hl (by decide) rfl (fun ls hl => ?_)
  refine lv_lload hx hb d_B_dipsBelow_42 (lv_at hl 1 rfl) ?_
  refine lv_lload_n hx hb d_B_dipsBelow_44 rfl (lv_at hl 3 rfl) ?_
  refine lv_aload_n hx hb d_B_dipsBelow_45 rfl (lv_at hl 2 rfl) ?_
  refine va_get (D := (dC, dI)) (ci := 0) (v := .long (zl k1)) (C := R_B) (T := T_B) (N := 10) hx hb hw i_B hown hK hP 7 rfl rfl 7 (by decide) (hw _ m_27) (fun _ h9 => h9) rfl d_B_dipsBelow_46 ?_
  have b_9 : zB (-3000000000) 3000000000 (a * k1) := zB.w (zb_mul (A := 100000) (B := 30000) (zB.w hb_a (by decide) (by decide)) (zB.w hb_k1 (by decide) (by decide))) (by decide) (by decide)
  refine zr_lmul hx hb d_B_dipsBelow_49 ?_
  refine zr_lcmp_lt (tgt := 66) hx hb (zB.L b_4 (by decide) (by decide)) (zB.L b_9 (by decide) (by decide)) d_B_dipsBelow_50 d_B_dipsBelow_51 (by decide) (fun c_10 => ?_) (fun c_10 => ?_)
  · replace hq := (if_pos c_10).symm.trans hq
    refine lv_iconst (v := zi 1) hx hb d_B_dipsBelow_66 rfl ?_
    refine lv_goto (tgt := 71) hx hb d_B_dipsBelow_67 (by decide) ?_
    exact ze_z hx hb hr hlocks (zB.w (zb_c 1) (by decide) (by decide)) hq d_B_dipsBelow_71
  · replace hq := (if_neg c_10).symm.trans hq
    refine lv_lload hx hb d_B_dipsBelow_54 (lv_at hl 0 rfl) ?_
    refine lv_lload_n hx hb d_B_dipsBelow_56 rfl (lv_at hl 3 rfl) ?_
    refine lv_aload_n hx hb d_B_dipsBelow_57 rfl (lv_at hl 2 rfl) ?_
    refine va_get (D := (dC, dI)) (ci := 0) (v := .long (zl k3)) (C := R_B) (T := T_B) (N := 10) hx hb hw i_B hown hK hP 7 rfl rfl 9 (by decide) (hw _ m_29) (fun _ h9 => h9) rfl d_B_dipsBelow_58 ?_
    have b_11 : zB (-3000000000) 3000000000 (a * k3) := zB.w (zb_mul (A := 100000) (B := 30000) (zB.w hb_a (by decide) (by decide)) (zB.w hb_k3 (by decide) (by decide))) (by decide) (by decide)
    refine zr_lmul hx hb d_B_dipsBelow_61 ?_
    refine zr_lcmp_ge (tgt := 70) hx hb (zB.L b_8 (by decide) (by decide)) (zB.L b_11 (by decide) (by decide)) d_B_dipsBelow_62 d_B_dipsBelow_63 (by decide) (fun c_12 => ?_) (fun c_12 => ?_)
    · replace hq := (if_neg c_12).symm.trans hq
      refine lv_iconst (v := zi 0) hx hb d_B_dipsBelow_70 rfl ?_
      exact ze_z hx hb hr hlocks (zB.w (zb_c 0) (by decide) (by decide)) hq d_B_dipsBelow_71
    · replace hq := (if_pos c_12).symm.trans hq
      refine lv_iconst (v := zi 1) hx hb d_B_dipsBelow_66 rfl ?_
      refine lv_goto (tgt := 71) hx hb d_B_dipsBelow_67 (by decide) ?_
      exact ze_z hx hb hr hlocks (zB.w (zb_c 1) (by decide) (by decide)) hq d_B_dipsBelow_71
def f_B_firstAcross_l (S : Nat → Int → Int) (a : Int) (b : Int) (d : Int) (v : Int) (w : Int) (x : Int) (z : Int) : Nat → Int → Int
  | 0, _ => 0
  | k + 1, i => if i < (S 11 6) then (if ((f_B_narrow a (v - a) (S 6 i) (S 8 i) 0 1 1 1).1) = 0 then (f_B_firstAcross_l S a b d v w x z k (i + 1)) else (if ((f_B_narrow b (w - b) (S 7 i) (S 9 i) ((f_B_narrow a (v - a) (S 6 i) (S 8 i) 0 1 1 1).2.1) ((f_B_narrow a (v - a) (S 6 i) (S 8 i) 0 1 1 1).2.2.1) ((f_B_narrow a (v - a) (S 6 i) (S 8 i) 0 1 1 1).2.2.2.1) ((f_B_narrow a (v - a) (S 6 i) (S 8 i) 0 1 1 1).2.2.2.2)).1) = 0 then (f_B_firstAcross_l S a b d v w x z k (i + 1)) else (if (f_B_dipsBelow (S 10 i) d x ((f_B_narrow b (w - b) (S 7 i) (S 9 i) ((f_B_narrow a (v - a) (S 6 i) (S 8 i) 0 1 1 1).2.1) ((f_B_narrow a (v - a) (S 6 i) (S 8 i) 0 1 1 1).2.2.1) ((f_B_narrow a (v - a) (S 6 i) (S 8 i) 0 1 1 1).2.2.2.1) ((f_B_narrow a (v - a) (S 6 i) (S 8 i) 0 1 1 1).2.2.2.2)).2.1) ((f_B_narrow b (w - b) (S 7 i) (S 9 i) ((f_B_narrow a (v - a) (S 6 i) (S 8 i) 0 1 1 1).2.1) ((f_B_narrow a (v - a) (S 6 i) (S 8 i) 0 1 1 1).2.2.1) ((f_B_narrow a (v - a) (S 6 i) (S 8 i) 0 1 1 1).2.2.2.1) ((f_B_narrow a (v - a) (S 6 i) (S 8 i) 0 1 1 1).2.2.2.2)).2.2.1) ((f_B_narrow b (w - b) (S 7 i) (S 9 i) ((f_B_narrow a (v - a) (S 6 i) (S 8 i) 0 1 1 1).2.1) ((f_B_narrow a (v - a) (S 6 i) (S 8 i) 0 1 1 1).2.2.1) ((f_B_narrow a (v - a) (S 6 i) (S 8 i) 0 1 1 1).2.2.2.1) ((f_B_narrow a (v - a) (S 6 i) (S 8 i) 0 1 1 1).2.2.2.2)).2.2.2.1) ((f_B_narrow b (w - b) (S 7 i) (S 9 i) ((f_B_narrow a (v - a) (S 6 i) (S 8 i) 0 1 1 1).2.1) ((f_B_narrow a (v - a) (S 6 i) (S 8 i) 0 1 1 1).2.2.1) ((f_B_narrow a (v - a) (S 6 i) (S 8 i) 0 1 1 1).2.2.2.1) ((f_B_narrow a (v - a) (S 6 i) (S 8 i) 0 1 1 1).2.2.2.2)).2.2.2.2)) = 0 then (f_B_firstAcross_l S a b d v w x z k (i + 1)) else (i)))) else (z)
theorem f_B_firstAcross_l_s (S : Nat → Int → Int) (a : Int) (b : Int) (d : Int) (v : Int) (w : Int) (x : Int) (z : Int) (k : Nat) (i : Int) : f_B_firstAcross_l S a b d v w x z (k + 1) i = (if i < (S 11 6) then (if ((f_B_narrow a (v - a) (S 6 i) (S 8 i) 0 1 1 1).1) = 0 then (f_B_firstAcross_l S a b d v w x z k (i + 1)) else (if ((f_B_narrow b (w - b) (S 7 i) (S 9 i) ((f_B_narrow a (v - a) (S 6 i) (S 8 i) 0 1 1 1).2.1) ((f_B_narrow a (v - a) (S 6 i) (S 8 i) 0 1 1 1).2.2.1) ((f_B_narrow a (v - a) (S 6 i) (S 8 i) 0 1 1 1).2.2.2.1) ((f_B_narrow a (v - a) (S 6 i) (S 8 i) 0 1 1 1).2.2.2.2)).1) = 0 then (f_B_firstAcross_l S a b d v w x z k (i + 1)) else (if (f_B_dipsBelow (S 10 i) d x ((f_B_narrow b (w - b) (S 7 i) (S 9 i) ((f_B_narrow a (v - a) (S 6 i) (S 8 i) 0 1 1 1).2.1) ((f_B_narrow a (v - a) (S 6 i) (S 8 i) 0 1 1 1).2.2.1) ((f_B_narrow a (v - a) (S 6 i) (S 8 i) 0 1 1 1).2.2.2.1) ((f_B_narrow a (v - a) (S 6 i) (S 8 i) 0 1 1 1).2.2.2.2)).2.1) ((f_B_narrow b (w - b) (S 7 i) (S 9 i) ((f_B_narrow a (v - a) (S 6 i) (S 8 i) 0 1 1 1).2.1) ((f_B_narrow a (v - a) (S 6 i) (S 8 i) 0 1 1 1).2.2.1) ((f_B_narrow a (v - a) (S 6 i) (S 8 i) 0 1 1 1).2.2.2.1) ((f_B_narrow a (v - a) (S 6 i) (S 8 i) 0 1 1 1).2.2.2.2)).2.2.1) ((f_B_narrow b (w - b) (S 7 i) (S 9 i) ((f_B_narrow a (v - a) (S 6 i) (S 8 i) 0 1 1 1).2.1) ((f_B_narrow a (v - a) (S 6 i) (S 8 i) 0 1 1 1).2.2.1) ((f_B_narrow a (v - a) (S 6 i) (S 8 i) 0 1 1 1).2.2.2.1) ((f_B_narrow a (v - a) (S 6 i) (S 8 i) 0 1 1 1).2.2.2.2)).2.2.2.1) ((f_B_narrow b (w - b) (S 7 i) (S 9 i) ((f_B_narrow a (v - a) (S 6 i) (S 8 i) 0 1 1 1).2.1) ((f_B_narrow a (v - a) (S 6 i) (S 8 i) 0 1 1 1).2.2.1) ((f_B_narrow a (v - a) (S 6 i) (S 8 i) 0 1 1 1).2.2.2.1) ((f_B_narrow a (v - a) (S 6 i) (S 8 i) 0 1 1 1).2.2.2.2)).2.2.2.2)) = 0 then (f_B_firstAcross_l S a b d v w x z k (i + 1)) else (i)))) else (z)) := rfl
def f_B_firstAcross (S : Nat → Int → Int) (a b d v w x : Int) : Int := f_B_firstAcross_l S a b d v w x (-1) 9 0
theorem br_B_firstAcross (S : Nat → Int → Int) (a b d v w x : Int) (hI : iS S) (_ : zB (-15000) 15000 a) (_ : zB (-15000) 15000 b) (_ : zB (-101000) 101000 d) (_ : zB (-15000) 15000 v) (_ : zB (-15000) 15000 w) (_ : zB (-101000) 101000 x) : zB (-1) 8 (f_B_firstAcross S a b d v w x) := by
  have hz := (iS_s6 hI).2
  have key : ∀ (k : Nat) (i : Int), zB 0 8 i → zB (-1) 8 (f_B_firstAcross_l S a b d v w x (-1) k i) := by
    intro k
    induction k with
    | zero => intro i h; show zB (-1) 8 0; exact ⟨by decide, by decide⟩
    | succ k ih =>
      intro i h
      obtain ⟨h1, h2⟩ := id h
      rw [f_B_firstAcross_l_s]
      repeat' split
      all_goals first | exact ⟨by decide, by decide⟩ | exact ⟨by omega, by omega⟩ | exact ih _ ⟨by omega, by omega⟩
  exact key _ _ ⟨by decide, by decide⟩
set_option maxHeartbeats 4000000 in
set_option maxRecDepth 100000 in
theorem k_B_firstAcross (l : Launch) (dC : Nat → ClassId) (dI : Nat → Nat → Nat) (ad : Nat → Nat) (cI : ClassId) (S : Nat → Int → Int) (k0 k1 k2 k3 : Int) (hI : iS S) (hj : zJ 13 ad) (hb_k0 : zB (-30000) 30000 k0) (hb_k1 : zB (-30000) 30000 k1) (hb_k2 : zB (-30000) 30000 k2) (hb_k3 : zB (-30000) 30000 k3) (a b d v w x : Int) (hb_a : zB (-15000) 15000 a) (hb_b : zB (-15000) 15000 b) (hb_d : zB (-101000) 101000 d) (hb_v : zB (-15000) 15000 v) (hb_w : zB (-15000) 15000 w) (hb_x : zB (-101000) 101000 x) : Met l y_B_firstAcross (Cond.code y_B_firstAcross c_B_firstAcross 9 (some .int) :: zT) { frames := 2, cells := 0, slots := 0, locals := 43 } (va_Pc ([.ref (ad 7), .int (zi a), .int (zi b), .int (zi d), .int (zi v), .int (zi w), .int (zi x)] : List Value) (zWS dC dI ad cI S k0 k1 k2 k3)) (zQ (some (.int (zi (f_B_firstAcross S a b d v w x)))) (fun H => ∃ k0 k1 k2 k3 : Int, zB (-30000) 30000 k0 ∧ zB (-30000) 30000 k1 ∧ zB (-30000) 30000 k2 ∧ zB (-30000) 30000 k3 ∧ va_P (dC, dI) classes (wS ad cI S k0 k1 k2 k3) H) (zAS ad)) 0 0 (zAS ad) := by
  refine zh (cc := c_B_firstAcross) (C := R_B) (by decide) rfl rfl (Nat.le_of_ble_eq_true rfl) ?_
  intro p e s m below meth c ls hx hb hr hlocks hml hown hname hts hl hB
  have hw : ∀ w9 ∈ zT, w9.before ([.ref (ad 7), .int (zi a), .int (zi b), .int (zi d), .int (zi v), .int (zi w), .int (zi x)] : List Value).toArray s = true := fun w9 h => hts w9 (List.mem_cons_of_mem _ h)
  obtain ⟨hP, hK, hN⟩ := hB
  obtain ⟨hn0, hn1⟩ := id (iS_s0 hI)
  have hD := zDS hj cI
  have hS : va_S (zAS ad) s.heap s.heap [] := va_S.rf
  obtain ⟨hz0, hz1⟩ := id (iS_s6 hI)
  obtain ⟨hl_a, hh_a⟩ := id hb_a
  obtain ⟨hl_b, hh_b⟩ := id hb_b
  obtain ⟨hl_d, hh_d⟩ := id hb_d
  obtain ⟨hl_v, hh_v⟩ := id hb_v
  obtain ⟨hl_w, hh_w⟩ := id hb_w
  obtain ⟨hl_x, hh_x⟩ := id hb_x
  generalize hq : f_B_firstAcross S a b d v w x = r
  unfold f_B_firstAcross at hq
  replace hl : lv_has ls 9 [(0, .ref (ad 7)), (1, .int (zi a)), (2, .int (zi b)), (3, .int (zi d)), (4, .int (zi v)), (5, .int (zi w)), (6, .int (zi x))] := hl
  refine lv_iconst (v := zi 0) hx hb d_B_firstAcross_0 rfl ?_
  refine lv_istore (lv' := [(7, .int (zi 0)), (0, .ref (ad 7)), (1, .int (zi a)), (2, .int (zi b)), (3, .int (zi d)), (4, .int (zi v)), (5, .int (zi w)), (6, .int (zi x))]) hx hb d_B_firstAcross_1 hl (by decide) rfl (fun ls hl => ?_)
  have L_l : ∀ (z : Int), (∀ (ls : Array Slot) (H : Heap) (locs : List Loc) (k0 k1 k2 k3 : Int), zB (-30000) 30000 k0 → zB (-30000) 30000 k1 → zB (-30000) 30000 k2 → zB (-30000) 30000 k3 → va_P (dC, dI) classes (wS ad cI S k0 k1 k2 k3) H → va_S (zAS ad) s.heap H locs → z = r → lv_has ls 9 [(0, .ref (ad 7)), (1, .int (zi a)), (2, .int (zi b)), (3, .int (zi d)), (4, .int (zi v)), (5, .int (zi w)), (6, .int (zi x))] → W p l e { frames := 2, cells := 0, slots := 0, locals := 43 } s m ([.ref (ad 7), .int (zi a), .int (zi b), .int (zi d), .int (zi v), .int (zi w), .int (zi x)] : List Value).toArray below meth c H locs 0 0 (MQ below (zQ (some (.int (zi r))) (fun H => ∃ k0 k1 k2 k3 : Int, zB (-30000) 30000 k0 ∧ zB (-30000) 30000 k1 ∧ zB (-30000) 30000 k2 ∧ zB (-30000) 30000 k3 ∧ va_P (dC, dI) classes (wS ad cI S k0 k1 k2 k3) H) (zAS ad)) ([.ref (ad 7), .int (zi a), .int (zi b), .int (zi d), .int (zi v), .int (zi w), .int (zi x)] : List Value).toArray s 0 0 (zAS ad)) (F0 m 109 ls [])) → ∀ (k : Nat) (i : Int) (ls : Array Slot) (H : Heap) (locs : List Loc) (k0 k1 k2 k3 : Int), zB (-30000) 30000 k0 → zB (-30000) 30000 k1 → zB (-30000) 30000 k2 → zB (-30000) 30000 k3 → va_P (dC, dI) classes (wS ad cI S k0 k1 k2 k3) H → va_S (zAS ad) s.heap H locs → zB 0 8 i → i ≤ S 11 6 → 8 - i < (k : Int) → f_B_firstAcross_l S a b d v w x z k i = r → lv_has ls 9 [(0, .ref (ad 7)), (1, .int (zi a)), (2, .int (zi b)), (3, .int (zi d)), (4, .int (zi v)), (5, .int (zi w)), (6, .int (zi x)), (7, .int (zi i))] → W p l e { frames := 2, cells := 0, slots := 0, locals := 43 } s m ([.ref (ad 7), .int (zi a), .int (zi b), .int (zi d), .int (zi v), .int (zi w), .int (zi x)] : List Value).toArray below meth c H locs 0 0 (MQ below (zQ (some (.int (zi r))) (fun H => ∃ k0 k1 k2 k3 : Int, zB (-30000) 30000 k0 ∧ zB (-30000) 30000 k1 ∧ zB (-30000) 30000 k2 ∧ zB (-30000) 30000 k3 ∧ va_P (dC, dI) classes (wS ad cI S k0 k1 k2 k3) H) (zAS ad)) ([.ref (ad 7), .int (zi a), .int (zi b), .int (zi d), .int (zi v), .int (zi w), .int (zi x)] : List Value).toArray s 0 0 (zAS ad)) (F0 m 3 ls []) := by
    intro z hz k
    induction k with
    | zero =>
      intro i ls H locs k0 k1 k2 k3 hk0 hk1 hk2 hk3 hP hS hb_i hi_0 hk hq hl
      exact absurd hk (by have := hb_i.1; have := hb_i.2; omega)
    | succ k ih =>
      intro i ls H locs k0 k1 k2 k3 hk0 hk1 hk2 hk3 hP hS hb_i hi_0 hk hq hl
      obtain ⟨hl_i, hh_i⟩ := id hb_i
      replace hq := (f_B_firstAcross_l_s S a b d v w x z k i).symm.trans hq
      refine lv_iload hx hb d_B_firstAcross_3 (lv_at hl 7 rfl) ?_
      refine lv_aload_n hx hb d_B_firstAcross_5 rfl (lv_at hl 0 rfl) ?_
      refine va_get (D := (dC, dI)) (ci := 0) (v := .int (zi (S 11 6))) (C := R_B) (T := T_B) (N := 10) hx hb hw i_B hown hK hP 7 rfl rfl 5 (by decide) (hw _ m_24) (fun _ h9 => h9) rfl d_B_firstAcross_6 ?_
      refine zr_icmp_ge (tgt := 109) hx hb (zB.I hb_i (by decide) (by decide)) (zB.I (iS_s6 hI) (by decide) (by decide)) d_B_firstAcross_9 (by decide) (fun c_1 => ?_) (fun c_1 => ?_)
      · replace hq := (if_neg c_1).symm.trans hq
        exact hz ls _ _ k0 k1 k2 k3 (zB.w hk0 (by decide) (by decide)) (zB.w hk1 (by decide) (by decide)) (zB.w hk2 (by decide) (by decide)) (zB.w hk3 (by decide) (by decide)) hP hS hq (lv_sub hl [0, 1, 2, 3, 4, 5, 6] rfl)
      · replace hq := (if_pos c_1).symm.trans hq
        refine lv_aload_n hx hb d_B_firstAcross_12 rfl (lv_at hl 0 rfl) ?_
        refine zc_w (va_runV (As := []) (rest := []) ⟨hx, hb, hml, hown, hts⟩ (k_B_takeWhole l dC dI ad cI S k0 k1 k2 k3 hI hj   ) (zcV 0 hts m_140 m_2 m_138 m_139 m_381 rfl rfl q_B_takeWhole ⟨Nat.le_of_ble_eq_true rfl, Nat.le_of_ble_eq_true rfl⟩) (zpS7 hP hK hN []) rfl rfl hl.1 rfl (lv_room (Nat.le_of_ble_eq_true rfl)) d_B_firstAcross_13 ⟨Nat.zero_le _, Nat.zero_le _⟩) hS (fun q _ h => h) (fun q h => h) (fun H locs hP hz1 hk1 hS => ?_)
        clear hz1 hk1
        refine lv_aload_n hx hb d_B_firstAcross_16 rfl (lv_at hl 0 rfl) ?_
        refine lv_iload_n hx hb d_B_firstAcross_17 rfl (lv_at hl 1 rfl) ?_
        refine lv_iload hx hb d_B_firstAcross_18 (lv_at hl 4 rfl) ?_
        refine lv_iload_n hx hb d_B_firstAcross_20 rfl (lv_at hl 1 rfl) ?_
        have b_2 : zB (-30000) 30000 (v - a) := zB.w (zb_sub hb_v hb_a) (by decide) (by decide)
        refine zr_isub hx hb d_B_firstAcross_21 ?_
        refine lv_aload_n hx hb d_B_firstAcross_22 rfl (lv_at hl 0 rfl) ?_
        refine va_get (D := (dC, dI)) (ci := 0) (v := .ref (ad 8)) (C := R_B) (T := T_B) (N := 10) hx hb hw i_B hown hK hP 7 rfl rfl 0 (by decide) (hw _ m_19) (fun _ h9 => h9) rfl d_B_firstAcross_23 ?_
        refine lv_iload hx hb d_B_firstAcross_26 (lv_at hl 7 rfl) ?_
        refine zr_iald hx hb hK hP 8 0 (cA := cI) (n := 8) (g := S 6) rfl rfl (i := i) (by omega) (by omega) (by decide) d_B_firstAcross_28 ?_
        refine lv_aload_n hx hb d_B_firstAcross_29 rfl (lv_at hl 0 rfl) ?_
        refine va_get (D := (dC, dI)) (ci := 0) (v := .ref (ad 10)) (C := R_B) (T := T_B) (N := 10) hx hb hw i_B hown hK hP 7 rfl rfl 2 (by decide) (hw _ m_21) (fun _ h9 => h9) rfl d_B_firstAcross_30 ?_
        refine lv_iload hx hb d_B_firstAcross_33 (lv_at hl 7 rfl) ?_
        refine zr_iald hx hb hK hP 10 0 (cA := cI) (n := 8) (g := S 8) rfl rfl (i := i) (by omega) (by omega) (by decide) d_B_firstAcross_35 ?_
        refine zc_w (va_runV (As := [.int (zi a), .int (zi (v - a)), .int (zi (S 6 i)), .int (zi (S 8 i))]) (rest := []) ⟨hx, hb, hml, hown, hts⟩ (k_B_narrow l dC dI ad cI S 0 1 1 1 hI hj (zB.w (zb_c 0) (by decide) (by decide)) (zB.w (zb_c 1) (by decide) (by decide)) (zB.w (zb_c 1) (by decide) (by decide)) (zB.w (zb_c 1) (by decide) (by decide)) a (v - a) (S 6 i) (S 8 i) (zB.w hb_a (by decide) (by decide)) (zB.w b_2 (by decide) (by decide)) (zB.w (iS_a6 hI i) (by decide) (by decide)) (zB.w (iS_a8 hI i) (by decide) (by decide)) ) (zcV 4 hts m_143 m_2 m_141 m_142 m_382 rfl rfl q_B_narrow ⟨Nat.le_of_ble_eq_true rfl, Nat.le_of_ble_eq_true rfl⟩) (zpS7 hP hK hN [.int (zi a), .int (zi (v - a)), .int (zi (S 6 i)), .int (zi (S 8 i))]) rfl rfl hl.1 rfl (lv_room (Nat.le_of_ble_eq_true rfl)) d_B_firstAcross_36 ⟨Nat.zero_le _, Nat.zero_le _⟩) hS (fun q _ h => h) (fun q h => h) (fun H locs hP hz1 hk1 hS => ?_)
        clear hz1 hk1
        have t_3 := b_B_narrow a (v - a) (S 6 i) (S 8 i) 0 1 1 1 (zB.w hb_a (by decide) (by decide)) (zB.w b_2 (by decide) (by decide)) (zB.w (iS_a6 hI i) (by decide) (by decide)) (zB.w (iS_a8 hI i) (by decide) (by decide)) (zB.w (zb_c 0) (by decide) (by decide)) (zB.w (zb_c 1) (by decide) (by decide)) (zB.w (zb_c 1) (by decide) (by decide)) (zB.w (zb_c 1) (by decide) (by decide))
        refine zr_if_eq (tgt := 72) hx hb (zB.I (bb_B_narrow a (v - a) (S 6 i) (S 8 i) 0 1 1 1) (by decide) (by decide)) d_B_firstAcross_39 (by decide) (fun c_4 => ?_) (fun c_4 => ?_)
        · replace hq := (if_pos c_4).symm.trans hq
          have r_5 : zB 0 0 ((f_B_narrow a (v - a) (S 6 i) (S 8 i) 0 1 1 1).1) := ⟨(Int.le_of_eq c_4.symm), (Int.le_of_eq c_4)⟩
          refine lv_iconst (v := zi 0) hx hb d_B_firstAcross_72 rfl ?_
          refine lv_istore (lv' := [(8, .int (zi 0)), (0, .ref (ad 7)), (1, .int (zi a)), (2, .int (zi b)), (3, .int (zi d)), (4, .int (zi v)), (5, .int (zi w)), (6, .int (zi x)), (7, .int (zi i))]) hx hb d_B_firstAcross_73 hl (by decide) rfl (fun ls hl => ?_)
          refine lv_iload hx hb d_B_firstAcross_75 (lv_at hl 0 rfl) ?_
          refine zr_if_eq (tgt := 103) hx hb (zB.I (zb_c 0) (by decide) (by decide)) d_B_firstAcross_77 (by decide) (fun _ => ?_) (fun c => absurd (by decide : (0 : Int) = 0) c)
          have b_6 : zB 1 9 (i + 1) := zB.w (zb_add hb_i (zb_c 1)) (by decide) (by decide)
          refine lv_iinc (v := zi (i + 1)) (lv' := [(7, .int (zi (i + 1))), (8, .int (zi 0)), (0, .ref (ad 7)), (1, .int (zi a)), (2, .int (zi b)), (3, .int (zi d)), (4, .int (zi v)), (5, .int (zi w)), (6, .int (zi x))]) hx hb d_B_firstAcross_103 hl (k := 8) rfl (zi_add _ _) (by decide) rfl (fun ls hl => ?_)
          refine lv_goto (tgt := 3) hx hb d_B_firstAcross_106 (by decide) ?_
          exact ih (i + 1) ls _ _ ((f_B_narrow a (v - a) (S 6 i) (S 8 i) 0 1 1 1).2.1) ((f_B_narrow a (v - a) (S 6 i) (S 8 i) 0 1 1 1).2.2.1) ((f_B_narrow a (v - a) (S 6 i) (S 8 i) 0 1 1 1).2.2.2.1) ((f_B_narrow a (v - a) (S 6 i) (S 8 i) 0 1 1 1).2.2.2.2) (zB.w t_3.1 (by decide) (by decide)) (zB.w t_3.2.1 (by decide) (by decide)) (zB.w t_3.2.2.1 (by decide) (by decide)) (zB.w t_3.2.2.2 (by decide) (by decide)) hP hS ⟨by omega, by omega⟩ (by omega) (by omega) hq (lv_sub hl [2, 3, 4, 5, 6, 7, 8, 0] rfl)
        · replace hq := (if_neg c_4).symm.trans hq
          have r_7 : zB 1 1 ((f_B_narrow a (v - a) (S 6 i) (S 8 i) 0 1 1 1).1) := ⟨(by have := (bb_B_narrow a (v - a) (S 6 i) (S 8 i) 0 1 1 1).1; omega), (bb_B_narrow a (v - a) (S 6 i) (S 8 i) 0 1 1 1).2⟩
          refine lv_aload_n hx hb d_B_firstAcross_42 rfl (lv_at hl 0 rfl) ?_
          refine lv_iload_n hx hb d_B_firstAcross_43 rfl (lv_at hl 2 rfl) ?_
          refine lv_iload hx hb d_B_firstAcross_44 (lv_at hl 5 rfl) ?_
          refine lv_iload_n hx hb d_B_firstAcross_46 rfl (lv_at hl 2 rfl) ?_
          have b_8 : zB (-30000) 30000 (w - b) := zB.w (zb_sub hb_w hb_b) (by decide) (by decide)
          refine zr_isub hx hb d_B_firstAcross_47 ?_
          refine lv_aload_n hx hb d_B_firstAcross_48 rfl (lv_at hl 0 rfl) ?_
          refine va_get (D := (dC, dI)) (ci := 0) (v := .ref (ad 9)) (C := R_B) (T := T_B) (N := 10) hx hb hw i_B hown hK hP 7 rfl rfl 1 (by decide) (hw _ m_20) (fun _ h9 => h9) rfl d_B_firstAcross_49 ?_
          refine lv_iload hx hb d_B_firstAcross_52 (lv_at hl 7 rfl) ?_
          refine zr_iald hx hb hK hP 9 0 (cA := cI) (n := 8) (g := S 7) rfl rfl (i := i) (by omega) (by omega) (by decide) d_B_firstAcross_54 ?_
          refine lv_aload_n hx hb d_B_firstAcross_55 rfl (lv_at hl 0 rfl) ?_
          refine va_get (D := (dC, dI)) (ci := 0) (v := .ref (ad 11)) (C := R_B) (T := T_B) (N := 10) hx hb hw i_B hown hK hP 7 rfl rfl 3 (by decide) (hw _ m_22) (fun _ h9 => h9) rfl d_B_firstAcross_56 ?_
          refine lv_iload hx hb d_B_firstAcross_59 (lv_at hl 7 rfl) ?_
          refine zr_iald hx hb hK hP 11 0 (cA := cI) (n := 8) (g := S 9) rfl rfl (i := i) (by omega) (by omega) (by decide) d_B_firstAcross_61 ?_
          refine zc_w (va_runV (As := [.int (zi b), .int (zi (w - b)), .int (zi (S 7 i)), .int (zi (S 9 i))]) (rest := []) ⟨hx, hb, hml, hown, hts⟩ (k_B_narrow l dC dI ad cI S ((f_B_narrow a (v - a) (S 6 i) (S 8 i) 0 1 1 1).2.1) ((f_B_narrow a (v - a) (S 6 i) (S 8 i) 0 1 1 1).2.2.1) ((f_B_narrow a (v - a) (S 6 i) (S 8 i) 0 1 1 1).2.2.2.1) ((f_B_narrow a (v - a) (S 6 i) (S 8 i) 0 1 1 1).2.2.2.2) hI hj (zB.w t_3.1 (by decide) (by decide)) (zB.w t_3.2.1 (by decide) (by decide)) (zB.w t_3.2.2.1 (by decide) (by decide)) (zB.w t_3.2.2.2 (by decide) (by decide)) b (w - b) (S 7 i) (S 9 i) (zB.w hb_b (by decide) (by decide)) (zB.w b_8 (by decide) (by decide)) (zB.w (iS_a7 hI i) (by decide) (by decide)) (zB.w (iS_a9 hI i) (by decide) (by decide)) ) (zcV 4 hts m_143 m_2 m_141 m_142 m_382 rfl rfl q_B_narrow ⟨Nat.le_of_ble_eq_true rfl, Nat.le_of_ble_eq_true rfl⟩) (zpS7 hP hK hN [.int (zi b), .int (zi (w - b)), .int (zi (S 7 i)), .int (zi (S 9 i))]) rfl rfl hl.1 rfl (lv_room (Nat.le_of_ble_eq_true rfl)) d_B_firstAcross_62 ⟨Nat.zero_le _, Nat.zero_le _⟩) hS (fun q _ h => h) (fun q h => h) (fun H locs hP hz1 hk1 hS => ?_)
          clear hz1 hk1
          have t_9 := b_B_narrow b (w - b) (S 7 i) (S 9 i) ((f_B_narrow a (v - a) (S 6 i) (S 8 i) 0 1 1 1).2.1) ((f_B_narrow a (v - a) (S 6 i) (S 8 i) 0 1 1 1).2.2.1) ((f_B_narrow a (v - a) (S 6 i) (S 8 i) 0 1 1 1).2.2.2.1) ((f_B_narrow a (v - a) (S 6 i) (S 8 i) 0 1 1 1).2.2.2.2) (zB.w hb_b (by decide) (by decide)) (zB.w b_8 (by decide) (by decide)) (zB.w (iS_a7 hI i) (by decide) (by decide)) (zB.w (iS_a9 hI i) (by decide) (by decide)) (zB.w t_3.1 (by decide) (by decide)) (zB.w t_3.2.1 (by decide) (by decide)) (zB.w t_3.2.2.1 (by decide) (by decide)) (zB.w t_3.2.2.2 (by decide) (by decide))
          refine zr_if_eq (tgt := 72) hx hb (zB.I (bb_B_narrow b (w - b) (S 7 i) (S 9 i) ((f_B_narrow a (v - a) (S 6 i) (S 8 i) 0 1 1 1).2.1) ((f_B_narrow a (v - a) (S 6 i) (S 8 i) 0 1 1 1).2.2.1) ((f_B_narrow a (v - a) (S 6 i) (S 8 i) 0 1 1 1).2.2.2.1) ((f_B_narrow a (v - a) (S 6 i) (S 8 i) 0 1 1 1).2.2.2.2)) (by decide) (by decide)) d_B_firstAcross_65 (by decide) (fun c_10 => ?_) (fun c_10 => ?_)
          · replace hq := (if_pos c_10).symm.trans hq
            have r_11 : zB 0 0 ((f_B_narrow b (w - b) (S 7 i) (S 9 i) ((f_B_narrow a (v - a) (S 6 i) (S 8 i) 0 1 1 1).2.1) ((f_B_narrow a (v - a) (S 6 i) (S 8 i) 0 1 1 1).2.2.1) ((f_B_narrow a (v - a) (S 6 i) (S 8 i) 0 1 1 1).2.2.2.1) ((f_B_narrow a (v - a) (S 6 i) (S 8 i) 0 1 1 1).2.2.2.2)).1) := ⟨(Int.le_of_eq c_10.symm), (Int.le_of_eq c_10)⟩
            refine lv_iconst (v := zi 0) hx hb d_B_firstAcross_72 rfl ?_
            refine lv_istore (lv' := [(8, .int (zi 0)), (0, .ref (ad 7)), (1, .int (zi a)), (2, .int (zi b)), (3, .int (zi d)), (4, .int (zi v)), (5, .int (zi w)), (6, .int (zi x)), (7, .int (zi i))]) hx hb d_B_firstAcross_73 hl (by decide) rfl (fun ls hl => ?_)
            refine lv_iload hx hb d_B_firstAcross_75 (lv_at hl 0 rfl) ?_
            refine zr_if_eq (tgt := 103) hx hb (zB.I (zb_c 0) (by decide) (by decide)) d_B_firstAcross_77 (by decide) (fun _ => ?_) (fun c => absurd (by decide : (0 : Int) = 0) c)
            have b_12 : zB 1 9 (i + 1) := zB.w (zb_add hb_i (zb_c 1)) (by decide) (by decide)
            refine lv_iinc (v := zi (i + 1)) (lv' := [(7, .int (zi (i + 1))), (8, .int (zi 0)), (0, .ref (ad 7)), (1, .int (zi a)), (2, .int (zi b)), (3, .int (zi d)), (4, .int (zi v)), (5, .int (zi w)), (6, .int (zi x))]) hx hb d_B_firstAcross_103 hl (k := 8) rfl (zi_add _ _) (by decide) rfl (fun ls hl => ?_)
            refine lv_goto (tgt := 3) hx hb d_B_firstAcross_106 (by decide) ?_
            exact ih (i + 1) ls _ _ ((f_B_narrow b (w - b) (S 7 i) (S 9 i) ((f_B_narrow a (v - a) (S 6 i) (S 8 i) 0 1 1 1).2.1) ((f_B_narrow a (v - a) (S 6 i) (S 8 i) 0 1 1 1).2.2.1) ((f_B_narrow a (v - a) (S 6 i) (S 8 i) 0 1 1 1).2.2.2.1) ((f_B_narrow a (v - a) (S 6 i) (S 8 i) 0 1 1 1).2.2.2.2)).2.1) ((f_B_narrow b (w - b) (S 7 i) (S 9 i) ((f_B_narrow a (v - a) (S 6 i) (S 8 i) 0 1 1 1).2.1) ((f_B_narrow a (v - a) (S 6 i) (S 8 i) 0 1 1 1).2.2.1) ((f_B_narrow a (v - a) (S 6 i) (S 8 i) 0 1 1 1).2.2.2.1) ((f_B_narrow a (v - a) (S 6 i) (S 8 i) 0 1 1 1).2.2.2.2)).2.2.1) ((f_B_narrow b (w - b) (S 7 i) (S 9 i) ((f_B_narrow a (v - a) (S 6 i) (S 8 i) 0 1 1 1).2.1) ((f_B_narrow a (v - a) (S 6 i) (S 8 i) 0 1 1 1).2.2.1) ((f_B_narrow a (v - a) (S 6 i) (S 8 i) 0 1 1 1).2.2.2.1) ((f_B_narrow a (v - a) (S 6 i) (S 8 i) 0 1 1 1).2.2.2.2)).2.2.2.1) ((f_B_narrow b (w - b) (S 7 i) (S 9 i) ((f_B_narrow a (v - a) (S 6 i) (S 8 i) 0 1 1 1).2.1) ((f_B_narrow a (v - a) (S 6 i) (S 8 i) 0 1 1 1).2.2.1) ((f_B_narrow a (v - a) (S 6 i) (S 8 i) 0 1 1 1).2.2.2.1) ((f_B_narrow a (v - a) (S 6 i) (S 8 i) 0 1 1 1).2.2.2.2)).2.2.2.2) (zB.w t_9.1 (by decide) (by decide)) (zB.w t_9.2.1 (by decide) (by decide)) (zB.w t_9.2.2.1 (by decide) (by decide)) (zB.w t_9.2.2.2 (by decide) (by decide)) hP hS ⟨by omega, by omega⟩ (by omega) (by omega) hq (lv_sub hl [2, 3, 4, 5, 6, 7, 8, 0] rfl)
          · replace hq := (if_neg c_10).symm.trans hq
            have r_13 : zB 1 1 ((f_B_narrow b (w - b) (S 7 i) (S 9 i) ((f_B_narrow a (v - a) (S 6 i) (S 8 i) 0 1 1 1).2.1) ((f_B_narrow a (v - a) (S 6 i) (S 8 i) 0 1 1 1).2.2.1) ((f_B_narrow a (v - a) (S 6 i) (S 8 i) 0 1 1 1).2.2.2.1) ((f_B_narrow a (v - a) (S 6 i) (S 8 i) 0 1 1 1).2.2.2.2)).1) := ⟨(by have := (bb_B_narrow b (w - b) (S 7 i) (S 9 i) ((f_B_narrow a (v - a) (S 6 i) (S 8 i) 0 1 1 1).2.1) ((f_B_narrow a (v - a) (S 6 i) (S 8 i) 0 1 1 1).2.2.1) ((f_B_narrow a (v - a) (S 6 i) (S 8 i) 0 1 1 1).2.2.2.1) ((f_B_narrow a (v - a) (S 6 i) (S 8 i) 0 1 1 1).2.2.2.2)).1; omega), (bb_B_narrow b (w - b) (S 7 i) (S 9 i) ((f_B_narrow a (v - a) (S 6 i) (S 8 i) 0 1 1 1).2.1) ((f_B_narrow a (v - a) (S 6 i) (S 8 i) 0 1 1 1).2.2.1) ((f_B_narrow a (v - a) (S 6 i) (S 8 i) 0 1 1 1).2.2.2.1) ((f_B_narrow a (v - a) (S 6 i) (S 8 i) 0 1 1 1).2.2.2.2)).2⟩
            refine lv_iconst (v := zi 1) hx hb d_B_firstAcross_68 rfl ?_
            refine lv_goto (tgt := 73) hx hb d_B_firstAcross_69 (by decide) ?_
            refine lv_istore (lv' := [(8, .int (zi 1)), (0, .ref (ad 7)), (1, .int (zi a)), (2, .int (zi b)), (3, .int (zi d)), (4, .int (zi v)), (5, .int (zi w)), (6, .int (zi x)), (7, .int (zi i))]) hx hb d_B_firstAcross_73 hl (by decide) rfl (fun ls hl => ?_)
            refine lv_iload hx hb d_B_firstAcross_75 (lv_at hl 0 rfl) ?_
            refine zr_if_eq (tgt := 103) hx hb (zB.I (zb_c 1) (by decide) (by decide)) d_B_firstAcross_77 (by decide) (fun c => absurd c (by decide : ¬ (1 : Int) = 0)) (fun _ => ?_)
            refine lv_aload_n hx hb d_B_firstAcross_80 rfl (lv_at hl 1 rfl) ?_
            refine lv_aload_n hx hb d_B_firstAcross_81 rfl (lv_at hl 1 rfl) ?_
            refine va_get (D := (dC, dI)) (ci := 0) (v := .ref (ad 12)) (C := R_B) (T := T_B) (N := 10) hx hb hw i_B hown hK hP 7 rfl rfl 4 (by decide) (hw _ m_23) (fun _ h9 => h9) rfl d_B_firstAcross_82 ?_
            refine lv_iload hx hb d_B_firstAcross_85 (lv_at hl 8 rfl) ?_
            refine zr_iald hx hb hK hP 12 0 (cA := cI) (n := 8) (g := S 10) rfl rfl (i := i) (by omega) (by omega) (by decide) d_B_firstAcross_87 ?_
            refine zr_i2l hx hb (zB.I (iS_a10 hI i) (by decide) (by decide)) d_B_firstAcross_88 ?_
            refine lv_iload_n hx hb d_B_firstAcross_89 rfl (lv_at hl 4 rfl) ?_
            refine zr_i2l hx hb (zB.I hb_d (by decide) (by decide)) d_B_firstAcross_90 ?_
            refine lv_iload hx hb d_B_firstAcross_91 (lv_at hl 7 rfl) ?_
            refine zr_i2l hx hb (zB.I hb_x (by decide) (by decide)) d_B_firstAcross_93 ?_
            refine zc_n (va_runV (As := [.long (zl (S 10 i)), .long (zl d), .long (zl x)]) (rest := []) ⟨hx, hb, hml, hown, hts⟩ (k_B_dipsBelow l dC dI ad cI S ((f_B_narrow b (w - b) (S 7 i) (S 9 i) ((f_B_narrow a (v - a) (S 6 i) (S 8 i) 0 1 1 1).2.1) ((f_B_narrow a (v - a) (S 6 i) (S 8 i) 0 1 1 1).2.2.1) ((f_B_narrow a (v - a) (S 6 i) (S 8 i) 0 1 1 1).2.2.2.1) ((f_B_narrow a (v - a) (S 6 i) (S 8 i) 0 1 1 1).2.2.2.2)).2.1) ((f_B_narrow b (w - b) (S 7 i) (S 9 i) ((f_B_narrow a (v - a) (S 6 i) (S 8 i) 0 1 1 1).2.1) ((f_B_narrow a (v - a) (S 6 i) (S 8 i) 0 1 1 1).2.2.1) ((f_B_narrow a (v - a) (S 6 i) (S 8 i) 0 1 1 1).2.2.2.1) ((f_B_narrow a (v - a) (S 6 i) (S 8 i) 0 1 1 1).2.2.2.2)).2.2.1) ((f_B_narrow b (w - b) (S 7 i) (S 9 i) ((f_B_narrow a (v - a) (S 6 i) (S 8 i) 0 1 1 1).2.1) ((f_B_narrow a (v - a) (S 6 i) (S 8 i) 0 1 1 1).2.2.1) ((f_B_narrow a (v - a) (S 6 i) (S 8 i) 0 1 1 1).2.2.2.1) ((f_B_narrow a (v - a) (S 6 i) (S 8 i) 0 1 1 1).2.2.2.2)).2.2.2.1) ((f_B_narrow b (w - b) (S 7 i) (S 9 i) ((f_B_narrow a (v - a) (S 6 i) (S 8 i) 0 1 1 1).2.1) ((f_B_narrow a (v - a) (S 6 i) (S 8 i) 0 1 1 1).2.2.1) ((f_B_narrow a (v - a) (S 6 i) (S 8 i) 0 1 1 1).2.2.2.1) ((f_B_narrow a (v - a) (S 6 i) (S 8 i) 0 1 1 1).2.2.2.2)).2.2.2.2) hI (zB.w t_9.1 (by decide) (by decide)) (zB.w t_9.2.1 (by decide) (by decide)) (zB.w t_9.2.2.1 (by decide) (by decide)) (zB.w t_9.2.2.2 (by decide) (by decide)) (S 10 i) d x (zB.w (iS_a10 hI i) (by decide) (by decide)) (zB.w hb_d (by decide) (by decide)) (zB.w hb_x (by decide) (by decide)) ) (zcV 3 hts m_147 m_2 m_145 m_146 m_383 rfl rfl q_B_dipsBelow ⟨Nat.le_of_ble_eq_true rfl, Nat.le_of_ble_eq_true rfl⟩) (zpS7 hP hK hN [.long (zl (S 10 i)), .long (zl d), .long (zl x)]) rfl rfl hl.1 rfl (lv_room (Nat.le_of_ble_eq_true rfl)) d_B_firstAcross_94 ⟨Nat.zero_le _, Nat.zero_le _⟩) ?_
            refine zr_if_eq (tgt := 103) hx hb (zB.I (bb_B_dipsBelow (S 10 i) d x ((f_B_narrow b (w - b) (S 7 i) (S 9 i) ((f_B_narrow a (v - a) (S 6 i) (S 8 i) 0 1 1 1).2.1) ((f_B_narrow a (v - a) (S 6 i) (S 8 i) 0 1 1 1).2.2.1) ((f_B_narrow a (v - a) (S 6 i) (S 8 i) 0 1 1 1).2.2.2.1) ((f_B_narrow a (v - a) (S 6 i) (S 8 i) 0 1 1 1).2.2.2.2)).2.1) ((f_B_narrow b (w - b) (S 7 i) (S 9 i) ((f_B_narrow a (v - a) (S 6 i) (S 8 i) 0 1 1 1).2.1) ((f_B_narrow a (v - a) (S 6 i) (S 8 i) 0 1 1 1).2.2.1) ((f_B_narrow a (v - a) (S 6 i) (S 8 i) 0 1 1 1).2.2.2.1) ((f_B_narrow a (v - a) (S 6 i) (S 8 i) 0 1 1 1).2.2.2.2)).2.2.1) ((f_B_narrow b (w - b) (S 7 i) (S 9 i) ((f_B_narrow a (v - a) (S 6 i) (S 8 i) 0 1 1 1).2.1) ((f_B_narrow a (v - a) (S 6 i) (S 8 i) 0 1 1 1).2.2.1) ((f_B_narrow a (v - a) (S 6 i) (S 8 i) 0 1 1 1).2.2.2.1) ((f_B_narrow a (v - a) (S 6 i) (S 8 i) 0 1 1 1).2.2.2.2)).2.2.2.1) ((f_B_narrow b (w - b) (S 7 i) (S 9 i) ((f_B_narrow a (v - a) (S 6 i) (S 8 i) 0 1 1 1).2.1) ((f_B_narrow a (v - a) (S 6 i) (S 8 i) 0 1 1 1).2.2.1) ((f_B_narrow a (v - a) (S 6 i) (S 8 i) 0 1 1 1).2.2.2.1) ((f_B_narrow a (v - a) (S 6 i) (S 8 i) 0 1 1 1).2.2.2.2)).2.2.2.2)) (by decide) (by decide)) d_B_firstAcross_97 (by decide) (fun c_14 => ?_) (fun c_14 => ?_)
            · replace hq := (if_pos c_14).symm.trans hq
              have r_15 : zB 0 0 (f_B_dipsBelow (S 10 i) d x ((f_B_narrow b (w - b) (S 7 i) (S 9 i) ((f_B_narrow a (v - a) (S 6 i) (S 8 i) 0 1 1 1).2.1) ((f_B_narrow a (v - a) (S 6 i) (S 8 i) 0 1 1 1).2.2.1) ((f_B_narrow a (v - a) (S 6 i) (S 8 i) 0 1 1 1).2.2.2.1) ((f_B_narrow a (v - a) (S 6 i) (S 8 i) 0 1 1 1).2.2.2.2)).2.1) ((f_B_narrow b (w - b) (S 7 i) (S 9 i) ((f_B_narrow a (v - a) (S 6 i) (S 8 i) 0 1 1 1).2.1) ((f_B_narrow a (v - a) (S 6 i) (S 8 i) 0 1 1 1).2.2.1) ((f_B_narrow a (v - a) (S 6 i) (S 8 i) 0 1 1 1).2.2.2.1) ((f_B_narrow a (v - a) (S 6 i) (S 8 i) 0 1 1 1).2.2.2.2)).2.2.1) ((f_B_narrow b (w - b) (S 7 i) (S 9 i) ((f_B_narrow a (v - a) (S 6 i) (S 8 i) 0 1 1 1).2.1) ((f_B_narrow a (v - a) (S 6 i) (S 8 i) 0 1 1 1).2.2.1) ((f_B_narrow a (v - a) (S 6 i) (S 8 i) 0 1 1 1).2.2.2.1) ((f_B_narrow a (v - a) (S 6 i) (S 8 i) 0 1 1 1).2.2.2.2)).2.2.2.1) ((f_B_narrow b (w - b) (S 7 i) (S 9 i) ((f_B_narrow a (v - a) (S 6 i) (S 8 i) 0 1 1 1).2.1) ((f_B_narrow a (v - a) (S 6 i) (S 8 i) 0 1 1 1).2.2.1) ((f_B_narrow a (v - a) (S 6 i) (S 8 i) 0 1 1 1).2.2.2.1) ((f_B_narrow a (v - a) (S 6 i) (S 8 i) 0 1 1 1).2.2.2.2)).2.2.2.2)) := ⟨(Int.le_of_eq c_14.symm), (Int.le_of_eq c_14)⟩
              have b_16 : zB 1 9 (i + 1) := zB.w (zb_add hb_i (zb_c 1)) (by decide) (by decide)
              refine lv_iinc (v := zi (i + 1)) (lv' := [(7, .int (zi (i + 1))), (8, .int (zi 1)), (0, .ref (ad 7)), (1, .int (zi a)), (2, .int (zi b)), (3, .int (zi d)), (4, .int (zi v)), (5, .int (zi w)), (6, .int (zi x))]) hx hb d_B_firstAcross_103 hl (k := 8) rfl (zi_add _ _) (by decide) rfl (fun ls hl => ?_)
              refine lv_goto (tgt := 3) hx hb d_B_firstAcross_106 (by decide) ?_
              exact ih (i + 1) ls _ _ ((f_B_narrow b (w - b) (S 7 i) (S 9 i) ((f_B_narrow a (v - a) (S 6 i) (S 8 i) 0 1 1 1).2.1) ((f_B_narrow a (v - a) (S 6 i) (S 8 i) 0 1 1 1).2.2.1) ((f_B_narrow a (v - a) (S 6 i) (S 8 i) 0 1 1 1).2.2.2.1) ((f_B_narrow a (v - a) (S 6 i) (S 8 i) 0 1 1 1).2.2.2.2)).2.1) ((f_B_narrow b (w - b) (S 7 i) (S 9 i) ((f_B_narrow a (v - a) (S 6 i) (S 8 i) 0 1 1 1).2.1) ((f_B_narrow a (v - a) (S 6 i) (S 8 i) 0 1 1 1).2.2.1) ((f_B_narrow a (v - a) (S 6 i) (S 8 i) 0 1 1 1).2.2.2.1) ((f_B_narrow a (v - a) (S 6 i) (S 8 i) 0 1 1 1).2.2.2.2)).2.2.1) ((f_B_narrow b (w - b) (S 7 i) (S 9 i) ((f_B_narrow a (v - a) (S 6 i) (S 8 i) 0 1 1 1).2.1) ((f_B_narrow a (v - a) (S 6 i) (S 8 i) 0 1 1 1).2.2.1) ((f_B_narrow a (v - a) (S 6 i) (S 8 i) 0 1 1 1).2.2.2.1) ((f_B_narrow a (v - a) (S 6 i) (S 8 i) 0 1 1 1).2.2.2.2)).2.2.2.1) ((f_B_narrow b (w - b) (S 7 i) (S 9 i) ((f_B_narrow a (v - a) (S 6 i) (S 8 i) 0 1 1 1).2.1) ((f_B_narrow a (v - a) (S 6 i) (S 8 i) 0 1 1 1).2.2.1) ((f_B_narrow a (v - a) (S 6 i) (S 8 i) 0 1 1 1).2.2.2.1) ((f_B_narrow a (v - a) (S 6 i) (S 8 i) 0 1 1 1).2.2.2.2)).2.2.2.2) (zB.w t_9.1 (by decide) (by decide)) (zB.w t_9.2.1 (by decide) (by decide)) (zB.w t_9.2.2.1 (by decide) (by decide)) (zB.w t_9.2.2.2 (by decide) (by decide)) hP hS ⟨by omega, by omega⟩ (by omega) (by omega) hq (lv_sub hl [2, 3, 4, 5, 6, 7, 8, 0] rfl)
            · replace hq := (if_neg c_14).symm.trans hq
              have r_17 : zB 1 1 (f_B_dipsBelow (S 10 i) d x ((f_B_narrow b (w - b) (S 7 i) (S 9 i) ((f_B_narrow a (v - a) (S 6 i) (S 8 i) 0 1 1 1).2.1) ((f_B_narrow a (v - a) (S 6 i) (S 8 i) 0 1 1 1).2.2.1) ((f_B_narrow a (v - a) (S 6 i) (S 8 i) 0 1 1 1).2.2.2.1) ((f_B_narrow a (v - a) (S 6 i) (S 8 i) 0 1 1 1).2.2.2.2)).2.1) ((f_B_narrow b (w - b) (S 7 i) (S 9 i) ((f_B_narrow a (v - a) (S 6 i) (S 8 i) 0 1 1 1).2.1) ((f_B_narrow a (v - a) (S 6 i) (S 8 i) 0 1 1 1).2.2.1) ((f_B_narrow a (v - a) (S 6 i) (S 8 i) 0 1 1 1).2.2.2.1) ((f_B_narrow a (v - a) (S 6 i) (S 8 i) 0 1 1 1).2.2.2.2)).2.2.1) ((f_B_narrow b (w - b) (S 7 i) (S 9 i) ((f_B_narrow a (v - a) (S 6 i) (S 8 i) 0 1 1 1).2.1) ((f_B_narrow a (v - a) (S 6 i) (S 8 i) 0 1 1 1).2.2.1) ((f_B_narrow a (v - a) (S 6 i) (S 8 i) 0 1 1 1).2.2.2.1) ((f_B_narrow a (v - a) (S 6 i) (S 8 i) 0 1 1 1).2.2.2.2)).2.2.2.1) ((f_B_narrow b (w - b) (S 7 i) (S 9 i) ((f_B_narrow a (v - a) (S 6 i) (S 8 i) 0 1 1 1).2.1) ((f_B_narrow a (v - a) (S 6 i) (S 8 i) 0 1 1 1).2.2.1) ((f_B_narrow a (v - a) (S 6 i) (S 8 i) 0 1 1 1).2.2.2.1) ((f_B_narrow a (v - a) (S 6 i) (S 8 i) 0 1 1 1).2.2.2.2)).2.2.2.2)) := ⟨(by have := (bb_B_dipsBelow (S 10 i) d x ((f_B_narrow b (w - b) (S 7 i) (S 9 i) ((f_B_narrow a (v - a) (S 6 i) (S 8 i) 0 1 1 1).2.1) ((f_B_narrow a (v - a) (S 6 i) (S 8 i) 0 1 1 1).2.2.1) ((f_B_narrow a (v - a) (S 6 i) (S 8 i) 0 1 1 1).2.2.2.1) ((f_B_narrow a (v - a) (S 6 i) (S 8 i) 0 1 1 1).2.2.2.2)).2.1) ((f_B_narrow b (w - b) (S 7 i) (S 9 i) ((f_B_narrow a (v - a) (S 6 i) (S 8 i) 0 1 1 1).2.1) ((f_B_narrow a (v - a) (S 6 i) (S 8 i) 0 1 1 1).2.2.1) ((f_B_narrow a (v - a) (S 6 i) (S 8 i) 0 1 1 1).2.2.2.1) ((f_B_narrow a (v - a) (S 6 i) (S 8 i) 0 1 1 1).2.2.2.2)).2.2.1) ((f_B_narrow b (w - b) (S 7 i) (S 9 i) ((f_B_narrow a (v - a) (S 6 i) (S 8 i) 0 1 1 1).2.1) ((f_B_narrow a (v - a) (S 6 i) (S 8 i) 0 1 1 1).2.2.1) ((f_B_narrow a (v - a) (S 6 i) (S 8 i) 0 1 1 1).2.2.2.1) ((f_B_narrow a (v - a) (S 6 i) (S 8 i) 0 1 1 1).2.2.2.2)).2.2.2.1) ((f_B_narrow b (w - b) (S 7 i) (S 9 i) ((f_B_narrow a (v - a) (S 6 i) (S 8 i) 0 1 1 1).2.1) ((f_B_narrow a (v - a) (S 6 i) (S 8 i) 0 1 1 1).2.2.1) ((f_B_narrow a (v - a) (S 6 i) (S 8 i) 0 1 1 1).2.2.2.1) ((f_B_narrow a (v - a) (S 6 i) (S 8 i) 0 1 1 1).2.2.2.2)).2.2.2.2)).1; omega), (bb_B_dipsBelow (S 10 i) d x ((f_B_narrow b (w - b) (S 7 i) (S 9 i) ((f_B_narrow a (v - a) (S 6 i) (S 8 i) 0 1 1 1).2.1) ((f_B_narrow a (v - a) (S 6 i) (S 8 i) 0 1 1 1).2.2.1) ((f_B_narrow a (v - a) (S 6 i) (S 8 i) 0 1 1 1).2.2.2.1) ((f_B_narrow a (v - a) (S 6 i) (S 8 i) 0 1 1 1).2.2.2.2)).2.1) ((f_B_narrow b (w - b) (S 7 i) (S 9 i) ((f_B_narrow a (v - a) (S 6 i) (S 8 i) 0 1 1 1).2.1) ((f_B_narrow a (v - a) (S 6 i) (S 8 i) 0 1 1 1).2.2.1) ((f_B_narrow a (v - a) (S 6 i) (S 8 i) 0 1 1 1).2.2.2.1) ((f_B_narrow a (v - a) (S 6 i) (S 8 i) 0 1 1 1).2.2.2.2)).2.2.1) ((f_B_narrow b (w - b) (S 7 i) (S 9 i) ((f_B_narrow a (v - a) (S 6 i) (S 8 i) 0 1 1 1).2.1) ((f_B_narrow a (v - a) (S 6 i) (S 8 i) 0 1 1 1).2.2.1) ((f_B_narrow a (v - a) (S 6 i) (S 8 i) 0 1 1 1).2.2.2.1) ((f_B_narrow a (v - a) (S 6 i) (S 8 i) 0 1 1 1).2.2.2.2)).2.2.2.1) ((f_B_narrow b (w - b) (S 7 i) (S 9 i) ((f_B_narrow a (v - a) (S 6 i) (S 8 i) 0 1 1 1).2.1) ((f_B_narrow a (v - a) (S 6 i) (S 8 i) 0 1 1 1).2.2.1) ((f_B_narrow a (v - a) (S 6 i) (S 8 i) 0 1 1 1).2.2.2.1) ((f_B_narrow a (v - a) (S 6 i) (S 8 i) 0 1 1 1).2.2.2.2)).2.2.2.2)).2⟩
              refine lv_iload hx hb d_B_firstAcross_100 (lv_at hl 8 rfl) ?_
              exact zw_i hx hb hr hlocks hq ⟨(f_B_narrow b (w - b) (S 7 i) (S 9 i) ((f_B_narrow a (v - a) (S 6 i) (S 8 i) 0 1 1 1).2.1) ((f_B_narrow a (v - a) (S 6 i) (S 8 i) 0 1 1 1).2.2.1) ((f_B_narrow a (v - a) (S 6 i) (S 8 i) 0 1 1 1).2.2.2.1) ((f_B_narrow a (v - a) (S 6 i) (S 8 i) 0 1 1 1).2.2.2.2)).2.1, (f_B_narrow b (w - b) (S 7 i) (S 9 i) ((f_B_narrow a (v - a) (S 6 i) (S 8 i) 0 1 1 1).2.1) ((f_B_narrow a (v - a) (S 6 i) (S 8 i) 0 1 1 1).2.2.1) ((f_B_narrow a (v - a) (S 6 i) (S 8 i) 0 1 1 1).2.2.2.1) ((f_B_narrow a (v - a) (S 6 i) (S 8 i) 0 1 1 1).2.2.2.2)).2.2.1, (f_B_narrow b (w - b) (S 7 i) (S 9 i) ((f_B_narrow a (v - a) (S 6 i) (S 8 i) 0 1 1 1).2.1) ((f_B_narrow a (v - a) (S 6 i) (S 8 i) 0 1 1 1).2.2.1) ((f_B_narrow a (v - a) (S 6 i) (S 8 i) 0 1 1 1).2.2.2.1) ((f_B_narrow a (v - a) (S 6 i) (S 8 i) 0 1 1 1).2.2.2.2)).2.2.2.1, (f_B_narrow b (w - b) (S 7 i) (S 9 i) ((f_B_narrow a (v - a) (S 6 i) (S 8 i) 0 1 1 1).2.1) ((f_B_narrow a (v - a) (S 6 i) (S 8 i) 0 1 1 1).2.2.1) ((f_B_narrow a (v - a) (S 6 i) (S 8 i) 0 1 1 1).2.2.2.1) ((f_B_narrow a (v - a) (S 6 i) (S 8 i) 0 1 1 1).2.2.2.2)).2.2.2.2, zB.w t_9.1 (by decide) (by decide), zB.w t_9.2.1 (by decide) (by decide), zB.w t_9.2.2.1 (by decide) (by decide), zB.w t_9.2.2.2 (by decide) (by decide), hP⟩ hS d_B_firstAcross_102
  refine L_l _ (fun ls H locs k0 k1 k2 k3 hk0 hk1 hk2 hk3 hP hS hq hl => ?_) 9 0 ls _ _ k0 k1 k2 k3 (zB.w hb_k0 (by decide) (by decide)) (zB.w hb_k1 (by decide) (by decide)) (zB.w hb_k2 (by decide) (by decide)) (zB.w hb_k3 (by decide) (by decide)) hP hS (zB.w (zb_c 0) (by decide) (by decide)) (by omega) (by omega) hq (lv_sub hl [1, 2, 3, 4, 5, 6, 7, 0] rfl)
  refine lv_iconst (v := zi (-1)) hx hb d_B_firstAcross_109 rfl ?_
  exact zw_i hx hb hr hlocks hq ⟨k0, k1, k2, k3, zB.w hk0 (by decide) (by decide), zB.w hk1 (by decide) (by decide), zB.w hk2 (by decide) (by decide), zB.w hk3 (by decide) (by decide), hP⟩ hS d_B_firstAcross_110
def f_S_interruption_g (S : Nat → Int → Int) (a : Int) (b : Int) (z : Int) : Nat → Int → Int
  | 0, _ => 0
  | k + 1, i => if i < (zmax a b) then (if (f_S_isGroundAbove S a b i) = 0 then (f_S_interruption_g S a b z k (i + 1)) else (64 + i)) else (z)
theorem f_S_interruption_g_s (S : Nat → Int → Int) (a : Int) (b : Int) (z : Int) (k : Nat) (i : Int) : f_S_interruption_g S a b z (k + 1) i = (if i < (zmax a b) then (if (f_S_isGroundAbove S a b i) = 0 then (f_S_interruption_g S a b z k (i + 1)) else (64 + i)) else (z)) := rfl
def f_S_interruption_b (S : Nat → Int → Int) (a : Int) (b : Int) (z : Int) : Nat → Int → Int
  | 0, _ => 0
  | k + 1, i => if i < (zmax a b) then (if (f_S_isBankInWay S (zmin a b) (zmax a b) i) = 0 then (f_S_interruption_b S a b z k (i + 1)) else (128 + i)) else (z)
theorem f_S_interruption_b_s (S : Nat → Int → Int) (a : Int) (b : Int) (z : Int) (k : Nat) (i : Int) : f_S_interruption_b S a b z (k + 1) i = (if i < (zmax a b) then (if (f_S_isBankInWay S (zmin a b) (zmax a b) i) = 0 then (f_S_interruption_b S a b z k (i + 1)) else (128 + i)) else (z)) := rfl
def f_S_interruption (S : Nat → Int → Int) (a b : Int) : Int := f_S_interruption_g S a b (f_S_interruption_b S a b (if (f_B_firstAcross S (S 0 a) (S 1 a) ((S 2 a) + (S 11 2)) (S 0 b) (S 1 b) ((S 2 b) + (S 11 3))) = (-1) then (0) else (192 + (f_B_firstAcross S (S 0 a) (S 1 a) ((S 2 a) + (S 11 2)) (S 0 b) (S 1 b) ((S 2 b) + (S 11 3))))) 61 ((zmin a b) + 1)) 61 ((zmin a b) + 1)
theorem br_S_interruption (S : Nat → Int → Int) (a b : Int) (hI : iS S) (ha : zB 0 59 a) (hb : zB 0 59 b) : zB 0 255 (f_S_interruption S a b) := by
  obtain ⟨ha1, ha2⟩ := id ha
  obtain ⟨hb1, hb2⟩ := id hb
  have hm : zmax a b ≤ 59 := by unfold zmax; split <;> omega
  have hn : 0 ≤ zmin a b ∧ zmin a b ≤ 59 := by unfold zmin; split <;> omega
  have keyg : ∀ (z : Int), zB 0 255 z → ∀ (k : Nat) (i : Int), zB 1 60 i → zB 0 255 (f_S_interruption_g S a b z k i) := by
    intro z hz k
    induction k with
    | zero => intro i h; show zB 0 255 0; exact ⟨by decide, by decide⟩
    | succ k ih =>
      intro i h
      obtain ⟨h1, h2⟩ := id h
      rw [f_S_interruption_g_s]
      repeat' split
      all_goals first | exact hz | exact ⟨by omega, by omega⟩ | exact ih _ ⟨by omega, by omega⟩
  have keyb : ∀ (z : Int), zB 0 255 z → ∀ (k : Nat) (i : Int), zB 1 60 i → zB 0 255 (f_S_interruption_b S a b z k i) := by
    intro z hz k
    induction k with
    | zero => intro i h; show zB 0 255 0; exact ⟨by decide, by decide⟩
    | succ k ih =>
      intro i h
      obtain ⟨h1, h2⟩ := id h
      rw [f_S_interruption_b_s]
      repeat' split
      all_goals first | exact hz | exact ⟨by omega, by omega⟩ | exact ih _ ⟨by omega, by omega⟩
  have hf := br_B_firstAcross S (S 0 a) (S 1 a) (S 2 a + S 11 2) (S 0 b) (S 1 b) (S 2 b + S 11 3) hI (iS_a0 hI a) (iS_a1 hI a) (zB.w (zb_add (iS_a2 hI a) (iS_s2 hI)) (by decide) (by decide)) (iS_a0 hI b) (iS_a1 hI b) (zB.w (zb_add (iS_a2 hI b) (iS_s3 hI)) (by decide) (by decide))
  obtain ⟨hf1, hf2⟩ := id hf
  unfold f_S_interruption
  refine keyg _ (keyb _ ?_ _ _ ⟨by omega, by omega⟩) _ _ ⟨by omega, by omega⟩
  split
  · exact ⟨by decide, by decide⟩
  · exact ⟨by omega, by omega⟩
set_option maxHeartbeats 4000000 in
set_option maxRecDepth 100000 in
theorem k_S_interruption (l : Launch) (dC : Nat → ClassId) (dI : Nat → Nat → Nat) (ad : Nat → Nat) (cI : ClassId) (S : Nat → Int → Int) (k0 k1 k2 k3 : Int) (hI : iS S) (hj : zJ 13 ad) (hb_k0 : zB (-30000) 30000 k0) (hb_k1 : zB (-30000) 30000 k1) (hb_k2 : zB (-30000) 30000 k2) (hb_k3 : zB (-30000) 30000 k3) (a b : Int) (hb_a : zB 0 59 a) (hb_b : zB 0 59 b) : Met l y_S_interruption (Cond.code y_S_interruption c_S_interruption 6 (some .int) :: zT) { frames := 3, cells := 0, slots := 0, locals := 71 } (va_Pc ([.ref (ad 0), .int (zi a), .int (zi b)] : List Value) (zWS dC dI ad cI S k0 k1 k2 k3)) (zQ (some (.int (zi (f_S_interruption S a b)))) (fun H => ∃ k0 k1 k2 k3 : Int, zB (-30000) 30000 k0 ∧ zB (-30000) 30000 k1 ∧ zB (-30000) 30000 k2 ∧ zB (-30000) 30000 k3 ∧ va_P (dC, dI) classes (wS ad cI S k0 k1 k2 k3) H) (zAS ad)) 0 0 (zAS ad) := by
  refine zh (cc := c_S_interruption) (C := R_S) (by decide) rfl rfl (Nat.le_of_ble_eq_true rfl) ?_
  intro p e s m below meth c ls hx hb hr hlocks hml hown hname hts hl hB
  have hw : ∀ w9 ∈ zT, w9.before ([.ref (ad 0), .int (zi a), .int (zi b)] : List Value).toArray s = true := fun w9 h => hts w9 (List.mem_cons_of_mem _ h)
  obtain ⟨hP, hK, hN⟩ := hB
  obtain ⟨hn0, hn1⟩ := id (iS_s0 hI)
  have hD := zDS hj cI
  have hS : va_S (zAS ad) s.heap s.heap [] := va_S.rf
  obtain ⟨hz0, hz1⟩ := id (iS_s6 hI)
  obtain ⟨hl_a, hh_a⟩ := id hb_a
  obtain ⟨hl_b, hh_b⟩ := id hb_b
  generalize hq : f_S_interruption S a b = r
  unfold f_S_interruption at hq
  replace hl : lv_has ls 6 [(0, .ref (ad 0)), (1, .int (zi a)), (2, .int (zi b))] := hl
  refine lv_iload_n hx hb d_S_interruption_0 rfl (lv_at hl 1 rfl) ?_
  refine lv_iload_n hx hb d_S_interruption_1 rfl (lv_at hl 2 rfl) ?_
  refine zr_min hx hb (hml.trans hl.1.symm) hown (hw _ m_114) (hw _ m_115) (hw _ m_4) (hw _ m_116) (Nat.le_of_ble_eq_true rfl) (Nat.le_of_ble_eq_true rfl) (Nat.zero_le _) (Nat.zero_le _) (zB.I hb_a (by decide) (by decide)) (zB.I hb_b (by decide) (by decide)) d_S_interruption_2 ?_
  have b_1 : zB 0 59 (zmin a b) := zB.w (zb_min (lo := 0) (hi := 59) (zB.w hb_a (by decide) (by decide)) (zB.w hb_b (by decide) (by decide))) (by decide) (by decide)
  obtain ⟨hl_b_1, hh_b_1⟩ := id b_1
  refine lv_istore_n (lv' := [(3, .int (zi (zmin a b))), (0, .ref (ad 0)), (1, .int (zi a)), (2, .int (zi b))]) hx hb d_S_interruption_5 rfl hl (by decide) rfl (fun ls hl => ?_)
  refine lv_iload_n hx hb d_S_interruption_6 rfl (lv_at hl 2 rfl) ?_
  refine lv_iload_n hx hb d_S_interruption_7 rfl (lv_at hl 3 rfl) ?_
  refine zr_max hx hb (hml.trans hl.1.symm) hown (hw _ m_71) (hw _ m_72) (hw _ m_4) (hw _ m_73) (Nat.le_of_ble_eq_true rfl) (Nat.le_of_ble_eq_true rfl) (Nat.zero_le _) (Nat.zero_le _) (zB.I hb_a (by decide) (by decide)) (zB.I hb_b (by decide) (by decide)) d_S_interruption_8 ?_
  have b_2 : zB 0 59 (zmax a b) := zB.w (zb_maxl (lo := 0) (hi := 59) hb_a hb_b (by decide) (by decide) (by decide)) (by decide) (by decide)
  obtain ⟨hl_b_2, hh_b_2⟩ := id b_2
  refine lv_istore (lv' := [(4, .int (zi (zmax a b))), (3, .int (zi (zmin a b))), (0, .ref (ad 0)), (1, .int (zi a)), (2, .int (zi b))]) hx hb d_S_interruption_11 hl (by decide) rfl (fun ls hl => ?_)
  refine lv_iload_n hx hb d_S_interruption_13 rfl (lv_at hl 1 rfl) ?_
  refine lv_iconst (v := zi 1) hx hb d_S_interruption_14 rfl ?_
  have b_3 : zB 1 60 ((zmin a b) + 1) := zB.w (zb_add b_1 (zb_c 1)) (by decide) (by decide)
  refine zr_iadd hx hb d_S_interruption_15 ?_
  refine lv_istore (lv' := [(5, .int (zi ((zmin a b) + 1))), (4, .int (zi (zmax a b))), (3, .int (zi (zmin a b))), (0, .ref (ad 0)), (1, .int (zi a)), (2, .int (zi b))]) hx hb d_S_interruption_16 hl (by decide) rfl (fun ls hl => ?_)
  have L_g : ∀ (z : Int), (∀ (ls : Array Slot) (H : Heap) (locs : List Loc) (k0 k1 k2 k3 : Int), zB (-30000) 30000 k0 → zB (-30000) 30000 k1 → zB (-30000) 30000 k2 → zB (-30000) 30000 k3 → va_P (dC, dI) classes (wS ad cI S k0 k1 k2 k3) H → va_S (zAS ad) s.heap H locs → z = r → lv_has ls 6 [(0, .ref (ad 0)), (1, .int (zi a)), (2, .int (zi b)), (3, .int (zi (zmin a b))), (4, .int (zi (zmax a b)))] → W p l e { frames := 3, cells := 0, slots := 0, locals := 71 } s m ([.ref (ad 0), .int (zi a), .int (zi b)] : List Value).toArray below meth c H locs 0 0 (MQ below (zQ (some (.int (zi r))) (fun H => ∃ k0 k1 k2 k3 : Int, zB (-30000) 30000 k0 ∧ zB (-30000) 30000 k1 ∧ zB (-30000) 30000 k2 ∧ zB (-30000) 30000 k3 ∧ va_P (dC, dI) classes (wS ad cI S k0 k1 k2 k3) H) (zAS ad)) ([.ref (ad 0), .int (zi a), .int (zi b)] : List Value).toArray s 0 0 (zAS ad)) (F0 m 48 ls [])) → ∀ (k : Nat) (i : Int) (ls : Array Slot) (H : Heap) (locs : List Loc) (k0 k1 k2 k3 : Int), zB (-30000) 30000 k0 → zB (-30000) 30000 k1 → zB (-30000) 30000 k2 → zB (-30000) 30000 k3 → va_P (dC, dI) classes (wS ad cI S k0 k1 k2 k3) H → va_S (zAS ad) s.heap H locs → zB 1 60 i → 60 - i < (k : Int) → f_S_interruption_g S a b z k i = r → lv_has ls 6 [(0, .ref (ad 0)), (1, .int (zi a)), (2, .int (zi b)), (3, .int (zi (zmin a b))), (4, .int (zi (zmax a b))), (5, .int (zi i))] → W p l e { frames := 3, cells := 0, slots := 0, locals := 71 } s m ([.ref (ad 0), .int (zi a), .int (zi b)] : List Value).toArray below meth c H locs 0 0 (MQ below (zQ (some (.int (zi r))) (fun H => ∃ k0 k1 k2 k3 : Int, zB (-30000) 30000 k0 ∧ zB (-30000) 30000 k1 ∧ zB (-30000) 30000 k2 ∧ zB (-30000) 30000 k3 ∧ va_P (dC, dI) classes (wS ad cI S k0 k1 k2 k3) H) (zAS ad)) ([.ref (ad 0), .int (zi a), .int (zi b)] : List Value).toArray s 0 0 (zAS ad)) (F0 m 18 ls []) := by
    intro z hz k
    induction k with
    | zero =>
      intro i ls H locs k0 k1 k2 k3 hk0 hk1 hk2 hk3 hP hS hb_i  hk hq hl
      exact absurd hk (by have := hb_i.1; have := hb_i.2; omega)
    | succ k ih =>
      intro i ls H locs k0 k1 k2 k3 hk0 hk1 hk2 hk3 hP hS hb_i  hk hq hl
      obtain ⟨hl_i, hh_i⟩ := id hb_i
      replace hq := (f_S_interruption_g_s S a b z k i).symm.trans hq
      refine lv_iload hx hb d_S_interruption_18 (lv_at hl 5 rfl) ?_
      refine lv_iload hx hb d_S_interruption_20 (lv_at hl 4 rfl) ?_
      refine zr_icmp_ge (tgt := 48) hx hb (zB.I hb_i (by decide) (by decide)) (zB.I b_2 (by decide) (by decide)) d_S_interruption_22 (by decide) (fun c_4 => ?_) (fun c_4 => ?_)
      · replace hq := (if_neg c_4).symm.trans hq
        exact hz ls _ _ k0 k1 k2 k3 (zB.w hk0 (by decide) (by decide)) (zB.w hk1 (by decide) (by decide)) (zB.w hk2 (by decide) (by decide)) (zB.w hk3 (by decide) (by decide)) hP hS hq (lv_sub hl [0, 1, 2, 3, 4] rfl)
      · replace hq := (if_pos c_4).symm.trans hq
        refine lv_aload_n hx hb d_S_interruption_25 rfl (lv_at hl 0 rfl) ?_
        refine lv_iload_n hx hb d_S_interruption_26 rfl (lv_at hl 1 rfl) ?_
        refine lv_iload_n hx hb d_S_interruption_27 rfl (lv_at hl 2 rfl) ?_
        refine lv_iload hx hb d_S_interruption_28 (lv_at hl 5 rfl) ?_
        refine zc_n (va_runV (As := [.int (zi a), .int (zi b), .int (zi i)]) (rest := []) ⟨hx, hb, hml, hown, hts⟩ (k_S_isGroundAbove l dC dI ad cI S k0 k1 k2 k3 hI a b i (zB.w hb_a (by decide) (by decide)) (zB.w hb_b (by decide) (by decide)) ⟨by omega, by omega⟩ ) (zcV 3 hts m_119 m_1 m_117 m_118 m_377 rfl rfl q_S_isGroundAbove ⟨Nat.le_of_ble_eq_true rfl, Nat.le_of_ble_eq_true rfl⟩) (zpS0 hP hK hN [.int (zi a), .int (zi b), .int (zi i)]) rfl rfl hl.1 rfl (lv_room (Nat.le_of_ble_eq_true rfl)) d_S_interruption_30 ⟨Nat.zero_le _, Nat.zero_le _⟩) ?_
        refine zr_if_eq (tgt := 42) hx hb (zB.I (bb_S_isGroundAbove S a b i) (by decide) (by decide)) d_S_interruption_33 (by decide) (fun c_5 => ?_) (fun c_5 => ?_)
        · replace hq := (if_pos c_5).symm.trans hq
          have r_6 : zB 0 0 (f_S_isGroundAbove S a b i) := ⟨(Int.le_of_eq c_5.symm), (Int.le_of_eq c_5)⟩
          have b_7 : zB 2 61 (i + 1) := zB.w (zb_add hb_i (zb_c 1)) (by decide) (by decide)
          refine lv_iinc (v := zi (i + 1)) (lv' := [(5, .int (zi (i + 1))), (0, .ref (ad 0)), (1, .int (zi a)), (2, .int (zi b)), (3, .int (zi (zmin a b))), (4, .int (zi (zmax a b)))]) hx hb d_S_interruption_42 hl (k := 5) rfl (zi_add _ _) (by decide) rfl (fun ls hl => ?_)
          refine lv_goto (tgt := 18) hx hb d_S_interruption_45 (by decide) ?_
          exact ih (i + 1) ls _ _ k0 k1 k2 k3 (zB.w hk0 (by decide) (by decide)) (zB.w hk1 (by decide) (by decide)) (zB.w hk2 (by decide) (by decide)) (zB.w hk3 (by decide) (by decide)) hP hS ⟨by omega, by omega⟩  (by omega) hq (lv_sub hl [1, 2, 3, 4, 5, 0] rfl)
        · replace hq := (if_neg c_5).symm.trans hq
          have r_8 : zB 1 1 (f_S_isGroundAbove S a b i) := ⟨(by have := (bb_S_isGroundAbove S a b i).1; omega), (bb_S_isGroundAbove S a b i).2⟩
          refine lv_bipush (v := zi 64) hx hb d_S_interruption_36 (by decide) ?_
          refine lv_iload hx hb d_S_interruption_38 (lv_at hl 5 rfl) ?_
          have b_9 : zB 65 124 (64 + i) := zB.w (zb_add (zb_c 64) hb_i) (by decide) (by decide)
          refine zr_iadd hx hb d_S_interruption_40 ?_
          exact zw_i hx hb hr hlocks hq ⟨k0, k1, k2, k3, zB.w hk0 (by decide) (by decide), zB.w hk1 (by decide) (by decide), zB.w hk2 (by decide) (by decide), zB.w hk3 (by decide) (by decide), hP⟩ hS d_S_interruption_41
  refine L_g _ (fun ls H locs k0 k1 k2 k3 hk0 hk1 hk2 hk3 hP hS hq hl => ?_) 61 ((zmin a b) + 1) ls _ _ k0 k1 k2 k3 (zB.w hb_k0 (by decide) (by decide)) (zB.w hb_k1 (by decide) (by decide)) (zB.w hb_k2 (by decide) (by decide)) (zB.w hb_k3 (by decide) (by decide)) hP hS (zB.w b_3 (by decide) (by decide))  (by omega) hq (lv_sub hl [3, 4, 5, 2, 1, 0] rfl)
  refine lv_iload_n hx hb d_S_interruption_48 rfl (lv_at hl 3 rfl) ?_
  refine lv_iconst (v := zi 1) hx hb d_S_interruption_49 rfl ?_
  refine zr_iadd hx hb d_S_interruption_50 ?_
  refine lv_istore (lv' := [(5, .int (zi ((zmin a b) + 1))), (0, .ref (ad 0)), (1, .int (zi a)), (2, .int (zi b)), (3, .int (zi (zmin a b))), (4, .int (zi (zmax a b)))]) hx hb d_S_interruption_51 hl (by decide) rfl (fun ls hl => ?_)
  have L_b : ∀ (z : Int), (∀ (ls : Array Slot) (H : Heap) (locs : List Loc) (k0 k1 k2 k3 : Int), zB (-30000) 30000 k0 → zB (-30000) 30000 k1 → zB (-30000) 30000 k2 → zB (-30000) 30000 k3 → va_P (dC, dI) classes (wS ad cI S k0 k1 k2 k3) H → va_S (zAS ad) s.heap H locs → z = r → lv_has ls 6 [(0, .ref (ad 0)), (1, .int (zi a)), (2, .int (zi b)), (3, .int (zi (zmin a b))), (4, .int (zi (zmax a b)))] → W p l e { frames := 3, cells := 0, slots := 0, locals := 71 } s m ([.ref (ad 0), .int (zi a), .int (zi b)] : List Value).toArray below meth c H locs 0 0 (MQ below (zQ (some (.int (zi r))) (fun H => ∃ k0 k1 k2 k3 : Int, zB (-30000) 30000 k0 ∧ zB (-30000) 30000 k1 ∧ zB (-30000) 30000 k2 ∧ zB (-30000) 30000 k3 ∧ va_P (dC, dI) classes (wS ad cI S k0 k1 k2 k3) H) (zAS ad)) ([.ref (ad 0), .int (zi a), .int (zi b)] : List Value).toArray s 0 0 (zAS ad)) (F0 m 85 ls [])) → ∀ (k : Nat) (i : Int) (ls : Array Slot) (H : Heap) (locs : List Loc) (k0 k1 k2 k3 : Int), zB (-30000) 30000 k0 → zB (-30000) 30000 k1 → zB (-30000) 30000 k2 → zB (-30000) 30000 k3 → va_P (dC, dI) classes (wS ad cI S k0 k1 k2 k3) H → va_S (zAS ad) s.heap H locs → zB 1 60 i → 60 - i < (k : Int) → f_S_interruption_b S a b z k i = r → lv_has ls 6 [(0, .ref (ad 0)), (1, .int (zi a)), (2, .int (zi b)), (3, .int (zi (zmin a b))), (4, .int (zi (zmax a b))), (5, .int (zi i))] → W p l e { frames := 3, cells := 0, slots := 0, locals := 71 } s m ([.ref (ad 0), .int (zi a), .int (zi b)] : List Value).toArray below meth c H locs 0 0 (MQ below (zQ (some (.int (zi r))) (fun H => ∃ k0 k1 k2 k3 : Int, zB (-30000) 30000 k0 ∧ zB (-30000) 30000 k1 ∧ zB (-30000) 30000 k2 ∧ zB (-30000) 30000 k3 ∧ va_P (dC, dI) classes (wS ad cI S k0 k1 k2 k3) H) (zAS ad)) ([.ref (ad 0), .int (zi a), .int (zi b)] : List Value).toArray s 0 0 (zAS ad)) (F0 m 53 ls []) := by
    intro z hz k
    induction k with
    | zero =>
      intro i ls H locs k0 k1 k2 k3 hk0 hk1 hk2 hk3 hP hS hb_i  hk hq hl
      exact absurd hk (by have := hb_i.1; have := hb_i.2; omega)
    | succ k ih =>
      intro i ls H locs k0 k1 k2 k3 hk0 hk1 hk2 hk3 hP hS hb_i  hk hq hl
      obtain ⟨hl_i, hh_i⟩ := id hb_i
      replace hq := (f_S_interruption_b_s S a b z k i).symm.trans hq
      refine lv_iload hx hb d_S_interruption_53 (lv_at hl 5 rfl) ?_
      refine lv_iload hx hb d_S_interruption_55 (lv_at hl 4 rfl) ?_
      refine zr_icmp_ge (tgt := 85) hx hb (zB.I hb_i (by decide) (by decide)) (zB.I b_2 (by decide) (by decide)) d_S_interruption_57 (by decide) (fun c_10 => ?_) (fun c_10 => ?_)
      · replace hq := (if_neg c_10).symm.trans hq
        exact hz ls _ _ k0 k1 k2 k3 (zB.w hk0 (by decide) (by decide)) (zB.w hk1 (by decide) (by decide)) (zB.w hk2 (by decide) (by decide)) (zB.w hk3 (by decide) (by decide)) hP hS hq (lv_sub hl [0, 1, 2, 3, 4] rfl)
      · replace hq := (if_pos c_10).symm.trans hq
        refine lv_aload_n hx hb d_S_interruption_60 rfl (lv_at hl 0 rfl) ?_
        refine lv_iload_n hx hb d_S_interruption_61 rfl (lv_at hl 3 rfl) ?_
        refine lv_iload hx hb d_S_interruption_62 (lv_at hl 4 rfl) ?_
        refine lv_iload hx hb d_S_interruption_64 (lv_at hl 5 rfl) ?_
        refine zc_n (va_runV (As := [.int (zi (zmin a b)), .int (zi (zmax a b)), .int (zi i)]) (rest := []) ⟨hx, hb, hml, hown, hts⟩ (k_S_isBankInWay l dC dI ad cI S k0 k1 k2 k3 hI (zmin a b) (zmax a b) i (zB.w b_1 (by decide) (by decide)) (zB.w b_2 (by decide) (by decide)) ⟨by omega, by omega⟩ ) (zcV 3 hts m_125 m_1 m_123 m_124 m_378 rfl rfl q_S_isBankInWay ⟨Nat.le_of_ble_eq_true rfl, Nat.le_of_ble_eq_true rfl⟩) (zpS0 hP hK hN [.int (zi (zmin a b)), .int (zi (zmax a b)), .int (zi i)]) rfl rfl hl.1 rfl (lv_room (Nat.le_of_ble_eq_true rfl)) d_S_interruption_66 ⟨Nat.zero_le _, Nat.zero_le _⟩) ?_
        refine zr_if_eq (tgt := 79) hx hb (zB.I (bb_S_isBankInWay S (zmin a b) (zmax a b) i) (by decide) (by decide)) d_S_interruption_69 (by decide) (fun c_11 => ?_) (fun c_11 => ?_)
        · replace hq := (if_pos c_11).symm.trans hq
          have r_12 : zB 0 0 (f_S_isBankInWay S (zmin a b) (zmax a b) i) := ⟨(Int.le_of_eq c_11.symm), (Int.le_of_eq c_11)⟩
          have b_13 : zB 2 61 (i + 1) := zB.w (zb_add hb_i (zb_c 1)) (by decide) (by decide)
          refine lv_iinc (v := zi (i + 1)) (lv' := [(5, .int (zi (i + 1))), (0, .ref (ad 0)), (1, .int (zi a)), (2, .int (zi b)), (3, .int (zi (zmin a b))), (4, .int (zi (zmax a b)))]) hx hb d_S_interruption_79 hl (k := 5) rfl (zi_add _ _) (by decide) rfl (fun ls hl => ?_)
          refine lv_goto (tgt := 53) hx hb d_S_interruption_82 (by decide) ?_
          exact ih (i + 1) ls _ _ k0 k1 k2 k3 (zB.w hk0 (by decide) (by decide)) (zB.w hk1 (by decide) (by decide)) (zB.w hk2 (by decide) (by decide)) (zB.w hk3 (by decide) (by decide)) hP hS ⟨by omega, by omega⟩  (by omega) hq (lv_sub hl [1, 2, 3, 4, 5, 0] rfl)
        · replace hq := (if_neg c_11).symm.trans hq
          have r_14 : zB 1 1 (f_S_isBankInWay S (zmin a b) (zmax a b) i) := ⟨(by have := (bb_S_isBankInWay S (zmin a b) (zmax a b) i).1; omega), (bb_S_isBankInWay S (zmin a b) (zmax a b) i).2⟩
          refine lv_sipush (v := zi 128) hx hb d_S_interruption_72 (by decide) ?_
          refine lv_iload hx hb d_S_interruption_75 (lv_at hl 5 rfl) ?_
          have b_15 : zB 129 188 (128 + i) := zB.w (zb_add (zb_c 128) hb_i) (by decide) (by decide)
          refine zr_iadd hx hb d_S_interruption_77 ?_
          exact zw_i hx hb hr hlocks hq ⟨k0, k1, k2, k3, zB.w hk0 (by decide) (by decide), zB.w hk1 (by decide) (by decide), zB.w hk2 (by decide) (by decide), zB.w hk3 (by decide) (by decide), hP⟩ hS d_S_interruption_78
  refine L_b _ (fun ls H locs k0 k1 k2 k3 hk0 hk1 hk2 hk3 hP hS hq hl => ?_) 61 ((zmin a b) + 1) ls _ _ k0 k1 k2 k3 (zB.w hk0 (by decide) (by decide)) (zB.w hk1 (by decide) (by decide)) (zB.w hk2 (by decide) (by decide)) (zB.w hk3 (by decide) (by decide)) hP hS (zB.w b_3 (by decide) (by decide))  (by omega) hq (lv_sub hl [1, 2, 3, 4, 5, 0] rfl)
  refine lv_aload_n hx hb d_S_interruption_85 rfl (lv_at hl 0 rfl) ?_
  refine va_get (D := (dC, dI)) (ci := 1) (v := .ref (ad 7)) (C := R_S) (T := T_S) (N := 13) hx hb hw i_S hown hK hP 0 rfl rfl 6 (by decide) (hw _ m_37) (fun _ h9 => h9) rfl d_S_interruption_86 ?_
  refine lv_aload_n hx hb d_S_interruption_89 rfl (lv_at hl 0 rfl) ?_
  refine va_get (D := (dC, dI)) (ci := 1) (v := .ref (ad 1)) (C := R_S) (T := T_S) (N := 13) hx hb hw i_S hown hK hP 0 rfl rfl 0 (by decide) (hw _ m_31) (fun _ h9 => h9) rfl d_S_interruption_90 ?_
  refine lv_iload_n hx hb d_S_interruption_93 rfl (lv_at hl 1 rfl) ?_
  refine zr_iald hx hb hK hP 1 0 (cA := cI) (n := 60) (g := S 0) rfl rfl (i := a) (by omega) (by omega) (by decide) d_S_interruption_94 ?_
  refine lv_aload_n hx hb d_S_interruption_95 rfl (lv_at hl 0 rfl) ?_
  refine va_get (D := (dC, dI)) (ci := 1) (v := .ref (ad 2)) (C := R_S) (T := T_S) (N := 13) hx hb hw i_S hown hK hP 0 rfl rfl 1 (by decide) (hw _ m_32) (fun _ h9 => h9) rfl d_S_interruption_96 ?_
  refine lv_iload_n hx hb d_S_interruption_99 rfl (lv_at hl 1 rfl) ?_
  refine zr_iald hx hb hK hP 2 0 (cA := cI) (n := 60) (g := S 1) rfl rfl (i := a) (by omega) (by omega) (by decide) d_S_interruption_100 ?_
  refine lv_aload_n hx hb d_S_interruption_101 rfl (lv_at hl 0 rfl) ?_
  refine va_get (D := (dC, dI)) (ci := 1) (v := .ref (ad 3)) (C := R_S) (T := T_S) (N := 13) hx hb hw i_S hown hK hP 0 rfl rfl 2 (by decide) (hw _ m_33) (fun _ h9 => h9) rfl d_S_interruption_102 ?_
  refine lv_iload_n hx hb d_S_interruption_105 rfl (lv_at hl 1 rfl) ?_
  refine zr_iald hx hb hK hP 3 0 (cA := cI) (n := 60) (g := S 2) rfl rfl (i := a) (by omega) (by omega) (by decide) d_S_interruption_106 ?_
  refine lv_aload_n hx hb d_S_interruption_107 rfl (lv_at hl 0 rfl) ?_
  refine va_get (D := (dC, dI)) (ci := 1) (v := .int (zi (S 11 2))) (C := R_S) (T := T_S) (N := 13) hx hb hw i_S hown hK hP 0 rfl rfl 9 (by decide) (hw _ m_40) (fun _ h9 => h9) rfl d_S_interruption_108 ?_
  have b_16 : zB (-100000) 101000 ((S 2 a) + (S 11 2)) := zB.w (zb_add (iS_a2 hI a) (iS_s2 hI)) (by decide) (by decide)
  refine zr_iadd hx hb d_S_interruption_111 ?_
  refine lv_aload_n hx hb d_S_interruption_112 rfl (lv_at hl 0 rfl) ?_
  refine va_get (D := (dC, dI)) (ci := 1) (v := .ref (ad 1)) (C := R_S) (T := T_S) (N := 13) hx hb hw i_S hown hK hP 0 rfl rfl 0 (by decide) (hw _ m_31) (fun _ h9 => h9) rfl d_S_interruption_113 ?_
  refine lv_iload_n hx hb d_S_interruption_116 rfl (lv_at hl 2 rfl) ?_
  refine zr_iald hx hb hK hP 1 0 (cA := cI) (n := 60) (g := S 0) rfl rfl (i := b) (by omega) (by omega) (by decide) d_S_interruption_117 ?_
  refine lv_aload_n hx hb d_S_interruption_118 rfl (lv_at hl 0 rfl) ?_
  refine va_get (D := (dC, dI)) (ci := 1) (v := .ref (ad 2)) (C := R_S) (T := T_S) (N := 13) hx hb hw i_S hown hK hP 0 rfl rfl 1 (by decide) (hw _ m_32) (fun _ h9 => h9) rfl d_S_interruption_119 ?_
  refine lv_iload_n hx hb d_S_interruption_122 rfl (lv_at hl 2 rfl) ?_
  refine zr_iald hx hb hK hP 2 0 (cA := cI) (n := 60) (g := S 1) rfl rfl (i := b) (by omega) (by omega) (by decide) d_S_interruption_123 ?_
  refine lv_aload_n hx hb d_S_interruption_124 rfl (lv_at hl 0 rfl) ?_
  refine va_get (D := (dC, dI)) (ci := 1) (v := .ref (ad 3)) (C := R_S) (T := T_S) (N := 13) hx hb hw i_S hown hK hP 0 rfl rfl 2 (by decide) (hw _ m_33) (fun _ h9 => h9) rfl d_S_interruption_125 ?_
  refine lv_iload_n hx hb d_S_interruption_128 rfl (lv_at hl 2 rfl) ?_
  refine zr_iald hx hb hK hP 3 0 (cA := cI) (n := 60) (g := S 2) rfl rfl (i := b) (by omega) (by omega) (by decide) d_S_interruption_129 ?_
  refine lv_aload_n hx hb d_S_interruption_130 rfl (lv_at hl 0 rfl) ?_
  refine va_get (D := (dC, dI)) (ci := 1) (v := .int (zi (S 11 3))) (C := R_S) (T := T_S) (N := 13) hx hb hw i_S hown hK hP 0 rfl rfl 10 (by decide) (hw _ m_41) (fun _ h9 => h9) rfl d_S_interruption_131 ?_
  have b_17 : zB (-100000) 101000 ((S 2 b) + (S 11 3)) := zB.w (zb_add (iS_a2 hI b) (iS_s3 hI)) (by decide) (by decide)
  refine zr_iadd hx hb d_S_interruption_134 ?_
  refine zc_w (va_runVN (As := [.int (zi (S 0 a)), .int (zi (S 1 a)), .int (zi ((S 2 a) + (S 11 2))), .int (zi (S 0 b)), .int (zi (S 1 b)), .int (zi ((S 2 b) + (S 11 3)))]) (rest := []) ⟨hx, hb, hml, hown, hts⟩ (k_B_firstAcross l dC dI ad cI S k0 k1 k2 k3 hI hj (zB.w hk0 (by decide) (by decide)) (zB.w hk1 (by decide) (by decide)) (zB.w hk2 (by decide) (by decide)) (zB.w hk3 (by decide) (by decide)) (S 0 a) (S 1 a) ((S 2 a) + (S 11 2)) (S 0 b) (S 1 b) ((S 2 b) + (S 11 3)) (zB.w (iS_a0 hI a) (by decide) (by decide)) (zB.w (iS_a1 hI a) (by decide) (by decide)) (zB.w b_16 (by decide) (by decide)) (zB.w (iS_a0 hI b) (by decide) (by decide)) (zB.w (iS_a1 hI b) (by decide) (by decide)) (zB.w b_17 (by decide) (by decide)) ) (zcN 6 hts m_137 m_2 hN.1 m_136 m_380 rfl rfl q_B_firstAcross ⟨Nat.le_of_ble_eq_true rfl, Nat.le_of_ble_eq_true rfl⟩) (zpS7 hP hK hN [.int (zi (S 0 a)), .int (zi (S 1 a)), .int (zi ((S 2 a) + (S 11 2))), .int (zi (S 0 b)), .int (zi (S 1 b)), .int (zi ((S 2 b) + (S 11 3)))]) rfl rfl hl.1 rfl (lv_room (Nat.le_of_ble_eq_true rfl)) d_S_interruption_135 ⟨Nat.zero_le _, Nat.zero_le _⟩) hS (fun q _ h => h) (fun q h => h) (fun H locs hP hz1 hk1 hS => ?_)
  clear hz1 hk1
  obtain ⟨k0_e_18, k1_e_18, k2_e_18, k3_e_18, hk0_e_18, hk1_e_18, hk2_e_18, hk3_e_18, hP⟩ := hP
  have b_19 : zB (-1) 8 (f_B_firstAcross S (S 0 a) (S 1 a) ((S 2 a) + (S 11 2)) (S 0 b) (S 1 b) ((S 2 b) + (S 11 3))) := br_B_firstAcross S (S 0 a) (S 1 a) ((S 2 a) + (S 11 2)) (S 0 b) (S 1 b) ((S 2 b) + (S 11 3)) hI (zB.w (iS_a0 hI a) (by decide) (by decide)) (zB.w (iS_a1 hI a) (by decide) (by decide)) (zB.w b_16 (by decide) (by decide)) (zB.w (iS_a0 hI b) (by decide) (by decide)) (zB.w (iS_a1 hI b) (by decide) (by decide)) (zB.w b_17 (by decide) (by decide)) 
  refine lv_istore (lv' := [(5, .int (zi (f_B_firstAcross S (S 0 a) (S 1 a) ((S 2 a) + (S 11 2)) (S 0 b) (S 1 b) ((S 2 b) + (S 11 3))))), (0, .ref (ad 0)), (1, .int (zi a)), (2, .int (zi b)), (3, .int (zi (zmin a b))), (4, .int (zi (zmax a b)))]) hx hb d_S_interruption_138 hl (by decide) rfl (fun ls hl => ?_)
  refine lv_iload hx hb d_S_interruption_140 (lv_at hl 0 rfl) ?_
  refine lv_iconst (v := zi (-1)) hx hb d_S_interruption_142 rfl ?_
  refine zr_icmp_ne (tgt := 150) hx hb (zB.I b_19 (by decide) (by decide)) (zB.I (zb_c (-1)) (by decide) (by decide)) d_S_interruption_143 (by decide) (fun c_20 => ?_) (fun c_20 => ?_)
  · replace hq := (if_neg c_20).symm.trans hq
    have r_21 : zB 0 8 (f_B_firstAcross S (S 0 a) (S 1 a) ((S 2 a) + (S 11 2)) (S 0 b) (S 1 b) ((S 2 b) + (S 11 3))) := ⟨(by have := b_19.1; omega), b_19.2⟩
    refine lv_sipush (v := zi 192) hx hb d_S_interruption_150 (by decide) ?_
    refine lv_iload hx hb d_S_interruption_153 (lv_at hl 0 rfl) ?_
    have b_22 : zB 192 200 (192 + (f_B_firstAcross S (S 0 a) (S 1 a) ((S 2 a) + (S 11 2)) (S 0 b) (S 1 b) ((S 2 b) + (S 11 3)))) := zB.w (zb_add (zb_c 192) r_21) (by decide) (by decide)
    refine zr_iadd hx hb d_S_interruption_155 ?_
    exact zw_i hx hb hr hlocks hq ⟨k0_e_18, k1_e_18, k2_e_18, k3_e_18, zB.w hk0_e_18 (by decide) (by decide), zB.w hk1_e_18 (by decide) (by decide), zB.w hk2_e_18 (by decide) (by decide), zB.w hk3_e_18 (by decide) (by decide), hP⟩ hS d_S_interruption_156
  · replace hq := (if_pos c_20).symm.trans hq
    have r_23 : zB (-1) (-1) (f_B_firstAcross S (S 0 a) (S 1 a) ((S 2 a) + (S 11 2)) (S 0 b) (S 1 b) ((S 2 b) + (S 11 3))) := ⟨(Int.le_of_eq c_20.symm), (Int.le_of_eq c_20)⟩
    refine lv_iconst (v := zi 0) hx hb d_S_interruption_146 rfl ?_
    refine lv_goto (tgt := 156) hx hb d_S_interruption_147 (by decide) ?_
    exact zw_i hx hb hr hlocks hq ⟨k0_e_18, k1_e_18, k2_e_18, k3_e_18, zB.w hk0_e_18 (by decide) (by decide), zB.w hk1_e_18 (by decide) (by decide), zB.w hk2_e_18 (by decide) (by decide), zB.w hk3_e_18 (by decide) (by decide), hP⟩ hS d_S_interruption_156
def f_S_sightFrom_l (S : Nat → Int → Int) (a : Int) (v : Int) (z : Int → Int) : Nat → Int → Int → Int
  | 0, _, _ => 0
  | k + 1, w, i => if i < 0 then (z w) else (if i < (S 11 0) then (if (f_S_interruption S a i) = 0 then (f_S_sightFrom_l S a v z k i (i + 1)) else (z w)) else (z w))
theorem f_S_sightFrom_l_s (S : Nat → Int → Int) (a : Int) (v : Int) (z : Int → Int) (k : Nat) (w i : Int) : f_S_sightFrom_l S a v z (k + 1) w i = (if i < 0 then (z w) else (if i < (S 11 0) then (if (f_S_interruption S a i) = 0 then (f_S_sightFrom_l S a v z k i (i + 1)) else (z w)) else (z w))) := rfl
def f_S_sightFrom_l2 (S : Nat → Int → Int) (a : Int) (v : Int) (z : Int → Int) : Nat → Int → Int → Int
  | 0, _, _ => 0
  | k + 1, w, i => if i < 0 then (z w) else (if i < (S 11 0) then (if (f_S_interruption S a i) = 0 then (f_S_sightFrom_l2 S a v z k i (i + (-1))) else (z w)) else (z w))
theorem f_S_sightFrom_l2_s (S : Nat → Int → Int) (a : Int) (v : Int) (z : Int → Int) (k : Nat) (w i : Int) : f_S_sightFrom_l2 S a v z (k + 1) w i = (if i < 0 then (z w) else (if i < (S 11 0) then (if (f_S_interruption S a i) = 0 then (f_S_sightFrom_l2 S a v z k i (i + (-1))) else (z w)) else (z w))) := rfl
def f_S_sightFrom (S : Nat → Int → Int) (a v : Int) : Int := if v = 0 then (f_S_sightFrom_l S a v (fun w => zabs ((S 3 w) - (S 3 a))) 61 a (a + 1)) else (f_S_sightFrom_l2 S a v (fun w => zabs ((S 3 w) - (S 3 a))) 61 a (a + (-1)))
theorem br_S_sightFrom (S : Nat → Int → Int) (a v : Int) (hI : iS S) (_ : zB 0 59 a) (_ : zB 0 1 v) : zB 0 2545620 (f_S_sightFrom S a v) := by
  have hz : ∀ w, zB 0 2545620 (zabs (S 3 w - S 3 a)) := fun w => zb_zabs (zB.w (zb_sub (iS_a3 hI w) (iS_a3 hI a)) (by decide) (by decide))
  have key : ∀ (k : Nat) (w i : Int), zB 0 2545620 (f_S_sightFrom_l S a v (fun w => zabs (S 3 w - S 3 a)) k w i) := by
    intro k
    induction k with
    | zero => intro w i; show zB 0 2545620 0; exact ⟨by decide, by decide⟩
    | succ k ih =>
      intro w i
      rw [f_S_sightFrom_l_s]
      repeat' split
      all_goals first | exact hz _ | exact ih _ _
  have key2 : ∀ (k : Nat) (w i : Int), zB 0 2545620 (f_S_sightFrom_l2 S a v (fun w => zabs (S 3 w - S 3 a)) k w i) := by
    intro k
    induction k with
    | zero => intro w i; show zB 0 2545620 0; exact ⟨by decide, by decide⟩
    | succ k ih =>
      intro w i
      rw [f_S_sightFrom_l2_s]
      repeat' split
      all_goals first | exact hz _ | exact ih _ _
  unfold f_S_sightFrom
  split
  · exact key _ _ _
  · exact key2 _ _ _
set_option maxHeartbeats 4000000 in
set_option maxRecDepth 100000 in
theorem k_S_sightFrom (l : Launch) (dC : Nat → ClassId) (dI : Nat → Nat → Nat) (ad : Nat → Nat) (cI : ClassId) (S : Nat → Int → Int) (k0 k1 k2 k3 : Int) (hI : iS S) (hj : zJ 13 ad) (hb_k0 : zB (-30000) 30000 k0) (hb_k1 : zB (-30000) 30000 k1) (hb_k2 : zB (-30000) 30000 k2) (hb_k3 : zB (-30000) 30000 k3) (a v : Int) (hb_a : zB 0 59 a) (hb_v : zB 0 1 v) : Met l y_S_sightFrom (Cond.code y_S_sightFrom c_S_sightFrom 6 (some .int) :: zT) { frames := 4, cells := 0, slots := 0, locals := 96 } (va_Pc ([.ref (ad 0), .int (zi a), .int (zi v)] : List Value) (zWS dC dI ad cI S k0 k1 k2 k3)) (zQ (some (.int (zi (f_S_sightFrom S a v)))) (fun H => ∃ k0 k1 k2 k3 : Int, zB (-30000) 30000 k0 ∧ zB (-30000) 30000 k1 ∧ zB (-30000) 30000 k2 ∧ zB (-30000) 30000 k3 ∧ va_P (dC, dI) classes (wS ad cI S k0 k1 k2 k3) H) (zAS ad)) 0 0 (zAS ad) := by
  refine zh (cc := c_S_sightFrom) (C := R_S) (by decide) rfl rfl (Nat.le_of_ble_eq_true rfl) ?_
  intro p e s m below meth c ls hx hb hr hlocks hml hown hname hts hl hB
  have hw : ∀ w9 ∈ zT, w9.before ([.ref (ad 0), .int (zi a), .int (zi v)] : List Value).toArray s = true := fun w9 h => hts w9 (List.mem_cons_of_mem _ h)
  obtain ⟨hP, hK, hN⟩ := hB
  obtain ⟨hn0, hn1⟩ := id (iS_s0 hI)
  have hD := zDS hj cI
  have hS : va_S (zAS ad) s.heap s.heap [] := va_S.rf
  obtain ⟨hz0, hz1⟩ := id (iS_s6 hI)
  obtain ⟨hl_a, hh_a⟩ := id hb_a
  obtain ⟨hl_v, hh_v⟩ := id hb_v
  generalize hq : f_S_sightFrom S a v = r
  unfold f_S_sightFrom at hq
  replace hl : lv_has ls 6 [(0, .ref (ad 0)), (1, .int (zi a)), (2, .int (zi v))] := hl
  refine lv_iload_n hx hb d_S_sightFrom_0 rfl (lv_at hl 2 rfl) ?_
  refine zr_if_eq (tgt := 8) hx hb (zB.I hb_v (by decide) (by decide)) d_S_sightFrom_1 (by decide) (fun c_1 => ?_) (fun c_1 => ?_)
  · replace hq := (if_pos c_1).symm.trans hq
    have r_2 : zB 0 0 v := ⟨(Int.le_of_eq c_1.symm), (Int.le_of_eq c_1)⟩
    refine lv_iconst (v := zi 1) hx hb d_S_sightFrom_8 rfl ?_
    refine lv_istore_n (lv' := [(3, .int (zi 1)), (0, .ref (ad 0)), (1, .int (zi a)), (2, .int (zi v))]) hx hb d_S_sightFrom_9 rfl hl (by decide) rfl (fun ls hl => ?_)
    refine lv_iload_n hx hb d_S_sightFrom_10 rfl (lv_at hl 2 rfl) ?_
    refine lv_istore (lv' := [(4, .int (zi a)), (3, .int (zi 1)), (0, .ref (ad 0)), (1, .int (zi a)), (2, .int (zi v))]) hx hb d_S_sightFrom_11 hl (by decide) rfl (fun ls hl => ?_)
    refine lv_iload_n hx hb d_S_sightFrom_13 rfl (lv_at hl 3 rfl) ?_
    refine lv_iload_n hx hb d_S_sightFrom_14 rfl (lv_at hl 1 rfl) ?_
    have b_3 : zB 1 60 (a + 1) := zB.w (zb_add hb_a (zb_c 1)) (by decide) (by decide)
    refine zr_iadd hx hb d_S_sightFrom_15 ?_
    refine lv_istore (lv' := [(5, .int (zi (a + 1))), (4, .int (zi a)), (3, .int (zi 1)), (0, .ref (ad 0)), (1, .int (zi a)), (2, .int (zi v))]) hx hb d_S_sightFrom_16 hl (by decide) rfl (fun ls hl => ?_)
    have L_l : ∀ (z : Int → Int), (∀ (w : Int), zB 0 59 w → ∀ (ls : Array Slot) (H : Heap) (locs : List Loc) (k0 k1 k2 k3 : Int), zB (-30000) 30000 k0 → zB (-30000) 30000 k1 → zB (-30000) 30000 k2 → zB (-30000) 30000 k3 → va_P (dC, dI) classes (wS ad cI S k0 k1 k2 k3) H → va_S (zAS ad) s.heap H locs → z w = r → lv_has ls 6 [(0, .ref (ad 0)), (1, .int (zi a)), (2, .int (zi v)), (3, .int (zi 1)), (4, .int (zi w))] → W p l e { frames := 4, cells := 0, slots := 0, locals := 96 } s m ([.ref (ad 0), .int (zi a), .int (zi v)] : List Value).toArray below meth c H locs 0 0 (MQ below (zQ (some (.int (zi r))) (fun H => ∃ k0 k1 k2 k3 : Int, zB (-30000) 30000 k0 ∧ zB (-30000) 30000 k1 ∧ zB (-30000) 30000 k2 ∧ zB (-30000) 30000 k3 ∧ va_P (dC, dI) classes (wS ad cI S k0 k1 k2 k3) H) (zAS ad)) ([.ref (ad 0), .int (zi a), .int (zi v)] : List Value).toArray s 0 0 (zAS ad)) (F0 m 58 ls [])) → ∀ (k : Nat) (w i : Int) (ls : Array Slot) (H : Heap) (locs : List Loc) (k0 k1 k2 k3 : Int), zB (-30000) 30000 k0 → zB (-30000) 30000 k1 → zB (-30000) 30000 k2 → zB (-30000) 30000 k3 → va_P (dC, dI) classes (wS ad cI S k0 k1 k2 k3) H → va_S (zAS ad) s.heap H locs → zB 0 59 w → zB (-1) 60 i → 60 - i < (k : Int) → f_S_sightFrom_l S a v z k w i = r → lv_has ls 6 [(0, .ref (ad 0)), (1, .int (zi a)), (2, .int (zi v)), (3, .int (zi 1)), (4, .int (zi w)), (5, .int (zi i))] → W p l e { frames := 4, cells := 0, slots := 0, locals := 96 } s m ([.ref (ad 0), .int (zi a), .int (zi v)] : List Value).toArray below meth c H locs 0 0 (MQ below (zQ (some (.int (zi r))) (fun H => ∃ k0 k1 k2 k3 : Int, zB (-30000) 30000 k0 ∧ zB (-30000) 30000 k1 ∧ zB (-30000) 30000 k2 ∧ zB (-30000) 30000 k3 ∧ va_P (dC, dI) classes (wS ad cI S k0 k1 k2 k3) H) (zAS ad)) ([.ref (ad 0), .int (zi a), .int (zi v)] : List Value).toArray s 0 0 (zAS ad)) (F0 m 18 ls []) := by
      intro z hz k
      induction k with
      | zero =>
        intro w i ls H locs k0 k1 k2 k3 hk0 hk1 hk2 hk3 hP hS hb_w hb_i  hk hq hl
        exact absurd hk (by have := hb_w.1; have := hb_w.2; have := hb_i.1; have := hb_i.2; omega)
      | succ k ih =>
        intro w i ls H locs k0 k1 k2 k3 hk0 hk1 hk2 hk3 hP hS hb_w hb_i  hk hq hl
        obtain ⟨hl_w, hh_w⟩ := id hb_w
        obtain ⟨hl_i, hh_i⟩ := id hb_i
        replace hq := (f_S_sightFrom_l_s S a v z k w i).symm.trans hq
        refine lv_iload hx hb d_S_sightFrom_18 (lv_at hl 5 rfl) ?_
        refine zr_if_lt (tgt := 58) hx hb (zB.I hb_i (by decide) (by decide)) d_S_sightFrom_20 (by decide) (fun c_4 => ?_) (fun c_4 => ?_)
        · replace hq := (if_pos c_4).symm.trans hq
          have r_5 : zB (-1) (-1) i := ⟨hb_i.1, (Int.le_sub_one_of_lt c_4)⟩
          exact hz w (zB.w hb_w (by decide) (by decide)) ls _ _ k0 k1 k2 k3 (zB.w hk0 (by decide) (by decide)) (zB.w hk1 (by decide) (by decide)) (zB.w hk2 (by decide) (by decide)) (zB.w hk3 (by decide) (by decide)) hP hS hq (lv_sub hl [0, 1, 2, 3, 4] rfl)
        · replace hq := (if_neg c_4).symm.trans hq
          have r_6 : zB 0 60 i := ⟨(Int.not_lt.mp c_4), hb_i.2⟩
          refine lv_iload hx hb d_S_sightFrom_23 (lv_at hl 5 rfl) ?_
          refine lv_aload_n hx hb d_S_sightFrom_25 rfl (lv_at hl 0 rfl) ?_
          refine va_get (D := (dC, dI)) (ci := 1) (v := .int (zi (S 11 0))) (C := R_S) (T := T_S) (N := 13) hx hb hw i_S hown hK hP 0 rfl rfl 7 (by decide) (hw _ m_38) (fun _ h9 => h9) rfl d_S_sightFrom_26 ?_
          refine zr_icmp_ge (tgt := 58) hx hb (zB.I r_6 (by decide) (by decide)) (zB.I (iS_s0 hI) (by decide) (by decide)) d_S_sightFrom_29 (by decide) (fun c_7 => ?_) (fun c_7 => ?_)
          · replace hq := (if_neg c_7).symm.trans hq
            exact hz w (zB.w hb_w (by decide) (by decide)) ls _ _ k0 k1 k2 k3 (zB.w hk0 (by decide) (by decide)) (zB.w hk1 (by decide) (by decide)) (zB.w hk2 (by decide) (by decide)) (zB.w hk3 (by decide) (by decide)) hP hS hq (lv_sub hl [0, 1, 2, 3, 4] rfl)
          · replace hq := (if_pos c_7).symm.trans hq
            refine lv_aload_n hx hb d_S_sightFrom_32 rfl (lv_at hl 0 rfl) ?_
            refine lv_iload_n hx hb d_S_sightFrom_33 rfl (lv_at hl 1 rfl) ?_
            refine lv_iload hx hb d_S_sightFrom_34 (lv_at hl 5 rfl) ?_
            refine zc_w (va_runV (As := [.int (zi a), .int (zi i)]) (rest := []) ⟨hx, hb, hml, hown, hts⟩ (k_S_interruption l dC dI ad cI S k0 k1 k2 k3 hI hj (zB.w hk0 (by decide) (by decide)) (zB.w hk1 (by decide) (by decide)) (zB.w hk2 (by decide) (by decide)) (zB.w hk3 (by decide) (by decide)) a i (zB.w hb_a (by decide) (by decide)) ⟨by omega, by omega⟩ ) (zcV 2 hts m_113 m_1 m_111 m_112 m_376 rfl rfl q_S_interruption ⟨Nat.le_of_ble_eq_true rfl, Nat.le_of_ble_eq_true rfl⟩) (zpS0 hP hK hN [.int (zi a), .int (zi i)]) rfl rfl hl.1 rfl (lv_room (Nat.le_of_ble_eq_true rfl)) d_S_sightFrom_36 ⟨Nat.zero_le _, Nat.zero_le _⟩) hS (fun q _ h => h) (fun q h => h) (fun H locs hP hz1 hk1 hS => ?_)
            clear hz1 hk1
            obtain ⟨k0_e_8, k1_e_8, k2_e_8, k3_e_8, hk0_e_8, hk1_e_8, hk2_e_8, hk3_e_8, hP⟩ := hP
            have b_9 : zB 0 255 (f_S_interruption S a i) := br_S_interruption S a i hI (zB.w hb_a (by decide) (by decide)) ⟨by omega, by omega⟩ 
            refine zr_if_eq (tgt := 45) hx hb (zB.I b_9 (by decide) (by decide)) d_S_sightFrom_39 (by decide) (fun c_10 => ?_) (fun c_10 => ?_)
            · replace hq := (if_pos c_10).symm.trans hq
              have r_11 : zB 0 0 (f_S_interruption S a i) := ⟨(Int.le_of_eq c_10.symm), (Int.le_of_eq c_10)⟩
              refine lv_iload hx hb d_S_sightFrom_45 (lv_at hl 5 rfl) ?_
              refine lv_istore (lv' := [(4, .int (zi i)), (0, .ref (ad 0)), (1, .int (zi a)), (2, .int (zi v)), (3, .int (zi 1)), (5, .int (zi i))]) hx hb d_S_sightFrom_47 hl (by decide) rfl (fun ls hl => ?_)
              refine lv_iload hx hb d_S_sightFrom_49 (lv_at hl 5 rfl) ?_
              refine lv_iload_n hx hb d_S_sightFrom_51 rfl (lv_at hl 4 rfl) ?_
              have b_12 : zB 1 61 (i + 1) := zB.w (zb_add r_6 (zb_c 1)) (by decide) (by decide)
              refine zr_iadd hx hb d_S_sightFrom_52 ?_
              refine lv_istore (lv' := [(5, .int (zi (i + 1))), (4, .int (zi i)), (0, .ref (ad 0)), (1, .int (zi a)), (2, .int (zi v)), (3, .int (zi 1))]) hx hb d_S_sightFrom_53 hl (by decide) rfl (fun ls hl => ?_)
              refine lv_goto (tgt := 18) hx hb d_S_sightFrom_55 (by decide) ?_
              exact ih i (i + 1) ls _ _ k0_e_8 k1_e_8 k2_e_8 k3_e_8 (zB.w hk0_e_8 (by decide) (by decide)) (zB.w hk1_e_8 (by decide) (by decide)) (zB.w hk2_e_8 (by decide) (by decide)) (zB.w hk3_e_8 (by decide) (by decide)) hP hS ⟨by omega, by omega⟩ ⟨by omega, by omega⟩  (by omega) hq (lv_sub hl [2, 3, 4, 5, 1, 0] rfl)
            · replace hq := (if_neg c_10).symm.trans hq
              have r_13 : zB 1 255 (f_S_interruption S a i) := ⟨(by have := b_9.1; omega), b_9.2⟩
              refine lv_goto (tgt := 58) hx hb d_S_sightFrom_42 (by decide) ?_
              exact hz w (zB.w hb_w (by decide) (by decide)) ls _ _ k0_e_8 k1_e_8 k2_e_8 k3_e_8 (zB.w hk0_e_8 (by decide) (by decide)) (zB.w hk1_e_8 (by decide) (by decide)) (zB.w hk2_e_8 (by decide) (by decide)) (zB.w hk3_e_8 (by decide) (by decide)) hP hS hq (lv_sub hl [0, 1, 2, 3, 4] rfl)
    refine L_l _ (fun w hb_w ls H locs k0 k1 k2 k3 hk0 hk1 hk2 hk3 hP hS hq hl => ?_) 61 a (a + 1) ls _ _ k0 k1 k2 k3 (zB.w hb_k0 (by decide) (by decide)) (zB.w hb_k1 (by decide) (by decide)) (zB.w hb_k2 (by decide) (by decide)) (zB.w hb_k3 (by decide) (by decide)) hP hS (zB.w hb_a (by decide) (by decide)) (zB.w b_3 (by decide) (by decide))  (by omega) hq (lv_sub hl [3, 4, 5, 2, 1, 0] rfl)
    obtain ⟨hl_w, hh_w⟩ := id hb_w
    refine lv_aload_n hx hb d_S_sightFrom_58 rfl (lv_at hl 0 rfl) ?_
    refine va_get (D := (dC, dI)) (ci := 1) (v := .ref (ad 4)) (C := R_S) (T := T_S) (N := 13) hx hb hw i_S hown hK hP 0 rfl rfl 3 (by decide) (hw _ m_34) (fun _ h9 => h9) rfl d_S_sightFrom_59 ?_
    refine lv_iload hx hb d_S_sightFrom_62 (lv_at hl 4 rfl) ?_
    refine zr_iald hx hb hK hP 4 0 (cA := cI) (n := 60) (g := S 3) rfl rfl (i := w) (by omega) (by omega) (by decide) d_S_sightFrom_64 ?_
    refine lv_aload_n hx hb d_S_sightFrom_65 rfl (lv_at hl 0 rfl) ?_
    refine va_get (D := (dC, dI)) (ci := 1) (v := .ref (ad 4)) (C := R_S) (T := T_S) (N := 13) hx hb hw i_S hown hK hP 0 rfl rfl 3 (by decide) (hw _ m_34) (fun _ h9 => h9) rfl d_S_sightFrom_66 ?_
    refine lv_iload_n hx hb d_S_sightFrom_69 rfl (lv_at hl 1 rfl) ?_
    refine zr_iald hx hb hK hP 4 0 (cA := cI) (n := 60) (g := S 3) rfl rfl (i := a) (by omega) (by omega) (by decide) d_S_sightFrom_70 ?_
    have b_14 : zB (-2545620) 2545620 ((S 3 w) - (S 3 a)) := zB.w (zb_sub (iS_a3 hI w) (iS_a3 hI a)) (by decide) (by decide)
    refine zr_isub hx hb d_S_sightFrom_71 ?_
    refine zr_abs hx hb (hml.trans hl.1.symm) hown (hw _ m_120) (hw _ m_121) (hw _ m_4) (hw _ m_122) (Nat.le_of_ble_eq_true rfl) (Nat.le_of_ble_eq_true rfl) (Nat.zero_le _) (Nat.zero_le _) (zB.I b_14 (by decide) (by decide)) d_S_sightFrom_72 ?_
    have b_15 : zB 0 2545620 (zabs ((S 3 w) - (S 3 a))) := zB.w (zb_zabs (A := 2545620) (zB.w b_14 (by decide) (by decide))) (by decide) (by decide)
    obtain ⟨hl_b_15, hh_b_15⟩ := id b_15
    exact zw_i hx hb hr hlocks hq ⟨k0, k1, k2, k3, zB.w hk0 (by decide) (by decide), zB.w hk1 (by decide) (by decide), zB.w hk2 (by decide) (by decide), zB.w hk3 (by decide) (by decide), hP⟩ hS d_S_sightFrom_75
  · replace hq := (if_neg c_1).symm.trans hq
    have r_16 : zB 1 1 v := ⟨(by have := hb_v.1; omega), hb_v.2⟩
    refine lv_iconst (v := zi (-1)) hx hb d_S_sightFrom_4 rfl ?_
    refine lv_goto (tgt := 9) hx hb d_S_sightFrom_5 (by decide) ?_
    refine lv_istore_n (lv' := [(3, .int (zi (-1))), (0, .ref (ad 0)), (1, .int (zi a)), (2, .int (zi v))]) hx hb d_S_sightFrom_9 rfl hl (by decide) rfl (fun ls hl => ?_)
    refine lv_iload_n hx hb d_S_sightFrom_10 rfl (lv_at hl 2 rfl) ?_
    refine lv_istore (lv' := [(4, .int (zi a)), (3, .int (zi (-1))), (0, .ref (ad 0)), (1, .int (zi a)), (2, .int (zi v))]) hx hb d_S_sightFrom_11 hl (by decide) rfl (fun ls hl => ?_)
    refine lv_iload_n hx hb d_S_sightFrom_13 rfl (lv_at hl 3 rfl) ?_
    refine lv_iload_n hx hb d_S_sightFrom_14 rfl (lv_at hl 1 rfl) ?_
    have b_17 : zB (-1) 58 (a + (-1)) := zB.w (zb_add hb_a (zb_c (-1))) (by decide) (by decide)
    refine zr_iadd hx hb d_S_sightFrom_15 ?_
    refine lv_istore (lv' := [(5, .int (zi (a + (-1)))), (4, .int (zi a)), (3, .int (zi (-1))), (0, .ref (ad 0)), (1, .int (zi a)), (2, .int (zi v))]) hx hb d_S_sightFrom_16 hl (by decide) rfl (fun ls hl => ?_)
    have L_l2 : ∀ (z : Int → Int), (∀ (w : Int), zB 0 59 w → ∀ (ls : Array Slot) (H : Heap) (locs : List Loc) (k0 k1 k2 k3 : Int), zB (-30000) 30000 k0 → zB (-30000) 30000 k1 → zB (-30000) 30000 k2 → zB (-30000) 30000 k3 → va_P (dC, dI) classes (wS ad cI S k0 k1 k2 k3) H → va_S (zAS ad) s.heap H locs → z w = r → lv_has ls 6 [(0, .ref (ad 0)), (1, .int (zi a)), (2, .int (zi v)), (3, .int (zi (-1))), (4, .int (zi w))] → W p l e { frames := 4, cells := 0, slots := 0, locals := 96 } s m ([.ref (ad 0), .int (zi a), .int (zi v)] : List Value).toArray below meth c H locs 0 0 (MQ below (zQ (some (.int (zi r))) (fun H => ∃ k0 k1 k2 k3 : Int, zB (-30000) 30000 k0 ∧ zB (-30000) 30000 k1 ∧ zB (-30000) 30000 k2 ∧ zB (-30000) 30000 k3 ∧ va_P (dC, dI) classes (wS ad cI S k0 k1 k2 k3) H) (zAS ad)) ([.ref (ad 0), .int (zi a), .int (zi v)] : List Value).toArray s 0 0 (zAS ad)) (F0 m 58 ls [])) → ∀ (k : Nat) (w i : Int) (ls : Array Slot) (H : Heap) (locs : List Loc) (k0 k1 k2 k3 : Int), zB (-30000) 30000 k0 → zB (-30000) 30000 k1 → zB (-30000) 30000 k2 → zB (-30000) 30000 k3 → va_P (dC, dI) classes (wS ad cI S k0 k1 k2 k3) H → va_S (zAS ad) s.heap H locs → zB 0 59 w → zB (-1) 60 i → i + 1 < (k : Int) → f_S_sightFrom_l2 S a v z k w i = r → lv_has ls 6 [(0, .ref (ad 0)), (1, .int (zi a)), (2, .int (zi v)), (3, .int (zi (-1))), (4, .int (zi w)), (5, .int (zi i))] → W p l e { frames := 4, cells := 0, slots := 0, locals := 96 } s m ([.ref (ad 0), .int (zi a), .int (zi v)] : List Value).toArray below meth c H locs 0 0 (MQ below (zQ (some (.int (zi r))) (fun H => ∃ k0 k1 k2 k3 : Int, zB (-30000) 30000 k0 ∧ zB (-30000) 30000 k1 ∧ zB (-30000) 30000 k2 ∧ zB (-30000) 30000 k3 ∧ va_P (dC, dI) classes (wS ad cI S k0 k1 k2 k3) H) (zAS ad)) ([.ref (ad 0), .int (zi a), .int (zi v)] : List Value).toArray s 0 0 (zAS ad)) (F0 m 18 ls []) := by
      intro z hz k
      induction k with
      | zero =>
        intro w i ls H locs k0 k1 k2 k3 hk0 hk1 hk2 hk3 hP hS hb_w hb_i  hk hq hl
        exact absurd hk (by have := hb_w.1; have := hb_w.2; have := hb_i.1; have := hb_i.2; omega)
      | succ k ih =>
        intro w i ls H locs k0 k1 k2 k3 hk0 hk1 hk2 hk3 hP hS hb_w hb_i  hk hq hl
        obtain ⟨hl_w, hh_w⟩ := id hb_w
        obtain ⟨hl_i, hh_i⟩ := id hb_i
        replace hq := (f_S_sightFrom_l2_s S a v z k w i).symm.trans hq
        refine lv_iload hx hb d_S_sightFrom_18 (lv_at hl 5 rfl) ?_
        refine zr_if_lt (tgt := 58) hx hb (zB.I hb_i (by decide) (by decide)) d_S_sightFrom_20 (by decide) (fun c_18 => ?_) (fun c_18 => ?_)
        · replace hq := (if_pos c_18).symm.trans hq
          have r_19 : zB (-1) (-1) i := ⟨hb_i.1, (Int.le_sub_one_of_lt c_18)⟩
          exact hz w (zB.w hb_w (by decide) (by decide)) ls _ _ k0 k1 k2 k3 (zB.w hk0 (by decide) (by decide)) (zB.w hk1 (by decide) (by decide)) (zB.w hk2 (by decide) (by decide)) (zB.w hk3 (by decide) (by decide)) hP hS hq (lv_sub hl [0, 1, 2, 3, 4] rfl)
        · replace hq := (if_neg c_18).symm.trans hq
          have r_20 : zB 0 60 i := ⟨(Int.not_lt.mp c_18), hb_i.2⟩
          refine lv_iload hx hb d_S_sightFrom_23 (lv_at hl 5 rfl) ?_
          refine lv_aload_n hx hb d_S_sightFrom_25 rfl (lv_at hl 0 rfl) ?_
          refine va_get (D := (dC, dI)) (ci := 1) (v := .int (zi (S 11 0))) (C := R_S) (T := T_S) (N := 13) hx hb hw i_S hown hK hP 0 rfl rfl 7 (by decide) (hw _ m_38) (fun _ h9 => h9) rfl d_S_sightFrom_26 ?_
          refine zr_icmp_ge (tgt := 58) hx hb (zB.I r_20 (by decide) (by decide)) (zB.I (iS_s0 hI) (by decide) (by decide)) d_S_sightFrom_29 (by decide) (fun c_21 => ?_) (fun c_21 => ?_)
          · replace hq := (if_neg c_21).symm.trans hq
            exact hz w (zB.w hb_w (by decide) (by decide)) ls _ _ k0 k1 k2 k3 (zB.w hk0 (by decide) (by decide)) (zB.w hk1 (by decide) (by decide)) (zB.w hk2 (by decide) (by decide)) (zB.w hk3 (by decide) (by decide)) hP hS hq (lv_sub hl [0, 1, 2, 3, 4] rfl)
          · replace hq := (if_pos c_21).symm.trans hq
            refine lv_aload_n hx hb d_S_sightFrom_32 rfl (lv_at hl 0 rfl) ?_
            refine lv_iload_n hx hb d_S_sightFrom_33 rfl (lv_at hl 1 rfl) ?_
            refine lv_iload hx hb d_S_sightFrom_34 (lv_at hl 5 rfl) ?_
            refine zc_w (va_runV (As := [.int (zi a), .int (zi i)]) (rest := []) ⟨hx, hb, hml, hown, hts⟩ (k_S_interruption l dC dI ad cI S k0 k1 k2 k3 hI hj (zB.w hk0 (by decide) (by decide)) (zB.w hk1 (by decide) (by decide)) (zB.w hk2 (by decide) (by decide)) (zB.w hk3 (by decide) (by decide)) a i (zB.w hb_a (by decide) (by decide)) ⟨by omega, by omega⟩ ) (zcV 2 hts m_113 m_1 m_111 m_112 m_376 rfl rfl q_S_interruption ⟨Nat.le_of_ble_eq_true rfl, Nat.le_of_ble_eq_true rfl⟩) (zpS0 hP hK hN [.int (zi a), .int (zi i)]) rfl rfl hl.1 rfl (lv_room (Nat.le_of_ble_eq_true rfl)) d_S_sightFrom_36 ⟨Nat.zero_le _, Nat.zero_le _⟩) hS (fun q _ h => h) (fun q h => h) (fun H locs hP hz1 hk1 hS => ?_)
            clear hz1 hk1
            obtain ⟨k0_e_22, k1_e_22, k2_e_22, k3_e_22, hk0_e_22, hk1_e_22, hk2_e_22, hk3_e_22, hP⟩ := hP
            have b_23 : zB 0 255 (f_S_interruption S a i) := br_S_interruption S a i hI (zB.w hb_a (by decide) (by decide)) ⟨by omega, by omega⟩ 
            refine zr_if_eq (tgt := 45) hx hb (zB.I b_23 (by decide) (by decide)) d_S_sightFrom_39 (by decide) (fun c_24 => ?_) (fun c_24 => ?_)
            · replace hq := (if_pos c_24).symm.trans hq
              have r_25 : zB 0 0 (f_S_interruption S a i) := ⟨(Int.le_of_eq c_24.symm), (Int.le_of_eq c_24)⟩
              refine lv_iload hx hb d_S_sightFrom_45 (lv_at hl 5 rfl) ?_
              refine lv_istore (lv' := [(4, .int (zi i)), (0, .ref (ad 0)), (1, .int (zi a)), (2, .int (zi v)), (3, .int (zi (-1))), (5, .int (zi i))]) hx hb d_S_sightFrom_47 hl (by decide) rfl (fun ls hl => ?_)
              refine lv_iload hx hb d_S_sightFrom_49 (lv_at hl 5 rfl) ?_
              refine lv_iload_n hx hb d_S_sightFrom_51 rfl (lv_at hl 4 rfl) ?_
              have b_26 : zB (-1) 59 (i + (-1)) := zB.w (zb_add r_20 (zb_c (-1))) (by decide) (by decide)
              refine zr_iadd hx hb d_S_sightFrom_52 ?_
              refine lv_istore (lv' := [(5, .int (zi (i + (-1)))), (4, .int (zi i)), (0, .ref (ad 0)), (1, .int (zi a)), (2, .int (zi v)), (3, .int (zi (-1)))]) hx hb d_S_sightFrom_53 hl (by decide) rfl (fun ls hl => ?_)
              refine lv_goto (tgt := 18) hx hb d_S_sightFrom_55 (by decide) ?_
              exact ih i (i + (-1)) ls _ _ k0_e_22 k1_e_22 k2_e_22 k3_e_22 (zB.w hk0_e_22 (by decide) (by decide)) (zB.w hk1_e_22 (by decide) (by decide)) (zB.w hk2_e_22 (by decide) (by decide)) (zB.w hk3_e_22 (by decide) (by decide)) hP hS ⟨by omega, by omega⟩ (zB.w b_26 (by decide) (by decide))  (by omega) hq (lv_sub hl [2, 3, 4, 5, 1, 0] rfl)
            · replace hq := (if_neg c_24).symm.trans hq
              have r_27 : zB 1 255 (f_S_interruption S a i) := ⟨(by have := b_23.1; omega), b_23.2⟩
              refine lv_goto (tgt := 58) hx hb d_S_sightFrom_42 (by decide) ?_
              exact hz w (zB.w hb_w (by decide) (by decide)) ls _ _ k0_e_22 k1_e_22 k2_e_22 k3_e_22 (zB.w hk0_e_22 (by decide) (by decide)) (zB.w hk1_e_22 (by decide) (by decide)) (zB.w hk2_e_22 (by decide) (by decide)) (zB.w hk3_e_22 (by decide) (by decide)) hP hS hq (lv_sub hl [0, 1, 2, 3, 4] rfl)
    refine L_l2 _ (fun w hb_w ls H locs k0 k1 k2 k3 hk0 hk1 hk2 hk3 hP hS hq hl => ?_) 61 a (a + (-1)) ls _ _ k0 k1 k2 k3 (zB.w hb_k0 (by decide) (by decide)) (zB.w hb_k1 (by decide) (by decide)) (zB.w hb_k2 (by decide) (by decide)) (zB.w hb_k3 (by decide) (by decide)) hP hS (zB.w hb_a (by decide) (by decide)) (zB.w b_17 (by decide) (by decide))  (by omega) hq (lv_sub hl [3, 4, 5, 2, 1, 0] rfl)
    obtain ⟨hl_w, hh_w⟩ := id hb_w
    refine lv_aload_n hx hb d_S_sightFrom_58 rfl (lv_at hl 0 rfl) ?_
    refine va_get (D := (dC, dI)) (ci := 1) (v := .ref (ad 4)) (C := R_S) (T := T_S) (N := 13) hx hb hw i_S hown hK hP 0 rfl rfl 3 (by decide) (hw _ m_34) (fun _ h9 => h9) rfl d_S_sightFrom_59 ?_
    refine lv_iload hx hb d_S_sightFrom_62 (lv_at hl 4 rfl) ?_
    refine zr_iald hx hb hK hP 4 0 (cA := cI) (n := 60) (g := S 3) rfl rfl (i := w) (by omega) (by omega) (by decide) d_S_sightFrom_64 ?_
    refine lv_aload_n hx hb d_S_sightFrom_65 rfl (lv_at hl 0 rfl) ?_
    refine va_get (D := (dC, dI)) (ci := 1) (v := .ref (ad 4)) (C := R_S) (T := T_S) (N := 13) hx hb hw i_S hown hK hP 0 rfl rfl 3 (by decide) (hw _ m_34) (fun _ h9 => h9) rfl d_S_sightFrom_66 ?_
    refine lv_iload_n hx hb d_S_sightFrom_69 rfl (lv_at hl 1 rfl) ?_
    refine zr_iald hx hb hK hP 4 0 (cA := cI) (n := 60) (g := S 3) rfl rfl (i := a) (by omega) (by omega) (by decide) d_S_sightFrom_70 ?_
    have b_28 : zB (-2545620) 2545620 ((S 3 w) - (S 3 a)) := zB.w (zb_sub (iS_a3 hI w) (iS_a3 hI a)) (by decide) (by decide)
    refine zr_isub hx hb d_S_sightFrom_71 ?_
    refine zr_abs hx hb (hml.trans hl.1.symm) hown (hw _ m_120) (hw _ m_121) (hw _ m_4) (hw _ m_122) (Nat.le_of_ble_eq_true rfl) (Nat.le_of_ble_eq_true rfl) (Nat.zero_le _) (Nat.zero_le _) (zB.I b_28 (by decide) (by decide)) d_S_sightFrom_72 ?_
    have b_29 : zB 0 2545620 (zabs ((S 3 w) - (S 3 a))) := zB.w (zb_zabs (A := 2545620) (zB.w b_28 (by decide) (by decide))) (by decide) (by decide)
    obtain ⟨hl_b_29, hh_b_29⟩ := id b_29
    exact zw_i hx hb hr hlocks hq ⟨k0, k1, k2, k3, zB.w hk0 (by decide) (by decide), zB.w hk1 (by decide) (by decide), zB.w hk2 (by decide) (by decide), zB.w hk3 (by decide) (by decide), hP⟩ hS d_S_sightFrom_75
def f_S_isBlind (S : Nat → Int → Int) (a v : Int) : Int := if (f_S_roadBeyond S a v) < (f_S_needWith S a v (S 4 a)) then (0) else (if (f_S_sightFrom S a v) < (f_S_needWith S a v (S 4 a)) then (1) else (0))
theorem bb_S_isBlind (S : Nat → Int → Int) (a v : Int) : zB 0 1 (f_S_isBlind S a v) := by
  unfold f_S_isBlind
  repeat' split
  all_goals first | exact ⟨by decide, by decide⟩  | apply bb_S_isWithin
set_option maxHeartbeats 4000000 in
set_option maxRecDepth 100000 in
theorem k_S_isBlind (l : Launch) (dC : Nat → ClassId) (dI : Nat → Nat → Nat) (ad : Nat → Nat) (cI : ClassId) (S : Nat → Int → Int) (k0 k1 k2 k3 : Int) (hI : iS S) (hj : zJ 13 ad) (hb_k0 : zB (-30000) 30000 k0) (hb_k1 : zB (-30000) 30000 k1) (hb_k2 : zB (-30000) 30000 k2) (hb_k3 : zB (-30000) 30000 k3) (a v : Int) (hb_a : zB 0 59 a) (hb_v : zB 0 1 v) (hy_0 : 0 < S 11 0) : Met l y_S_isBlind (Cond.code y_S_isBlind c_S_isBlind 4 (some .boolean) :: zT) { frames := 5, cells := 0, slots := 0, locals := 121 } (va_Pc ([.ref (ad 0), .int (zi a), .int (zi v)] : List Value) (zWS dC dI ad cI S k0 k1 k2 k3)) (zQ (some (.int (zi (f_S_isBlind S a v)))) (fun H => ∃ k0 k1 k2 k3 : Int, zB (-30000) 30000 k0 ∧ zB (-30000) 30000 k1 ∧ zB (-30000) 30000 k2 ∧ zB (-30000) 30000 k3 ∧ va_P (dC, dI) classes (wS ad cI S k0 k1 k2 k3) H) (zAS ad)) 0 0 (zAS ad) := by
  refine zh (cc := c_S_isBlind) (C := R_S) (by decide) rfl rfl (Nat.le_of_ble_eq_true rfl) ?_
  intro p e s m below meth c ls hx hb hr hlocks hml hown hname hts hl hB
  have hw : ∀ w9 ∈ zT, w9.before ([.ref (ad 0), .int (zi a), .int (zi v)] : List Value).toArray s = true := fun w9 h => hts w9 (List.mem_cons_of_mem _ h)
  obtain ⟨hP, hK, hN⟩ := hB
  obtain ⟨hn0, hn1⟩ := id (iS_s0 hI)
  have hD := zDS hj cI
  have hS : va_S (zAS ad) s.heap s.heap [] := va_S.rf
  obtain ⟨hz0, hz1⟩ := id (iS_s6 hI)
  obtain ⟨hl_a, hh_a⟩ := id hb_a
  obtain ⟨hl_v, hh_v⟩ := id hb_v
  generalize hq : f_S_isBlind S a v = r
  unfold f_S_isBlind at hq
  replace hl : lv_has ls 4 [(0, .ref (ad 0)), (1, .int (zi a)), (2, .int (zi v))] := hl
  refine lv_aload_n hx hb d_S_isBlind_0 rfl (lv_at hl 0 rfl) ?_
  refine lv_iload_n hx hb d_S_isBlind_1 rfl (lv_at hl 1 rfl) ?_
  refine lv_iload_n hx hb d_S_isBlind_2 rfl (lv_at hl 2 rfl) ?_
  refine lv_aload_n hx hb d_S_isBlind_3 rfl (lv_at hl 0 rfl) ?_
  refine va_get (D := (dC, dI)) (ci := 1) (v := .ref (ad 5)) (C := R_S) (T := T_S) (N := 13) hx hb hw i_S hown hK hP 0 rfl rfl 4 (by decide) (hw _ m_35) (fun _ h9 => h9) rfl d_S_isBlind_4 ?_
  refine lv_iload_n hx hb d_S_isBlind_7 rfl (lv_at hl 1 rfl) ?_
  refine zr_iald hx hb hK hP 5 0 (cA := cI) (n := 60) (g := S 4) rfl rfl (i := a) (by omega) (by omega) (by decide) d_S_isBlind_8 ?_
  refine zc_n (va_runV (As := [.int (zi a), .int (zi v), .int (zi (S 4 a))]) (rest := []) ⟨hx, hb, hml, hown, hts⟩ (k_S_needWith l dC dI ad cI S k0 k1 k2 k3 hI a v (S 4 a) (zB.w hb_a (by decide) (by decide)) (zB.w hb_v (by decide) (by decide)) (zB.w (iS_a4 hI a) (by decide) (by decide)) ) (zcV 3 hts m_161 m_1 m_159 m_160 m_385 rfl rfl q_S_needWith ⟨Nat.le_of_ble_eq_true rfl, Nat.le_of_ble_eq_true rfl⟩) (zpS0 hP hK hN [.int (zi a), .int (zi v), .int (zi (S 4 a))]) rfl rfl hl.1 rfl (lv_room (Nat.le_of_ble_eq_true rfl)) d_S_isBlind_9 ⟨Nat.zero_le _, Nat.zero_le _⟩) ?_
  have b_1 : zB 0 82716 (f_S_needWith S a v (S 4 a)) := br_S_needWith S a v (S 4 a) hI (zB.w hb_a (by decide) (by decide)) (zB.w hb_v (by decide) (by decide)) (zB.w (iS_a4 hI a) (by decide) (by decide)) 
  refine lv_istore_n (lv' := [(3, .int (zi (f_S_needWith S a v (S 4 a)))), (0, .ref (ad 0)), (1, .int (zi a)), (2, .int (zi v))]) hx hb d_S_isBlind_12 rfl hl (by decide) rfl (fun ls hl => ?_)
  refine lv_aload_n hx hb d_S_isBlind_13 rfl (lv_at hl 1 rfl) ?_
  refine lv_iload_n hx hb d_S_isBlind_14 rfl (lv_at hl 2 rfl) ?_
  refine lv_iload_n hx hb d_S_isBlind_15 rfl (lv_at hl 3 rfl) ?_
  refine zc_n (va_runV (As := [.int (zi a), .int (zi v)]) (rest := []) ⟨hx, hb, hml, hown, hts⟩ (k_S_roadBeyond l dC dI ad cI S k0 k1 k2 k3 hI a v (zB.w hb_a (by decide) (by decide)) (zB.w hb_v (by decide) (by decide)) (by omega)) (zcV 2 hts m_183 m_1 m_181 m_182 m_388 rfl rfl q_S_roadBeyond ⟨Nat.le_of_ble_eq_true rfl, Nat.le_of_ble_eq_true rfl⟩) (zpS0 hP hK hN [.int (zi a), .int (zi v)]) rfl rfl hl.1 rfl (lv_room (Nat.le_of_ble_eq_true rfl)) d_S_isBlind_16 ⟨Nat.zero_le _, Nat.zero_le _⟩) ?_
  have b_2 : zB (-2545620) 2545620 (f_S_roadBeyond S a v) := br_S_roadBeyond S a v hI (zB.w hb_a (by decide) (by decide)) (zB.w hb_v (by decide) (by decide)) (by omega)
  refine lv_iload_n hx hb d_S_isBlind_19 rfl (lv_at hl 0 rfl) ?_
  refine zr_icmp_lt (tgt := 37) hx hb (zB.I b_2 (by decide) (by decide)) (zB.I b_1 (by decide) (by decide)) d_S_isBlind_20 (by decide) (fun c_3 => ?_) (fun c_3 => ?_)
  · replace hq := (if_pos c_3).symm.trans hq
    refine lv_iconst (v := zi 0) hx hb d_S_isBlind_37 rfl ?_
    exact zw_z hx hb hr hlocks (zB.w (zb_c 0) (by decide) (by decide)) hq ⟨k0, k1, k2, k3, zB.w hb_k0 (by decide) (by decide), zB.w hb_k1 (by decide) (by decide), zB.w hb_k2 (by decide) (by decide), zB.w hb_k3 (by decide) (by decide), hP⟩ hS d_S_isBlind_38
  · replace hq := (if_neg c_3).symm.trans hq
    refine lv_aload_n hx hb d_S_isBlind_23 rfl (lv_at hl 1 rfl) ?_
    refine lv_iload_n hx hb d_S_isBlind_24 rfl (lv_at hl 2 rfl) ?_
    refine lv_iload_n hx hb d_S_isBlind_25 rfl (lv_at hl 3 rfl) ?_
    refine zc_w (va_runV (As := [.int (zi a), .int (zi v)]) (rest := []) ⟨hx, hb, hml, hown, hts⟩ (k_S_sightFrom l dC dI ad cI S k0 k1 k2 k3 hI hj (zB.w hb_k0 (by decide) (by decide)) (zB.w hb_k1 (by decide) (by decide)) (zB.w hb_k2 (by decide) (by decide)) (zB.w hb_k3 (by decide) (by decide)) a v (zB.w hb_a (by decide) (by decide)) (zB.w hb_v (by decide) (by decide)) ) (zcV 2 hts m_154 m_1 m_152 m_153 m_384 rfl rfl q_S_sightFrom ⟨Nat.le_of_ble_eq_true rfl, Nat.le_of_ble_eq_true rfl⟩) (zpS0 hP hK hN [.int (zi a), .int (zi v)]) rfl rfl hl.1 rfl (lv_room (Nat.le_of_ble_eq_true rfl)) d_S_isBlind_26 ⟨Nat.zero_le _, Nat.zero_le _⟩) hS (fun q _ h => h) (fun q h => h) (fun H locs hP hz1 hk1 hS => ?_)
    clear hz1 hk1
    obtain ⟨k0_e_4, k1_e_4, k2_e_4, k3_e_4, hk0_e_4, hk1_e_4, hk2_e_4, hk3_e_4, hP⟩ := hP
    have b_5 : zB 0 2545620 (f_S_sightFrom S a v) := br_S_sightFrom S a v hI (zB.w hb_a (by decide) (by decide)) (zB.w hb_v (by decide) (by decide)) 
    refine lv_iload_n hx hb d_S_isBlind_29 rfl (lv_at hl 0 rfl) ?_
    refine zr_icmp_ge (tgt := 37) hx hb (zB.I b_5 (by decide) (by decide)) (zB.I b_1 (by decide) (by decide)) d_S_isBlind_30 (by decide) (fun c_6 => ?_) (fun c_6 => ?_)
    · replace hq := (if_neg c_6).symm.trans hq
      refine lv_iconst (v := zi 0) hx hb d_S_isBlind_37 rfl ?_
      exact zw_z hx hb hr hlocks (zB.w (zb_c 0) (by decide) (by decide)) hq ⟨k0_e_4, k1_e_4, k2_e_4, k3_e_4, zB.w hk0_e_4 (by decide) (by decide), zB.w hk1_e_4 (by decide) (by decide), zB.w hk2_e_4 (by decide) (by decide), zB.w hk3_e_4 (by decide) (by decide), hP⟩ hS d_S_isBlind_38
    · replace hq := (if_pos c_6).symm.trans hq
      refine lv_iconst (v := zi 1) hx hb d_S_isBlind_33 rfl ?_
      refine lv_goto (tgt := 38) hx hb d_S_isBlind_34 (by decide) ?_
      exact zw_z hx hb hr hlocks (zB.w (zb_c 1) (by decide) (by decide)) hq ⟨k0_e_4, k1_e_4, k2_e_4, k3_e_4, zB.w hk0_e_4 (by decide) (by decide), zB.w hk1_e_4 (by decide) (by decide), zB.w hk2_e_4 (by decide) (by decide), zB.w hk3_e_4 (by decide) (by decide), hP⟩ hS d_S_isBlind_38
def f_S_blindStations_l (S : Nat → Int → Int) (v : Int) (z : Int → Int) : Nat → Int → Int → Int
  | 0, _, _ => 0
  | k + 1, w, i => if i < (S 11 0) then (if (f_S_isBlind S i v) = 0 then (f_S_blindStations_l S v z k w (i + 1)) else (f_S_blindStations_l S v z k (w + 1) (i + 1))) else (z w)
theorem f_S_blindStations_l_s (S : Nat → Int → Int) (v : Int) (z : Int → Int) (k : Nat) (w i : Int) : f_S_blindStations_l S v z (k + 1) w i = (if i < (S 11 0) then (if (f_S_isBlind S i v) = 0 then (f_S_blindStations_l S v z k w (i + 1)) else (f_S_blindStations_l S v z k (w + 1) (i + 1))) else (z w)) := rfl
def f_S_blindStations (S : Nat → Int → Int) (v : Int) : Int := f_S_blindStations_l S v (fun w => w) 61 0 0
set_option maxHeartbeats 4000000 in
set_option maxRecDepth 100000 in
theorem k_S_blindStations (l : Launch) (dC : Nat → ClassId) (dI : Nat → Nat → Nat) (ad : Nat → Nat) (cI : ClassId) (S : Nat → Int → Int) (k0 k1 k2 k3 : Int) (hI : iS S) (hj : zJ 13 ad) (hb_k0 : zB (-30000) 30000 k0) (hb_k1 : zB (-30000) 30000 k1) (hb_k2 : zB (-30000) 30000 k2) (hb_k3 : zB (-30000) 30000 k3) (v : Int) (hb_v : zB 0 1 v) : Met l y_S_blindStations (Cond.code y_S_blindStations c_S_blindStations 4 (some .int) :: zT) { frames := 6, cells := 0, slots := 0, locals := 144 } (va_Pc ([.ref (ad 0), .int (zi v)] : List Value) (zWS dC dI ad cI S k0 k1 k2 k3)) (zQ (some (.int (zi (f_S_blindStations S v)))) (fun H => ∃ k0 k1 k2 k3 : Int, zB (-30000) 30000 k0 ∧ zB (-30000) 30000 k1 ∧ zB (-30000) 30000 k2 ∧ zB (-30000) 30000 k3 ∧ va_P (dC, dI) classes (wS ad cI S k0 k1 k2 k3) H) (zAS ad)) 0 0 (zAS ad) := by
  refine zh (cc := c_S_blindStations) (C := R_S) (by decide) rfl rfl (Nat.le_of_ble_eq_true rfl) ?_
  intro p e s m below meth c ls hx hb hr hlocks hml hown hname hts hl hB
  have hw : ∀ w9 ∈ zT, w9.before ([.ref (ad 0), .int (zi v)] : List Value).toArray s = true := fun w9 h => hts w9 (List.mem_cons_of_mem _ h)
  obtain ⟨hP, hK, hN⟩ := hB
  obtain ⟨hn0, hn1⟩ := id (iS_s0 hI)
  have hD := zDS hj cI
  have hS : va_S (zAS ad) s.heap s.heap [] := va_S.rf
  obtain ⟨hz0, hz1⟩ := id (iS_s6 hI)
  obtain ⟨hl_v, hh_v⟩ := id hb_v
  generalize hq : f_S_blindStations S v = r
  unfold f_S_blindStations at hq
  replace hl : lv_has ls 4 [(0, .ref (ad 0)), (1, .int (zi v))] := hl
  refine lv_iconst (v := zi 0) hx hb d_S_blindStations_0 rfl ?_
  refine lv_istore_n (lv' := [(2, .int (zi 0)), (0, .ref (ad 0)), (1, .int (zi v))]) hx hb d_S_blindStations_1 rfl hl (by decide) rfl (fun ls hl => ?_)
  refine lv_iconst (v := zi 0) hx hb d_S_blindStations_2 rfl ?_
  refine lv_istore_n (lv' := [(3, .int (zi 0)), (2, .int (zi 0)), (0, .ref (ad 0)), (1, .int (zi v))]) hx hb d_S_blindStations_3 rfl hl (by decide) rfl (fun ls hl => ?_)
  have L_l : ∀ (z : Int → Int), (∀ (w : Int), zB 0 60 w → ∀ (ls : Array Slot) (H : Heap) (locs : List Loc) (k0 k1 k2 k3 : Int), zB (-30000) 30000 k0 → zB (-30000) 30000 k1 → zB (-30000) 30000 k2 → zB (-30000) 30000 k3 → va_P (dC, dI) classes (wS ad cI S k0 k1 k2 k3) H → va_S (zAS ad) s.heap H locs → z w = r → lv_has ls 4 [(0, .ref (ad 0)), (1, .int (zi v)), (2, .int (zi w))] → W p l e { frames := 6, cells := 0, slots := 0, locals := 144 } s m ([.ref (ad 0), .int (zi v)] : List Value).toArray below meth c H locs 0 0 (MQ below (zQ (some (.int (zi r))) (fun H => ∃ k0 k1 k2 k3 : Int, zB (-30000) 30000 k0 ∧ zB (-30000) 30000 k1 ∧ zB (-30000) 30000 k2 ∧ zB (-30000) 30000 k3 ∧ va_P (dC, dI) classes (wS ad cI S k0 k1 k2 k3) H) (zAS ad)) ([.ref (ad 0), .int (zi v)] : List Value).toArray s 0 0 (zAS ad)) (F0 m 30 ls [])) → ∀ (k : Nat) (w i : Int) (ls : Array Slot) (H : Heap) (locs : List Loc) (k0 k1 k2 k3 : Int), zB (-30000) 30000 k0 → zB (-30000) 30000 k1 → zB (-30000) 30000 k2 → zB (-30000) 30000 k3 → va_P (dC, dI) classes (wS ad cI S k0 k1 k2 k3) H → va_S (zAS ad) s.heap H locs → zB 0 60 w → zB 0 60 i → w ≤ i → 60 - i < (k : Int) → f_S_blindStations_l S v z k w i = r → lv_has ls 4 [(0, .ref (ad 0)), (1, .int (zi v)), (2, .int (zi w)), (3, .int (zi i))] → W p l e { frames := 6, cells := 0, slots := 0, locals := 144 } s m ([.ref (ad 0), .int (zi v)] : List Value).toArray below meth c H locs 0 0 (MQ below (zQ (some (.int (zi r))) (fun H => ∃ k0 k1 k2 k3 : Int, zB (-30000) 30000 k0 ∧ zB (-30000) 30000 k1 ∧ zB (-30000) 30000 k2 ∧ zB (-30000) 30000 k3 ∧ va_P (dC, dI) classes (wS ad cI S k0 k1 k2 k3) H) (zAS ad)) ([.ref (ad 0), .int (zi v)] : List Value).toArray s 0 0 (zAS ad)) (F0 m 4 ls []) := by
    intro z hz k
    induction k with
    | zero =>
      intro w i ls H locs k0 k1 k2 k3 hk0 hk1 hk2 hk3 hP hS hb_w hb_i hi_0 hk hq hl
      exact absurd hk (by have := hb_w.1; have := hb_w.2; have := hb_i.1; have := hb_i.2; omega)
    | succ k ih =>
      intro w i ls H locs k0 k1 k2 k3 hk0 hk1 hk2 hk3 hP hS hb_w hb_i hi_0 hk hq hl
      obtain ⟨hl_w, hh_w⟩ := id hb_w
      obtain ⟨hl_i, hh_i⟩ := id hb_i
      replace hq := (f_S_blindStations_l_s S v z k w i).symm.trans hq
      refine lv_iload_n hx hb d_S_blindStations_4 rfl (lv_at hl 3 rfl) ?_
      refine lv_aload_n hx hb d_S_blindStations_5 rfl (lv_at hl 0 rfl) ?_
      refine va_get (D := (dC, dI)) (ci := 1) (v := .int (zi (S 11 0))) (C := R_S) (T := T_S) (N := 13) hx hb hw i_S hown hK hP 0 rfl rfl 7 (by decide) (hw _ m_38) (fun _ h9 => h9) rfl d_S_blindStations_6 ?_
      refine zr_icmp_ge (tgt := 30) hx hb (zB.I hb_i (by decide) (by decide)) (zB.I (iS_s0 hI) (by decide) (by decide)) d_S_blindStations_9 (by decide) (fun c_1 => ?_) (fun c_1 => ?_)
      · replace hq := (if_neg c_1).symm.trans hq
        exact hz w (zB.w hb_w (by decide) (by decide)) ls _ _ k0 k1 k2 k3 (zB.w hk0 (by decide) (by decide)) (zB.w hk1 (by decide) (by decide)) (zB.w hk2 (by decide) (by decide)) (zB.w hk3 (by decide) (by decide)) hP hS hq (lv_sub hl [0, 1, 2] rfl)
      · replace hq := (if_pos c_1).symm.trans hq
        refine lv_aload_n hx hb d_S_blindStations_12 rfl (lv_at hl 0 rfl) ?_
        refine lv_iload_n hx hb d_S_blindStations_13 rfl (lv_at hl 3 rfl) ?_
        refine lv_iload_n hx hb d_S_blindStations_14 rfl (lv_at hl 1 rfl) ?_
        refine zc_w (va_runV (As := [.int (zi i), .int (zi v)]) (rest := []) ⟨hx, hb, hml, hown, hts⟩ (k_S_isBlind l dC dI ad cI S k0 k1 k2 k3 hI hj (zB.w hk0 (by decide) (by decide)) (zB.w hk1 (by decide) (by decide)) (zB.w hk2 (by decide) (by decide)) (zB.w hk3 (by decide) (by decide)) i v ⟨by omega, by omega⟩ (zB.w hb_v (by decide) (by decide)) (by omega)) (zcV 2 hts m_180 m_1 m_178 m_179 m_387 rfl rfl q_S_isBlind ⟨Nat.le_of_ble_eq_true rfl, Nat.le_of_ble_eq_true rfl⟩) (zpS0 hP hK hN [.int (zi i), .int (zi v)]) rfl rfl hl.1 rfl (lv_room (Nat.le_of_ble_eq_true rfl)) d_S_blindStations_15 ⟨Nat.zero_le _, Nat.zero_le _⟩) hS (fun q _ h => h) (fun q h => h) (fun H locs hP hz1 hk1 hS => ?_)
        clear hz1 hk1
        obtain ⟨k0_e_2, k1_e_2, k2_e_2, k3_e_2, hk0_e_2, hk1_e_2, hk2_e_2, hk3_e_2, hP⟩ := hP
        refine zr_if_eq (tgt := 24) hx hb (zB.I (bb_S_isBlind S i v) (by decide) (by decide)) d_S_blindStations_18 (by decide) (fun c_3 => ?_) (fun c_3 => ?_)
        · replace hq := (if_pos c_3).symm.trans hq
          have r_4 : zB 0 0 (f_S_isBlind S i v) := ⟨(Int.le_of_eq c_3.symm), (Int.le_of_eq c_3)⟩
          have b_5 : zB 1 61 (i + 1) := zB.w (zb_add hb_i (zb_c 1)) (by decide) (by decide)
          refine lv_iinc (v := zi (i + 1)) (lv' := [(3, .int (zi (i + 1))), (0, .ref (ad 0)), (1, .int (zi v)), (2, .int (zi w))]) hx hb d_S_blindStations_24 hl (k := 3) rfl (zi_add _ _) (by decide) rfl (fun ls hl => ?_)
          refine lv_goto (tgt := 4) hx hb d_S_blindStations_27 (by decide) ?_
          exact ih w (i + 1) ls _ _ k0_e_2 k1_e_2 k2_e_2 k3_e_2 (zB.w hk0_e_2 (by decide) (by decide)) (zB.w hk1_e_2 (by decide) (by decide)) (zB.w hk2_e_2 (by decide) (by decide)) (zB.w hk3_e_2 (by decide) (by decide)) hP hS (zB.w hb_w (by decide) (by decide)) ⟨by omega, by omega⟩ (by omega) (by omega) hq (lv_sub hl [1, 2, 3, 0] rfl)
        · replace hq := (if_neg c_3).symm.trans hq
          have r_6 : zB 1 1 (f_S_isBlind S i v) := ⟨(by have := (bb_S_isBlind S i v).1; omega), (bb_S_isBlind S i v).2⟩
          have b_7 : zB 1 61 (w + 1) := zB.w (zb_add hb_w (zb_c 1)) (by decide) (by decide)
          refine lv_iinc (v := zi (w + 1)) (lv' := [(2, .int (zi (w + 1))), (0, .ref (ad 0)), (1, .int (zi v)), (3, .int (zi i))]) hx hb d_S_blindStations_21 hl (k := 2) rfl (zi_add _ _) (by decide) rfl (fun ls hl => ?_)
          have b_8 : zB 1 61 (i + 1) := zB.w (zb_add hb_i (zb_c 1)) (by decide) (by decide)
          refine lv_iinc (v := zi (i + 1)) (lv' := [(3, .int (zi (i + 1))), (2, .int (zi (w + 1))), (0, .ref (ad 0)), (1, .int (zi v))]) hx hb d_S_blindStations_24 hl (k := 3) rfl (zi_add _ _) (by decide) rfl (fun ls hl => ?_)
          refine lv_goto (tgt := 4) hx hb d_S_blindStations_27 (by decide) ?_
          exact ih (w + 1) (i + 1) ls _ _ k0_e_2 k1_e_2 k2_e_2 k3_e_2 (zB.w hk0_e_2 (by decide) (by decide)) (zB.w hk1_e_2 (by decide) (by decide)) (zB.w hk2_e_2 (by decide) (by decide)) (zB.w hk3_e_2 (by decide) (by decide)) hP hS ⟨by omega, by omega⟩ ⟨by omega, by omega⟩ (by omega) (by omega) hq (lv_sub hl [2, 3, 1, 0] rfl)
  refine L_l _ (fun w hb_w ls H locs k0 k1 k2 k3 hk0 hk1 hk2 hk3 hP hS hq hl => ?_) 61 0 0 ls _ _ k0 k1 k2 k3 (zB.w hb_k0 (by decide) (by decide)) (zB.w hb_k1 (by decide) (by decide)) (zB.w hb_k2 (by decide) (by decide)) (zB.w hb_k3 (by decide) (by decide)) hP hS (zB.w (zb_c 0) (by decide) (by decide)) (zB.w (zb_c 0) (by decide) (by decide)) (by omega) (by omega) hq (lv_sub hl [2, 3, 1, 0] rfl)
  obtain ⟨hl_w, hh_w⟩ := id hb_w
  refine lv_iload_n hx hb d_S_blindStations_30 rfl (lv_at hl 2 rfl) ?_
  exact zw_i hx hb hr hlocks hq ⟨k0, k1, k2, k3, zB.w hk0 (by decide) (by decide), zB.w hk1 (by decide) (by decide), zB.w hk2 (by decide) (by decide), zB.w hk3 (by decide) (by decide), hP⟩ hS d_S_blindStations_31
def f_S_freeViews_n (S : Nat → Int → Int) (w : Int) (i : Int) (z : Int → Int) : Nat → Int → Int → Int
  | 0, _, _ => 0
  | k + 1, u, j => if j < (S 11 0) then (if (f_S_interruption S i j) = 0 then (f_S_freeViews_n S w i z k (u + 1) (j + 1)) else (f_S_freeViews_n S w i z k u (j + 1))) else (z u)
theorem f_S_freeViews_n_s (S : Nat → Int → Int) (w : Int) (i : Int) (z : Int → Int) (k : Nat) (u j : Int) : f_S_freeViews_n S w i z (k + 1) u j = (if j < (S 11 0) then (if (f_S_interruption S i j) = 0 then (f_S_freeViews_n S w i z k (u + 1) (j + 1)) else (f_S_freeViews_n S w i z k u (j + 1))) else (z u)) := rfl
def f_S_freeViews_o (S : Nat → Int → Int) (z : Int → Int) : Nat → Int → Int → Int
  | 0, _, _ => 0
  | k + 1, w, i => if i < (S 11 0) then (f_S_freeViews_n S w i (fun u => f_S_freeViews_o S z k u (i + 1)) 61 w (i + 1)) else (z w)
theorem f_S_freeViews_o_s (S : Nat → Int → Int) (z : Int → Int) (k : Nat) (w i : Int) : f_S_freeViews_o S z (k + 1) w i = (if i < (S 11 0) then (f_S_freeViews_n S w i (fun u => f_S_freeViews_o S z k u (i + 1)) 61 w (i + 1)) else (z w)) := rfl
def f_S_freeViews (S : Nat → Int → Int)  : Int := f_S_freeViews_o S (fun w => w) 61 0 0
set_option maxHeartbeats 4000000 in
set_option maxRecDepth 100000 in
theorem k_S_freeViews (l : Launch) (dC : Nat → ClassId) (dI : Nat → Nat → Nat) (ad : Nat → Nat) (cI : ClassId) (S : Nat → Int → Int) (k0 k1 k2 k3 : Int) (hI : iS S) (hj : zJ 13 ad) (hb_k0 : zB (-30000) 30000 k0) (hb_k1 : zB (-30000) 30000 k1) (hb_k2 : zB (-30000) 30000 k2) (hb_k3 : zB (-30000) 30000 k3) : Met l y_S_freeViews (Cond.code y_S_freeViews c_S_freeViews 4 (some .int) :: zT) { frames := 4, cells := 0, slots := 0, locals := 96 } (va_Pc ([.ref (ad 0)] : List Value) (zWS dC dI ad cI S k0 k1 k2 k3)) (zQ (some (.int (zi (f_S_freeViews S)))) (fun H => ∃ k0 k1 k2 k3 : Int, zB (-30000) 30000 k0 ∧ zB (-30000) 30000 k1 ∧ zB (-30000) 30000 k2 ∧ zB (-30000) 30000 k3 ∧ va_P (dC, dI) classes (wS ad cI S k0 k1 k2 k3) H) (zAS ad)) 0 0 (zAS ad) := by
  refine zh (cc := c_S_freeViews) (C := R_S) (by decide) rfl rfl (Nat.le_of_ble_eq_true rfl) ?_
  intro p e s m below meth c ls hx hb hr hlocks hml hown hname hts hl hB
  have hw : ∀ w9 ∈ zT, w9.before ([.ref (ad 0)] : List Value).toArray s = true := fun w9 h => hts w9 (List.mem_cons_of_mem _ h)
  obtain ⟨hP, hK, hN⟩ := hB
  obtain ⟨hn0, hn1⟩ := id (iS_s0 hI)
  have hD := zDS hj cI
  have hS : va_S (zAS ad) s.heap s.heap [] := va_S.rf
  obtain ⟨hz0, hz1⟩ := id (iS_s6 hI)
  generalize hq : f_S_freeViews S = r
  unfold f_S_freeViews at hq
  replace hl : lv_has ls 4 [(0, .ref (ad 0))] := hl
  refine lv_iconst (v := zi 0) hx hb d_S_freeViews_0 rfl ?_
  refine lv_istore_n (lv' := [(1, .int (zi 0)), (0, .ref (ad 0))]) hx hb d_S_freeViews_1 rfl hl (by decide) rfl (fun ls hl => ?_)
  refine lv_iconst (v := zi 0) hx hb d_S_freeViews_2 rfl ?_
  refine lv_istore_n (lv' := [(2, .int (zi 0)), (1, .int (zi 0)), (0, .ref (ad 0))]) hx hb d_S_freeViews_3 rfl hl (by decide) rfl (fun ls hl => ?_)
  have L_o : ∀ (z : Int → Int), (∀ (w : Int), zB 0 3600 w → ∀ (ls : Array Slot) (H : Heap) (locs : List Loc) (k0 k1 k2 k3 : Int), zB (-30000) 30000 k0 → zB (-30000) 30000 k1 → zB (-30000) 30000 k2 → zB (-30000) 30000 k3 → va_P (dC, dI) classes (wS ad cI S k0 k1 k2 k3) H → va_S (zAS ad) s.heap H locs → z w = r → lv_has ls 4 [(0, .ref (ad 0)), (1, .int (zi w))] → W p l e { frames := 4, cells := 0, slots := 0, locals := 96 } s m ([.ref (ad 0)] : List Value).toArray below meth c H locs 0 0 (MQ below (zQ (some (.int (zi r))) (fun H => ∃ k0 k1 k2 k3 : Int, zB (-30000) 30000 k0 ∧ zB (-30000) 30000 k1 ∧ zB (-30000) 30000 k2 ∧ zB (-30000) 30000 k3 ∧ va_P (dC, dI) classes (wS ad cI S k0 k1 k2 k3) H) (zAS ad)) ([.ref (ad 0)] : List Value).toArray s 0 0 (zAS ad)) (F0 m 48 ls [])) → ∀ (k : Nat) (w i : Int) (ls : Array Slot) (H : Heap) (locs : List Loc) (k0 k1 k2 k3 : Int), zB (-30000) 30000 k0 → zB (-30000) 30000 k1 → zB (-30000) 30000 k2 → zB (-30000) 30000 k3 → va_P (dC, dI) classes (wS ad cI S k0 k1 k2 k3) H → va_S (zAS ad) s.heap H locs → zB 0 3600 w → zB 0 60 i → w ≤ 60 * i → 60 - i < (k : Int) → f_S_freeViews_o S z k w i = r → lv_has ls 4 [(0, .ref (ad 0)), (1, .int (zi w)), (2, .int (zi i))] → W p l e { frames := 4, cells := 0, slots := 0, locals := 96 } s m ([.ref (ad 0)] : List Value).toArray below meth c H locs 0 0 (MQ below (zQ (some (.int (zi r))) (fun H => ∃ k0 k1 k2 k3 : Int, zB (-30000) 30000 k0 ∧ zB (-30000) 30000 k1 ∧ zB (-30000) 30000 k2 ∧ zB (-30000) 30000 k3 ∧ va_P (dC, dI) classes (wS ad cI S k0 k1 k2 k3) H) (zAS ad)) ([.ref (ad 0)] : List Value).toArray s 0 0 (zAS ad)) (F0 m 4 ls []) := by
    intro z hz k
    induction k with
    | zero =>
      intro w i ls H locs k0 k1 k2 k3 hk0 hk1 hk2 hk3 hP hS hb_w hb_i hi_0 hk hq hl
      exact absurd hk (by have := hb_w.1; have := hb_w.2; have := hb_i.1; have := hb_i.2; omega)
    | succ k ih =>
      intro w i ls H locs k0 k1 k2 k3 hk0 hk1 hk2 hk3 hP hS hb_w hb_i hi_0 hk hq hl
      obtain ⟨hl_w, hh_w⟩ := id hb_w
      obtain ⟨hl_i, hh_i⟩ := id hb_i
      replace hq := (f_S_freeViews_o_s S z k w i).symm.trans hq
      refine lv_iload_n hx hb d_S_freeViews_4 rfl (lv_at hl 2 rfl) ?_
      refine lv_aload_n hx hb d_S_freeViews_5 rfl (lv_at hl 0 rfl) ?_
      refine va_get (D := (dC, dI)) (ci := 1) (v := .int (zi (S 11 0))) (C := R_S) (T := T_S) (N := 13) hx hb hw i_S hown hK hP 0 rfl rfl 7 (by decide) (hw _ m_38) (fun _ h9 => h9) rfl d_S_freeViews_6 ?_
      refine zr_icmp_ge (tgt := 48) hx hb (zB.I hb_i (by decide) (by decide)) (zB.I (iS_s0 hI) (by decide) (by decide)) d_S_freeViews_9 (by decide) (fun c_1 => ?_) (fun c_1 => ?_)
      · replace hq := (if_neg c_1).symm.trans hq
        exact hz w (zB.w hb_w (by decide) (by decide)) ls _ _ k0 k1 k2 k3 (zB.w hk0 (by decide) (by decide)) (zB.w hk1 (by decide) (by decide)) (zB.w hk2 (by decide) (by decide)) (zB.w hk3 (by decide) (by decide)) hP hS hq (lv_sub hl [0, 1] rfl)
      · replace hq := (if_pos c_1).symm.trans hq
        refine lv_iload_n hx hb d_S_freeViews_12 rfl (lv_at hl 2 rfl) ?_
        refine lv_iconst (v := zi 1) hx hb d_S_freeViews_13 rfl ?_
        have b_2 : zB 1 61 (i + 1) := zB.w (zb_add hb_i (zb_c 1)) (by decide) (by decide)
        refine zr_iadd hx hb d_S_freeViews_14 ?_
        refine lv_istore_n (lv' := [(3, .int (zi (i + 1))), (0, .ref (ad 0)), (1, .int (zi w)), (2, .int (zi i))]) hx hb d_S_freeViews_15 rfl hl (by decide) rfl (fun ls hl => ?_)
        have L_n : ∀ (z : Int → Int), (∀ (u : Int), zB 0 3600 u → u ≤ 60 * i + 60 → ∀ (ls : Array Slot) (H : Heap) (locs : List Loc) (k0 k1 k2 k3 : Int), zB (-30000) 30000 k0 → zB (-30000) 30000 k1 → zB (-30000) 30000 k2 → zB (-30000) 30000 k3 → va_P (dC, dI) classes (wS ad cI S k0 k1 k2 k3) H → va_S (zAS ad) s.heap H locs → z u = r → lv_has ls 4 [(0, .ref (ad 0)), (1, .int (zi u)), (2, .int (zi i))] → W p l e { frames := 4, cells := 0, slots := 0, locals := 96 } s m ([.ref (ad 0)] : List Value).toArray below meth c H locs 0 0 (MQ below (zQ (some (.int (zi r))) (fun H => ∃ k0 k1 k2 k3 : Int, zB (-30000) 30000 k0 ∧ zB (-30000) 30000 k1 ∧ zB (-30000) 30000 k2 ∧ zB (-30000) 30000 k3 ∧ va_P (dC, dI) classes (wS ad cI S k0 k1 k2 k3) H) (zAS ad)) ([.ref (ad 0)] : List Value).toArray s 0 0 (zAS ad)) (F0 m 42 ls [])) → ∀ (k : Nat) (u j : Int) (ls : Array Slot) (H : Heap) (locs : List Loc) (k0 k1 k2 k3 : Int), zB (-30000) 30000 k0 → zB (-30000) 30000 k1 → zB (-30000) 30000 k2 → zB (-30000) 30000 k3 → va_P (dC, dI) classes (wS ad cI S k0 k1 k2 k3) H → va_S (zAS ad) s.heap H locs → zB 0 3600 u → zB 1 60 j → u ≤ 60 * i + j - 1 → 60 - j < (k : Int) → f_S_freeViews_n S w i z k u j = r → lv_has ls 4 [(0, .ref (ad 0)), (1, .int (zi u)), (2, .int (zi i)), (3, .int (zi j))] → W p l e { frames := 4, cells := 0, slots := 0, locals := 96 } s m ([.ref (ad 0)] : List Value).toArray below meth c H locs 0 0 (MQ below (zQ (some (.int (zi r))) (fun H => ∃ k0 k1 k2 k3 : Int, zB (-30000) 30000 k0 ∧ zB (-30000) 30000 k1 ∧ zB (-30000) 30000 k2 ∧ zB (-30000) 30000 k3 ∧ va_P (dC, dI) classes (wS ad cI S k0 k1 k2 k3) H) (zAS ad)) ([.ref (ad 0)] : List Value).toArray s 0 0 (zAS ad)) (F0 m 16 ls []) := by
          intro z hz k
          induction k with
          | zero =>
            intro u j ls H locs k0 k1 k2 k3 hk0 hk1 hk2 hk3 hP hS hb_u hb_j hi_0 hk hq hl
            exact absurd hk (by have := hb_u.1; have := hb_u.2; have := hb_j.1; have := hb_j.2; omega)
          | succ k ih =>
            intro u j ls H locs k0 k1 k2 k3 hk0 hk1 hk2 hk3 hP hS hb_u hb_j hi_0 hk hq hl
            obtain ⟨hl_u, hh_u⟩ := id hb_u
            obtain ⟨hl_j, hh_j⟩ := id hb_j
            replace hq := (f_S_freeViews_n_s S w i z k u j).symm.trans hq
            refine lv_iload_n hx hb d_S_freeViews_16 rfl (lv_at hl 3 rfl) ?_
            refine lv_aload_n hx hb d_S_freeViews_17 rfl (lv_at hl 0 rfl) ?_
            refine va_get (D := (dC, dI)) (ci := 1) (v := .int (zi (S 11 0))) (C := R_S) (T := T_S) (N := 13) hx hb hw i_S hown hK hP 0 rfl rfl 7 (by decide) (hw _ m_38) (fun _ h9 => h9) rfl d_S_freeViews_18 ?_
            refine zr_icmp_ge (tgt := 42) hx hb (zB.I hb_j (by decide) (by decide)) (zB.I (iS_s0 hI) (by decide) (by decide)) d_S_freeViews_21 (by decide) (fun c_3 => ?_) (fun c_3 => ?_)
            · replace hq := (if_neg c_3).symm.trans hq
              exact hz u (zB.w hb_u (by decide) (by decide)) (by omega) ls _ _ k0 k1 k2 k3 (zB.w hk0 (by decide) (by decide)) (zB.w hk1 (by decide) (by decide)) (zB.w hk2 (by decide) (by decide)) (zB.w hk3 (by decide) (by decide)) hP hS hq (lv_sub hl [0, 1, 2] rfl)
            · replace hq := (if_pos c_3).symm.trans hq
              refine lv_aload_n hx hb d_S_freeViews_24 rfl (lv_at hl 0 rfl) ?_
              refine lv_iload_n hx hb d_S_freeViews_25 rfl (lv_at hl 2 rfl) ?_
              refine lv_iload_n hx hb d_S_freeViews_26 rfl (lv_at hl 3 rfl) ?_
              refine zc_w (va_runV (As := [.int (zi i), .int (zi j)]) (rest := []) ⟨hx, hb, hml, hown, hts⟩ (k_S_interruption l dC dI ad cI S k0 k1 k2 k3 hI hj (zB.w hk0 (by decide) (by decide)) (zB.w hk1 (by decide) (by decide)) (zB.w hk2 (by decide) (by decide)) (zB.w hk3 (by decide) (by decide)) i j ⟨by omega, by omega⟩ ⟨by omega, by omega⟩ ) (zcV 2 hts m_113 m_1 m_111 m_112 m_376 rfl rfl q_S_interruption ⟨Nat.le_of_ble_eq_true rfl, Nat.le_of_ble_eq_true rfl⟩) (zpS0 hP hK hN [.int (zi i), .int (zi j)]) rfl rfl hl.1 rfl (lv_room (Nat.le_of_ble_eq_true rfl)) d_S_freeViews_27 ⟨Nat.zero_le _, Nat.zero_le _⟩) hS (fun q _ h => h) (fun q h => h) (fun H locs hP hz1 hk1 hS => ?_)
              clear hz1 hk1
              obtain ⟨k0_e_4, k1_e_4, k2_e_4, k3_e_4, hk0_e_4, hk1_e_4, hk2_e_4, hk3_e_4, hP⟩ := hP
              have b_5 : zB 0 255 (f_S_interruption S i j) := br_S_interruption S i j hI ⟨by omega, by omega⟩ ⟨by omega, by omega⟩ 
              refine zr_if_ne (tgt := 36) hx hb (zB.I b_5 (by decide) (by decide)) d_S_freeViews_30 (by decide) (fun c_6 => ?_) (fun c_6 => ?_)
              · replace hq := (if_neg c_6).symm.trans hq
                have r_7 : zB 1 255 (f_S_interruption S i j) := ⟨(by have := b_5.1; omega), b_5.2⟩
                have b_8 : zB 2 61 (j + 1) := zB.w (zb_add hb_j (zb_c 1)) (by decide) (by decide)
                refine lv_iinc (v := zi (j + 1)) (lv' := [(3, .int (zi (j + 1))), (0, .ref (ad 0)), (1, .int (zi u)), (2, .int (zi i))]) hx hb d_S_freeViews_36 hl (k := 3) rfl (zi_add _ _) (by decide) rfl (fun ls hl => ?_)
                refine lv_goto (tgt := 16) hx hb d_S_freeViews_39 (by decide) ?_
                exact ih u (j + 1) ls _ _ k0_e_4 k1_e_4 k2_e_4 k3_e_4 (zB.w hk0_e_4 (by decide) (by decide)) (zB.w hk1_e_4 (by decide) (by decide)) (zB.w hk2_e_4 (by decide) (by decide)) (zB.w hk3_e_4 (by decide) (by decide)) hP hS (zB.w hb_u (by decide) (by decide)) ⟨by omega, by omega⟩ (by omega) (by omega) hq (lv_sub hl [1, 2, 3, 0] rfl)
              · replace hq := (if_pos c_6).symm.trans hq
                have r_9 : zB 0 0 (f_S_interruption S i j) := ⟨(Int.le_of_eq c_6.symm), (Int.le_of_eq c_6)⟩
                have b_10 : zB 1 3601 (u + 1) := zB.w (zb_add hb_u (zb_c 1)) (by decide) (by decide)
                refine lv_iinc (v := zi (u + 1)) (lv' := [(1, .int (zi (u + 1))), (0, .ref (ad 0)), (2, .int (zi i)), (3, .int (zi j))]) hx hb d_S_freeViews_33 hl (k := 1) rfl (zi_add _ _) (by decide) rfl (fun ls hl => ?_)
                have b_11 : zB 2 61 (j + 1) := zB.w (zb_add hb_j (zb_c 1)) (by decide) (by decide)
                refine lv_iinc (v := zi (j + 1)) (lv' := [(3, .int (zi (j + 1))), (1, .int (zi (u + 1))), (0, .ref (ad 0)), (2, .int (zi i))]) hx hb d_S_freeViews_36 hl (k := 3) rfl (zi_add _ _) (by decide) rfl (fun ls hl => ?_)
                refine lv_goto (tgt := 16) hx hb d_S_freeViews_39 (by decide) ?_
                exact ih (u + 1) (j + 1) ls _ _ k0_e_4 k1_e_4 k2_e_4 k3_e_4 (zB.w hk0_e_4 (by decide) (by decide)) (zB.w hk1_e_4 (by decide) (by decide)) (zB.w hk2_e_4 (by decide) (by decide)) (zB.w hk3_e_4 (by decide) (by decide)) hP hS ⟨by omega, by omega⟩ ⟨by omega, by omega⟩ (by omega) (by omega) hq (lv_sub hl [2, 1, 3, 0] rfl)
        refine L_n _ (fun u hb_u ho_n0 ls H locs k0 k1 k2 k3 hk0 hk1 hk2 hk3 hP hS hq hl => ?_) 61 w (i + 1) ls _ _ k0 k1 k2 k3 (zB.w hk0 (by decide) (by decide)) (zB.w hk1 (by decide) (by decide)) (zB.w hk2 (by decide) (by decide)) (zB.w hk3 (by decide) (by decide)) hP hS (zB.w hb_w (by decide) (by decide)) ⟨by omega, by omega⟩ (by omega) (by omega) hq (lv_sub hl [1, 2, 3, 0] rfl)
        obtain ⟨hl_u, hh_u⟩ := id hb_u
        refine lv_iinc (v := zi (i + 1)) (lv' := [(2, .int (zi (i + 1))), (0, .ref (ad 0)), (1, .int (zi u))]) hx hb d_S_freeViews_42 hl (k := 2) rfl (zi_add _ _) (by decide) rfl (fun ls hl => ?_)
        refine lv_goto (tgt := 4) hx hb d_S_freeViews_45 (by decide) ?_
        exact ih u (i + 1) ls _ _ k0 k1 k2 k3 (zB.w hk0 (by decide) (by decide)) (zB.w hk1 (by decide) (by decide)) (zB.w hk2 (by decide) (by decide)) (zB.w hk3 (by decide) (by decide)) hP hS (zB.w hb_u (by decide) (by decide)) ⟨by omega, by omega⟩ (by omega) (by omega) hq (lv_sub hl [1, 2, 0] rfl)
  refine L_o _ (fun w hb_w ls H locs k0 k1 k2 k3 hk0 hk1 hk2 hk3 hP hS hq hl => ?_) 61 0 0 ls _ _ k0 k1 k2 k3 (zB.w hb_k0 (by decide) (by decide)) (zB.w hb_k1 (by decide) (by decide)) (zB.w hb_k2 (by decide) (by decide)) (zB.w hb_k3 (by decide) (by decide)) hP hS (zB.w (zb_c 0) (by decide) (by decide)) (zB.w (zb_c 0) (by decide) (by decide)) (by omega) (by omega) hq (lv_sub hl [2, 1, 0] rfl)
  obtain ⟨hl_w, hh_w⟩ := id hb_w
  refine lv_iload_n hx hb d_S_freeViews_48 rfl (lv_at hl 1 rfl) ?_
  exact zw_i hx hb hr hlocks hq ⟨k0, k1, k2, k3, zB.w hk0 (by decide) (by decide), zB.w hk1 (by decide) (by decide), zB.w hk2 (by decide) (by decide), zB.w hk3 (by decide) (by decide), hP⟩ hS d_S_freeViews_49
end
section
def f_S_way (S : Nat → Int → Int) (a : Int) : Int := if (f_S_isStation S a) = 0 then (-1) else (S 3 a)
set_option maxHeartbeats 4000000 in
set_option maxRecDepth 100000 in
theorem k_S_way (l : Launch) (dC : Nat → ClassId) (dI : Nat → Nat → Nat) (ad : Nat → Nat) (cI : ClassId) (S : Nat → Int → Int) (k0 k1 k2 k3 : Int) (hI : iS S) (a : Int) (hb_a : zB (-2147483648) 2147483647 a) : Met l y_S_way (Cond.code y_S_way c_S_way 2 (some .int) :: zT) { frames := 1, cells := 0, slots := 0, locals := 21 } (va_Pc ([.ref (ad 0), .int (zi a)] : List Value) (zWS dC dI ad cI S k0 k1 k2 k3)) (zR (.int (zi (f_S_way S a)))) 0 0 (fun _ => False) := by
  refine zh (cc := c_S_way) (C := R_S) (by decide) rfl rfl (Nat.le_of_ble_eq_true rfl) ?_
  intro p e s m below meth c ls hx hb hr hlocks hml hown hname hts hl hB
  have hw : ∀ w9 ∈ zT, w9.before ([.ref (ad 0), .int (zi a)] : List Value).toArray s = true := fun w9 h => hts w9 (List.mem_cons_of_mem _ h)
  obtain ⟨hP, hK, hN⟩ := hB
  obtain ⟨hn0, hn1⟩ := id (iS_s0 hI)
  obtain ⟨hz0, hz1⟩ := id (iS_s6 hI)
  obtain ⟨hl_a, hh_a⟩ := id hb_a
  generalize hq : f_S_way S a = r
  unfold f_S_way at hq
  replace hl : lv_has ls 2 [(0, .ref (ad 0)), (1, .int (zi a))] := hl
  refine lv_aload_n hx hb d_S_way_0 rfl (lv_at hl 0 rfl) ?_
  refine lv_iload_n hx hb d_S_way_1 rfl (lv_at hl 1 rfl) ?_
  refine zc_n (va_runV (As := [.int (zi a)]) (rest := []) ⟨hx, hb, hml, hown, hts⟩ (k_S_isStation l dC dI ad cI S k0 k1 k2 k3 hI a (zB.w hb_a (by decide) (by decide)) ) (zcV 1 hts m_84 m_1 m_82 m_83 m_374 rfl rfl q_S_isStation ⟨Nat.le_of_ble_eq_true rfl, Nat.le_of_ble_eq_true rfl⟩) (zpS0 hP hK hN [.int (zi a)]) rfl rfl hl.1 rfl (lv_room (Nat.le_of_ble_eq_true rfl)) d_S_way_2 ⟨Nat.zero_le _, Nat.zero_le _⟩) ?_
  refine zr_if_eq (tgt := 17) hx hb (zB.I (bb_S_isStation S a) (by decide) (by decide)) d_S_way_5 (by decide) (fun c_1 => ?_) (fun c_1 => ?_)
  · replace hq := (if_pos c_1).symm.trans hq
    have r_2 : zB 0 0 (f_S_isStation S a) := ⟨(Int.le_of_eq c_1.symm), (Int.le_of_eq c_1)⟩
    refine lv_iconst (v := zi (-1)) hx hb d_S_way_17 rfl ?_
    exact ze_i hx hb hr hlocks hq d_S_way_18
  · replace hq := (if_neg c_1).symm.trans hq
    have r_3 : zB 1 1 (f_S_isStation S a) := ⟨(by have := (bb_S_isStation S a).1; omega), (bb_S_isStation S a).2⟩
    have g_4 := gf_S_isStation hI c_1
    obtain ⟨g_4l, g_4h⟩ := id g_4.1
    have g_4n := g_4.2
    refine lv_aload_n hx hb d_S_way_8 rfl (lv_at hl 0 rfl) ?_
    refine va_get (D := (dC, dI)) (ci := 1) (v := .ref (ad 4)) (C := R_S) (T := T_S) (N := 13) hx hb hw i_S hown hK hP 0 rfl rfl 3 (by decide) (hw _ m_34) (fun _ h9 => h9) rfl d_S_way_9 ?_
    refine lv_iload_n hx hb d_S_way_12 rfl (lv_at hl 1 rfl) ?_
    refine zr_iald hx hb hK hP 4 0 (cA := cI) (n := 60) (g := S 3) rfl rfl (i := a) (by omega) (by omega) (by decide) d_S_way_13 ?_
    refine lv_goto (tgt := 18) hx hb d_S_way_14 (by decide) ?_
    exact ze_i hx hb hr hlocks hq d_S_way_18
def f_S_view (S : Nat → Int → Int) (a b d : Int) : Int := if (f_S_isStation S a) = 0 then (-1) else (if (f_S_isStation S b) = 0 then (-1) else (if a = b then (-1) else (if (f_S_isWithin d 0 1) = 0 then (-1) else (if d = 0 then (Int.tdiv (f_S_interruption S a b) 64) else (if (f_S_interruption S a b) = 0 then (-1) else (Int.tmod (f_S_interruption S a b) 64))))))
set_option maxHeartbeats 4000000 in
set_option maxRecDepth 100000 in
theorem k_S_view (l : Launch) (dC : Nat → ClassId) (dI : Nat → Nat → Nat) (ad : Nat → Nat) (cI : ClassId) (S : Nat → Int → Int) (k0 k1 k2 k3 : Int) (hI : iS S) (hj : zJ 13 ad) (hb_k0 : zB (-30000) 30000 k0) (hb_k1 : zB (-30000) 30000 k1) (hb_k2 : zB (-30000) 30000 k2) (hb_k3 : zB (-30000) 30000 k3) (a b d : Int) (hb_a : zB (-2147483648) 2147483647 a) (hb_b : zB (-2147483648) 2147483647 b) (hb_d : zB (-2147483648) 2147483647 d) : Met l y_S_view (Cond.code y_S_view c_S_view 5 (some .int) :: zT) { frames := 4, cells := 0, slots := 0, locals := 96 } (va_Pc ([.ref (ad 0), .int (zi a), .int (zi b), .int (zi d)] : List Value) (zWS dC dI ad cI S k0 k1 k2 k3)) (zQ (some (.int (zi (f_S_view S a b d)))) (fun H => ∃ k0 k1 k2 k3 : Int, zB (-30000) 30000 k0 ∧ zB (-30000) 30000 k1 ∧ zB (-30000) 30000 k2 ∧ zB (-30000) 30000 k3 ∧ va_P (dC, dI) classes (wS ad cI S k0 k1 k2 k3) H) (zAS ad)) 0 0 (zAS ad) := by
  refine zh (cc := c_S_view) (C := R_S) (by decide) rfl rfl (Nat.le_of_ble_eq_true rfl) ?_
  intro p e s m below meth c ls hx hb hr hlocks hml hown hname hts hl hB
  have hw : ∀ w9 ∈ zT, w9.before ([.ref (ad 0), .int (zi a), .int (zi b), .int (zi d)] : List Value).toArray s = true := fun w9 h => hts w9 (List.mem_cons_of_mem _ h)
  obtain ⟨hP, hK, hN⟩ := hB
  obtain ⟨hn0, hn1⟩ := id (iS_s0 hI)
  have hD := zDS hj cI
  have hS : va_S (zAS ad) s.heap s.heap [] := va_S.rf
  obtain ⟨hz0, hz1⟩ := id (iS_s6 hI)
  obtain ⟨hl_a, hh_a⟩ := id hb_a
  obtain ⟨hl_b, hh_b⟩ := id hb_b
  obtain ⟨hl_d, hh_d⟩ := id hb_d
  generalize hq : f_S_view S a b d = r
  unfold f_S_view at hq
  replace hl : lv_has ls 5 [(0, .ref (ad 0)), (1, .int (zi a)), (2, .int (zi b)), (3, .int (zi d))] := hl
  refine lv_aload_n hx hb d_S_view_0 rfl (lv_at hl 0 rfl) ?_
  refine lv_iload_n hx hb d_S_view_1 rfl (lv_at hl 1 rfl) ?_
  refine zc_n (va_runV (As := [.int (zi a)]) (rest := []) ⟨hx, hb, hml, hown, hts⟩ (k_S_isStation l dC dI ad cI S k0 k1 k2 k3 hI a (zB.w hb_a (by decide) (by decide)) ) (zcV 1 hts m_84 m_1 m_82 m_83 m_374 rfl rfl q_S_isStation ⟨Nat.le_of_ble_eq_true rfl, Nat.le_of_ble_eq_true rfl⟩) (zpS0 hP hK hN [.int (zi a)]) rfl rfl hl.1 rfl (lv_room (Nat.le_of_ble_eq_true rfl)) d_S_view_2 ⟨Nat.zero_le _, Nat.zero_le _⟩) ?_
  refine zr_if_eq (tgt := 30) hx hb (zB.I (bb_S_isStation S a) (by decide) (by decide)) d_S_view_5 (by decide) (fun c_1 => ?_) (fun c_1 => ?_)
  · replace hq := (if_pos c_1).symm.trans hq
    have r_2 : zB 0 0 (f_S_isStation S a) := ⟨(Int.le_of_eq c_1.symm), (Int.le_of_eq c_1)⟩
    refine lv_iconst (v := zi (-1)) hx hb d_S_view_30 rfl ?_
    exact zw_i hx hb hr hlocks hq ⟨k0, k1, k2, k3, zB.w hb_k0 (by decide) (by decide), zB.w hb_k1 (by decide) (by decide), zB.w hb_k2 (by decide) (by decide), zB.w hb_k3 (by decide) (by decide), hP⟩ hS d_S_view_31
  · replace hq := (if_neg c_1).symm.trans hq
    have r_3 : zB 1 1 (f_S_isStation S a) := ⟨(by have := (bb_S_isStation S a).1; omega), (bb_S_isStation S a).2⟩
    have g_4 := gf_S_isStation hI c_1
    obtain ⟨g_4l, g_4h⟩ := id g_4.1
    have g_4n := g_4.2
    refine lv_aload_n hx hb d_S_view_8 rfl (lv_at hl 0 rfl) ?_
    refine lv_iload_n hx hb d_S_view_9 rfl (lv_at hl 2 rfl) ?_
    refine zc_n (va_runV (As := [.int (zi b)]) (rest := []) ⟨hx, hb, hml, hown, hts⟩ (k_S_isStation l dC dI ad cI S k0 k1 k2 k3 hI b (zB.w hb_b (by decide) (by decide)) ) (zcV 1 hts m_84 m_1 m_82 m_83 m_374 rfl rfl q_S_isStation ⟨Nat.le_of_ble_eq_true rfl, Nat.le_of_ble_eq_true rfl⟩) (zpS0 hP hK hN [.int (zi b)]) rfl rfl hl.1 rfl (lv_room (Nat.le_of_ble_eq_true rfl)) d_S_view_10 ⟨Nat.zero_le _, Nat.zero_le _⟩) ?_
    refine zr_if_eq (tgt := 30) hx hb (zB.I (bb_S_isStation S b) (by decide) (by decide)) d_S_view_13 (by decide) (fun c_5 => ?_) (fun c_5 => ?_)
    · replace hq := (if_pos c_5).symm.trans hq
      have r_6 : zB 0 0 (f_S_isStation S b) := ⟨(Int.le_of_eq c_5.symm), (Int.le_of_eq c_5)⟩
      refine lv_iconst (v := zi (-1)) hx hb d_S_view_30 rfl ?_
      exact zw_i hx hb hr hlocks hq ⟨k0, k1, k2, k3, zB.w hb_k0 (by decide) (by decide), zB.w hb_k1 (by decide) (by decide), zB.w hb_k2 (by decide) (by decide), zB.w hb_k3 (by decide) (by decide), hP⟩ hS d_S_view_31
    · replace hq := (if_neg c_5).symm.trans hq
      have r_7 : zB 1 1 (f_S_isStation S b) := ⟨(by have := (bb_S_isStation S b).1; omega), (bb_S_isStation S b).2⟩
      have g_8 := gf_S_isStation hI c_5
      obtain ⟨g_8l, g_8h⟩ := id g_8.1
      have g_8n := g_8.2
      refine lv_iload_n hx hb d_S_view_16 rfl (lv_at hl 1 rfl) ?_
      refine lv_iload_n hx hb d_S_view_17 rfl (lv_at hl 2 rfl) ?_
      refine zr_icmp_eq (tgt := 30) hx hb (zB.I g_4.1 (by decide) (by decide)) (zB.I g_8.1 (by decide) (by decide)) d_S_view_18 (by decide) (fun c_9 => ?_) (fun c_9 => ?_)
      · replace hq := (if_pos c_9).symm.trans hq
        refine lv_iconst (v := zi (-1)) hx hb d_S_view_30 rfl ?_
        exact zw_i hx hb hr hlocks hq ⟨k0, k1, k2, k3, zB.w hb_k0 (by decide) (by decide), zB.w hb_k1 (by decide) (by decide), zB.w hb_k2 (by decide) (by decide), zB.w hb_k3 (by decide) (by decide), hP⟩ hS d_S_view_31
      · replace hq := (if_neg c_9).symm.trans hq
        refine lv_iload_n hx hb d_S_view_21 rfl (lv_at hl 3 rfl) ?_
        refine lv_iconst (v := zi 0) hx hb d_S_view_22 rfl ?_
        refine lv_iconst (v := zi 1) hx hb d_S_view_23 rfl ?_
        refine zc_n (va_runS (As := [.int (zi d), .int (zi 0), .int (zi 1)]) (rest := []) ⟨hx, hb, hml, hown, hts⟩ (k_S_isWithin l d 0 1 (zB.w hb_d (by decide) (by decide)) (zB.w (zb_c 0) (by decide) (by decide)) (zB.w (zb_c 1) (by decide) (by decide)) ) (zcS 3 hts m_53 m_1 m_51 m_52 rfl rfl q_S_isWithin ⟨Nat.le_of_ble_eq_true rfl, Nat.le_of_ble_eq_true rfl⟩) (zp0 [.int (zi d), .int (zi 0), .int (zi 1)]) rfl rfl hl.1 rfl (lv_room (Nat.le_of_ble_eq_true rfl)) d_S_view_24 ⟨Nat.zero_le _, Nat.zero_le _⟩) ?_
        refine zr_if_ne (tgt := 32) hx hb (zB.I (bb_S_isWithin d 0 1) (by decide) (by decide)) d_S_view_27 (by decide) (fun c_10 => ?_) (fun c_10 => ?_)
        · replace hq := (if_neg c_10).symm.trans hq
          have r_11 : zB 1 1 (f_S_isWithin d 0 1) := ⟨(by have := (bb_S_isWithin d 0 1).1; omega), (bb_S_isWithin d 0 1).2⟩
          have g_12 := gf_S_isWithin c_10
          obtain ⟨g_12l, g_12h⟩ := id g_12
          refine lv_aload_n hx hb d_S_view_32 rfl (lv_at hl 0 rfl) ?_
          refine lv_iload_n hx hb d_S_view_33 rfl (lv_at hl 1 rfl) ?_
          refine lv_iload_n hx hb d_S_view_34 rfl (lv_at hl 2 rfl) ?_
          refine zc_w (va_runV (As := [.int (zi a), .int (zi b)]) (rest := []) ⟨hx, hb, hml, hown, hts⟩ (k_S_interruption l dC dI ad cI S k0 k1 k2 k3 hI hj (zB.w hb_k0 (by decide) (by decide)) (zB.w hb_k1 (by decide) (by decide)) (zB.w hb_k2 (by decide) (by decide)) (zB.w hb_k3 (by decide) (by decide)) a b (zB.w g_4.1 (by decide) (by decide)) (zB.w g_8.1 (by decide) (by decide)) ) (zcV 2 hts m_113 m_1 m_111 m_112 m_376 rfl rfl q_S_interruption ⟨Nat.le_of_ble_eq_true rfl, Nat.le_of_ble_eq_true rfl⟩) (zpS0 hP hK hN [.int (zi a), .int (zi b)]) rfl rfl hl.1 rfl (lv_room (Nat.le_of_ble_eq_true rfl)) d_S_view_35 ⟨Nat.zero_le _, Nat.zero_le _⟩) hS (fun q _ h => h) (fun q h => h) (fun H locs hP hz1 hk1 hS => ?_)
          clear hz1 hk1
          obtain ⟨k0_e_13, k1_e_13, k2_e_13, k3_e_13, hk0_e_13, hk1_e_13, hk2_e_13, hk3_e_13, hP⟩ := hP
          have b_14 : zB 0 255 (f_S_interruption S a b) := br_S_interruption S a b hI (zB.w g_4.1 (by decide) (by decide)) (zB.w g_8.1 (by decide) (by decide)) 
          refine lv_istore (lv' := [(4, .int (zi (f_S_interruption S a b))), (0, .ref (ad 0)), (1, .int (zi a)), (2, .int (zi b)), (3, .int (zi d))]) hx hb d_S_view_38 hl (by decide) rfl (fun ls hl => ?_)
          refine lv_iload_n hx hb d_S_view_40 rfl (lv_at hl 4 rfl) ?_
          refine zr_if_ne (tgt := 50) hx hb (zB.I g_12 (by decide) (by decide)) d_S_view_41 (by decide) (fun c_15 => ?_) (fun c_15 => ?_)
          · replace hq := (if_neg c_15).symm.trans hq
            have r_16 : zB 1 1 d := ⟨(by have := g_12.1; omega), g_12.2⟩
            refine lv_iload hx hb d_S_view_50 (lv_at hl 0 rfl) ?_
            refine zr_if_ne (tgt := 59) hx hb (zB.I b_14 (by decide) (by decide)) d_S_view_52 (by decide) (fun c_17 => ?_) (fun c_17 => ?_)
            · replace hq := (if_neg c_17).symm.trans hq
              have r_18 : zB 1 255 (f_S_interruption S a b) := ⟨(by have := b_14.1; omega), b_14.2⟩
              refine lv_iload hx hb d_S_view_59 (lv_at hl 0 rfl) ?_
              refine lv_bipush (v := zi 64) hx hb d_S_view_61 (by decide) ?_
              refine zr_irem hx hb (zB.I r_18 (by decide) (by decide)) (zB.I (zb_c 64) (by decide) (by decide)) (Int.lt_of_lt_of_le (by decide) (zb_c 64).1) d_S_view_63 ?_
              have b_19 : zB 0 63 (Int.tmod (f_S_interruption S a b) 64) := zB.w (zb_tmodp r_18 (zb_c 64) (by decide) (by decide)) (by decide) (by decide)
              exact zw_i hx hb hr hlocks hq ⟨k0_e_13, k1_e_13, k2_e_13, k3_e_13, zB.w hk0_e_13 (by decide) (by decide), zB.w hk1_e_13 (by decide) (by decide), zB.w hk2_e_13 (by decide) (by decide), zB.w hk3_e_13 (by decide) (by decide), hP⟩ hS d_S_view_64
            · replace hq := (if_pos c_17).symm.trans hq
              have r_20 : zB 0 0 (f_S_interruption S a b) := ⟨(Int.le_of_eq c_17.symm), (Int.le_of_eq c_17)⟩
              refine lv_iconst (v := zi (-1)) hx hb d_S_view_55 rfl ?_
              refine lv_goto (tgt := 64) hx hb d_S_view_56 (by decide) ?_
              exact zw_i hx hb hr hlocks hq ⟨k0_e_13, k1_e_13, k2_e_13, k3_e_13, zB.w hk0_e_13 (by decide) (by decide), zB.w hk1_e_13 (by decide) (by decide), zB.w hk2_e_13 (by decide) (by decide), zB.w hk3_e_13 (by decide) (by decide), hP⟩ hS d_S_view_64
          · replace hq := (if_pos c_15).symm.trans hq
            have r_21 : zB 0 0 d := ⟨(Int.le_of_eq c_15.symm), (Int.le_of_eq c_15)⟩
            refine lv_iload hx hb d_S_view_44 (lv_at hl 0 rfl) ?_
            refine lv_bipush (v := zi 64) hx hb d_S_view_46 (by decide) ?_
            refine zr_idiv hx hb (zB.I b_14 (by decide) (by decide)) (zB.I (zb_c 64) (by decide) (by decide)) (Int.lt_of_lt_of_le (by decide) (zb_c 64).1) d_S_view_48 ?_
            have b_22 : zB 0 3 (Int.tdiv (f_S_interruption S a b) 64) := zB.w (zb_tdivp (c := 64) b_14 (by decide) (by decide) (zb_c 64).1) (by decide) (by decide)
            exact zw_i hx hb hr hlocks hq ⟨k0_e_13, k1_e_13, k2_e_13, k3_e_13, zB.w hk0_e_13 (by decide) (by decide), zB.w hk1_e_13 (by decide) (by decide), zB.w hk2_e_13 (by decide) (by decide), zB.w hk3_e_13 (by decide) (by decide), hP⟩ hS d_S_view_49
        · replace hq := (if_pos c_10).symm.trans hq
          have r_23 : zB 0 0 (f_S_isWithin d 0 1) := ⟨(Int.le_of_eq c_10.symm), (Int.le_of_eq c_10)⟩
          refine lv_iconst (v := zi (-1)) hx hb d_S_view_30 rfl ?_
          exact zw_i hx hb hr hlocks hq ⟨k0, k1, k2, k3, zB.w hb_k0 (by decide) (by decide), zB.w hb_k1 (by decide) (by decide), zB.w hb_k2 (by decide) (by decide), zB.w hb_k3 (by decide) (by decide), hP⟩ hS d_S_view_31
def f_S_sight (S : Nat → Int → Int) (a v : Int) : Int := if (f_S_isStation S a) = 0 then (-1) else (f_S_sightFrom S a v)
set_option maxHeartbeats 4000000 in
set_option maxRecDepth 100000 in
theorem k_S_sight (l : Launch) (dC : Nat → ClassId) (dI : Nat → Nat → Nat) (ad : Nat → Nat) (cI : ClassId) (S : Nat → Int → Int) (k0 k1 k2 k3 : Int) (hI : iS S) (hj : zJ 13 ad) (hb_k0 : zB (-30000) 30000 k0) (hb_k1 : zB (-30000) 30000 k1) (hb_k2 : zB (-30000) 30000 k2) (hb_k3 : zB (-30000) 30000 k3) (a v : Int) (hb_a : zB (-2147483648) 2147483647 a) (hb_v : zB 0 1 v) : Met l y_S_sight (Cond.code y_S_sight c_S_sight 3 (some .int) :: zT) { frames := 5, cells := 0, slots := 0, locals := 121 } (va_Pc ([.ref (ad 0), .int (zi a), .int (zi v)] : List Value) (zWS dC dI ad cI S k0 k1 k2 k3)) (zQ (some (.int (zi (f_S_sight S a v)))) (fun H => ∃ k0 k1 k2 k3 : Int, zB (-30000) 30000 k0 ∧ zB (-30000) 30000 k1 ∧ zB (-30000) 30000 k2 ∧ zB (-30000) 30000 k3 ∧ va_P (dC, dI) classes (wS ad cI S k0 k1 k2 k3) H) (zAS ad)) 0 0 (zAS ad) := by
  refine zh (cc := c_S_sight) (C := R_S) (by decide) rfl rfl (Nat.le_of_ble_eq_true rfl) ?_
  intro p e s m below meth c ls hx hb hr hlocks hml hown hname hts hl hB
  have hw : ∀ w9 ∈ zT, w9.before ([.ref (ad 0), .int (zi a), .int (zi v)] : List Value).toArray s = true := fun w9 h => hts w9 (List.mem_cons_of_mem _ h)
  obtain ⟨hP, hK, hN⟩ := hB
  obtain ⟨hn0, hn1⟩ := id (iS_s0 hI)
  have hD := zDS hj cI
  have hS : va_S (zAS ad) s.heap s.heap [] := va_S.rf
  obtain ⟨hz0, hz1⟩ := id (iS_s6 hI)
  obtain ⟨hl_a, hh_a⟩ := id hb_a
  obtain ⟨hl_v, hh_v⟩ := id hb_v
  generalize hq : f_S_sight S a v = r
  unfold f_S_sight at hq
  replace hl : lv_has ls 3 [(0, .ref (ad 0)), (1, .int (zi a)), (2, .int (zi v))] := hl
  refine lv_aload_n hx hb d_S_sight_0 rfl (lv_at hl 0 rfl) ?_
  refine lv_iload_n hx hb d_S_sight_1 rfl (lv_at hl 1 rfl) ?_
  refine zc_n (va_runV (As := [.int (zi a)]) (rest := []) ⟨hx, hb, hml, hown, hts⟩ (k_S_isStation l dC dI ad cI S k0 k1 k2 k3 hI a (zB.w hb_a (by decide) (by decide)) ) (zcV 1 hts m_84 m_1 m_82 m_83 m_374 rfl rfl q_S_isStation ⟨Nat.le_of_ble_eq_true rfl, Nat.le_of_ble_eq_true rfl⟩) (zpS0 hP hK hN [.int (zi a)]) rfl rfl hl.1 rfl (lv_room (Nat.le_of_ble_eq_true rfl)) d_S_sight_2 ⟨Nat.zero_le _, Nat.zero_le _⟩) ?_
  refine zr_if_eq (tgt := 17) hx hb (zB.I (bb_S_isStation S a) (by decide) (by decide)) d_S_sight_5 (by decide) (fun c_1 => ?_) (fun c_1 => ?_)
  · replace hq := (if_pos c_1).symm.trans hq
    have r_2 : zB 0 0 (f_S_isStation S a) := ⟨(Int.le_of_eq c_1.symm), (Int.le_of_eq c_1)⟩
    refine lv_iconst (v := zi (-1)) hx hb d_S_sight_17 rfl ?_
    exact zw_i hx hb hr hlocks hq ⟨k0, k1, k2, k3, zB.w hb_k0 (by decide) (by decide), zB.w hb_k1 (by decide) (by decide), zB.w hb_k2 (by decide) (by decide), zB.w hb_k3 (by decide) (by decide), hP⟩ hS d_S_sight_18
  · replace hq := (if_neg c_1).symm.trans hq
    have r_3 : zB 1 1 (f_S_isStation S a) := ⟨(by have := (bb_S_isStation S a).1; omega), (bb_S_isStation S a).2⟩
    have g_4 := gf_S_isStation hI c_1
    obtain ⟨g_4l, g_4h⟩ := id g_4.1
    have g_4n := g_4.2
    refine lv_aload_n hx hb d_S_sight_8 rfl (lv_at hl 0 rfl) ?_
    refine lv_iload_n hx hb d_S_sight_9 rfl (lv_at hl 1 rfl) ?_
    refine lv_iload_n hx hb d_S_sight_10 rfl (lv_at hl 2 rfl) ?_
    refine zc_w (va_runV (As := [.int (zi a), .int (zi v)]) (rest := []) ⟨hx, hb, hml, hown, hts⟩ (k_S_sightFrom l dC dI ad cI S k0 k1 k2 k3 hI hj (zB.w hb_k0 (by decide) (by decide)) (zB.w hb_k1 (by decide) (by decide)) (zB.w hb_k2 (by decide) (by decide)) (zB.w hb_k3 (by decide) (by decide)) a v (zB.w g_4.1 (by decide) (by decide)) (zB.w hb_v (by decide) (by decide)) ) (zcV 2 hts m_154 m_1 m_152 m_153 m_384 rfl rfl q_S_sightFrom ⟨Nat.le_of_ble_eq_true rfl, Nat.le_of_ble_eq_true rfl⟩) (zpS0 hP hK hN [.int (zi a), .int (zi v)]) rfl rfl hl.1 rfl (lv_room (Nat.le_of_ble_eq_true rfl)) d_S_sight_11 ⟨Nat.zero_le _, Nat.zero_le _⟩) hS (fun q _ h => h) (fun q h => h) (fun H locs hP hz1 hk1 hS => ?_)
    clear hz1 hk1
    obtain ⟨k0_e_5, k1_e_5, k2_e_5, k3_e_5, hk0_e_5, hk1_e_5, hk2_e_5, hk3_e_5, hP⟩ := hP
    have b_6 : zB 0 2545620 (f_S_sightFrom S a v) := br_S_sightFrom S a v hI (zB.w g_4.1 (by decide) (by decide)) (zB.w hb_v (by decide) (by decide)) 
    refine lv_goto (tgt := 18) hx hb d_S_sight_14 (by decide) ?_
    exact zw_i hx hb hr hlocks hq ⟨k0_e_5, k1_e_5, k2_e_5, k3_e_5, zB.w hk0_e_5 (by decide) (by decide), zB.w hk1_e_5 (by decide) (by decide), zB.w hk2_e_5 (by decide) (by decide), zB.w hk3_e_5 (by decide) (by decide), hP⟩ hS d_S_sight_18
def f_S_need (S : Nat → Int → Int) (a v : Int) : Int := if (f_S_isStation S a) = 0 then (-1) else (f_S_needWith S a v (S 4 a))
set_option maxHeartbeats 4000000 in
set_option maxRecDepth 100000 in
theorem k_S_need (l : Launch) (dC : Nat → ClassId) (dI : Nat → Nat → Nat) (ad : Nat → Nat) (cI : ClassId) (S : Nat → Int → Int) (k0 k1 k2 k3 : Int) (hI : iS S) (a v : Int) (hb_a : zB (-2147483648) 2147483647 a) (hb_v : zB 0 1 v) : Met l y_S_need (Cond.code y_S_need c_S_need 3 (some .int) :: zT) { frames := 3, cells := 0, slots := 0, locals := 73 } (va_Pc ([.ref (ad 0), .int (zi a), .int (zi v)] : List Value) (zWS dC dI ad cI S k0 k1 k2 k3)) (zR (.int (zi (f_S_need S a v)))) 0 0 (fun _ => False) := by
  refine zh (cc := c_S_need) (C := R_S) (by decide) rfl rfl (Nat.le_of_ble_eq_true rfl) ?_
  intro p e s m below meth c ls hx hb hr hlocks hml hown hname hts hl hB
  have hw : ∀ w9 ∈ zT, w9.before ([.ref (ad 0), .int (zi a), .int (zi v)] : List Value).toArray s = true := fun w9 h => hts w9 (List.mem_cons_of_mem _ h)
  obtain ⟨hP, hK, hN⟩ := hB
  obtain ⟨hn0, hn1⟩ := id (iS_s0 hI)
  obtain ⟨hz0, hz1⟩ := id (iS_s6 hI)
  obtain ⟨hl_a, hh_a⟩ := id hb_a
  obtain ⟨hl_v, hh_v⟩ := id hb_v
  generalize hq : f_S_need S a v = r
  unfold f_S_need at hq
  replace hl : lv_has ls 3 [(0, .ref (ad 0)), (1, .int (zi a)), (2, .int (zi v))] := hl
  refine lv_aload_n hx hb d_S_need_0 rfl (lv_at hl 0 rfl) ?_
  refine lv_iload_n hx hb d_S_need_1 rfl (lv_at hl 1 rfl) ?_
  refine zc_n (va_runV (As := [.int (zi a)]) (rest := []) ⟨hx, hb, hml, hown, hts⟩ (k_S_isStation l dC dI ad cI S k0 k1 k2 k3 hI a (zB.w hb_a (by decide) (by decide)) ) (zcV 1 hts m_84 m_1 m_82 m_83 m_374 rfl rfl q_S_isStation ⟨Nat.le_of_ble_eq_true rfl, Nat.le_of_ble_eq_true rfl⟩) (zpS0 hP hK hN [.int (zi a)]) rfl rfl hl.1 rfl (lv_room (Nat.le_of_ble_eq_true rfl)) d_S_need_2 ⟨Nat.zero_le _, Nat.zero_le _⟩) ?_
  refine zr_if_eq (tgt := 23) hx hb (zB.I (bb_S_isStation S a) (by decide) (by decide)) d_S_need_5 (by decide) (fun c_1 => ?_) (fun c_1 => ?_)
  · replace hq := (if_pos c_1).symm.trans hq
    have r_2 : zB 0 0 (f_S_isStation S a) := ⟨(Int.le_of_eq c_1.symm), (Int.le_of_eq c_1)⟩
    refine lv_iconst (v := zi (-1)) hx hb d_S_need_23 rfl ?_
    exact ze_i hx hb hr hlocks hq d_S_need_24
  · replace hq := (if_neg c_1).symm.trans hq
    have r_3 : zB 1 1 (f_S_isStation S a) := ⟨(by have := (bb_S_isStation S a).1; omega), (bb_S_isStation S a).2⟩
    have g_4 := gf_S_isStation hI c_1
    obtain ⟨g_4l, g_4h⟩ := id g_4.1
    have g_4n := g_4.2
    refine lv_aload_n hx hb d_S_need_8 rfl (lv_at hl 0 rfl) ?_
    refine lv_iload_n hx hb d_S_need_9 rfl (lv_at hl 1 rfl) ?_
    refine lv_iload_n hx hb d_S_need_10 rfl (lv_at hl 2 rfl) ?_
    refine lv_aload_n hx hb d_S_need_11 rfl (lv_at hl 0 rfl) ?_
    refine va_get (D := (dC, dI)) (ci := 1) (v := .ref (ad 5)) (C := R_S) (T := T_S) (N := 13) hx hb hw i_S hown hK hP 0 rfl rfl 4 (by decide) (hw _ m_35) (fun _ h9 => h9) rfl d_S_need_12 ?_
    refine lv_iload_n hx hb d_S_need_15 rfl (lv_at hl 1 rfl) ?_
    refine zr_iald hx hb hK hP 5 0 (cA := cI) (n := 60) (g := S 4) rfl rfl (i := a) (by omega) (by omega) (by decide) d_S_need_16 ?_
    refine zc_n (va_runV (As := [.int (zi a), .int (zi v), .int (zi (S 4 a))]) (rest := []) ⟨hx, hb, hml, hown, hts⟩ (k_S_needWith l dC dI ad cI S k0 k1 k2 k3 hI a v (S 4 a) (zB.w g_4.1 (by decide) (by decide)) (zB.w hb_v (by decide) (by decide)) (zB.w (iS_a4 hI a) (by decide) (by decide)) ) (zcV 3 hts m_161 m_1 m_159 m_160 m_385 rfl rfl q_S_needWith ⟨Nat.le_of_ble_eq_true rfl, Nat.le_of_ble_eq_true rfl⟩) (zpS0 hP hK hN [.int (zi a), .int (zi v), .int (zi (S 4 a))]) rfl rfl hl.1 rfl (lv_room (Nat.le_of_ble_eq_true rfl)) d_S_need_17 ⟨Nat.zero_le _, Nat.zero_le _⟩) ?_
    have b_5 : zB 0 82716 (f_S_needWith S a v (S 4 a)) := br_S_needWith S a v (S 4 a) hI (zB.w g_4.1 (by decide) (by decide)) (zB.w hb_v (by decide) (by decide)) (zB.w (iS_a4 hI a) (by decide) (by decide)) 
    refine lv_goto (tgt := 24) hx hb d_S_need_20 (by decide) ?_
    exact ze_i hx hb hr hlocks hq d_S_need_24
def f_S_blind_l (S : Nat → Int → Int) (v : Int) (a : Int) (b : Int) (z : Int) : Nat → Int → Int → Int → Int
  | 0, _, _, _ => 0
  | k + 1, q, w, i => if (S 11 0) < i then (z) else (if i < (S 11 0) then (if (f_S_isBlind S i v) = 0 then (if w = (-1) then (f_S_blind_l S v a b z k q w (i + 1)) else (if q = a then (if b = 0 then (w) else (i - 1)) else (f_S_blind_l S v a b z k (q + 1) (-1) (i + 1)))) else (if w = (-1) then (f_S_blind_l S v a b z k q i (i + 1)) else (f_S_blind_l S v a b z k q w (i + 1)))) else (if w = (-1) then (f_S_blind_l S v a b z k q w (i + 1)) else (if q = a then (if b = 0 then (w) else (i - 1)) else (f_S_blind_l S v a b z k (q + 1) (-1) (i + 1)))))
theorem f_S_blind_l_s (S : Nat → Int → Int) (v : Int) (a : Int) (b : Int) (z : Int) (k : Nat) (q w i : Int) : f_S_blind_l S v a b z (k + 1) q w i = (if (S 11 0) < i then (z) else (if i < (S 11 0) then (if (f_S_isBlind S i v) = 0 then (if w = (-1) then (f_S_blind_l S v a b z k q w (i + 1)) else (if q = a then (if b = 0 then (w) else (i - 1)) else (f_S_blind_l S v a b z k (q + 1) (-1) (i + 1)))) else (if w = (-1) then (f_S_blind_l S v a b z k q i (i + 1)) else (f_S_blind_l S v a b z k q w (i + 1)))) else (if w = (-1) then (f_S_blind_l S v a b z k q w (i + 1)) else (if q = a then (if b = 0 then (w) else (i - 1)) else (f_S_blind_l S v a b z k (q + 1) (-1) (i + 1)))))) := rfl
def f_S_blind (S : Nat → Int → Int) (v a b : Int) : Int := if a < 0 then (-1) else (if (f_S_isWithin b 0 1) = 0 then (-1) else (f_S_blind_l S v a b (-1) 62 0 (-1) 0))
set_option maxHeartbeats 4000000 in
set_option maxRecDepth 100000 in
theorem k_S_blind (l : Launch) (dC : Nat → ClassId) (dI : Nat → Nat → Nat) (ad : Nat → Nat) (cI : ClassId) (S : Nat → Int → Int) (k0 k1 k2 k3 : Int) (hI : iS S) (hj : zJ 13 ad) (hb_k0 : zB (-30000) 30000 k0) (hb_k1 : zB (-30000) 30000 k1) (hb_k2 : zB (-30000) 30000 k2) (hb_k3 : zB (-30000) 30000 k3) (v a b : Int) (hb_v : zB 0 1 v) (hb_a : zB (-2147483648) 2147483647 a) (hb_b : zB (-2147483648) 2147483647 b) : Met l y_S_blind (Cond.code y_S_blind c_S_blind 8 (some .int) :: zT) { frames := 6, cells := 0, slots := 0, locals := 144 } (va_Pc ([.ref (ad 0), .int (zi v), .int (zi a), .int (zi b)] : List Value) (zWS dC dI ad cI S k0 k1 k2 k3)) (zQ (some (.int (zi (f_S_blind S v a b)))) (fun H => ∃ k0 k1 k2 k3 : Int, zB (-30000) 30000 k0 ∧ zB (-30000) 30000 k1 ∧ zB (-30000) 30000 k2 ∧ zB (-30000) 30000 k3 ∧ va_P (dC, dI) classes (wS ad cI S k0 k1 k2 k3) H) (zAS ad)) 0 0 (zAS ad) := by
  refine zh (cc := c_S_blind) (C := R_S) (by decide) rfl rfl (Nat.le_of_ble_eq_true rfl) ?_
  intro p e s m below meth c ls hx hb hr hlocks hml hown hname hts hl hB
  have hw : ∀ w9 ∈ zT, w9.before ([.ref (ad 0), .int (zi v), .int (zi a), .int (zi b)] : List Value).toArray s = true := fun w9 h => hts w9 (List.mem_cons_of_mem _ h)
  obtain ⟨hP, hK, hN⟩ := hB
  obtain ⟨hn0, hn1⟩ := id (iS_s0 hI)
  have hD := zDS hj cI
  have hS : va_S (zAS ad) s.heap s.heap [] := va_S.rf
  obtain ⟨hz0, hz1⟩ := id (iS_s6 hI)
  obtain ⟨hl_v, hh_v⟩ := id hb_v
  obtain ⟨hl_a, hh_a⟩ := id hb_a
  obtain ⟨hl_b, hh_b⟩ := id hb_b
  generalize hq : f_S_blind S v a b = r
  unfold f_S_blind at hq
  replace hl : lv_has ls 8 [(0, .ref (ad 0)), (1, .int (zi v)), (2, .int (zi a)), (3, .int (zi b))] := hl
  refine lv_iload_n hx hb d_S_blind_0 rfl (lv_at hl 2 rfl) ?_
  refine zr_if_lt (tgt := 13) hx hb (zB.I hb_a (by decide) (by decide)) d_S_blind_1 (by decide) (fun c_1 => ?_) (fun c_1 => ?_)
  · replace hq := (if_pos c_1).symm.trans hq
    have r_2 : zB (-2147483648) (-1) a := ⟨hb_a.1, (Int.le_sub_one_of_lt c_1)⟩
    refine lv_iconst (v := zi (-1)) hx hb d_S_blind_13 rfl ?_
    exact zw_i hx hb hr hlocks hq ⟨k0, k1, k2, k3, zB.w hb_k0 (by decide) (by decide), zB.w hb_k1 (by decide) (by decide), zB.w hb_k2 (by decide) (by decide), zB.w hb_k3 (by decide) (by decide), hP⟩ hS d_S_blind_14
  · replace hq := (if_neg c_1).symm.trans hq
    have r_3 : zB 0 2147483647 a := ⟨(Int.not_lt.mp c_1), hb_a.2⟩
    refine lv_iload_n hx hb d_S_blind_4 rfl (lv_at hl 3 rfl) ?_
    refine lv_iconst (v := zi 0) hx hb d_S_blind_5 rfl ?_
    refine lv_iconst (v := zi 1) hx hb d_S_blind_6 rfl ?_
    refine zc_n (va_runS (As := [.int (zi b), .int (zi 0), .int (zi 1)]) (rest := []) ⟨hx, hb, hml, hown, hts⟩ (k_S_isWithin l b 0 1 (zB.w hb_b (by decide) (by decide)) (zB.w (zb_c 0) (by decide) (by decide)) (zB.w (zb_c 1) (by decide) (by decide)) ) (zcS 3 hts m_53 m_1 m_51 m_52 rfl rfl q_S_isWithin ⟨Nat.le_of_ble_eq_true rfl, Nat.le_of_ble_eq_true rfl⟩) (zp0 [.int (zi b), .int (zi 0), .int (zi 1)]) rfl rfl hl.1 rfl (lv_room (Nat.le_of_ble_eq_true rfl)) d_S_blind_7 ⟨Nat.zero_le _, Nat.zero_le _⟩) ?_
    refine zr_if_ne (tgt := 15) hx hb (zB.I (bb_S_isWithin b 0 1) (by decide) (by decide)) d_S_blind_10 (by decide) (fun c_4 => ?_) (fun c_4 => ?_)
    · replace hq := (if_neg c_4).symm.trans hq
      have r_5 : zB 1 1 (f_S_isWithin b 0 1) := ⟨(by have := (bb_S_isWithin b 0 1).1; omega), (bb_S_isWithin b 0 1).2⟩
      have g_6 := gf_S_isWithin c_4
      obtain ⟨g_6l, g_6h⟩ := id g_6
      refine lv_iconst (v := zi 0) hx hb d_S_blind_15 rfl ?_
      refine lv_istore (lv' := [(4, .int (zi 0)), (0, .ref (ad 0)), (1, .int (zi v)), (2, .int (zi a)), (3, .int (zi b))]) hx hb d_S_blind_16 hl (by decide) rfl (fun ls hl => ?_)
      refine lv_iconst (v := zi (-1)) hx hb d_S_blind_18 rfl ?_
      refine lv_istore (lv' := [(5, .int (zi (-1))), (4, .int (zi 0)), (0, .ref (ad 0)), (1, .int (zi v)), (2, .int (zi a)), (3, .int (zi b))]) hx hb d_S_blind_19 hl (by decide) rfl (fun ls hl => ?_)
      refine lv_iconst (v := zi 0) hx hb d_S_blind_21 rfl ?_
      refine lv_istore (lv' := [(6, .int (zi 0)), (5, .int (zi (-1))), (4, .int (zi 0)), (0, .ref (ad 0)), (1, .int (zi v)), (2, .int (zi a)), (3, .int (zi b))]) hx hb d_S_blind_22 hl (by decide) rfl (fun ls hl => ?_)
      have L_l : ∀ (z : Int), (∀ (ls : Array Slot) (H : Heap) (locs : List Loc) (k0 k1 k2 k3 : Int), zB (-30000) 30000 k0 → zB (-30000) 30000 k1 → zB (-30000) 30000 k2 → zB (-30000) 30000 k3 → va_P (dC, dI) classes (wS ad cI S k0 k1 k2 k3) H → va_S (zAS ad) s.heap H locs → z = r → lv_has ls 8 [(0, .ref (ad 0)), (1, .int (zi v)), (2, .int (zi a)), (3, .int (zi b))] → W p l e { frames := 6, cells := 0, slots := 0, locals := 144 } s m ([.ref (ad 0), .int (zi v), .int (zi a), .int (zi b)] : List Value).toArray below meth c H locs 0 0 (MQ below (zQ (some (.int (zi r))) (fun H => ∃ k0 k1 k2 k3 : Int, zB (-30000) 30000 k0 ∧ zB (-30000) 30000 k1 ∧ zB (-30000) 30000 k2 ∧ zB (-30000) 30000 k3 ∧ va_P (dC, dI) classes (wS ad cI S k0 k1 k2 k3) H) (zAS ad)) ([.ref (ad 0), .int (zi v), .int (zi a), .int (zi b)] : List Value).toArray s 0 0 (zAS ad)) (F0 m 117 ls [])) → ∀ (k : Nat) (q w i : Int) (ls : Array Slot) (H : Heap) (locs : List Loc) (k0 k1 k2 k3 : Int), zB (-30000) 30000 k0 → zB (-30000) 30000 k1 → zB (-30000) 30000 k2 → zB (-30000) 30000 k3 → va_P (dC, dI) classes (wS ad cI S k0 k1 k2 k3) H → va_S (zAS ad) s.heap H locs → zB 0 61 q → zB (-1) 60 w → zB 0 61 i → q ≤ i → w < i → i ≤ S 11 0 + 1 → 61 - i < (k : Int) → f_S_blind_l S v a b z k q w i = r → lv_has ls 8 [(0, .ref (ad 0)), (1, .int (zi v)), (2, .int (zi a)), (3, .int (zi b)), (4, .int (zi q)), (5, .int (zi w)), (6, .int (zi i))] → W p l e { frames := 6, cells := 0, slots := 0, locals := 144 } s m ([.ref (ad 0), .int (zi v), .int (zi a), .int (zi b)] : List Value).toArray below meth c H locs 0 0 (MQ below (zQ (some (.int (zi r))) (fun H => ∃ k0 k1 k2 k3 : Int, zB (-30000) 30000 k0 ∧ zB (-30000) 30000 k1 ∧ zB (-30000) 30000 k2 ∧ zB (-30000) 30000 k3 ∧ va_P (dC, dI) classes (wS ad cI S k0 k1 k2 k3) H) (zAS ad)) ([.ref (ad 0), .int (zi v), .int (zi a), .int (zi b)] : List Value).toArray s 0 0 (zAS ad)) (F0 m 24 ls []) := by
        intro z hz k
        induction k with
        | zero =>
          intro q w i ls H locs k0 k1 k2 k3 hk0 hk1 hk2 hk3 hP hS hb_q hb_w hb_i hi_0 hi_1 hi_2 hk hq hl
          exact absurd hk (by have := hb_q.1; have := hb_q.2; have := hb_w.1; have := hb_w.2; have := hb_i.1; have := hb_i.2; omega)
        | succ k ih =>
          intro q w i ls H locs k0 k1 k2 k3 hk0 hk1 hk2 hk3 hP hS hb_q hb_w hb_i hi_0 hi_1 hi_2 hk hq hl
          obtain ⟨hl_q, hh_q⟩ := id hb_q
          obtain ⟨hl_w, hh_w⟩ := id hb_w
          obtain ⟨hl_i, hh_i⟩ := id hb_i
          replace hq := (f_S_blind_l_s S v a b z k q w i).symm.trans hq
          refine lv_iload hx hb d_S_blind_24 (lv_at hl 6 rfl) ?_
          refine lv_aload_n hx hb d_S_blind_26 rfl (lv_at hl 0 rfl) ?_
          refine va_get (D := (dC, dI)) (ci := 1) (v := .int (zi (S 11 0))) (C := R_S) (T := T_S) (N := 13) hx hb hw i_S hown hK hP 0 rfl rfl 7 (by decide) (hw _ m_38) (fun _ h9 => h9) rfl d_S_blind_27 ?_
          refine zr_icmp_gt (tgt := 117) hx hb (zB.I hb_i (by decide) (by decide)) (zB.I (iS_s0 hI) (by decide) (by decide)) d_S_blind_30 (by decide) (fun c_7 => ?_) (fun c_7 => ?_)
          · replace hq := (if_pos c_7).symm.trans hq
            exact hz ls _ _ k0 k1 k2 k3 (zB.w hk0 (by decide) (by decide)) (zB.w hk1 (by decide) (by decide)) (zB.w hk2 (by decide) (by decide)) (zB.w hk3 (by decide) (by decide)) hP hS hq (lv_sub hl [0, 1, 2, 3] rfl)
          · replace hq := (if_neg c_7).symm.trans hq
            refine lv_iload hx hb d_S_blind_33 (lv_at hl 6 rfl) ?_
            refine lv_aload_n hx hb d_S_blind_35 rfl (lv_at hl 0 rfl) ?_
            refine va_get (D := (dC, dI)) (ci := 1) (v := .int (zi (S 11 0))) (C := R_S) (T := T_S) (N := 13) hx hb hw i_S hown hK hP 0 rfl rfl 7 (by decide) (hw _ m_38) (fun _ h9 => h9) rfl d_S_blind_36 ?_
            refine zr_icmp_ge (tgt := 56) hx hb (zB.I hb_i (by decide) (by decide)) (zB.I (iS_s0 hI) (by decide) (by decide)) d_S_blind_39 (by decide) (fun c_8 => ?_) (fun c_8 => ?_)
            · replace hq := (if_neg c_8).symm.trans hq
              refine lv_iconst (v := zi 0) hx hb d_S_blind_56 rfl ?_
              refine lv_istore (lv' := [(7, .int (zi 0)), (0, .ref (ad 0)), (1, .int (zi v)), (2, .int (zi a)), (3, .int (zi b)), (4, .int (zi q)), (5, .int (zi w)), (6, .int (zi i))]) hx hb d_S_blind_57 hl (by decide) rfl (fun ls hl => ?_)
              refine lv_iload hx hb d_S_blind_59 (lv_at hl 0 rfl) ?_
              refine zr_if_eq (tgt := 74) hx hb (zB.I (zb_c 0) (by decide) (by decide)) d_S_blind_61 (by decide) (fun _ => ?_) (fun c => absurd (by decide : (0 : Int) = 0) c)
              refine lv_iload hx hb d_S_blind_74 (lv_at hl 0 rfl) ?_
              refine zr_if_ne (tgt := 111) hx hb (zB.I (zb_c 0) (by decide) (by decide)) d_S_blind_76 (by decide) (fun c => absurd (by decide : (0 : Int) = 0) c) (fun _ => ?_)
              refine lv_iload hx hb d_S_blind_79 (lv_at hl 6 rfl) ?_
              refine lv_iconst (v := zi (-1)) hx hb d_S_blind_81 rfl ?_
              refine zr_icmp_eq (tgt := 111) hx hb (zB.I hb_w (by decide) (by decide)) (zB.I (zb_c (-1)) (by decide) (by decide)) d_S_blind_82 (by decide) (fun c_9 => ?_) (fun c_9 => ?_)
              · replace hq := (if_pos c_9).symm.trans hq
                have r_10 : zB (-1) (-1) w := ⟨(Int.le_of_eq c_9.symm), (Int.le_of_eq c_9)⟩
                have b_11 : zB 1 62 (i + 1) := zB.w (zb_add hb_i (zb_c 1)) (by decide) (by decide)
                refine lv_iinc (v := zi (i + 1)) (lv' := [(6, .int (zi (i + 1))), (7, .int (zi 0)), (0, .ref (ad 0)), (1, .int (zi v)), (2, .int (zi a)), (3, .int (zi b)), (4, .int (zi q)), (5, .int (zi w))]) hx hb d_S_blind_111 hl (k := 7) rfl (zi_add _ _) (by decide) rfl (fun ls hl => ?_)
                refine lv_goto (tgt := 24) hx hb d_S_blind_114 (by decide) ?_
                exact ih q w (i + 1) ls _ _ k0 k1 k2 k3 (zB.w hk0 (by decide) (by decide)) (zB.w hk1 (by decide) (by decide)) (zB.w hk2 (by decide) (by decide)) (zB.w hk3 (by decide) (by decide)) hP hS (zB.w hb_q (by decide) (by decide)) (zB.w r_10 (by decide) (by decide)) ⟨by omega, by omega⟩ (by omega) (by omega) (by omega) (by omega) hq (lv_sub hl [2, 3, 4, 5, 6, 7, 0] rfl)
              · replace hq := (if_neg c_9).symm.trans hq
                have r_12 : zB 0 60 w := ⟨(by have := hb_w.1; omega), hb_w.2⟩
                refine lv_iload hx hb d_S_blind_85 (lv_at hl 5 rfl) ?_
                refine lv_iload_n hx hb d_S_blind_87 rfl (lv_at hl 3 rfl) ?_
                refine zr_icmp_ne (tgt := 105) hx hb (zB.I hb_q (by decide) (by decide)) (zB.I r_3 (by decide) (by decide)) d_S_blind_88 (by decide) (fun c_13 => ?_) (fun c_13 => ?_)
                · replace hq := (if_neg c_13).symm.trans hq
                  have b_14 : zB 1 62 (q + 1) := zB.w (zb_add hb_q (zb_c 1)) (by decide) (by decide)
                  refine lv_iinc (v := zi (q + 1)) (lv' := [(4, .int (zi (q + 1))), (7, .int (zi 0)), (0, .ref (ad 0)), (1, .int (zi v)), (2, .int (zi a)), (3, .int (zi b)), (5, .int (zi w)), (6, .int (zi i))]) hx hb d_S_blind_105 hl (k := 5) rfl (zi_add _ _) (by decide) rfl (fun ls hl => ?_)
                  refine lv_iconst (v := zi (-1)) hx hb d_S_blind_108 rfl ?_
                  refine lv_istore (lv' := [(5, .int (zi (-1))), (4, .int (zi (q + 1))), (7, .int (zi 0)), (0, .ref (ad 0)), (1, .int (zi v)), (2, .int (zi a)), (3, .int (zi b)), (6, .int (zi i))]) hx hb d_S_blind_109 hl (by decide) rfl (fun ls hl => ?_)
                  have b_15 : zB 1 62 (i + 1) := zB.w (zb_add hb_i (zb_c 1)) (by decide) (by decide)
                  refine lv_iinc (v := zi (i + 1)) (lv' := [(6, .int (zi (i + 1))), (5, .int (zi (-1))), (4, .int (zi (q + 1))), (7, .int (zi 0)), (0, .ref (ad 0)), (1, .int (zi v)), (2, .int (zi a)), (3, .int (zi b))]) hx hb d_S_blind_111 hl (k := 7) rfl (zi_add _ _) (by decide) rfl (fun ls hl => ?_)
                  refine lv_goto (tgt := 24) hx hb d_S_blind_114 (by decide) ?_
                  exact ih (q + 1) (-1) (i + 1) ls _ _ k0 k1 k2 k3 (zB.w hk0 (by decide) (by decide)) (zB.w hk1 (by decide) (by decide)) (zB.w hk2 (by decide) (by decide)) (zB.w hk3 (by decide) (by decide)) hP hS ⟨by omega, by omega⟩ (zB.w (zb_c (-1)) (by decide) (by decide)) ⟨by omega, by omega⟩ (by omega) (by omega) (by omega) (by omega) hq (lv_sub hl [4, 5, 6, 7, 2, 1, 0] rfl)
                · replace hq := (if_pos c_13).symm.trans hq
                  refine lv_iload_n hx hb d_S_blind_91 rfl (lv_at hl 4 rfl) ?_
                  refine zr_if_ne (tgt := 100) hx hb (zB.I g_6 (by decide) (by decide)) d_S_blind_92 (by decide) (fun c_16 => ?_) (fun c_16 => ?_)
                  · replace hq := (if_neg c_16).symm.trans hq
                    have r_17 : zB 1 1 b := ⟨(by have := g_6.1; omega), g_6.2⟩
                    refine lv_iload hx hb d_S_blind_100 (lv_at hl 7 rfl) ?_
                    refine lv_iconst (v := zi 1) hx hb d_S_blind_102 rfl ?_
                    have b_18 : zB (-1) 60 (i - 1) := zB.w (zb_sub hb_i (zb_c 1)) (by decide) (by decide)
                    refine zr_isub hx hb d_S_blind_103 ?_
                    exact zw_i hx hb hr hlocks hq ⟨k0, k1, k2, k3, zB.w hk0 (by decide) (by decide), zB.w hk1 (by decide) (by decide), zB.w hk2 (by decide) (by decide), zB.w hk3 (by decide) (by decide), hP⟩ hS d_S_blind_104
                  · replace hq := (if_pos c_16).symm.trans hq
                    have r_19 : zB 0 0 b := ⟨(Int.le_of_eq c_16.symm), (Int.le_of_eq c_16)⟩
                    refine lv_iload hx hb d_S_blind_95 (lv_at hl 6 rfl) ?_
                    refine lv_goto (tgt := 104) hx hb d_S_blind_97 (by decide) ?_
                    exact zw_i hx hb hr hlocks hq ⟨k0, k1, k2, k3, zB.w hk0 (by decide) (by decide), zB.w hk1 (by decide) (by decide), zB.w hk2 (by decide) (by decide), zB.w hk3 (by decide) (by decide), hP⟩ hS d_S_blind_104
            · replace hq := (if_pos c_8).symm.trans hq
              refine lv_aload_n hx hb d_S_blind_42 rfl (lv_at hl 0 rfl) ?_
              refine lv_iload hx hb d_S_blind_43 (lv_at hl 6 rfl) ?_
              refine lv_iload_n hx hb d_S_blind_45 rfl (lv_at hl 1 rfl) ?_
              refine zc_w (va_runV (As := [.int (zi i), .int (zi v)]) (rest := []) ⟨hx, hb, hml, hown, hts⟩ (k_S_isBlind l dC dI ad cI S k0 k1 k2 k3 hI hj (zB.w hk0 (by decide) (by decide)) (zB.w hk1 (by decide) (by decide)) (zB.w hk2 (by decide) (by decide)) (zB.w hk3 (by decide) (by decide)) i v ⟨by omega, by omega⟩ (zB.w hb_v (by decide) (by decide)) (by omega)) (zcV 2 hts m_180 m_1 m_178 m_179 m_387 rfl rfl q_S_isBlind ⟨Nat.le_of_ble_eq_true rfl, Nat.le_of_ble_eq_true rfl⟩) (zpS0 hP hK hN [.int (zi i), .int (zi v)]) rfl rfl hl.1 rfl (lv_room (Nat.le_of_ble_eq_true rfl)) d_S_blind_46 ⟨Nat.zero_le _, Nat.zero_le _⟩) hS (fun q _ h => h) (fun q h => h) (fun H locs hP hz1 hk1 hS => ?_)
              clear hz1 hk1
              obtain ⟨k0_e_20, k1_e_20, k2_e_20, k3_e_20, hk0_e_20, hk1_e_20, hk2_e_20, hk3_e_20, hP⟩ := hP
              refine zr_if_eq (tgt := 56) hx hb (zB.I (bb_S_isBlind S i v) (by decide) (by decide)) d_S_blind_49 (by decide) (fun c_21 => ?_) (fun c_21 => ?_)
              · replace hq := (if_pos c_21).symm.trans hq
                have r_22 : zB 0 0 (f_S_isBlind S i v) := ⟨(Int.le_of_eq c_21.symm), (Int.le_of_eq c_21)⟩
                refine lv_iconst (v := zi 0) hx hb d_S_blind_56 rfl ?_
                refine lv_istore (lv' := [(7, .int (zi 0)), (0, .ref (ad 0)), (1, .int (zi v)), (2, .int (zi a)), (3, .int (zi b)), (4, .int (zi q)), (5, .int (zi w)), (6, .int (zi i))]) hx hb d_S_blind_57 hl (by decide) rfl (fun ls hl => ?_)
                refine lv_iload hx hb d_S_blind_59 (lv_at hl 0 rfl) ?_
                refine zr_if_eq (tgt := 74) hx hb (zB.I (zb_c 0) (by decide) (by decide)) d_S_blind_61 (by decide) (fun _ => ?_) (fun c => absurd (by decide : (0 : Int) = 0) c)
                refine lv_iload hx hb d_S_blind_74 (lv_at hl 0 rfl) ?_
                refine zr_if_ne (tgt := 111) hx hb (zB.I (zb_c 0) (by decide) (by decide)) d_S_blind_76 (by decide) (fun c => absurd (by decide : (0 : Int) = 0) c) (fun _ => ?_)
                refine lv_iload hx hb d_S_blind_79 (lv_at hl 6 rfl) ?_
                refine lv_iconst (v := zi (-1)) hx hb d_S_blind_81 rfl ?_
                refine zr_icmp_eq (tgt := 111) hx hb (zB.I hb_w (by decide) (by decide)) (zB.I (zb_c (-1)) (by decide) (by decide)) d_S_blind_82 (by decide) (fun c_23 => ?_) (fun c_23 => ?_)
                · replace hq := (if_pos c_23).symm.trans hq
                  have r_24 : zB (-1) (-1) w := ⟨(Int.le_of_eq c_23.symm), (Int.le_of_eq c_23)⟩
                  have b_25 : zB 1 62 (i + 1) := zB.w (zb_add hb_i (zb_c 1)) (by decide) (by decide)
                  refine lv_iinc (v := zi (i + 1)) (lv' := [(6, .int (zi (i + 1))), (7, .int (zi 0)), (0, .ref (ad 0)), (1, .int (zi v)), (2, .int (zi a)), (3, .int (zi b)), (4, .int (zi q)), (5, .int (zi w))]) hx hb d_S_blind_111 hl (k := 7) rfl (zi_add _ _) (by decide) rfl (fun ls hl => ?_)
                  refine lv_goto (tgt := 24) hx hb d_S_blind_114 (by decide) ?_
                  exact ih q w (i + 1) ls _ _ k0_e_20 k1_e_20 k2_e_20 k3_e_20 (zB.w hk0_e_20 (by decide) (by decide)) (zB.w hk1_e_20 (by decide) (by decide)) (zB.w hk2_e_20 (by decide) (by decide)) (zB.w hk3_e_20 (by decide) (by decide)) hP hS (zB.w hb_q (by decide) (by decide)) (zB.w r_24 (by decide) (by decide)) ⟨by omega, by omega⟩ (by omega) (by omega) (by omega) (by omega) hq (lv_sub hl [2, 3, 4, 5, 6, 7, 0] rfl)
                · replace hq := (if_neg c_23).symm.trans hq
                  have r_26 : zB 0 60 w := ⟨(by have := hb_w.1; omega), hb_w.2⟩
                  refine lv_iload hx hb d_S_blind_85 (lv_at hl 5 rfl) ?_
                  refine lv_iload_n hx hb d_S_blind_87 rfl (lv_at hl 3 rfl) ?_
                  refine zr_icmp_ne (tgt := 105) hx hb (zB.I hb_q (by decide) (by decide)) (zB.I r_3 (by decide) (by decide)) d_S_blind_88 (by decide) (fun c_27 => ?_) (fun c_27 => ?_)
                  · replace hq := (if_neg c_27).symm.trans hq
                    have b_28 : zB 1 62 (q + 1) := zB.w (zb_add hb_q (zb_c 1)) (by decide) (by decide)
                    refine lv_iinc (v := zi (q + 1)) (lv' := [(4, .int (zi (q + 1))), (7, .int (zi 0)), (0, .ref (ad 0)), (1, .int (zi v)), (2, .int (zi a)), (3, .int (zi b)), (5, .int (zi w)), (6, .int (zi i))]) hx hb d_S_blind_105 hl (k := 5) rfl (zi_add _ _) (by decide) rfl (fun ls hl => ?_)
                    refine lv_iconst (v := zi (-1)) hx hb d_S_blind_108 rfl ?_
                    refine lv_istore (lv' := [(5, .int (zi (-1))), (4, .int (zi (q + 1))), (7, .int (zi 0)), (0, .ref (ad 0)), (1, .int (zi v)), (2, .int (zi a)), (3, .int (zi b)), (6, .int (zi i))]) hx hb d_S_blind_109 hl (by decide) rfl (fun ls hl => ?_)
                    have b_29 : zB 1 62 (i + 1) := zB.w (zb_add hb_i (zb_c 1)) (by decide) (by decide)
                    refine lv_iinc (v := zi (i + 1)) (lv' := [(6, .int (zi (i + 1))), (5, .int (zi (-1))), (4, .int (zi (q + 1))), (7, .int (zi 0)), (0, .ref (ad 0)), (1, .int (zi v)), (2, .int (zi a)), (3, .int (zi b))]) hx hb d_S_blind_111 hl (k := 7) rfl (zi_add _ _) (by decide) rfl (fun ls hl => ?_)
                    refine lv_goto (tgt := 24) hx hb d_S_blind_114 (by decide) ?_
                    exact ih (q + 1) (-1) (i + 1) ls _ _ k0_e_20 k1_e_20 k2_e_20 k3_e_20 (zB.w hk0_e_20 (by decide) (by decide)) (zB.w hk1_e_20 (by decide) (by decide)) (zB.w hk2_e_20 (by decide) (by decide)) (zB.w hk3_e_20 (by decide) (by decide)) hP hS ⟨by omega, by omega⟩ (zB.w (zb_c (-1)) (by decide) (by decide)) ⟨by omega, by omega⟩ (by omega) (by omega) (by omega) (by omega) hq (lv_sub hl [4, 5, 6, 7, 2, 1, 0] rfl)
                  · replace hq := (if_pos c_27).symm.trans hq
                    refine lv_iload_n hx hb d_S_blind_91 rfl (lv_at hl 4 rfl) ?_
                    refine zr_if_ne (tgt := 100) hx hb (zB.I g_6 (by decide) (by decide)) d_S_blind_92 (by decide) (fun c_30 => ?_) (fun c_30 => ?_)
                    · replace hq := (if_neg c_30).symm.trans hq
                      have r_31 : zB 1 1 b := ⟨(by have := g_6.1; omega), g_6.2⟩
                      refine lv_iload hx hb d_S_blind_100 (lv_at hl 7 rfl) ?_
                      refine lv_iconst (v := zi 1) hx hb d_S_blind_102 rfl ?_
                      have b_32 : zB (-1) 60 (i - 1) := zB.w (zb_sub hb_i (zb_c 1)) (by decide) (by decide)
                      refine zr_isub hx hb d_S_blind_103 ?_
                      exact zw_i hx hb hr hlocks hq ⟨k0_e_20, k1_e_20, k2_e_20, k3_e_20, zB.w hk0_e_20 (by decide) (by decide), zB.w hk1_e_20 (by decide) (by decide), zB.w hk2_e_20 (by decide) (by decide), zB.w hk3_e_20 (by decide) (by decide), hP⟩ hS d_S_blind_104
                    · replace hq := (if_pos c_30).symm.trans hq
                      have r_33 : zB 0 0 b := ⟨(Int.le_of_eq c_30.symm), (Int.le_of_eq c_30)⟩
                      refine lv_iload hx hb d_S_blind_95 (lv_at hl 6 rfl) ?_
                      refine lv_goto (tgt := 104) hx hb d_S_blind_97 (by decide) ?_
                      exact zw_i hx hb hr hlocks hq ⟨k0_e_20, k1_e_20, k2_e_20, k3_e_20, zB.w hk0_e_20 (by decide) (by decide), zB.w hk1_e_20 (by decide) (by decide), zB.w hk2_e_20 (by decide) (by decide), zB.w hk3_e_20 (by decide) (by decide), hP⟩ hS d_S_blind_104
              · replace hq := (if_neg c_21).symm.trans hq
                have r_34 : zB 1 1 (f_S_isBlind S i v) := ⟨(by have := (bb_S_isBlind S i v).1; omega), (bb_S_isBlind S i v).2⟩
                refine lv_iconst (v := zi 1) hx hb d_S_blind_52 rfl ?_
                refine lv_goto (tgt := 57) hx hb d_S_blind_53 (by decide) ?_
                refine lv_istore (lv' := [(7, .int (zi 1)), (0, .ref (ad 0)), (1, .int (zi v)), (2, .int (zi a)), (3, .int (zi b)), (4, .int (zi q)), (5, .int (zi w)), (6, .int (zi i))]) hx hb d_S_blind_57 hl (by decide) rfl (fun ls hl => ?_)
                refine lv_iload hx hb d_S_blind_59 (lv_at hl 0 rfl) ?_
                refine zr_if_eq (tgt := 74) hx hb (zB.I (zb_c 1) (by decide) (by decide)) d_S_blind_61 (by decide) (fun c => absurd c (by decide : ¬ (1 : Int) = 0)) (fun _ => ?_)
                refine lv_iload hx hb d_S_blind_64 (lv_at hl 6 rfl) ?_
                refine lv_iconst (v := zi (-1)) hx hb d_S_blind_66 rfl ?_
                refine zr_icmp_ne (tgt := 74) hx hb (zB.I hb_w (by decide) (by decide)) (zB.I (zb_c (-1)) (by decide) (by decide)) d_S_blind_67 (by decide) (fun c_35 => ?_) (fun c_35 => ?_)
                · replace hq := (if_neg c_35).symm.trans hq
                  have r_36 : zB 0 60 w := ⟨(by have := hb_w.1; omega), hb_w.2⟩
                  refine lv_iload hx hb d_S_blind_74 (lv_at hl 0 rfl) ?_
                  refine zr_if_ne (tgt := 111) hx hb (zB.I (zb_c 1) (by decide) (by decide)) d_S_blind_76 (by decide) (fun _ => ?_) (fun c => absurd c (by decide : ¬ (1 : Int) = 0))
                  have b_37 : zB 1 62 (i + 1) := zB.w (zb_add hb_i (zb_c 1)) (by decide) (by decide)
                  refine lv_iinc (v := zi (i + 1)) (lv' := [(6, .int (zi (i + 1))), (7, .int (zi 1)), (0, .ref (ad 0)), (1, .int (zi v)), (2, .int (zi a)), (3, .int (zi b)), (4, .int (zi q)), (5, .int (zi w))]) hx hb d_S_blind_111 hl (k := 7) rfl (zi_add _ _) (by decide) rfl (fun ls hl => ?_)
                  refine lv_goto (tgt := 24) hx hb d_S_blind_114 (by decide) ?_
                  exact ih q w (i + 1) ls _ _ k0_e_20 k1_e_20 k2_e_20 k3_e_20 (zB.w hk0_e_20 (by decide) (by decide)) (zB.w hk1_e_20 (by decide) (by decide)) (zB.w hk2_e_20 (by decide) (by decide)) (zB.w hk3_e_20 (by decide) (by decide)) hP hS (zB.w hb_q (by decide) (by decide)) (zB.w r_36 (by decide) (by decide)) ⟨by omega, by omega⟩ (by omega) (by omega) (by omega) (by omega) hq (lv_sub hl [2, 3, 4, 5, 6, 7, 0] rfl)
                · replace hq := (if_pos c_35).symm.trans hq
                  have r_38 : zB (-1) (-1) w := ⟨(Int.le_of_eq c_35.symm), (Int.le_of_eq c_35)⟩
                  refine lv_iload hx hb d_S_blind_70 (lv_at hl 7 rfl) ?_
                  refine lv_istore (lv' := [(5, .int (zi i)), (7, .int (zi 1)), (0, .ref (ad 0)), (1, .int (zi v)), (2, .int (zi a)), (3, .int (zi b)), (4, .int (zi q)), (6, .int (zi i))]) hx hb d_S_blind_72 hl (by decide) rfl (fun ls hl => ?_)
                  refine lv_iload hx hb d_S_blind_74 (lv_at hl 1 rfl) ?_
                  refine zr_if_ne (tgt := 111) hx hb (zB.I (zb_c 1) (by decide) (by decide)) d_S_blind_76 (by decide) (fun _ => ?_) (fun c => absurd c (by decide : ¬ (1 : Int) = 0))
                  have b_39 : zB 1 62 (i + 1) := zB.w (zb_add hb_i (zb_c 1)) (by decide) (by decide)
                  refine lv_iinc (v := zi (i + 1)) (lv' := [(6, .int (zi (i + 1))), (5, .int (zi i)), (7, .int (zi 1)), (0, .ref (ad 0)), (1, .int (zi v)), (2, .int (zi a)), (3, .int (zi b)), (4, .int (zi q))]) hx hb d_S_blind_111 hl (k := 7) rfl (zi_add _ _) (by decide) rfl (fun ls hl => ?_)
                  refine lv_goto (tgt := 24) hx hb d_S_blind_114 (by decide) ?_
                  exact ih q i (i + 1) ls _ _ k0_e_20 k1_e_20 k2_e_20 k3_e_20 (zB.w hk0_e_20 (by decide) (by decide)) (zB.w hk1_e_20 (by decide) (by decide)) (zB.w hk2_e_20 (by decide) (by decide)) (zB.w hk3_e_20 (by decide) (by decide)) hP hS (zB.w hb_q (by decide) (by decide)) ⟨by omega, by omega⟩ ⟨by omega, by omega⟩ (by omega) (by omega) (by omega) (by omega) hq (lv_sub hl [3, 4, 5, 6, 7, 1, 0] rfl)
      refine L_l _ (fun ls H locs k0 k1 k2 k3 hk0 hk1 hk2 hk3 hP hS hq hl => ?_) 62 0 (-1) 0 ls _ _ k0 k1 k2 k3 (zB.w hb_k0 (by decide) (by decide)) (zB.w hb_k1 (by decide) (by decide)) (zB.w hb_k2 (by decide) (by decide)) (zB.w hb_k3 (by decide) (by decide)) hP hS (zB.w (zb_c 0) (by decide) (by decide)) (zB.w (zb_c (-1)) (by decide) (by decide)) (zB.w (zb_c 0) (by decide) (by decide)) (by omega) (by omega) (by omega) (by omega) hq (lv_sub hl [3, 4, 5, 6, 2, 1, 0] rfl)
      refine lv_iconst (v := zi (-1)) hx hb d_S_blind_117 rfl ?_
      exact zw_i hx hb hr hlocks hq ⟨k0, k1, k2, k3, zB.w hk0 (by decide) (by decide), zB.w hk1 (by decide) (by decide), zB.w hk2 (by decide) (by decide), zB.w hk3 (by decide) (by decide), hP⟩ hS d_S_blind_118
    · replace hq := (if_pos c_4).symm.trans hq
      have r_40 : zB 0 0 (f_S_isWithin b 0 1) := ⟨(Int.le_of_eq c_4.symm), (Int.le_of_eq c_4)⟩
      refine lv_iconst (v := zi (-1)) hx hb d_S_blind_13 rfl ?_
      exact zw_i hx hb hr hlocks hq ⟨k0, k1, k2, k3, zB.w hb_k0 (by decide) (by decide), zB.w hb_k1 (by decide) (by decide), zB.w hb_k2 (by decide) (by decide), zB.w hb_k3 (by decide) (by decide), hP⟩ hS d_S_blind_14
def f_S_setBack_n (S : Nat → Int → Int) (a : Int) (b : Int) (w : Int) (i : Int) (z : Int → Int) : Nat → Int → Int → Int
  | 0, _, _ => 0
  | k + 1, u, j => if j < (S 11 0) then (if ((S 3 i) + (f_S_needWith S i 0 (S 4 i))) < (S 3 j) then (z u) else (f_S_setBack_n S a b w i z k (f_S_widened S u i j a b) (j + 1))) else (z u)
theorem f_S_setBack_n_s (S : Nat → Int → Int) (a : Int) (b : Int) (w : Int) (i : Int) (z : Int → Int) (k : Nat) (u j : Int) : f_S_setBack_n S a b w i z (k + 1) u j = (if j < (S 11 0) then (if ((S 3 i) + (f_S_needWith S i 0 (S 4 i))) < (S 3 j) then (z u) else (f_S_setBack_n S a b w i z k (f_S_widened S u i j a b) (j + 1))) else (z u)) := rfl
def f_S_setBack_o (S : Nat → Int → Int) (a : Int) (b : Int) (z : Int → Int) : Nat → Int → Int → Int
  | 0, _, _ => 0
  | k + 1, w, i => if i < a then (f_S_setBack_n S a b w i (fun u => f_S_setBack_o S a b z k u (i + 1)) 61 w (a + 1)) else (z w)
theorem f_S_setBack_o_s (S : Nat → Int → Int) (a : Int) (b : Int) (z : Int → Int) (k : Nat) (w i : Int) : f_S_setBack_o S a b z (k + 1) w i = (if i < a then (f_S_setBack_n S a b w i (fun u => f_S_setBack_o S a b z k u (i + 1)) 61 w (a + 1)) else (z w)) := rfl
def f_S_setBack (S : Nat → Int → Int) (a b : Int) : Int := if (f_S_isStation S a) = 0 then (-1) else (if (f_S_isSide b) = 0 then (-1) else (f_S_setBack_o S a b (fun w => if 1000 < w then (-1) else (w)) 61 0 0))
set_option maxHeartbeats 4000000 in
set_option maxRecDepth 100000 in
theorem k_S_setBack (l : Launch) (dC : Nat → ClassId) (dI : Nat → Nat → Nat) (ad : Nat → Nat) (cI : ClassId) (S : Nat → Int → Int) (k0 k1 k2 k3 : Int) (hI : iS S) (a b : Int) (hb_a : zB (-2147483648) 2147483647 a) (hb_b : zB (-2147483648) 2147483647 b) : Met l y_S_setBack (Cond.code y_S_setBack c_S_setBack 7 (some .int) :: zT) { frames := 3, cells := 0, slots := 0, locals := 75 } (va_Pc ([.ref (ad 0), .int (zi a), .int (zi b)] : List Value) (zWS dC dI ad cI S k0 k1 k2 k3)) (zR (.int (zi (f_S_setBack S a b)))) 0 0 (fun _ => False) := by
  refine zh (cc := c_S_setBack) (C := R_S) (by decide) rfl rfl (Nat.le_of_ble_eq_true rfl) ?_
  intro p e s m below meth c ls hx hb hr hlocks hml hown hname hts hl hB
  have hw : ∀ w9 ∈ zT, w9.before ([.ref (ad 0), .int (zi a), .int (zi b)] : List Value).toArray s = true := fun w9 h => hts w9 (List.mem_cons_of_mem _ h)
  obtain ⟨hP, hK, hN⟩ := hB
  obtain ⟨hn0, hn1⟩ := id (iS_s0 hI)
  obtain ⟨hz0, hz1⟩ := id (iS_s6 hI)
  obtain ⟨hl_a, hh_a⟩ := id hb_a
  obtain ⟨hl_b, hh_b⟩ := id hb_b
  generalize hq : f_S_setBack S a b = r
  unfold f_S_setBack at hq
  replace hl : lv_has ls 7 [(0, .ref (ad 0)), (1, .int (zi a)), (2, .int (zi b))] := hl
  refine lv_aload_n hx hb d_S_setBack_0 rfl (lv_at hl 0 rfl) ?_
  refine lv_iload_n hx hb d_S_setBack_1 rfl (lv_at hl 1 rfl) ?_
  refine zc_n (va_runV (As := [.int (zi a)]) (rest := []) ⟨hx, hb, hml, hown, hts⟩ (k_S_isStation l dC dI ad cI S k0 k1 k2 k3 hI a (zB.w hb_a (by decide) (by decide)) ) (zcV 1 hts m_84 m_1 m_82 m_83 m_374 rfl rfl q_S_isStation ⟨Nat.le_of_ble_eq_true rfl, Nat.le_of_ble_eq_true rfl⟩) (zpS0 hP hK hN [.int (zi a)]) rfl rfl hl.1 rfl (lv_room (Nat.le_of_ble_eq_true rfl)) d_S_setBack_2 ⟨Nat.zero_le _, Nat.zero_le _⟩) ?_
  refine zr_if_eq (tgt := 15) hx hb (zB.I (bb_S_isStation S a) (by decide) (by decide)) d_S_setBack_5 (by decide) (fun c_1 => ?_) (fun c_1 => ?_)
  · replace hq := (if_pos c_1).symm.trans hq
    have r_2 : zB 0 0 (f_S_isStation S a) := ⟨(Int.le_of_eq c_1.symm), (Int.le_of_eq c_1)⟩
    refine lv_iconst (v := zi (-1)) hx hb d_S_setBack_15 rfl ?_
    exact ze_i hx hb hr hlocks hq d_S_setBack_16
  · replace hq := (if_neg c_1).symm.trans hq
    have r_3 : zB 1 1 (f_S_isStation S a) := ⟨(by have := (bb_S_isStation S a).1; omega), (bb_S_isStation S a).2⟩
    have g_4 := gf_S_isStation hI c_1
    obtain ⟨g_4l, g_4h⟩ := id g_4.1
    have g_4n := g_4.2
    refine lv_iload_n hx hb d_S_setBack_8 rfl (lv_at hl 2 rfl) ?_
    refine zc_n (va_runS (As := [.int (zi b)]) (rest := []) ⟨hx, hb, hml, hown, hts⟩ (k_S_isSide l b (zB.w hb_b (by decide) (by decide)) ) (zcS 1 hts m_87 m_1 m_85 m_86 rfl rfl q_S_isSide ⟨Nat.le_of_ble_eq_true rfl, Nat.le_of_ble_eq_true rfl⟩) (zp0 [.int (zi b)]) rfl rfl hl.1 rfl (lv_room (Nat.le_of_ble_eq_true rfl)) d_S_setBack_9 ⟨Nat.zero_le _, Nat.zero_le _⟩) ?_
    refine zr_if_ne (tgt := 17) hx hb (zB.I (bb_S_isSide b) (by decide) (by decide)) d_S_setBack_12 (by decide) (fun c_5 => ?_) (fun c_5 => ?_)
    · replace hq := (if_neg c_5).symm.trans hq
      have r_6 : zB 1 1 (f_S_isSide b) := ⟨(by have := (bb_S_isSide b).1; omega), (bb_S_isSide b).2⟩
      have g_7 := gf_S_isSide c_5
      obtain ⟨g_7l, g_7h⟩ := id g_7
      refine lv_iconst (v := zi 0) hx hb d_S_setBack_17 rfl ?_
      refine lv_istore_n (lv' := [(3, .int (zi 0)), (0, .ref (ad 0)), (1, .int (zi a)), (2, .int (zi b))]) hx hb d_S_setBack_18 rfl hl (by decide) rfl (fun ls hl => ?_)
      refine lv_iconst (v := zi 0) hx hb d_S_setBack_19 rfl ?_
      refine lv_istore (lv' := [(4, .int (zi 0)), (3, .int (zi 0)), (0, .ref (ad 0)), (1, .int (zi a)), (2, .int (zi b))]) hx hb d_S_setBack_20 hl (by decide) rfl (fun ls hl => ?_)
      have L_o : ∀ (z : Int → Int), (∀ (w : Int), zB 0 1001 w → ∀ (ls : Array Slot), z w = r → lv_has ls 7 [(0, .ref (ad 0)), (1, .int (zi a)), (2, .int (zi b)), (3, .int (zi w))] → W p l e { frames := 3, cells := 0, slots := 0, locals := 75 } s m ([.ref (ad 0), .int (zi a), .int (zi b)] : List Value).toArray below meth c s.heap [] 0 0 (MQ below (zR (.int (zi r))) ([.ref (ad 0), .int (zi a), .int (zi b)] : List Value).toArray s 0 0 (fun _ => False)) (F0 m 102 ls [])) → ∀ (k : Nat) (w i : Int) (ls : Array Slot), zB 0 1001 w → zB 0 59 i → 60 - i < (k : Int) → f_S_setBack_o S a b z k w i = r → lv_has ls 7 [(0, .ref (ad 0)), (1, .int (zi a)), (2, .int (zi b)), (3, .int (zi w)), (4, .int (zi i))] → W p l e { frames := 3, cells := 0, slots := 0, locals := 75 } s m ([.ref (ad 0), .int (zi a), .int (zi b)] : List Value).toArray below meth c s.heap [] 0 0 (MQ below (zR (.int (zi r))) ([.ref (ad 0), .int (zi a), .int (zi b)] : List Value).toArray s 0 0 (fun _ => False)) (F0 m 22 ls []) := by
        intro z hz k
        induction k with
        | zero =>
          intro w i ls hb_w hb_i  hk hq hl
          exact absurd hk (by have := hb_w.1; have := hb_w.2; have := hb_i.1; have := hb_i.2; omega)
        | succ k ih =>
          intro w i ls hb_w hb_i  hk hq hl
          obtain ⟨hl_w, hh_w⟩ := id hb_w
          obtain ⟨hl_i, hh_i⟩ := id hb_i
          replace hq := (f_S_setBack_o_s S a b z k w i).symm.trans hq
          refine lv_iload hx hb d_S_setBack_22 (lv_at hl 4 rfl) ?_
          refine lv_iload_n hx hb d_S_setBack_24 rfl (lv_at hl 1 rfl) ?_
          refine zr_icmp_ge (tgt := 102) hx hb (zB.I hb_i (by decide) (by decide)) (zB.I g_4.1 (by decide) (by decide)) d_S_setBack_25 (by decide) (fun c_8 => ?_) (fun c_8 => ?_)
          · replace hq := (if_neg c_8).symm.trans hq
            exact hz w (zB.w hb_w (by decide) (by decide)) ls hq (lv_sub hl [0, 1, 2, 3] rfl)
          · replace hq := (if_pos c_8).symm.trans hq
            refine lv_aload_n hx hb d_S_setBack_28 rfl (lv_at hl 0 rfl) ?_
            refine va_get (D := (dC, dI)) (ci := 1) (v := .ref (ad 4)) (C := R_S) (T := T_S) (N := 13) hx hb hw i_S hown hK hP 0 rfl rfl 3 (by decide) (hw _ m_34) (fun _ h9 => h9) rfl d_S_setBack_29 ?_
            refine lv_iload hx hb d_S_setBack_32 (lv_at hl 4 rfl) ?_
            refine zr_iald hx hb hK hP 4 0 (cA := cI) (n := 60) (g := S 3) rfl rfl (i := i) (by omega) (by omega) (by decide) d_S_setBack_34 ?_
            refine lv_aload_n hx hb d_S_setBack_35 rfl (lv_at hl 0 rfl) ?_
            refine lv_iload hx hb d_S_setBack_36 (lv_at hl 4 rfl) ?_
            refine lv_iconst (v := zi 0) hx hb d_S_setBack_38 rfl ?_
            refine lv_aload_n hx hb d_S_setBack_39 rfl (lv_at hl 0 rfl) ?_
            refine va_get (D := (dC, dI)) (ci := 1) (v := .ref (ad 5)) (C := R_S) (T := T_S) (N := 13) hx hb hw i_S hown hK hP 0 rfl rfl 4 (by decide) (hw _ m_35) (fun _ h9 => h9) rfl d_S_setBack_40 ?_
            refine lv_iload hx hb d_S_setBack_43 (lv_at hl 4 rfl) ?_
            refine zr_iald hx hb hK hP 5 0 (cA := cI) (n := 60) (g := S 4) rfl rfl (i := i) (by omega) (by omega) (by decide) d_S_setBack_45 ?_
            refine zc_n (va_runV (As := [.int (zi i), .int (zi 0), .int (zi (S 4 i))]) (rest := [.int (zi (S 3 i))]) ⟨hx, hb, hml, hown, hts⟩ (k_S_needWith l dC dI ad cI S k0 k1 k2 k3 hI i 0 (S 4 i) (zB.w hb_i (by decide) (by decide)) (zB.w (zb_c 0) (by decide) (by decide)) (zB.w (iS_a4 hI i) (by decide) (by decide)) ) (zcV 3 hts m_161 m_1 m_159 m_160 m_385 rfl rfl q_S_needWith ⟨Nat.le_of_ble_eq_true rfl, Nat.le_of_ble_eq_true rfl⟩) (zpS0 hP hK hN [.int (zi i), .int (zi 0), .int (zi (S 4 i))]) rfl rfl hl.1 rfl (lv_room (Nat.le_of_ble_eq_true rfl)) d_S_setBack_46 ⟨Nat.zero_le _, Nat.zero_le _⟩) ?_
            have b_9 : zB 0 82716 (f_S_needWith S i 0 (S 4 i)) := br_S_needWith S i 0 (S 4 i) hI (zB.w hb_i (by decide) (by decide)) (zB.w (zb_c 0) (by decide) (by decide)) (zB.w (iS_a4 hI i) (by decide) (by decide)) 
            have b_10 : zB 0 2628336 ((S 3 i) + (f_S_needWith S i 0 (S 4 i))) := zB.w (zb_add (iS_a3 hI i) b_9) (by decide) (by decide)
            refine zr_iadd hx hb d_S_setBack_49 ?_
            refine lv_istore (lv' := [(5, .int (zi ((S 3 i) + (f_S_needWith S i 0 (S 4 i))))), (0, .ref (ad 0)), (1, .int (zi a)), (2, .int (zi b)), (3, .int (zi w)), (4, .int (zi i))]) hx hb d_S_setBack_50 hl (by decide) rfl (fun ls hl => ?_)
            refine lv_iload_n hx hb d_S_setBack_52 rfl (lv_at hl 2 rfl) ?_
            refine lv_iconst (v := zi 1) hx hb d_S_setBack_53 rfl ?_
            have b_11 : zB 1 60 (a + 1) := zB.w (zb_add g_4.1 (zb_c 1)) (by decide) (by decide)
            refine zr_iadd hx hb d_S_setBack_54 ?_
            refine lv_istore (lv' := [(6, .int (zi (a + 1))), (5, .int (zi ((S 3 i) + (f_S_needWith S i 0 (S 4 i))))), (0, .ref (ad 0)), (1, .int (zi a)), (2, .int (zi b)), (3, .int (zi w)), (4, .int (zi i))]) hx hb d_S_setBack_55 hl (by decide) rfl (fun ls hl => ?_)
            have L_n : ∀ (z : Int → Int), (∀ (u : Int), zB 0 1001 u → ∀ (ls : Array Slot), z u = r → lv_has ls 7 [(0, .ref (ad 0)), (1, .int (zi a)), (2, .int (zi b)), (3, .int (zi u)), (4, .int (zi i)), (5, .int (zi ((S 3 i) + (f_S_needWith S i 0 (S 4 i)))))] → W p l e { frames := 3, cells := 0, slots := 0, locals := 75 } s m ([.ref (ad 0), .int (zi a), .int (zi b)] : List Value).toArray below meth c s.heap [] 0 0 (MQ below (zR (.int (zi r))) ([.ref (ad 0), .int (zi a), .int (zi b)] : List Value).toArray s 0 0 (fun _ => False)) (F0 m 96 ls [])) → ∀ (k : Nat) (u j : Int) (ls : Array Slot), zB 0 1001 u → zB 1 60 j → 60 - j < (k : Int) → f_S_setBack_n S a b w i z k u j = r → lv_has ls 7 [(0, .ref (ad 0)), (1, .int (zi a)), (2, .int (zi b)), (3, .int (zi u)), (4, .int (zi i)), (5, .int (zi ((S 3 i) + (f_S_needWith S i 0 (S 4 i))))), (6, .int (zi j))] → W p l e { frames := 3, cells := 0, slots := 0, locals := 75 } s m ([.ref (ad 0), .int (zi a), .int (zi b)] : List Value).toArray below meth c s.heap [] 0 0 (MQ below (zR (.int (zi r))) ([.ref (ad 0), .int (zi a), .int (zi b)] : List Value).toArray s 0 0 (fun _ => False)) (F0 m 57 ls []) := by
              intro z hz k
              induction k with
              | zero =>
                intro u j ls hb_u hb_j  hk hq hl
                exact absurd hk (by have := hb_u.1; have := hb_u.2; have := hb_j.1; have := hb_j.2; omega)
              | succ k ih =>
                intro u j ls hb_u hb_j  hk hq hl
                obtain ⟨hl_u, hh_u⟩ := id hb_u
                obtain ⟨hl_j, hh_j⟩ := id hb_j
                replace hq := (f_S_setBack_n_s S a b w i z k u j).symm.trans hq
                refine lv_iload hx hb d_S_setBack_57 (lv_at hl 6 rfl) ?_
                refine lv_aload_n hx hb d_S_setBack_59 rfl (lv_at hl 0 rfl) ?_
                refine va_get (D := (dC, dI)) (ci := 1) (v := .int (zi (S 11 0))) (C := R_S) (T := T_S) (N := 13) hx hb hw i_S hown hK hP 0 rfl rfl 7 (by decide) (hw _ m_38) (fun _ h9 => h9) rfl d_S_setBack_60 ?_
                refine zr_icmp_ge (tgt := 96) hx hb (zB.I hb_j (by decide) (by decide)) (zB.I (iS_s0 hI) (by decide) (by decide)) d_S_setBack_63 (by decide) (fun c_12 => ?_) (fun c_12 => ?_)
                · replace hq := (if_neg c_12).symm.trans hq
                  exact hz u (zB.w hb_u (by decide) (by decide)) ls hq (lv_sub hl [0, 1, 2, 3, 4, 5] rfl)
                · replace hq := (if_pos c_12).symm.trans hq
                  refine lv_aload_n hx hb d_S_setBack_66 rfl (lv_at hl 0 rfl) ?_
                  refine va_get (D := (dC, dI)) (ci := 1) (v := .ref (ad 4)) (C := R_S) (T := T_S) (N := 13) hx hb hw i_S hown hK hP 0 rfl rfl 3 (by decide) (hw _ m_34) (fun _ h9 => h9) rfl d_S_setBack_67 ?_
                  refine lv_iload hx hb d_S_setBack_70 (lv_at hl 6 rfl) ?_
                  refine zr_iald hx hb hK hP 4 0 (cA := cI) (n := 60) (g := S 3) rfl rfl (i := j) (by omega) (by omega) (by decide) d_S_setBack_72 ?_
                  refine lv_iload hx hb d_S_setBack_73 (lv_at hl 5 rfl) ?_
                  refine zr_icmp_gt (tgt := 96) hx hb (zB.I (iS_a3 hI j) (by decide) (by decide)) (zB.I b_10 (by decide) (by decide)) d_S_setBack_75 (by decide) (fun c_13 => ?_) (fun c_13 => ?_)
                  · replace hq := (if_pos c_13).symm.trans hq
                    exact hz u (zB.w hb_u (by decide) (by decide)) ls hq (lv_sub hl [0, 1, 2, 3, 4, 5] rfl)
                  · replace hq := (if_neg c_13).symm.trans hq
                    refine lv_aload_n hx hb d_S_setBack_78 rfl (lv_at hl 0 rfl) ?_
                    refine lv_iload_n hx hb d_S_setBack_79 rfl (lv_at hl 3 rfl) ?_
                    refine lv_iload hx hb d_S_setBack_80 (lv_at hl 4 rfl) ?_
                    refine lv_iload hx hb d_S_setBack_82 (lv_at hl 6 rfl) ?_
                    refine lv_iload_n hx hb d_S_setBack_84 rfl (lv_at hl 1 rfl) ?_
                    refine lv_iload_n hx hb d_S_setBack_85 rfl (lv_at hl 2 rfl) ?_
                    refine zc_n (va_runV (As := [.int (zi u), .int (zi i), .int (zi j), .int (zi a), .int (zi b)]) (rest := []) ⟨hx, hb, hml, hown, hts⟩ (k_S_widened l dC dI ad cI S k0 k1 k2 k3 hI u i j a b (zB.w hb_u (by decide) (by decide)) (zB.w hb_i (by decide) (by decide)) ⟨by omega, by omega⟩ (zB.w g_4.1 (by decide) (by decide)) (zB.w g_7 (by decide) (by decide)) ) (zcV 5 hts m_190 m_1 m_188 m_189 m_389 rfl rfl q_S_widened ⟨Nat.le_of_ble_eq_true rfl, Nat.le_of_ble_eq_true rfl⟩) (zpS0 hP hK hN [.int (zi u), .int (zi i), .int (zi j), .int (zi a), .int (zi b)]) rfl rfl hl.1 rfl (lv_room (Nat.le_of_ble_eq_true rfl)) d_S_setBack_86 ⟨Nat.zero_le _, Nat.zero_le _⟩) ?_
                    have b_14 : zB 0 1001 (f_S_widened S u i j a b) := br_S_widened S u i j a b hI (zB.w hb_u (by decide) (by decide)) (zB.w hb_i (by decide) (by decide)) ⟨by omega, by omega⟩ (zB.w g_4.1 (by decide) (by decide)) (zB.w g_7 (by decide) (by decide)) 
                    refine lv_istore_n (lv' := [(3, .int (zi (f_S_widened S u i j a b))), (0, .ref (ad 0)), (1, .int (zi a)), (2, .int (zi b)), (4, .int (zi i)), (5, .int (zi ((S 3 i) + (f_S_needWith S i 0 (S 4 i))))), (6, .int (zi j))]) hx hb d_S_setBack_89 rfl hl (by decide) rfl (fun ls hl => ?_)
                    have b_15 : zB 2 61 (j + 1) := zB.w (zb_add hb_j (zb_c 1)) (by decide) (by decide)
                    refine lv_iinc (v := zi (j + 1)) (lv' := [(6, .int (zi (j + 1))), (3, .int (zi (f_S_widened S u i j a b))), (0, .ref (ad 0)), (1, .int (zi a)), (2, .int (zi b)), (4, .int (zi i)), (5, .int (zi ((S 3 i) + (f_S_needWith S i 0 (S 4 i)))))]) hx hb d_S_setBack_90 hl (k := 6) rfl (zi_add _ _) (by decide) rfl (fun ls hl => ?_)
                    refine lv_goto (tgt := 57) hx hb d_S_setBack_93 (by decide) ?_
                    exact ih (f_S_widened S u i j a b) (j + 1) ls (zB.w b_14 (by decide) (by decide)) ⟨by omega, by omega⟩  (by omega) hq (lv_sub hl [2, 3, 4, 1, 5, 6, 0] rfl)
            refine L_n _ (fun u hb_u ls hq hl => ?_) 61 w (a + 1) ls (zB.w hb_w (by decide) (by decide)) (zB.w b_11 (by decide) (by decide))  (by omega) hq (lv_sub hl [2, 3, 4, 5, 6, 1, 0] rfl)
            obtain ⟨hl_u, hh_u⟩ := id hb_u
            have b_16 : zB 1 60 (i + 1) := zB.w (zb_add hb_i (zb_c 1)) (by decide) (by decide)
            refine lv_iinc (v := zi (i + 1)) (lv' := [(4, .int (zi (i + 1))), (0, .ref (ad 0)), (1, .int (zi a)), (2, .int (zi b)), (3, .int (zi u)), (5, .int (zi ((S 3 i) + (f_S_needWith S i 0 (S 4 i)))))]) hx hb d_S_setBack_96 hl (k := 4) rfl (zi_add _ _) (by decide) rfl (fun ls hl => ?_)
            refine lv_goto (tgt := 22) hx hb d_S_setBack_99 (by decide) ?_
            exact ih u (i + 1) ls (zB.w hb_u (by decide) (by decide)) ⟨by omega, by omega⟩  (by omega) hq (lv_sub hl [1, 2, 3, 4, 0] rfl)
      refine L_o _ (fun w hb_w ls hq hl => ?_) 61 0 0 ls (zB.w (zb_c 0) (by decide) (by decide)) (zB.w (zb_c 0) (by decide) (by decide))  (by omega) hq (lv_sub hl [2, 3, 4, 1, 0] rfl)
      obtain ⟨hl_w, hh_w⟩ := id hb_w
      refine lv_iload_n hx hb d_S_setBack_102 rfl (lv_at hl 3 rfl) ?_
      refine lv_sipush (v := zi 1000) hx hb d_S_setBack_103 (by decide) ?_
      refine zr_icmp_le (tgt := 113) hx hb (zB.I hb_w (by decide) (by decide)) (zB.I (zb_c 1000) (by decide) (by decide)) d_S_setBack_106 (by decide) (fun c_17 => ?_) (fun c_17 => ?_)
      · replace hq := (if_neg c_17).symm.trans hq
        have r_18 : zB 0 1000 w := ⟨hb_w.1, (Int.not_lt.mp c_17)⟩
        refine lv_iload_n hx hb d_S_setBack_113 rfl (lv_at hl 3 rfl) ?_
        exact ze_i hx hb hr hlocks hq d_S_setBack_114
      · replace hq := (if_pos c_17).symm.trans hq
        have r_19 : zB 1001 1001 w := ⟨(Int.add_one_le_of_lt c_17), hb_w.2⟩
        refine lv_iconst (v := zi (-1)) hx hb d_S_setBack_109 rfl ?_
        refine lv_goto (tgt := 114) hx hb d_S_setBack_110 (by decide) ?_
        exact ze_i hx hb hr hlocks hq d_S_setBack_114
    · replace hq := (if_pos c_5).symm.trans hq
      have r_20 : zB 0 0 (f_S_isSide b) := ⟨(Int.le_of_eq c_5.symm), (Int.le_of_eq c_5)⟩
      refine lv_iconst (v := zi (-1)) hx hb d_S_setBack_15 rfl ?_
      exact ze_i hx hb hr hlocks hq d_S_setBack_16
def f_S_allowed_l (S : Nat → Int → Int) (a : Int) (v : Int) (z : Int) : Nat → Int → Int
  | 0, _ => 0
  | k + 1, x => if 0 < x then (if (f_S_sightFrom S a v) < (f_S_needWith S a v x) then (if (f_S_roadBeyond S a v) < (f_S_needWith S a v x) then (x) else (f_S_allowed_l S a v z k (x + (-5)))) else (x)) else (z)
theorem f_S_allowed_l_s (S : Nat → Int → Int) (a : Int) (v : Int) (z : Int) (k : Nat) (x : Int) : f_S_allowed_l S a v z (k + 1) x = (if 0 < x then (if (f_S_sightFrom S a v) < (f_S_needWith S a v x) then (if (f_S_roadBeyond S a v) < (f_S_needWith S a v x) then (x) else (f_S_allowed_l S a v z k (x + (-5)))) else (x)) else (z)) := rfl
def f_S_allowed (S : Nat → Int → Int) (a v : Int) : Int := if (f_S_isStation S a) = 0 then (-1) else (f_S_allowed_l S a v (0) 136 130)
set_option maxHeartbeats 4000000 in
set_option maxRecDepth 100000 in
theorem k_S_allowed (l : Launch) (dC : Nat → ClassId) (dI : Nat → Nat → Nat) (ad : Nat → Nat) (cI : ClassId) (S : Nat → Int → Int) (k0 k1 k2 k3 : Int) (hI : iS S) (hj : zJ 13 ad) (hb_k0 : zB (-30000) 30000 k0) (hb_k1 : zB (-30000) 30000 k1) (hb_k2 : zB (-30000) 30000 k2) (hb_k3 : zB (-30000) 30000 k3) (a v : Int) (hb_a : zB (-2147483648) 2147483647 a) (hb_v : zB 0 1 v) : Met l y_S_allowed (Cond.code y_S_allowed c_S_allowed 7 (some .int) :: zT) { frames := 5, cells := 0, slots := 0, locals := 121 } (va_Pc ([.ref (ad 0), .int (zi a), .int (zi v)] : List Value) (zWS dC dI ad cI S k0 k1 k2 k3)) (zQ (some (.int (zi (f_S_allowed S a v)))) (fun H => ∃ k0 k1 k2 k3 : Int, zB (-30000) 30000 k0 ∧ zB (-30000) 30000 k1 ∧ zB (-30000) 30000 k2 ∧ zB (-30000) 30000 k3 ∧ va_P (dC, dI) classes (wS ad cI S k0 k1 k2 k3) H) (zAS ad)) 0 0 (zAS ad) := by
  refine zh (cc := c_S_allowed) (C := R_S) (by decide) rfl rfl (Nat.le_of_ble_eq_true rfl) ?_
  intro p e s m below meth c ls hx hb hr hlocks hml hown hname hts hl hB
  have hw : ∀ w9 ∈ zT, w9.before ([.ref (ad 0), .int (zi a), .int (zi v)] : List Value).toArray s = true := fun w9 h => hts w9 (List.mem_cons_of_mem _ h)
  obtain ⟨hP, hK, hN⟩ := hB
  obtain ⟨hn0, hn1⟩ := id (iS_s0 hI)
  have hD := zDS hj cI
  have hS : va_S (zAS ad) s.heap s.heap [] := va_S.rf
  obtain ⟨hz0, hz1⟩ := id (iS_s6 hI)
  obtain ⟨hl_a, hh_a⟩ := id hb_a
  obtain ⟨hl_v, hh_v⟩ := id hb_v
  generalize hq : f_S_allowed S a v = r
  unfold f_S_allowed at hq
  replace hl : lv_has ls 7 [(0, .ref (ad 0)), (1, .int (zi a)), (2, .int (zi v))] := hl
  refine lv_aload_n hx hb d_S_allowed_0 rfl (lv_at hl 0 rfl) ?_
  refine lv_iload_n hx hb d_S_allowed_1 rfl (lv_at hl 1 rfl) ?_
  refine zc_n (va_runV (As := [.int (zi a)]) (rest := []) ⟨hx, hb, hml, hown, hts⟩ (k_S_isStation l dC dI ad cI S k0 k1 k2 k3 hI a (zB.w hb_a (by decide) (by decide)) ) (zcV 1 hts m_84 m_1 m_82 m_83 m_374 rfl rfl q_S_isStation ⟨Nat.le_of_ble_eq_true rfl, Nat.le_of_ble_eq_true rfl⟩) (zpS0 hP hK hN [.int (zi a)]) rfl rfl hl.1 rfl (lv_room (Nat.le_of_ble_eq_true rfl)) d_S_allowed_2 ⟨Nat.zero_le _, Nat.zero_le _⟩) ?_
  refine zr_if_ne (tgt := 10) hx hb (zB.I (bb_S_isStation S a) (by decide) (by decide)) d_S_allowed_5 (by decide) (fun c_1 => ?_) (fun c_1 => ?_)
  · replace hq := (if_neg c_1).symm.trans hq
    have r_2 : zB 1 1 (f_S_isStation S a) := ⟨(by have := (bb_S_isStation S a).1; omega), (bb_S_isStation S a).2⟩
    have g_3 := gf_S_isStation hI c_1
    obtain ⟨g_3l, g_3h⟩ := id g_3.1
    have g_3n := g_3.2
    refine lv_aload_n hx hb d_S_allowed_10 rfl (lv_at hl 0 rfl) ?_
    refine lv_iload_n hx hb d_S_allowed_11 rfl (lv_at hl 1 rfl) ?_
    refine lv_iload_n hx hb d_S_allowed_12 rfl (lv_at hl 2 rfl) ?_
    refine zc_w (va_runV (As := [.int (zi a), .int (zi v)]) (rest := []) ⟨hx, hb, hml, hown, hts⟩ (k_S_sightFrom l dC dI ad cI S k0 k1 k2 k3 hI hj (zB.w hb_k0 (by decide) (by decide)) (zB.w hb_k1 (by decide) (by decide)) (zB.w hb_k2 (by decide) (by decide)) (zB.w hb_k3 (by decide) (by decide)) a v (zB.w g_3.1 (by decide) (by decide)) (zB.w hb_v (by decide) (by decide)) ) (zcV 2 hts m_154 m_1 m_152 m_153 m_384 rfl rfl q_S_sightFrom ⟨Nat.le_of_ble_eq_true rfl, Nat.le_of_ble_eq_true rfl⟩) (zpS0 hP hK hN [.int (zi a), .int (zi v)]) rfl rfl hl.1 rfl (lv_room (Nat.le_of_ble_eq_true rfl)) d_S_allowed_13 ⟨Nat.zero_le _, Nat.zero_le _⟩) hS (fun q _ h => h) (fun q h => h) (fun H locs hP hz1 hk1 hS => ?_)
    clear hz1 hk1
    obtain ⟨k0_e_4, k1_e_4, k2_e_4, k3_e_4, hk0_e_4, hk1_e_4, hk2_e_4, hk3_e_4, hP⟩ := hP
    have b_5 : zB 0 2545620 (f_S_sightFrom S a v) := br_S_sightFrom S a v hI (zB.w g_3.1 (by decide) (by decide)) (zB.w hb_v (by decide) (by decide)) 
    refine lv_istore_n (lv' := [(3, .int (zi (f_S_sightFrom S a v))), (0, .ref (ad 0)), (1, .int (zi a)), (2, .int (zi v))]) hx hb d_S_allowed_16 rfl hl (by decide) rfl (fun ls hl => ?_)
    refine lv_aload_n hx hb d_S_allowed_17 rfl (lv_at hl 1 rfl) ?_
    refine lv_iload_n hx hb d_S_allowed_18 rfl (lv_at hl 2 rfl) ?_
    refine lv_iload_n hx hb d_S_allowed_19 rfl (lv_at hl 3 rfl) ?_
    refine zc_n (va_runV (As := [.int (zi a), .int (zi v)]) (rest := []) ⟨hx, hb, hml, hown, hts⟩ (k_S_roadBeyond l dC dI ad cI S k0_e_4 k1_e_4 k2_e_4 k3_e_4 hI a v (zB.w g_3.1 (by decide) (by decide)) (zB.w hb_v (by decide) (by decide)) (by omega)) (zcV 2 hts m_183 m_1 m_181 m_182 m_388 rfl rfl q_S_roadBeyond ⟨Nat.le_of_ble_eq_true rfl, Nat.le_of_ble_eq_true rfl⟩) (zpS0 hP hK hN [.int (zi a), .int (zi v)]) rfl rfl hl.1 rfl (lv_room (Nat.le_of_ble_eq_true rfl)) d_S_allowed_20 ⟨Nat.zero_le _, Nat.zero_le _⟩) ?_
    have b_6 : zB (-2545620) 2545620 (f_S_roadBeyond S a v) := br_S_roadBeyond S a v hI (zB.w g_3.1 (by decide) (by decide)) (zB.w hb_v (by decide) (by decide)) (by omega)
    refine lv_istore (lv' := [(4, .int (zi (f_S_roadBeyond S a v))), (3, .int (zi (f_S_sightFrom S a v))), (0, .ref (ad 0)), (1, .int (zi a)), (2, .int (zi v))]) hx hb d_S_allowed_23 hl (by decide) rfl (fun ls hl => ?_)
    refine lv_sipush (v := zi 130) hx hb d_S_allowed_25 (by decide) ?_
    refine lv_istore (lv' := [(5, .int (zi 130)), (4, .int (zi (f_S_roadBeyond S a v))), (3, .int (zi (f_S_sightFrom S a v))), (0, .ref (ad 0)), (1, .int (zi a)), (2, .int (zi v))]) hx hb d_S_allowed_28 hl (by decide) rfl (fun ls hl => ?_)
    have L_l : ∀ (z : Int), (∀ (ls : Array Slot) (H : Heap) (locs : List Loc) (k0 k1 k2 k3 : Int), zB (-30000) 30000 k0 → zB (-30000) 30000 k1 → zB (-30000) 30000 k2 → zB (-30000) 30000 k3 → va_P (dC, dI) classes (wS ad cI S k0 k1 k2 k3) H → va_S (zAS ad) s.heap H locs → z = r → lv_has ls 7 [(0, .ref (ad 0)), (1, .int (zi a)), (2, .int (zi v)), (3, .int (zi (f_S_sightFrom S a v))), (4, .int (zi (f_S_roadBeyond S a v)))] → W p l e { frames := 5, cells := 0, slots := 0, locals := 121 } s m ([.ref (ad 0), .int (zi a), .int (zi v)] : List Value).toArray below meth c H locs 0 0 (MQ below (zQ (some (.int (zi r))) (fun H => ∃ k0 k1 k2 k3 : Int, zB (-30000) 30000 k0 ∧ zB (-30000) 30000 k1 ∧ zB (-30000) 30000 k2 ∧ zB (-30000) 30000 k3 ∧ va_P (dC, dI) classes (wS ad cI S k0 k1 k2 k3) H) (zAS ad)) ([.ref (ad 0), .int (zi a), .int (zi v)] : List Value).toArray s 0 0 (zAS ad)) (F0 m 67 ls [])) → ∀ (k : Nat) (x : Int) (ls : Array Slot) (H : Heap) (locs : List Loc) (k0 k1 k2 k3 : Int), zB (-30000) 30000 k0 → zB (-30000) 30000 k1 → zB (-30000) 30000 k2 → zB (-30000) 30000 k3 → va_P (dC, dI) classes (wS ad cI S k0 k1 k2 k3) H → va_S (zAS ad) s.heap H locs → zB (-4) 130 x → x + 5 < (k : Int) → f_S_allowed_l S a v z k x = r → lv_has ls 7 [(0, .ref (ad 0)), (1, .int (zi a)), (2, .int (zi v)), (3, .int (zi (f_S_sightFrom S a v))), (4, .int (zi (f_S_roadBeyond S a v))), (5, .int (zi x))] → W p l e { frames := 5, cells := 0, slots := 0, locals := 121 } s m ([.ref (ad 0), .int (zi a), .int (zi v)] : List Value).toArray below meth c H locs 0 0 (MQ below (zQ (some (.int (zi r))) (fun H => ∃ k0 k1 k2 k3 : Int, zB (-30000) 30000 k0 ∧ zB (-30000) 30000 k1 ∧ zB (-30000) 30000 k2 ∧ zB (-30000) 30000 k3 ∧ va_P (dC, dI) classes (wS ad cI S k0 k1 k2 k3) H) (zAS ad)) ([.ref (ad 0), .int (zi a), .int (zi v)] : List Value).toArray s 0 0 (zAS ad)) (F0 m 30 ls []) := by
      intro z hz k
      induction k with
      | zero =>
        intro x ls H locs k0 k1 k2 k3 hk0 hk1 hk2 hk3 hP hS hb_x  hk hq hl
        exact absurd hk (by have := hb_x.1; have := hb_x.2; omega)
      | succ k ih =>
        intro x ls H locs k0 k1 k2 k3 hk0 hk1 hk2 hk3 hP hS hb_x  hk hq hl
        obtain ⟨hl_x, hh_x⟩ := id hb_x
        replace hq := (f_S_allowed_l_s S a v z k x).symm.trans hq
        refine lv_iload hx hb d_S_allowed_30 (lv_at hl 5 rfl) ?_
        refine zr_if_le (tgt := 67) hx hb (zB.I hb_x (by decide) (by decide)) d_S_allowed_32 (by decide) (fun c_7 => ?_) (fun c_7 => ?_)
        · replace hq := (if_neg c_7).symm.trans hq
          have r_8 : zB (-4) 0 x := ⟨hb_x.1, (Int.not_lt.mp c_7)⟩
          exact hz ls _ _ k0 k1 k2 k3 (zB.w hk0 (by decide) (by decide)) (zB.w hk1 (by decide) (by decide)) (zB.w hk2 (by decide) (by decide)) (zB.w hk3 (by decide) (by decide)) hP hS hq (lv_sub hl [0, 1, 2, 3, 4] rfl)
        · replace hq := (if_pos c_7).symm.trans hq
          have r_9 : zB 1 130 x := ⟨(Int.add_one_le_of_lt c_7), hb_x.2⟩
          refine lv_aload_n hx hb d_S_allowed_35 rfl (lv_at hl 0 rfl) ?_
          refine lv_iload_n hx hb d_S_allowed_36 rfl (lv_at hl 1 rfl) ?_
          refine lv_iload_n hx hb d_S_allowed_37 rfl (lv_at hl 2 rfl) ?_
          refine lv_iload hx hb d_S_allowed_38 (lv_at hl 5 rfl) ?_
          refine zc_n (va_runV (As := [.int (zi a), .int (zi v), .int (zi x)]) (rest := []) ⟨hx, hb, hml, hown, hts⟩ (k_S_needWith l dC dI ad cI S k0 k1 k2 k3 hI a v x (zB.w g_3.1 (by decide) (by decide)) (zB.w hb_v (by decide) (by decide)) (zB.w r_9 (by decide) (by decide)) ) (zcV 3 hts m_161 m_1 m_159 m_160 m_385 rfl rfl q_S_needWith ⟨Nat.le_of_ble_eq_true rfl, Nat.le_of_ble_eq_true rfl⟩) (zpS0 hP hK hN [.int (zi a), .int (zi v), .int (zi x)]) rfl rfl hl.1 rfl (lv_room (Nat.le_of_ble_eq_true rfl)) d_S_allowed_40 ⟨Nat.zero_le _, Nat.zero_le _⟩) ?_
          have b_10 : zB 0 82716 (f_S_needWith S a v x) := br_S_needWith S a v x hI (zB.w g_3.1 (by decide) (by decide)) (zB.w hb_v (by decide) (by decide)) (zB.w r_9 (by decide) (by decide)) 
          refine lv_istore (lv' := [(6, .int (zi (f_S_needWith S a v x))), (0, .ref (ad 0)), (1, .int (zi a)), (2, .int (zi v)), (3, .int (zi (f_S_sightFrom S a v))), (4, .int (zi (f_S_roadBeyond S a v))), (5, .int (zi x))]) hx hb d_S_allowed_43 hl (by decide) rfl (fun ls hl => ?_)
          refine lv_iload hx hb d_S_allowed_45 (lv_at hl 0 rfl) ?_
          refine lv_iload_n hx hb d_S_allowed_47 rfl (lv_at hl 4 rfl) ?_
          refine zr_icmp_le (tgt := 58) hx hb (zB.I b_10 (by decide) (by decide)) (zB.I b_5 (by decide) (by decide)) d_S_allowed_48 (by decide) (fun c_11 => ?_) (fun c_11 => ?_)
          · replace hq := (if_neg c_11).symm.trans hq
            refine lv_iload hx hb d_S_allowed_58 (lv_at hl 6 rfl) ?_
            exact zw_i hx hb hr hlocks hq ⟨k0, k1, k2, k3, zB.w hk0 (by decide) (by decide), zB.w hk1 (by decide) (by decide), zB.w hk2 (by decide) (by decide), zB.w hk3 (by decide) (by decide), hP⟩ hS d_S_allowed_60
          · replace hq := (if_pos c_11).symm.trans hq
            refine lv_iload hx hb d_S_allowed_51 (lv_at hl 5 rfl) ?_
            refine lv_iload hx hb d_S_allowed_53 (lv_at hl 0 rfl) ?_
            refine zr_icmp_ge (tgt := 61) hx hb (zB.I b_6 (by decide) (by decide)) (zB.I b_10 (by decide) (by decide)) d_S_allowed_55 (by decide) (fun c_12 => ?_) (fun c_12 => ?_)
            · replace hq := (if_neg c_12).symm.trans hq
              have b_13 : zB (-4) 125 (x + (-5)) := zB.w (zb_add r_9 (zb_c (-5))) (by decide) (by decide)
              refine lv_iinc (v := zi (x + (-5))) (lv' := [(5, .int (zi (x + (-5)))), (6, .int (zi (f_S_needWith S a v x))), (0, .ref (ad 0)), (1, .int (zi a)), (2, .int (zi v)), (3, .int (zi (f_S_sightFrom S a v))), (4, .int (zi (f_S_roadBeyond S a v)))]) hx hb d_S_allowed_61 hl (k := 6) rfl (zi_add _ _) (by decide) rfl (fun ls hl => ?_)
              refine lv_goto (tgt := 30) hx hb d_S_allowed_64 (by decide) ?_
              exact ih (x + (-5)) ls _ _ k0 k1 k2 k3 (zB.w hk0 (by decide) (by decide)) (zB.w hk1 (by decide) (by decide)) (zB.w hk2 (by decide) (by decide)) (zB.w hk3 (by decide) (by decide)) hP hS (zB.w b_13 (by decide) (by decide))  (by omega) hq (lv_sub hl [2, 3, 4, 5, 6, 0] rfl)
            · replace hq := (if_pos c_12).symm.trans hq
              refine lv_iload hx hb d_S_allowed_58 (lv_at hl 6 rfl) ?_
              exact zw_i hx hb hr hlocks hq ⟨k0, k1, k2, k3, zB.w hk0 (by decide) (by decide), zB.w hk1 (by decide) (by decide), zB.w hk2 (by decide) (by decide), zB.w hk3 (by decide) (by decide), hP⟩ hS d_S_allowed_60
    refine L_l _ (fun ls H locs k0 k1 k2 k3 hk0 hk1 hk2 hk3 hP hS hq hl => ?_) 136 130 ls _ _ k0_e_4 k1_e_4 k2_e_4 k3_e_4 (zB.w hk0_e_4 (by decide) (by decide)) (zB.w hk1_e_4 (by decide) (by decide)) (zB.w hk2_e_4 (by decide) (by decide)) (zB.w hk3_e_4 (by decide) (by decide)) hP hS (zB.w (zb_c 130) (by decide) (by decide))  (by omega) hq (lv_sub hl [3, 4, 5, 2, 1, 0] rfl)
    refine lv_iconst (v := zi 0) hx hb d_S_allowed_67 rfl ?_
    exact zw_i hx hb hr hlocks hq ⟨k0, k1, k2, k3, zB.w hk0 (by decide) (by decide), zB.w hk1 (by decide) (by decide), zB.w hk2 (by decide) (by decide), zB.w hk3 (by decide) (by decide), hP⟩ hS d_S_allowed_68
  · replace hq := (if_pos c_1).symm.trans hq
    have r_14 : zB 0 0 (f_S_isStation S a) := ⟨(Int.le_of_eq c_1.symm), (Int.le_of_eq c_1)⟩
    refine lv_iconst (v := zi (-1)) hx hb d_S_allowed_8 rfl ?_
    exact zw_i hx hb hr hlocks hq ⟨k0, k1, k2, k3, zB.w hb_k0 (by decide) (by decide), zB.w hb_k1 (by decide) (by decide), zB.w hb_k2 (by decide) (by decide), zB.w hb_k3 (by decide) (by decide), hP⟩ hS d_S_allowed_9
def f_S_overtake_l (S : Nat → Int → Int) (a : Int) (z : Int → Int) : Nat → Int → Int → Int → Int
  | 0, _, _, _ => 0
  | k + 1, w, t, i => if i < (S 11 0) then (if (f_S_sightFrom S i 0) < a then (f_S_overtake_l S a z k w (-1) (i + 1)) else (if t = (-1) then (f_S_overtake_l S a z k (zmax w ((S 3 i) - (S 3 i))) i (i + 1)) else (f_S_overtake_l S a z k (zmax w ((S 3 i) - (S 3 t))) t (i + 1)))) else (z w)
theorem f_S_overtake_l_s (S : Nat → Int → Int) (a : Int) (z : Int → Int) (k : Nat) (w t i : Int) : f_S_overtake_l S a z (k + 1) w t i = (if i < (S 11 0) then (if (f_S_sightFrom S i 0) < a then (f_S_overtake_l S a z k w (-1) (i + 1)) else (if t = (-1) then (f_S_overtake_l S a z k (zmax w ((S 3 i) - (S 3 i))) i (i + 1)) else (f_S_overtake_l S a z k (zmax w ((S 3 i) - (S 3 t))) t (i + 1)))) else (z w)) := rfl
def f_S_overtake (S : Nat → Int → Int) (a : Int) : Int := if (f_S_isWithin a 1 1000000) = 0 then (-1) else (f_S_overtake_l S a (fun w => w) 61 0 (-1) 0)
set_option maxHeartbeats 4000000 in
set_option maxRecDepth 100000 in
theorem k_S_overtake (l : Launch) (dC : Nat → ClassId) (dI : Nat → Nat → Nat) (ad : Nat → Nat) (cI : ClassId) (S : Nat → Int → Int) (k0 k1 k2 k3 : Int) (hI : iS S) (hj : zJ 13 ad) (hb_k0 : zB (-30000) 30000 k0) (hb_k1 : zB (-30000) 30000 k1) (hb_k2 : zB (-30000) 30000 k2) (hb_k3 : zB (-30000) 30000 k3) (a : Int) (hb_a : zB (-2147483648) 2147483647 a) : Met l y_S_overtake (Cond.code y_S_overtake c_S_overtake 5 (some .int) :: zT) { frames := 5, cells := 0, slots := 0, locals := 121 } (va_Pc ([.ref (ad 0), .int (zi a)] : List Value) (zWS dC dI ad cI S k0 k1 k2 k3)) (zQ (some (.int (zi (f_S_overtake S a)))) (fun H => ∃ k0 k1 k2 k3 : Int, zB (-30000) 30000 k0 ∧ zB (-30000) 30000 k1 ∧ zB (-30000) 30000 k2 ∧ zB (-30000) 30000 k3 ∧ va_P (dC, dI) classes (wS ad cI S k0 k1 k2 k3) H) (zAS ad)) 0 0 (zAS ad) := by
  refine zh (cc := c_S_overtake) (C := R_S) (by decide) rfl rfl (Nat.le_of_ble_eq_true rfl) ?_
  intro p e s m below meth c ls hx hb hr hlocks hml hown hname hts hl hB
  have hw : ∀ w9 ∈ zT, w9.before ([.ref (ad 0), .int (zi a)] : List Value).toArray s = true := fun w9 h => hts w9 (List.mem_cons_of_mem _ h)
  obtain ⟨hP, hK, hN⟩ := hB
  obtain ⟨hn0, hn1⟩ := id (iS_s0 hI)
  have hD := zDS hj cI
  have hS : va_S (zAS ad) s.heap s.heap [] := va_S.rf
  obtain ⟨hz0, hz1⟩ := id (iS_s6 hI)
  obtain ⟨hl_a, hh_a⟩ := id hb_a
  generalize hq : f_S_overtake S a = r
  unfold f_S_overtake at hq
  replace hl : lv_has ls 5 [(0, .ref (ad 0)), (1, .int (zi a))] := hl
  refine lv_iload_n hx hb d_S_overtake_0 rfl (lv_at hl 1 rfl) ?_
  refine lv_iconst (v := zi 1) hx hb d_S_overtake_1 rfl ?_
  refine lv_ldc (v := zi 1000000) hx hb hown (hw _ m_199) d_S_overtake_2 ?_
  refine zc_n (va_runS (As := [.int (zi a), .int (zi 1), .int (zi 1000000)]) (rest := []) ⟨hx, hb, hml, hown, hts⟩ (k_S_isWithin l a 1 1000000 (zB.w hb_a (by decide) (by decide)) (zB.w (zb_c 1) (by decide) (by decide)) (zB.w (zb_c 1000000) (by decide) (by decide)) ) (zcS 3 hts m_53 m_1 m_51 m_52 rfl rfl q_S_isWithin ⟨Nat.le_of_ble_eq_true rfl, Nat.le_of_ble_eq_true rfl⟩) (zp0 [.int (zi a), .int (zi 1), .int (zi 1000000)]) rfl rfl hl.1 rfl (lv_room (Nat.le_of_ble_eq_true rfl)) d_S_overtake_4 ⟨Nat.zero_le _, Nat.zero_le _⟩) ?_
  refine zr_if_ne (tgt := 12) hx hb (zB.I (bb_S_isWithin a 1 1000000) (by decide) (by decide)) d_S_overtake_7 (by decide) (fun c_1 => ?_) (fun c_1 => ?_)
  · replace hq := (if_neg c_1).symm.trans hq
    have r_2 : zB 1 1 (f_S_isWithin a 1 1000000) := ⟨(by have := (bb_S_isWithin a 1 1000000).1; omega), (bb_S_isWithin a 1 1000000).2⟩
    have g_3 := gf_S_isWithin c_1
    obtain ⟨g_3l, g_3h⟩ := id g_3
    refine lv_iconst (v := zi 0) hx hb d_S_overtake_12 rfl ?_
    refine lv_istore_n (lv' := [(2, .int (zi 0)), (0, .ref (ad 0)), (1, .int (zi a))]) hx hb d_S_overtake_13 rfl hl (by decide) rfl (fun ls hl => ?_)
    refine lv_iconst (v := zi (-1)) hx hb d_S_overtake_14 rfl ?_
    refine lv_istore_n (lv' := [(3, .int (zi (-1))), (2, .int (zi 0)), (0, .ref (ad 0)), (1, .int (zi a))]) hx hb d_S_overtake_15 rfl hl (by decide) rfl (fun ls hl => ?_)
    refine lv_iconst (v := zi 0) hx hb d_S_overtake_16 rfl ?_
    refine lv_istore (lv' := [(4, .int (zi 0)), (3, .int (zi (-1))), (2, .int (zi 0)), (0, .ref (ad 0)), (1, .int (zi a))]) hx hb d_S_overtake_17 hl (by decide) rfl (fun ls hl => ?_)
    have L_l : ∀ (z : Int → Int), (∀ (w : Int), zB 0 2545620 w → ∀ (ls : Array Slot) (H : Heap) (locs : List Loc) (k0 k1 k2 k3 : Int), zB (-30000) 30000 k0 → zB (-30000) 30000 k1 → zB (-30000) 30000 k2 → zB (-30000) 30000 k3 → va_P (dC, dI) classes (wS ad cI S k0 k1 k2 k3) H → va_S (zAS ad) s.heap H locs → z w = r → lv_has ls 5 [(0, .ref (ad 0)), (1, .int (zi a)), (2, .int (zi w))] → W p l e { frames := 5, cells := 0, slots := 0, locals := 121 } s m ([.ref (ad 0), .int (zi a)] : List Value).toArray below meth c H locs 0 0 (MQ below (zQ (some (.int (zi r))) (fun H => ∃ k0 k1 k2 k3 : Int, zB (-30000) 30000 k0 ∧ zB (-30000) 30000 k1 ∧ zB (-30000) 30000 k2 ∧ zB (-30000) 30000 k3 ∧ va_P (dC, dI) classes (wS ad cI S k0 k1 k2 k3) H) (zAS ad)) ([.ref (ad 0), .int (zi a)] : List Value).toArray s 0 0 (zAS ad)) (F0 m 81 ls [])) → ∀ (k : Nat) (w t i : Int) (ls : Array Slot) (H : Heap) (locs : List Loc) (k0 k1 k2 k3 : Int), zB (-30000) 30000 k0 → zB (-30000) 30000 k1 → zB (-30000) 30000 k2 → zB (-30000) 30000 k3 → va_P (dC, dI) classes (wS ad cI S k0 k1 k2 k3) H → va_S (zAS ad) s.heap H locs → zB 0 2545620 w → zB (-1) 59 t → zB 0 60 i → i ≤ S 11 0 → 60 - i < (k : Int) → f_S_overtake_l S a z k w t i = r → lv_has ls 5 [(0, .ref (ad 0)), (1, .int (zi a)), (2, .int (zi w)), (3, .int (zi t)), (4, .int (zi i))] → W p l e { frames := 5, cells := 0, slots := 0, locals := 121 } s m ([.ref (ad 0), .int (zi a)] : List Value).toArray below meth c H locs 0 0 (MQ below (zQ (some (.int (zi r))) (fun H => ∃ k0 k1 k2 k3 : Int, zB (-30000) 30000 k0 ∧ zB (-30000) 30000 k1 ∧ zB (-30000) 30000 k2 ∧ zB (-30000) 30000 k3 ∧ va_P (dC, dI) classes (wS ad cI S k0 k1 k2 k3) H) (zAS ad)) ([.ref (ad 0), .int (zi a)] : List Value).toArray s 0 0 (zAS ad)) (F0 m 19 ls []) := by
      intro z hz k
      induction k with
      | zero =>
        intro w t i ls H locs k0 k1 k2 k3 hk0 hk1 hk2 hk3 hP hS hb_w hb_t hb_i hi_0 hk hq hl
        exact absurd hk (by have := hb_w.1; have := hb_w.2; have := hb_t.1; have := hb_t.2; have := hb_i.1; have := hb_i.2; omega)
      | succ k ih =>
        intro w t i ls H locs k0 k1 k2 k3 hk0 hk1 hk2 hk3 hP hS hb_w hb_t hb_i hi_0 hk hq hl
        obtain ⟨hl_w, hh_w⟩ := id hb_w
        obtain ⟨hl_t, hh_t⟩ := id hb_t
        obtain ⟨hl_i, hh_i⟩ := id hb_i
        replace hq := (f_S_overtake_l_s S a z k w t i).symm.trans hq
        refine lv_iload hx hb d_S_overtake_19 (lv_at hl 4 rfl) ?_
        refine lv_aload_n hx hb d_S_overtake_21 rfl (lv_at hl 0 rfl) ?_
        refine va_get (D := (dC, dI)) (ci := 1) (v := .int (zi (S 11 0))) (C := R_S) (T := T_S) (N := 13) hx hb hw i_S hown hK hP 0 rfl rfl 7 (by decide) (hw _ m_38) (fun _ h9 => h9) rfl d_S_overtake_22 ?_
        refine zr_icmp_ge (tgt := 81) hx hb (zB.I hb_i (by decide) (by decide)) (zB.I (iS_s0 hI) (by decide) (by decide)) d_S_overtake_25 (by decide) (fun c_4 => ?_) (fun c_4 => ?_)
        · replace hq := (if_neg c_4).symm.trans hq
          exact hz w (zB.w hb_w (by decide) (by decide)) ls _ _ k0 k1 k2 k3 (zB.w hk0 (by decide) (by decide)) (zB.w hk1 (by decide) (by decide)) (zB.w hk2 (by decide) (by decide)) (zB.w hk3 (by decide) (by decide)) hP hS hq (lv_sub hl [0, 1, 2] rfl)
        · replace hq := (if_pos c_4).symm.trans hq
          refine lv_aload_n hx hb d_S_overtake_28 rfl (lv_at hl 0 rfl) ?_
          refine lv_iload hx hb d_S_overtake_29 (lv_at hl 4 rfl) ?_
          refine lv_iconst (v := zi 0) hx hb d_S_overtake_31 rfl ?_
          refine zc_w (va_runV (As := [.int (zi i), .int (zi 0)]) (rest := []) ⟨hx, hb, hml, hown, hts⟩ (k_S_sightFrom l dC dI ad cI S k0 k1 k2 k3 hI hj (zB.w hk0 (by decide) (by decide)) (zB.w hk1 (by decide) (by decide)) (zB.w hk2 (by decide) (by decide)) (zB.w hk3 (by decide) (by decide)) i 0 ⟨by omega, by omega⟩ (zB.w (zb_c 0) (by decide) (by decide)) ) (zcV 2 hts m_154 m_1 m_152 m_153 m_384 rfl rfl q_S_sightFrom ⟨Nat.le_of_ble_eq_true rfl, Nat.le_of_ble_eq_true rfl⟩) (zpS0 hP hK hN [.int (zi i), .int (zi 0)]) rfl rfl hl.1 rfl (lv_room (Nat.le_of_ble_eq_true rfl)) d_S_overtake_32 ⟨Nat.zero_le _, Nat.zero_le _⟩) hS (fun q _ h => h) (fun q h => h) (fun H locs hP hz1 hk1 hS => ?_)
          clear hz1 hk1
          obtain ⟨k0_e_5, k1_e_5, k2_e_5, k3_e_5, hk0_e_5, hk1_e_5, hk2_e_5, hk3_e_5, hP⟩ := hP
          have b_6 : zB 0 2545620 (f_S_sightFrom S i 0) := br_S_sightFrom S i 0 hI ⟨by omega, by omega⟩ (zB.w (zb_c 0) (by decide) (by decide)) 
          refine lv_iload_n hx hb d_S_overtake_35 rfl (lv_at hl 1 rfl) ?_
          refine zr_icmp_ge (tgt := 44) hx hb (zB.I b_6 (by decide) (by decide)) (zB.I g_3 (by decide) (by decide)) d_S_overtake_36 (by decide) (fun c_7 => ?_) (fun c_7 => ?_)
          · replace hq := (if_neg c_7).symm.trans hq
            refine lv_iload_n hx hb d_S_overtake_44 rfl (lv_at hl 3 rfl) ?_
            refine lv_iconst (v := zi (-1)) hx hb d_S_overtake_45 rfl ?_
            refine zr_icmp_ne (tgt := 54) hx hb (zB.I hb_t (by decide) (by decide)) (zB.I (zb_c (-1)) (by decide) (by decide)) d_S_overtake_46 (by decide) (fun c_8 => ?_) (fun c_8 => ?_)
            · replace hq := (if_neg c_8).symm.trans hq
              have r_9 : zB 0 59 t := ⟨(by have := hb_t.1; omega), hb_t.2⟩
              refine lv_iload_n hx hb d_S_overtake_54 rfl (lv_at hl 3 rfl) ?_
              refine lv_istore_n (lv' := [(3, .int (zi t)), (0, .ref (ad 0)), (1, .int (zi a)), (2, .int (zi w)), (4, .int (zi i))]) hx hb d_S_overtake_55 rfl hl (by decide) rfl (fun ls hl => ?_)
              refine lv_iload_n hx hb d_S_overtake_56 rfl (lv_at hl 3 rfl) ?_
              refine lv_aload_n hx hb d_S_overtake_57 rfl (lv_at hl 1 rfl) ?_
              refine va_get (D := (dC, dI)) (ci := 1) (v := .ref (ad 4)) (C := R_S) (T := T_S) (N := 13) hx hb hw i_S hown hK hP 0 rfl rfl 3 (by decide) (hw _ m_34) (fun _ h9 => h9) rfl d_S_overtake_58 ?_
              refine lv_iload hx hb d_S_overtake_61 (lv_at hl 4 rfl) ?_
              refine zr_iald hx hb hK hP 4 0 (cA := cI) (n := 60) (g := S 3) rfl rfl (i := i) (by omega) (by omega) (by decide) d_S_overtake_63 ?_
              refine lv_aload_n hx hb d_S_overtake_64 rfl (lv_at hl 1 rfl) ?_
              refine va_get (D := (dC, dI)) (ci := 1) (v := .ref (ad 4)) (C := R_S) (T := T_S) (N := 13) hx hb hw i_S hown hK hP 0 rfl rfl 3 (by decide) (hw _ m_34) (fun _ h9 => h9) rfl d_S_overtake_65 ?_
              refine lv_iload_n hx hb d_S_overtake_68 rfl (lv_at hl 0 rfl) ?_
              refine zr_iald hx hb hK hP 4 0 (cA := cI) (n := 60) (g := S 3) rfl rfl (i := t) (by omega) (by omega) (by decide) d_S_overtake_69 ?_
              have b_10 : zB (-2545620) 2545620 ((S 3 i) - (S 3 t)) := zB.w (zb_sub (iS_a3 hI i) (iS_a3 hI t)) (by decide) (by decide)
              refine zr_isub hx hb d_S_overtake_70 ?_
              refine zr_max hx hb (hml.trans hl.1.symm) hown (hw _ m_71) (hw _ m_72) (hw _ m_4) (hw _ m_73) (Nat.le_of_ble_eq_true rfl) (Nat.le_of_ble_eq_true rfl) (Nat.zero_le _) (Nat.zero_le _) (zB.I hb_w (by decide) (by decide)) (zB.I b_10 (by decide) (by decide)) d_S_overtake_71 ?_
              have b_11 : zB 0 2545620 (zmax w ((S 3 i) - (S 3 t))) := zB.w (zb_maxl (lo := 0) (hi := 2545620) hb_w b_10 (by decide) (by decide) (by decide)) (by decide) (by decide)
              obtain ⟨hl_b_11, hh_b_11⟩ := id b_11
              refine lv_istore_n (lv' := [(2, .int (zi (zmax w ((S 3 i) - (S 3 t))))), (3, .int (zi t)), (0, .ref (ad 0)), (1, .int (zi a)), (4, .int (zi i))]) hx hb d_S_overtake_74 rfl hl (by decide) rfl (fun ls hl => ?_)
              have b_12 : zB 1 61 (i + 1) := zB.w (zb_add hb_i (zb_c 1)) (by decide) (by decide)
              refine lv_iinc (v := zi (i + 1)) (lv' := [(4, .int (zi (i + 1))), (2, .int (zi (zmax w ((S 3 i) - (S 3 t))))), (3, .int (zi t)), (0, .ref (ad 0)), (1, .int (zi a))]) hx hb d_S_overtake_75 hl (k := 4) rfl (zi_add _ _) (by decide) rfl (fun ls hl => ?_)
              refine lv_goto (tgt := 19) hx hb d_S_overtake_78 (by decide) ?_
              exact ih (zmax w ((S 3 i) - (S 3 t))) t (i + 1) ls _ _ k0_e_5 k1_e_5 k2_e_5 k3_e_5 (zB.w hk0_e_5 (by decide) (by decide)) (zB.w hk1_e_5 (by decide) (by decide)) (zB.w hk2_e_5 (by decide) (by decide)) (zB.w hk3_e_5 (by decide) (by decide)) hP hS (zB.w b_11 (by decide) (by decide)) (zB.w r_9 (by decide) (by decide)) ⟨by omega, by omega⟩ (by omega) (by omega) hq (lv_sub hl [3, 4, 1, 2, 0] rfl)
            · replace hq := (if_pos c_8).symm.trans hq
              have r_13 : zB (-1) (-1) t := ⟨(Int.le_of_eq c_8.symm), (Int.le_of_eq c_8)⟩
              refine lv_iload hx hb d_S_overtake_49 (lv_at hl 4 rfl) ?_
              refine lv_goto (tgt := 55) hx hb d_S_overtake_51 (by decide) ?_
              refine lv_istore_n (lv' := [(3, .int (zi i)), (0, .ref (ad 0)), (1, .int (zi a)), (2, .int (zi w)), (4, .int (zi i))]) hx hb d_S_overtake_55 rfl hl (by decide) rfl (fun ls hl => ?_)
              refine lv_iload_n hx hb d_S_overtake_56 rfl (lv_at hl 3 rfl) ?_
              refine lv_aload_n hx hb d_S_overtake_57 rfl (lv_at hl 1 rfl) ?_
              refine va_get (D := (dC, dI)) (ci := 1) (v := .ref (ad 4)) (C := R_S) (T := T_S) (N := 13) hx hb hw i_S hown hK hP 0 rfl rfl 3 (by decide) (hw _ m_34) (fun _ h9 => h9) rfl d_S_overtake_58 ?_
              refine lv_iload hx hb d_S_overtake_61 (lv_at hl 4 rfl) ?_
              refine zr_iald hx hb hK hP 4 0 (cA := cI) (n := 60) (g := S 3) rfl rfl (i := i) (by omega) (by omega) (by decide) d_S_overtake_63 ?_
              refine lv_aload_n hx hb d_S_overtake_64 rfl (lv_at hl 1 rfl) ?_
              refine va_get (D := (dC, dI)) (ci := 1) (v := .ref (ad 4)) (C := R_S) (T := T_S) (N := 13) hx hb hw i_S hown hK hP 0 rfl rfl 3 (by decide) (hw _ m_34) (fun _ h9 => h9) rfl d_S_overtake_65 ?_
              refine lv_iload_n hx hb d_S_overtake_68 rfl (lv_at hl 0 rfl) ?_
              refine zr_iald hx hb hK hP 4 0 (cA := cI) (n := 60) (g := S 3) rfl rfl (i := i) (by omega) (by omega) (by decide) d_S_overtake_69 ?_
              have b_14 : zB (-2545620) 2545620 ((S 3 i) - (S 3 i)) := zB.w (zb_sub (iS_a3 hI i) (iS_a3 hI i)) (by decide) (by decide)
              refine zr_isub hx hb d_S_overtake_70 ?_
              refine zr_max hx hb (hml.trans hl.1.symm) hown (hw _ m_71) (hw _ m_72) (hw _ m_4) (hw _ m_73) (Nat.le_of_ble_eq_true rfl) (Nat.le_of_ble_eq_true rfl) (Nat.zero_le _) (Nat.zero_le _) (zB.I hb_w (by decide) (by decide)) (zB.I b_14 (by decide) (by decide)) d_S_overtake_71 ?_
              have b_15 : zB 0 2545620 (zmax w ((S 3 i) - (S 3 i))) := zB.w (zb_maxl (lo := 0) (hi := 2545620) hb_w b_14 (by decide) (by decide) (by decide)) (by decide) (by decide)
              obtain ⟨hl_b_15, hh_b_15⟩ := id b_15
              refine lv_istore_n (lv' := [(2, .int (zi (zmax w ((S 3 i) - (S 3 i))))), (3, .int (zi i)), (0, .ref (ad 0)), (1, .int (zi a)), (4, .int (zi i))]) hx hb d_S_overtake_74 rfl hl (by decide) rfl (fun ls hl => ?_)
              have b_16 : zB 1 61 (i + 1) := zB.w (zb_add hb_i (zb_c 1)) (by decide) (by decide)
              refine lv_iinc (v := zi (i + 1)) (lv' := [(4, .int (zi (i + 1))), (2, .int (zi (zmax w ((S 3 i) - (S 3 i))))), (3, .int (zi i)), (0, .ref (ad 0)), (1, .int (zi a))]) hx hb d_S_overtake_75 hl (k := 4) rfl (zi_add _ _) (by decide) rfl (fun ls hl => ?_)
              refine lv_goto (tgt := 19) hx hb d_S_overtake_78 (by decide) ?_
              exact ih (zmax w ((S 3 i) - (S 3 i))) i (i + 1) ls _ _ k0_e_5 k1_e_5 k2_e_5 k3_e_5 (zB.w hk0_e_5 (by decide) (by decide)) (zB.w hk1_e_5 (by decide) (by decide)) (zB.w hk2_e_5 (by decide) (by decide)) (zB.w hk3_e_5 (by decide) (by decide)) hP hS (zB.w b_15 (by decide) (by decide)) ⟨by omega, by omega⟩ ⟨by omega, by omega⟩ (by omega) (by omega) hq (lv_sub hl [3, 4, 1, 2, 0] rfl)
          · replace hq := (if_pos c_7).symm.trans hq
            refine lv_iconst (v := zi (-1)) hx hb d_S_overtake_39 rfl ?_
            refine lv_istore_n (lv' := [(3, .int (zi (-1))), (0, .ref (ad 0)), (1, .int (zi a)), (2, .int (zi w)), (4, .int (zi i))]) hx hb d_S_overtake_40 rfl hl (by decide) rfl (fun ls hl => ?_)
            refine lv_goto (tgt := 75) hx hb d_S_overtake_41 (by decide) ?_
            have b_17 : zB 1 61 (i + 1) := zB.w (zb_add hb_i (zb_c 1)) (by decide) (by decide)
            refine lv_iinc (v := zi (i + 1)) (lv' := [(4, .int (zi (i + 1))), (3, .int (zi (-1))), (0, .ref (ad 0)), (1, .int (zi a)), (2, .int (zi w))]) hx hb d_S_overtake_75 hl (k := 4) rfl (zi_add _ _) (by decide) rfl (fun ls hl => ?_)
            refine lv_goto (tgt := 19) hx hb d_S_overtake_78 (by decide) ?_
            exact ih w (-1) (i + 1) ls _ _ k0_e_5 k1_e_5 k2_e_5 k3_e_5 (zB.w hk0_e_5 (by decide) (by decide)) (zB.w hk1_e_5 (by decide) (by decide)) (zB.w hk2_e_5 (by decide) (by decide)) (zB.w hk3_e_5 (by decide) (by decide)) hP hS (zB.w hb_w (by decide) (by decide)) (zB.w (zb_c (-1)) (by decide) (by decide)) ⟨by omega, by omega⟩ (by omega) (by omega) hq (lv_sub hl [2, 3, 4, 1, 0] rfl)
    refine L_l _ (fun w hb_w ls H locs k0 k1 k2 k3 hk0 hk1 hk2 hk3 hP hS hq hl => ?_) 61 0 (-1) 0 ls _ _ k0 k1 k2 k3 (zB.w hb_k0 (by decide) (by decide)) (zB.w hb_k1 (by decide) (by decide)) (zB.w hb_k2 (by decide) (by decide)) (zB.w hb_k3 (by decide) (by decide)) hP hS (zB.w (zb_c 0) (by decide) (by decide)) (zB.w (zb_c (-1)) (by decide) (by decide)) (zB.w (zb_c 0) (by decide) (by decide)) (by omega) (by omega) hq (lv_sub hl [3, 4, 2, 1, 0] rfl)
    obtain ⟨hl_w, hh_w⟩ := id hb_w
    refine lv_iload_n hx hb d_S_overtake_81 rfl (lv_at hl 2 rfl) ?_
    exact zw_i hx hb hr hlocks hq ⟨k0, k1, k2, k3, zB.w hk0 (by decide) (by decide), zB.w hk1 (by decide) (by decide), zB.w hk2 (by decide) (by decide), zB.w hk3 (by decide) (by decide), hP⟩ hS d_S_overtake_82
  · replace hq := (if_pos c_1).symm.trans hq
    have r_18 : zB 0 0 (f_S_isWithin a 1 1000000) := ⟨(Int.le_of_eq c_1.symm), (Int.le_of_eq c_1)⟩
    refine lv_iconst (v := zi (-1)) hx hb d_S_overtake_10 rfl ?_
    exact zw_i hx hb hr hlocks hq ⟨k0, k1, k2, k3, zB.w hb_k0 (by decide) (by decide), zB.w hb_k1 (by decide) (by decide), zB.w hb_k2 (by decide) (by decide), zB.w hb_k3 (by decide) (by decide), hP⟩ hS d_S_overtake_11
def f_S_seen_l (S : Nat → Int → Int) (a : Int) (b : Int) (d : Int) (z : Int → Int) : Nat → Int → Int → Int
  | 0, _, _ => 0
  | k + 1, t, i => if i < (S 11 0) then (if 9000000 < (f_S_squareOf (a - (S 0 i)) (b - (S 1 i))) then (f_S_seen_l S a b d z k t (i + 1)) else (if (f_B_firstAcross S (S 0 i) (S 1 i) ((S 2 i) + (S 11 2)) a b d) = (-1) then (f_S_seen_l S a b d z k (t + 1) (i + 1)) else (f_S_seen_l S a b d z k t (i + 1)))) else (z t)
theorem f_S_seen_l_s (S : Nat → Int → Int) (a : Int) (b : Int) (d : Int) (z : Int → Int) (k : Nat) (t i : Int) : f_S_seen_l S a b d z (k + 1) t i = (if i < (S 11 0) then (if 9000000 < (f_S_squareOf (a - (S 0 i)) (b - (S 1 i))) then (f_S_seen_l S a b d z k t (i + 1)) else (if (f_B_firstAcross S (S 0 i) (S 1 i) ((S 2 i) + (S 11 2)) a b d) = (-1) then (f_S_seen_l S a b d z k (t + 1) (i + 1)) else (f_S_seen_l S a b d z k t (i + 1)))) else (z t)) := rfl
def f_S_seen (S : Nat → Int → Int) (a b d : Int) : Int := if (f_S_isInPlane a b) = 0 then (-1) else (if (f_S_isLevel d) = 0 then (-1) else (f_S_seen_l S a b d (fun t => t) 61 0 0))
set_option maxHeartbeats 4000000 in
set_option maxRecDepth 100000 in
theorem k_S_seen (l : Launch) (dC : Nat → ClassId) (dI : Nat → Nat → Nat) (ad : Nat → Nat) (cI : ClassId) (S : Nat → Int → Int) (k0 k1 k2 k3 : Int) (hI : iS S) (hj : zJ 13 ad) (hb_k0 : zB (-30000) 30000 k0) (hb_k1 : zB (-30000) 30000 k1) (hb_k2 : zB (-30000) 30000 k2) (hb_k3 : zB (-30000) 30000 k3) (a b d : Int) (hb_a : zB (-2147483648) 2147483647 a) (hb_b : zB (-2147483648) 2147483647 b) (hb_d : zB (-2147483648) 2147483647 d) : Met l y_S_seen (Cond.code y_S_seen c_S_seen 7 (some .int) :: zT) { frames := 3, cells := 0, slots := 0, locals := 71 } (va_Pc ([.ref (ad 0), .int (zi a), .int (zi b), .int (zi d)] : List Value) (zWS dC dI ad cI S k0 k1 k2 k3)) (zQ (some (.int (zi (f_S_seen S a b d)))) (fun H => ∃ k0 k1 k2 k3 : Int, zB (-30000) 30000 k0 ∧ zB (-30000) 30000 k1 ∧ zB (-30000) 30000 k2 ∧ zB (-30000) 30000 k3 ∧ va_P (dC, dI) classes (wS ad cI S k0 k1 k2 k3) H) (zAS ad)) 0 0 (zAS ad) := by
  refine zh (cc := c_S_seen) (C := R_S) (by decide) rfl rfl (Nat.le_of_ble_eq_true rfl) ?_
  intro p e s m below meth c ls hx hb hr hlocks hml hown hname hts hl hB
  have hw : ∀ w9 ∈ zT, w9.before ([.ref (ad 0), .int (zi a), .int (zi b), .int (zi d)] : List Value).toArray s = true := fun w9 h => hts w9 (List.mem_cons_of_mem _ h)
  obtain ⟨hP, hK, hN⟩ := hB
  obtain ⟨hn0, hn1⟩ := id (iS_s0 hI)
  have hD := zDS hj cI
  have hS : va_S (zAS ad) s.heap s.heap [] := va_S.rf
  obtain ⟨hz0, hz1⟩ := id (iS_s6 hI)
  obtain ⟨hl_a, hh_a⟩ := id hb_a
  obtain ⟨hl_b, hh_b⟩ := id hb_b
  obtain ⟨hl_d, hh_d⟩ := id hb_d
  generalize hq : f_S_seen S a b d = r
  unfold f_S_seen at hq
  replace hl : lv_has ls 7 [(0, .ref (ad 0)), (1, .int (zi a)), (2, .int (zi b)), (3, .int (zi d))] := hl
  refine lv_iload_n hx hb d_S_seen_0 rfl (lv_at hl 1 rfl) ?_
  refine lv_iload_n hx hb d_S_seen_1 rfl (lv_at hl 2 rfl) ?_
  refine zc_n (va_runS (As := [.int (zi a), .int (zi b)]) (rest := []) ⟨hx, hb, hml, hown, hts⟩ (k_S_isInPlane l a b (zB.w hb_a (by decide) (by decide)) (zB.w hb_b (by decide) (by decide)) ) (zcS 2 hts m_50 m_1 m_48 m_49 rfl rfl q_S_isInPlane ⟨Nat.le_of_ble_eq_true rfl, Nat.le_of_ble_eq_true rfl⟩) (zp0 [.int (zi a), .int (zi b)]) rfl rfl hl.1 rfl (lv_room (Nat.le_of_ble_eq_true rfl)) d_S_seen_2 ⟨Nat.zero_le _, Nat.zero_le _⟩) ?_
  refine zr_if_eq (tgt := 15) hx hb (zB.I (bb_S_isInPlane a b) (by decide) (by decide)) d_S_seen_5 (by decide) (fun c_1 => ?_) (fun c_1 => ?_)
  · replace hq := (if_pos c_1).symm.trans hq
    have r_2 : zB 0 0 (f_S_isInPlane a b) := ⟨(Int.le_of_eq c_1.symm), (Int.le_of_eq c_1)⟩
    refine lv_iconst (v := zi (-1)) hx hb d_S_seen_15 rfl ?_
    exact zw_i hx hb hr hlocks hq ⟨k0, k1, k2, k3, zB.w hb_k0 (by decide) (by decide), zB.w hb_k1 (by decide) (by decide), zB.w hb_k2 (by decide) (by decide), zB.w hb_k3 (by decide) (by decide), hP⟩ hS d_S_seen_16
  · replace hq := (if_neg c_1).symm.trans hq
    have r_3 : zB 1 1 (f_S_isInPlane a b) := ⟨(by have := (bb_S_isInPlane a b).1; omega), (bb_S_isInPlane a b).2⟩
    have g_4 := gf_S_isInPlane c_1
    obtain ⟨g_4l0, g_4h0⟩ := id g_4.1
    obtain ⟨g_4l1, g_4h1⟩ := id g_4.2
    refine lv_iload_n hx hb d_S_seen_8 rfl (lv_at hl 3 rfl) ?_
    refine zc_n (va_runS (As := [.int (zi d)]) (rest := []) ⟨hx, hb, hml, hown, hts⟩ (k_S_isLevel l d (zB.w hb_d (by decide) (by decide)) ) (zcS 1 hts m_56 m_1 m_54 m_55 rfl rfl q_S_isLevel ⟨Nat.le_of_ble_eq_true rfl, Nat.le_of_ble_eq_true rfl⟩) (zp0 [.int (zi d)]) rfl rfl hl.1 rfl (lv_room (Nat.le_of_ble_eq_true rfl)) d_S_seen_9 ⟨Nat.zero_le _, Nat.zero_le _⟩) ?_
    refine zr_if_ne (tgt := 17) hx hb (zB.I (bb_S_isLevel d) (by decide) (by decide)) d_S_seen_12 (by decide) (fun c_5 => ?_) (fun c_5 => ?_)
    · replace hq := (if_neg c_5).symm.trans hq
      have r_6 : zB 1 1 (f_S_isLevel d) := ⟨(by have := (bb_S_isLevel d).1; omega), (bb_S_isLevel d).2⟩
      have g_7 := gf_S_isLevel c_5
      obtain ⟨g_7l, g_7h⟩ := id g_7
      refine lv_iconst (v := zi 0) hx hb d_S_seen_17 rfl ?_
      refine lv_istore (lv' := [(4, .int (zi 0)), (0, .ref (ad 0)), (1, .int (zi a)), (2, .int (zi b)), (3, .int (zi d))]) hx hb d_S_seen_18 hl (by decide) rfl (fun ls hl => ?_)
      refine lv_iconst (v := zi 0) hx hb d_S_seen_20 rfl ?_
      refine lv_istore (lv' := [(5, .int (zi 0)), (4, .int (zi 0)), (0, .ref (ad 0)), (1, .int (zi a)), (2, .int (zi b)), (3, .int (zi d))]) hx hb d_S_seen_21 hl (by decide) rfl (fun ls hl => ?_)
      have L_l : ∀ (z : Int → Int), (∀ (t : Int), zB 0 60 t → ∀ (ls : Array Slot) (H : Heap) (locs : List Loc) (k0 k1 k2 k3 : Int), zB (-30000) 30000 k0 → zB (-30000) 30000 k1 → zB (-30000) 30000 k2 → zB (-30000) 30000 k3 → va_P (dC, dI) classes (wS ad cI S k0 k1 k2 k3) H → va_S (zAS ad) s.heap H locs → z t = r → lv_has ls 7 [(0, .ref (ad 0)), (1, .int (zi a)), (2, .int (zi b)), (3, .int (zi d)), (4, .int (zi t))] → W p l e { frames := 3, cells := 0, slots := 0, locals := 71 } s m ([.ref (ad 0), .int (zi a), .int (zi b), .int (zi d)] : List Value).toArray below meth c H locs 0 0 (MQ below (zQ (some (.int (zi r))) (fun H => ∃ k0 k1 k2 k3 : Int, zB (-30000) 30000 k0 ∧ zB (-30000) 30000 k1 ∧ zB (-30000) 30000 k2 ∧ zB (-30000) 30000 k3 ∧ va_P (dC, dI) classes (wS ad cI S k0 k1 k2 k3) H) (zAS ad)) ([.ref (ad 0), .int (zi a), .int (zi b), .int (zi d)] : List Value).toArray s 0 0 (zAS ad)) (F0 m 123 ls [])) → ∀ (k : Nat) (t i : Int) (ls : Array Slot) (H : Heap) (locs : List Loc) (k0 k1 k2 k3 : Int), zB (-30000) 30000 k0 → zB (-30000) 30000 k1 → zB (-30000) 30000 k2 → zB (-30000) 30000 k3 → va_P (dC, dI) classes (wS ad cI S k0 k1 k2 k3) H → va_S (zAS ad) s.heap H locs → zB 0 60 t → zB 0 60 i → t ≤ i → 60 - i < (k : Int) → f_S_seen_l S a b d z k t i = r → lv_has ls 7 [(0, .ref (ad 0)), (1, .int (zi a)), (2, .int (zi b)), (3, .int (zi d)), (4, .int (zi t)), (5, .int (zi i))] → W p l e { frames := 3, cells := 0, slots := 0, locals := 71 } s m ([.ref (ad 0), .int (zi a), .int (zi b), .int (zi d)] : List Value).toArray below meth c H locs 0 0 (MQ below (zQ (some (.int (zi r))) (fun H => ∃ k0 k1 k2 k3 : Int, zB (-30000) 30000 k0 ∧ zB (-30000) 30000 k1 ∧ zB (-30000) 30000 k2 ∧ zB (-30000) 30000 k3 ∧ va_P (dC, dI) classes (wS ad cI S k0 k1 k2 k3) H) (zAS ad)) ([.ref (ad 0), .int (zi a), .int (zi b), .int (zi d)] : List Value).toArray s 0 0 (zAS ad)) (F0 m 23 ls []) := by
        intro z hz k
        induction k with
        | zero =>
          intro t i ls H locs k0 k1 k2 k3 hk0 hk1 hk2 hk3 hP hS hb_t hb_i hi_0 hk hq hl
          exact absurd hk (by have := hb_t.1; have := hb_t.2; have := hb_i.1; have := hb_i.2; omega)
        | succ k ih =>
          intro t i ls H locs k0 k1 k2 k3 hk0 hk1 hk2 hk3 hP hS hb_t hb_i hi_0 hk hq hl
          obtain ⟨hl_t, hh_t⟩ := id hb_t
          obtain ⟨hl_i, hh_i⟩ := id hb_i
          replace hq := (f_S_seen_l_s S a b d z k t i).symm.trans hq
          refine lv_iload hx hb d_S_seen_23 (lv_at hl 5 rfl) ?_
          refine lv_aload_n hx hb d_S_seen_25 rfl (lv_at hl 0 rfl) ?_
          refine va_get (D := (dC, dI)) (ci := 1) (v := .int (zi (S 11 0))) (C := R_S) (T := T_S) (N := 13) hx hb hw i_S hown hK hP 0 rfl rfl 7 (by decide) (hw _ m_38) (fun _ h9 => h9) rfl d_S_seen_26 ?_
          refine zr_icmp_ge (tgt := 123) hx hb (zB.I hb_i (by decide) (by decide)) (zB.I (iS_s0 hI) (by decide) (by decide)) d_S_seen_29 (by decide) (fun c_8 => ?_) (fun c_8 => ?_)
          · replace hq := (if_neg c_8).symm.trans hq
            exact hz t (zB.w hb_t (by decide) (by decide)) ls _ _ k0 k1 k2 k3 (zB.w hk0 (by decide) (by decide)) (zB.w hk1 (by decide) (by decide)) (zB.w hk2 (by decide) (by decide)) (zB.w hk3 (by decide) (by decide)) hP hS hq (lv_sub hl [0, 1, 2, 3, 4] rfl)
          · replace hq := (if_pos c_8).symm.trans hq
            refine lv_iload_n hx hb d_S_seen_32 rfl (lv_at hl 1 rfl) ?_
            refine lv_aload_n hx hb d_S_seen_33 rfl (lv_at hl 0 rfl) ?_
            refine va_get (D := (dC, dI)) (ci := 1) (v := .ref (ad 1)) (C := R_S) (T := T_S) (N := 13) hx hb hw i_S hown hK hP 0 rfl rfl 0 (by decide) (hw _ m_31) (fun _ h9 => h9) rfl d_S_seen_34 ?_
            refine lv_iload hx hb d_S_seen_37 (lv_at hl 5 rfl) ?_
            refine zr_iald hx hb hK hP 1 0 (cA := cI) (n := 60) (g := S 0) rfl rfl (i := i) (by omega) (by omega) (by decide) d_S_seen_39 ?_
            have b_9 : zB (-30000) 30000 (a - (S 0 i)) := zB.w (zb_sub g_4.1 (iS_a0 hI i)) (by decide) (by decide)
            refine zr_isub hx hb d_S_seen_40 ?_
            refine zr_i2l hx hb (zB.I b_9 (by decide) (by decide)) d_S_seen_41 ?_
            refine lv_iload_n hx hb d_S_seen_42 rfl (lv_at hl 2 rfl) ?_
            refine lv_aload_n hx hb d_S_seen_43 rfl (lv_at hl 0 rfl) ?_
            refine va_get (D := (dC, dI)) (ci := 1) (v := .ref (ad 2)) (C := R_S) (T := T_S) (N := 13) hx hb hw i_S hown hK hP 0 rfl rfl 1 (by decide) (hw _ m_32) (fun _ h9 => h9) rfl d_S_seen_44 ?_
            refine lv_iload hx hb d_S_seen_47 (lv_at hl 5 rfl) ?_
            refine zr_iald hx hb hK hP 2 0 (cA := cI) (n := 60) (g := S 1) rfl rfl (i := i) (by omega) (by omega) (by decide) d_S_seen_49 ?_
            have b_10 : zB (-30000) 30000 (b - (S 1 i)) := zB.w (zb_sub g_4.2 (iS_a1 hI i)) (by decide) (by decide)
            refine zr_isub hx hb d_S_seen_50 ?_
            refine zr_i2l hx hb (zB.I b_10 (by decide) (by decide)) d_S_seen_51 ?_
            refine zc_n (va_runS (As := [.long (zl (a - (S 0 i))), .long (zl (b - (S 1 i)))]) (rest := []) ⟨hx, hb, hml, hown, hts⟩ (k_S_squareOf l (a - (S 0 i)) (b - (S 1 i)) (zB.w b_9 (by decide) (by decide)) (zB.w b_10 (by decide) (by decide)) ) (zcS 2 hts m_67 m_1 m_65 m_66 rfl rfl q_S_squareOf ⟨Nat.le_of_ble_eq_true rfl, Nat.le_of_ble_eq_true rfl⟩) (zp0 [.long (zl (a - (S 0 i))), .long (zl (b - (S 1 i)))]) rfl rfl hl.1 rfl (lv_room (Nat.le_of_ble_eq_true rfl)) d_S_seen_52 ⟨Nat.zero_le _, Nat.zero_le _⟩) ?_
            have b_11 : zB 0 1800000000 (f_S_squareOf (a - (S 0 i)) (b - (S 1 i))) := br_S_squareOf (a - (S 0 i)) (b - (S 1 i)) (zB.w b_9 (by decide) (by decide)) (zB.w b_10 (by decide) (by decide)) 
            refine lv_ldc2 (v := zl 9000000) hx hb hown (hw _ m_204) d_S_seen_55 ?_
            refine zr_lcmp_gt (tgt := 66) hx hb (zB.L b_11 (by decide) (by decide)) (zB.L (zb_c 9000000) (by decide) (by decide)) d_S_seen_58 d_S_seen_59 (by decide) (fun c_12 => ?_) (fun c_12 => ?_)
            · replace hq := (if_pos c_12).symm.trans hq
              have r_13 : zB 9000001 1800000000 (f_S_squareOf (a - (S 0 i)) (b - (S 1 i))) := ⟨(Int.add_one_le_of_lt c_12), b_11.2⟩
              refine lv_iconst (v := zi 0) hx hb d_S_seen_66 rfl ?_
              refine lv_istore (lv' := [(6, .int (zi 0)), (0, .ref (ad 0)), (1, .int (zi a)), (2, .int (zi b)), (3, .int (zi d)), (4, .int (zi t)), (5, .int (zi i))]) hx hb d_S_seen_67 hl (by decide) rfl (fun ls hl => ?_)
              refine lv_iload hx hb d_S_seen_69 (lv_at hl 0 rfl) ?_
              refine zr_if_eq (tgt := 117) hx hb (zB.I (zb_c 0) (by decide) (by decide)) d_S_seen_71 (by decide) (fun _ => ?_) (fun c => absurd (by decide : (0 : Int) = 0) c)
              have b_14 : zB 1 61 (i + 1) := zB.w (zb_add hb_i (zb_c 1)) (by decide) (by decide)
              refine lv_iinc (v := zi (i + 1)) (lv' := [(5, .int (zi (i + 1))), (6, .int (zi 0)), (0, .ref (ad 0)), (1, .int (zi a)), (2, .int (zi b)), (3, .int (zi d)), (4, .int (zi t))]) hx hb d_S_seen_117 hl (k := 6) rfl (zi_add _ _) (by decide) rfl (fun ls hl => ?_)
              refine lv_goto (tgt := 23) hx hb d_S_seen_120 (by decide) ?_
              exact ih t (i + 1) ls _ _ k0 k1 k2 k3 (zB.w hk0 (by decide) (by decide)) (zB.w hk1 (by decide) (by decide)) (zB.w hk2 (by decide) (by decide)) (zB.w hk3 (by decide) (by decide)) hP hS (zB.w hb_t (by decide) (by decide)) ⟨by omega, by omega⟩ (by omega) (by omega) hq (lv_sub hl [2, 3, 4, 5, 6, 0] rfl)
            · replace hq := (if_neg c_12).symm.trans hq
              have r_15 : zB 0 9000000 (f_S_squareOf (a - (S 0 i)) (b - (S 1 i))) := ⟨b_11.1, (Int.not_lt.mp c_12)⟩
              refine lv_iconst (v := zi 1) hx hb d_S_seen_62 rfl ?_
              refine lv_goto (tgt := 67) hx hb d_S_seen_63 (by decide) ?_
              refine lv_istore (lv' := [(6, .int (zi 1)), (0, .ref (ad 0)), (1, .int (zi a)), (2, .int (zi b)), (3, .int (zi d)), (4, .int (zi t)), (5, .int (zi i))]) hx hb d_S_seen_67 hl (by decide) rfl (fun ls hl => ?_)
              refine lv_iload hx hb d_S_seen_69 (lv_at hl 0 rfl) ?_
              refine zr_if_eq (tgt := 117) hx hb (zB.I (zb_c 1) (by decide) (by decide)) d_S_seen_71 (by decide) (fun c => absurd c (by decide : ¬ (1 : Int) = 0)) (fun _ => ?_)
              refine lv_aload_n hx hb d_S_seen_74 rfl (lv_at hl 1 rfl) ?_
              refine va_get (D := (dC, dI)) (ci := 1) (v := .ref (ad 7)) (C := R_S) (T := T_S) (N := 13) hx hb hw i_S hown hK hP 0 rfl rfl 6 (by decide) (hw _ m_37) (fun _ h9 => h9) rfl d_S_seen_75 ?_
              refine lv_aload_n hx hb d_S_seen_78 rfl (lv_at hl 1 rfl) ?_
              refine va_get (D := (dC, dI)) (ci := 1) (v := .ref (ad 1)) (C := R_S) (T := T_S) (N := 13) hx hb hw i_S hown hK hP 0 rfl rfl 0 (by decide) (hw _ m_31) (fun _ h9 => h9) rfl d_S_seen_79 ?_
              refine lv_iload hx hb d_S_seen_82 (lv_at hl 6 rfl) ?_
              refine zr_iald hx hb hK hP 1 0 (cA := cI) (n := 60) (g := S 0) rfl rfl (i := i) (by omega) (by omega) (by decide) d_S_seen_84 ?_
              refine lv_aload_n hx hb d_S_seen_85 rfl (lv_at hl 1 rfl) ?_
              refine va_get (D := (dC, dI)) (ci := 1) (v := .ref (ad 2)) (C := R_S) (T := T_S) (N := 13) hx hb hw i_S hown hK hP 0 rfl rfl 1 (by decide) (hw _ m_32) (fun _ h9 => h9) rfl d_S_seen_86 ?_
              refine lv_iload hx hb d_S_seen_89 (lv_at hl 6 rfl) ?_
              refine zr_iald hx hb hK hP 2 0 (cA := cI) (n := 60) (g := S 1) rfl rfl (i := i) (by omega) (by omega) (by decide) d_S_seen_91 ?_
              refine lv_aload_n hx hb d_S_seen_92 rfl (lv_at hl 1 rfl) ?_
              refine va_get (D := (dC, dI)) (ci := 1) (v := .ref (ad 3)) (C := R_S) (T := T_S) (N := 13) hx hb hw i_S hown hK hP 0 rfl rfl 2 (by decide) (hw _ m_33) (fun _ h9 => h9) rfl d_S_seen_93 ?_
              refine lv_iload hx hb d_S_seen_96 (lv_at hl 6 rfl) ?_
              refine zr_iald hx hb hK hP 3 0 (cA := cI) (n := 60) (g := S 2) rfl rfl (i := i) (by omega) (by omega) (by decide) d_S_seen_98 ?_
              refine lv_aload_n hx hb d_S_seen_99 rfl (lv_at hl 1 rfl) ?_
              refine va_get (D := (dC, dI)) (ci := 1) (v := .int (zi (S 11 2))) (C := R_S) (T := T_S) (N := 13) hx hb hw i_S hown hK hP 0 rfl rfl 9 (by decide) (hw _ m_40) (fun _ h9 => h9) rfl d_S_seen_100 ?_
              have b_16 : zB (-100000) 101000 ((S 2 i) + (S 11 2)) := zB.w (zb_add (iS_a2 hI i) (iS_s2 hI)) (by decide) (by decide)
              refine zr_iadd hx hb d_S_seen_103 ?_
              refine lv_iload_n hx hb d_S_seen_104 rfl (lv_at hl 2 rfl) ?_
              refine lv_iload_n hx hb d_S_seen_105 rfl (lv_at hl 3 rfl) ?_
              refine lv_iload_n hx hb d_S_seen_106 rfl (lv_at hl 4 rfl) ?_
              refine zc_w (va_runVN (As := [.int (zi (S 0 i)), .int (zi (S 1 i)), .int (zi ((S 2 i) + (S 11 2))), .int (zi a), .int (zi b), .int (zi d)]) (rest := []) ⟨hx, hb, hml, hown, hts⟩ (k_B_firstAcross l dC dI ad cI S k0 k1 k2 k3 hI hj (zB.w hk0 (by decide) (by decide)) (zB.w hk1 (by decide) (by decide)) (zB.w hk2 (by decide) (by decide)) (zB.w hk3 (by decide) (by decide)) (S 0 i) (S 1 i) ((S 2 i) + (S 11 2)) a b d (zB.w (iS_a0 hI i) (by decide) (by decide)) (zB.w (iS_a1 hI i) (by decide) (by decide)) (zB.w b_16 (by decide) (by decide)) (zB.w g_4.1 (by decide) (by decide)) (zB.w g_4.2 (by decide) (by decide)) (zB.w g_7 (by decide) (by decide)) ) (zcN 6 hts m_137 m_2 hN.1 m_136 m_380 rfl rfl q_B_firstAcross ⟨Nat.le_of_ble_eq_true rfl, Nat.le_of_ble_eq_true rfl⟩) (zpS7 hP hK hN [.int (zi (S 0 i)), .int (zi (S 1 i)), .int (zi ((S 2 i) + (S 11 2))), .int (zi a), .int (zi b), .int (zi d)]) rfl rfl hl.1 rfl (lv_room (Nat.le_of_ble_eq_true rfl)) d_S_seen_107 ⟨Nat.zero_le _, Nat.zero_le _⟩) hS (fun q _ h => h) (fun q h => h) (fun H locs hP hz1 hk1 hS => ?_)
              clear hz1 hk1
              obtain ⟨k0_e_17, k1_e_17, k2_e_17, k3_e_17, hk0_e_17, hk1_e_17, hk2_e_17, hk3_e_17, hP⟩ := hP
              have b_18 : zB (-1) 8 (f_B_firstAcross S (S 0 i) (S 1 i) ((S 2 i) + (S 11 2)) a b d) := br_B_firstAcross S (S 0 i) (S 1 i) ((S 2 i) + (S 11 2)) a b d hI (zB.w (iS_a0 hI i) (by decide) (by decide)) (zB.w (iS_a1 hI i) (by decide) (by decide)) (zB.w b_16 (by decide) (by decide)) (zB.w g_4.1 (by decide) (by decide)) (zB.w g_4.2 (by decide) (by decide)) (zB.w g_7 (by decide) (by decide)) 
              refine lv_iconst (v := zi (-1)) hx hb d_S_seen_110 rfl ?_
              refine zr_icmp_ne (tgt := 117) hx hb (zB.I b_18 (by decide) (by decide)) (zB.I (zb_c (-1)) (by decide) (by decide)) d_S_seen_111 (by decide) (fun c_19 => ?_) (fun c_19 => ?_)
              · replace hq := (if_neg c_19).symm.trans hq
                have r_20 : zB 0 8 (f_B_firstAcross S (S 0 i) (S 1 i) ((S 2 i) + (S 11 2)) a b d) := ⟨(by have := b_18.1; omega), b_18.2⟩
                have b_21 : zB 1 61 (i + 1) := zB.w (zb_add hb_i (zb_c 1)) (by decide) (by decide)
                refine lv_iinc (v := zi (i + 1)) (lv' := [(5, .int (zi (i + 1))), (6, .int (zi 1)), (0, .ref (ad 0)), (1, .int (zi a)), (2, .int (zi b)), (3, .int (zi d)), (4, .int (zi t))]) hx hb d_S_seen_117 hl (k := 6) rfl (zi_add _ _) (by decide) rfl (fun ls hl => ?_)
                refine lv_goto (tgt := 23) hx hb d_S_seen_120 (by decide) ?_
                exact ih t (i + 1) ls _ _ k0_e_17 k1_e_17 k2_e_17 k3_e_17 (zB.w hk0_e_17 (by decide) (by decide)) (zB.w hk1_e_17 (by decide) (by decide)) (zB.w hk2_e_17 (by decide) (by decide)) (zB.w hk3_e_17 (by decide) (by decide)) hP hS (zB.w hb_t (by decide) (by decide)) ⟨by omega, by omega⟩ (by omega) (by omega) hq (lv_sub hl [2, 3, 4, 5, 6, 0] rfl)
              · replace hq := (if_pos c_19).symm.trans hq
                have r_22 : zB (-1) (-1) (f_B_firstAcross S (S 0 i) (S 1 i) ((S 2 i) + (S 11 2)) a b d) := ⟨(Int.le_of_eq c_19.symm), (Int.le_of_eq c_19)⟩
                have b_23 : zB 1 61 (t + 1) := zB.w (zb_add hb_t (zb_c 1)) (by decide) (by decide)
                refine lv_iinc (v := zi (t + 1)) (lv' := [(4, .int (zi (t + 1))), (6, .int (zi 1)), (0, .ref (ad 0)), (1, .int (zi a)), (2, .int (zi b)), (3, .int (zi d)), (5, .int (zi i))]) hx hb d_S_seen_114 hl (k := 5) rfl (zi_add _ _) (by decide) rfl (fun ls hl => ?_)
                have b_24 : zB 1 61 (i + 1) := zB.w (zb_add hb_i (zb_c 1)) (by decide) (by decide)
                refine lv_iinc (v := zi (i + 1)) (lv' := [(5, .int (zi (i + 1))), (4, .int (zi (t + 1))), (6, .int (zi 1)), (0, .ref (ad 0)), (1, .int (zi a)), (2, .int (zi b)), (3, .int (zi d))]) hx hb d_S_seen_117 hl (k := 6) rfl (zi_add _ _) (by decide) rfl (fun ls hl => ?_)
                refine lv_goto (tgt := 23) hx hb d_S_seen_120 (by decide) ?_
                exact ih (t + 1) (i + 1) ls _ _ k0_e_17 k1_e_17 k2_e_17 k3_e_17 (zB.w hk0_e_17 (by decide) (by decide)) (zB.w hk1_e_17 (by decide) (by decide)) (zB.w hk2_e_17 (by decide) (by decide)) (zB.w hk3_e_17 (by decide) (by decide)) hP hS ⟨by omega, by omega⟩ ⟨by omega, by omega⟩ (by omega) (by omega) hq (lv_sub hl [3, 4, 5, 6, 1, 0] rfl)
      refine L_l _ (fun t hb_t ls H locs k0 k1 k2 k3 hk0 hk1 hk2 hk3 hP hS hq hl => ?_) 61 0 0 ls _ _ k0 k1 k2 k3 (zB.w hb_k0 (by decide) (by decide)) (zB.w hb_k1 (by decide) (by decide)) (zB.w hb_k2 (by decide) (by decide)) (zB.w hb_k3 (by decide) (by decide)) hP hS (zB.w (zb_c 0) (by decide) (by decide)) (zB.w (zb_c 0) (by decide) (by decide)) (by omega) (by omega) hq (lv_sub hl [2, 3, 4, 5, 1, 0] rfl)
      obtain ⟨hl_t, hh_t⟩ := id hb_t
      refine lv_iload hx hb d_S_seen_123 (lv_at hl 4 rfl) ?_
      exact zw_i hx hb hr hlocks hq ⟨k0, k1, k2, k3, zB.w hk0 (by decide) (by decide), zB.w hk1 (by decide) (by decide), zB.w hk2 (by decide) (by decide), zB.w hk3 (by decide) (by decide), hP⟩ hS d_S_seen_125
    · replace hq := (if_pos c_5).symm.trans hq
      have r_25 : zB 0 0 (f_S_isLevel d) := ⟨(Int.le_of_eq c_5.symm), (Int.le_of_eq c_5)⟩
      refine lv_iconst (v := zi (-1)) hx hb d_S_seen_15 rfl ?_
      exact zw_i hx hb hr hlocks hq ⟨k0, k1, k2, k3, zB.w hb_k0 (by decide) (by decide), zB.w hb_k1 (by decide) (by decide), zB.w hb_k2 (by decide) (by decide), zB.w hb_k3 (by decide) (by decide), hP⟩ hS d_S_seen_16
def f_S_light_l (S : Nat → Int → Int) (a : Int) (b : Int) (d : Int) (z : Int → Int) : Nat → Int → Int → Int
  | 0, _, _ => 0
  | k + 1, t, i => if i < (S 11 0) then (if (((S 2 a) + b) + (Int.tdiv (d * ((S 3 i) - (S 3 a))) 100)) < (S 2 i) then (t) else (f_S_light_l S a b d z k ((S 3 i) - (S 3 a)) (i + 1))) else (z t)
theorem f_S_light_l_s (S : Nat → Int → Int) (a : Int) (b : Int) (d : Int) (z : Int → Int) (k : Nat) (t i : Int) : f_S_light_l S a b d z (k + 1) t i = (if i < (S 11 0) then (if (((S 2 a) + b) + (Int.tdiv (d * ((S 3 i) - (S 3 a))) 100)) < (S 2 i) then (t) else (f_S_light_l S a b d z k ((S 3 i) - (S 3 a)) (i + 1))) else (z t)) := rfl
def f_S_light (S : Nat → Int → Int) (a b d : Int) : Int := if (f_S_isStation S a) = 0 then (-1) else (if (f_S_isWithin b 0 1000) = 0 then (-1) else (if (f_S_isWithin d 0 100) = 0 then (-1) else (f_S_light_l S a b d (fun t => t) 61 0 (a + 1))))
set_option maxHeartbeats 4000000 in
set_option maxRecDepth 100000 in
theorem k_S_light (l : Launch) (dC : Nat → ClassId) (dI : Nat → Nat → Nat) (ad : Nat → Nat) (cI : ClassId) (S : Nat → Int → Int) (k0 k1 k2 k3 : Int) (hI : iS S) (a b d : Int) (hb_a : zB (-2147483648) 2147483647 a) (hb_b : zB (-2147483648) 2147483647 b) (hb_d : zB (-2147483648) 2147483647 d) : Met l y_S_light (Cond.code y_S_light c_S_light 9 (some .int) :: zT) { frames := 1, cells := 0, slots := 0, locals := 22 } (va_Pc ([.ref (ad 0), .int (zi a), .int (zi b), .int (zi d)] : List Value) (zWS dC dI ad cI S k0 k1 k2 k3)) (zR (.int (zi (f_S_light S a b d)))) 0 0 (fun _ => False) := by
  refine zh (cc := c_S_light) (C := R_S) (by decide) rfl rfl (Nat.le_of_ble_eq_true rfl) ?_
  intro p e s m below meth c ls hx hb hr hlocks hml hown hname hts hl hB
  have hw : ∀ w9 ∈ zT, w9.before ([.ref (ad 0), .int (zi a), .int (zi b), .int (zi d)] : List Value).toArray s = true := fun w9 h => hts w9 (List.mem_cons_of_mem _ h)
  obtain ⟨hP, hK, hN⟩ := hB
  obtain ⟨hn0, hn1⟩ := id (iS_s0 hI)
  obtain ⟨hz0, hz1⟩ := id (iS_s6 hI)
  obtain ⟨hl_a, hh_a⟩ := id hb_a
  obtain ⟨hl_b, hh_b⟩ := id hb_b
  obtain ⟨hl_d, hh_d⟩ := id hb_d
  generalize hq : f_S_light S a b d = r
  unfold f_S_light at hq
  replace hl : lv_has ls 9 [(0, .ref (ad 0)), (1, .int (zi a)), (2, .int (zi b)), (3, .int (zi d))] := hl
  refine lv_aload_n hx hb d_S_light_0 rfl (lv_at hl 0 rfl) ?_
  refine lv_iload_n hx hb d_S_light_1 rfl (lv_at hl 1 rfl) ?_
  refine zc_n (va_runV (As := [.int (zi a)]) (rest := []) ⟨hx, hb, hml, hown, hts⟩ (k_S_isStation l dC dI ad cI S k0 k1 k2 k3 hI a (zB.w hb_a (by decide) (by decide)) ) (zcV 1 hts m_84 m_1 m_82 m_83 m_374 rfl rfl q_S_isStation ⟨Nat.le_of_ble_eq_true rfl, Nat.le_of_ble_eq_true rfl⟩) (zpS0 hP hK hN [.int (zi a)]) rfl rfl hl.1 rfl (lv_room (Nat.le_of_ble_eq_true rfl)) d_S_light_2 ⟨Nat.zero_le _, Nat.zero_le _⟩) ?_
  refine zr_if_eq (tgt := 29) hx hb (zB.I (bb_S_isStation S a) (by decide) (by decide)) d_S_light_5 (by decide) (fun c_1 => ?_) (fun c_1 => ?_)
  · replace hq := (if_pos c_1).symm.trans hq
    have r_2 : zB 0 0 (f_S_isStation S a) := ⟨(Int.le_of_eq c_1.symm), (Int.le_of_eq c_1)⟩
    refine lv_iconst (v := zi (-1)) hx hb d_S_light_29 rfl ?_
    exact ze_i hx hb hr hlocks hq d_S_light_30
  · replace hq := (if_neg c_1).symm.trans hq
    have r_3 : zB 1 1 (f_S_isStation S a) := ⟨(by have := (bb_S_isStation S a).1; omega), (bb_S_isStation S a).2⟩
    have g_4 := gf_S_isStation hI c_1
    obtain ⟨g_4l, g_4h⟩ := id g_4.1
    have g_4n := g_4.2
    refine lv_iload_n hx hb d_S_light_8 rfl (lv_at hl 2 rfl) ?_
    refine lv_iconst (v := zi 0) hx hb d_S_light_9 rfl ?_
    refine lv_sipush (v := zi 1000) hx hb d_S_light_10 (by decide) ?_
    refine zc_n (va_runS (As := [.int (zi b), .int (zi 0), .int (zi 1000)]) (rest := []) ⟨hx, hb, hml, hown, hts⟩ (k_S_isWithin l b 0 1000 (zB.w hb_b (by decide) (by decide)) (zB.w (zb_c 0) (by decide) (by decide)) (zB.w (zb_c 1000) (by decide) (by decide)) ) (zcS 3 hts m_53 m_1 m_51 m_52 rfl rfl q_S_isWithin ⟨Nat.le_of_ble_eq_true rfl, Nat.le_of_ble_eq_true rfl⟩) (zp0 [.int (zi b), .int (zi 0), .int (zi 1000)]) rfl rfl hl.1 rfl (lv_room (Nat.le_of_ble_eq_true rfl)) d_S_light_13 ⟨Nat.zero_le _, Nat.zero_le _⟩) ?_
    refine zr_if_eq (tgt := 29) hx hb (zB.I (bb_S_isWithin b 0 1000) (by decide) (by decide)) d_S_light_16 (by decide) (fun c_5 => ?_) (fun c_5 => ?_)
    · replace hq := (if_pos c_5).symm.trans hq
      have r_6 : zB 0 0 (f_S_isWithin b 0 1000) := ⟨(Int.le_of_eq c_5.symm), (Int.le_of_eq c_5)⟩
      refine lv_iconst (v := zi (-1)) hx hb d_S_light_29 rfl ?_
      exact ze_i hx hb hr hlocks hq d_S_light_30
    · replace hq := (if_neg c_5).symm.trans hq
      have r_7 : zB 1 1 (f_S_isWithin b 0 1000) := ⟨(by have := (bb_S_isWithin b 0 1000).1; omega), (bb_S_isWithin b 0 1000).2⟩
      have g_8 := gf_S_isWithin c_5
      obtain ⟨g_8l, g_8h⟩ := id g_8
      refine lv_iload_n hx hb d_S_light_19 rfl (lv_at hl 3 rfl) ?_
      refine lv_iconst (v := zi 0) hx hb d_S_light_20 rfl ?_
      refine lv_bipush (v := zi 100) hx hb d_S_light_21 (by decide) ?_
      refine zc_n (va_runS (As := [.int (zi d), .int (zi 0), .int (zi 100)]) (rest := []) ⟨hx, hb, hml, hown, hts⟩ (k_S_isWithin l d 0 100 (zB.w hb_d (by decide) (by decide)) (zB.w (zb_c 0) (by decide) (by decide)) (zB.w (zb_c 100) (by decide) (by decide)) ) (zcS 3 hts m_53 m_1 m_51 m_52 rfl rfl q_S_isWithin ⟨Nat.le_of_ble_eq_true rfl, Nat.le_of_ble_eq_true rfl⟩) (zp0 [.int (zi d), .int (zi 0), .int (zi 100)]) rfl rfl hl.1 rfl (lv_room (Nat.le_of_ble_eq_true rfl)) d_S_light_23 ⟨Nat.zero_le _, Nat.zero_le _⟩) ?_
      refine zr_if_ne (tgt := 31) hx hb (zB.I (bb_S_isWithin d 0 100) (by decide) (by decide)) d_S_light_26 (by decide) (fun c_9 => ?_) (fun c_9 => ?_)
      · replace hq := (if_neg c_9).symm.trans hq
        have r_10 : zB 1 1 (f_S_isWithin d 0 100) := ⟨(by have := (bb_S_isWithin d 0 100).1; omega), (bb_S_isWithin d 0 100).2⟩
        have g_11 := gf_S_isWithin c_9
        obtain ⟨g_11l, g_11h⟩ := id g_11
        refine lv_iconst (v := zi 0) hx hb d_S_light_31 rfl ?_
        refine lv_istore (lv' := [(4, .int (zi 0)), (0, .ref (ad 0)), (1, .int (zi a)), (2, .int (zi b)), (3, .int (zi d))]) hx hb d_S_light_32 hl (by decide) rfl (fun ls hl => ?_)
        refine lv_iload_n hx hb d_S_light_34 rfl (lv_at hl 2 rfl) ?_
        refine lv_iconst (v := zi 1) hx hb d_S_light_35 rfl ?_
        have b_12 : zB 1 60 (a + 1) := zB.w (zb_add g_4.1 (zb_c 1)) (by decide) (by decide)
        refine zr_iadd hx hb d_S_light_36 ?_
        refine lv_istore (lv' := [(5, .int (zi (a + 1))), (4, .int (zi 0)), (0, .ref (ad 0)), (1, .int (zi a)), (2, .int (zi b)), (3, .int (zi d))]) hx hb d_S_light_37 hl (by decide) rfl (fun ls hl => ?_)
        have L_l : ∀ (z : Int → Int), (∀ (t : Int), zB (-2545620) 2545620 t → ∀ (ls : Array Slot), z t = r → lv_has ls 9 [(0, .ref (ad 0)), (1, .int (zi a)), (2, .int (zi b)), (3, .int (zi d)), (4, .int (zi t))] → W p l e { frames := 1, cells := 0, slots := 0, locals := 22 } s m ([.ref (ad 0), .int (zi a), .int (zi b), .int (zi d)] : List Value).toArray below meth c s.heap [] 0 0 (MQ below (zR (.int (zi r))) ([.ref (ad 0), .int (zi a), .int (zi b), .int (zi d)] : List Value).toArray s 0 0 (fun _ => False)) (F0 m 113 ls [])) → ∀ (k : Nat) (t i : Int) (ls : Array Slot), zB (-2545620) 2545620 t → zB 1 60 i → 60 - i < (k : Int) → f_S_light_l S a b d z k t i = r → lv_has ls 9 [(0, .ref (ad 0)), (1, .int (zi a)), (2, .int (zi b)), (3, .int (zi d)), (4, .int (zi t)), (5, .int (zi i))] → W p l e { frames := 1, cells := 0, slots := 0, locals := 22 } s m ([.ref (ad 0), .int (zi a), .int (zi b), .int (zi d)] : List Value).toArray below meth c s.heap [] 0 0 (MQ below (zR (.int (zi r))) ([.ref (ad 0), .int (zi a), .int (zi b), .int (zi d)] : List Value).toArray s 0 0 (fun _ => False)) (F0 m 39 ls []) := by
          intro z hz k
          induction k with
          | zero =>
            intro t i ls hb_t hb_i  hk hq hl
            exact absurd hk (by have := hb_t.1; have := hb_t.2; have := hb_i.1; have := hb_i.2; omega)
          | succ k ih =>
            intro t i ls hb_t hb_i  hk hq hl
            obtain ⟨hl_t, hh_t⟩ := id hb_t
            obtain ⟨hl_i, hh_i⟩ := id hb_i
            replace hq := (f_S_light_l_s S a b d z k t i).symm.trans hq
            refine lv_iload hx hb d_S_light_39 (lv_at hl 5 rfl) ?_
            refine lv_aload_n hx hb d_S_light_41 rfl (lv_at hl 0 rfl) ?_
            refine va_get (D := (dC, dI)) (ci := 1) (v := .int (zi (S 11 0))) (C := R_S) (T := T_S) (N := 13) hx hb hw i_S hown hK hP 0 rfl rfl 7 (by decide) (hw _ m_38) (fun _ h9 => h9) rfl d_S_light_42 ?_
            refine zr_icmp_ge (tgt := 113) hx hb (zB.I hb_i (by decide) (by decide)) (zB.I (iS_s0 hI) (by decide) (by decide)) d_S_light_45 (by decide) (fun c_13 => ?_) (fun c_13 => ?_)
            · replace hq := (if_neg c_13).symm.trans hq
              exact hz t (zB.w hb_t (by decide) (by decide)) ls hq (lv_sub hl [0, 1, 2, 3, 4] rfl)
            · replace hq := (if_pos c_13).symm.trans hq
              refine lv_aload_n hx hb d_S_light_48 rfl (lv_at hl 0 rfl) ?_
              refine va_get (D := (dC, dI)) (ci := 1) (v := .ref (ad 4)) (C := R_S) (T := T_S) (N := 13) hx hb hw i_S hown hK hP 0 rfl rfl 3 (by decide) (hw _ m_34) (fun _ h9 => h9) rfl d_S_light_49 ?_
              refine lv_iload hx hb d_S_light_52 (lv_at hl 5 rfl) ?_
              refine zr_iald hx hb hK hP 4 0 (cA := cI) (n := 60) (g := S 3) rfl rfl (i := i) (by omega) (by omega) (by decide) d_S_light_54 ?_
              refine lv_aload_n hx hb d_S_light_55 rfl (lv_at hl 0 rfl) ?_
              refine va_get (D := (dC, dI)) (ci := 1) (v := .ref (ad 4)) (C := R_S) (T := T_S) (N := 13) hx hb hw i_S hown hK hP 0 rfl rfl 3 (by decide) (hw _ m_34) (fun _ h9 => h9) rfl d_S_light_56 ?_
              refine lv_iload_n hx hb d_S_light_59 rfl (lv_at hl 1 rfl) ?_
              refine zr_iald hx hb hK hP 4 0 (cA := cI) (n := 60) (g := S 3) rfl rfl (i := a) (by omega) (by omega) (by decide) d_S_light_60 ?_
              have b_14 : zB (-2545620) 2545620 ((S 3 i) - (S 3 a)) := zB.w (zb_sub (iS_a3 hI i) (iS_a3 hI a)) (by decide) (by decide)
              refine zr_isub hx hb d_S_light_61 ?_
              refine lv_istore (lv' := [(6, .int (zi ((S 3 i) - (S 3 a)))), (0, .ref (ad 0)), (1, .int (zi a)), (2, .int (zi b)), (3, .int (zi d)), (4, .int (zi t)), (5, .int (zi i))]) hx hb d_S_light_62 hl (by decide) rfl (fun ls hl => ?_)
              refine lv_aload_n hx hb d_S_light_64 rfl (lv_at hl 1 rfl) ?_
              refine va_get (D := (dC, dI)) (ci := 1) (v := .ref (ad 3)) (C := R_S) (T := T_S) (N := 13) hx hb hw i_S hown hK hP 0 rfl rfl 2 (by decide) (hw _ m_33) (fun _ h9 => h9) rfl d_S_light_65 ?_
              refine lv_iload_n hx hb d_S_light_68 rfl (lv_at hl 2 rfl) ?_
              refine zr_iald hx hb hK hP 3 0 (cA := cI) (n := 60) (g := S 2) rfl rfl (i := a) (by omega) (by omega) (by decide) d_S_light_69 ?_
              refine lv_iload_n hx hb d_S_light_70 rfl (lv_at hl 3 rfl) ?_
              have b_15 : zB (-100000) 101000 ((S 2 a) + b) := zB.w (zb_add (iS_a2 hI a) g_8) (by decide) (by decide)
              refine zr_iadd hx hb d_S_light_71 ?_
              refine zr_i2l hx hb (zB.I b_15 (by decide) (by decide)) d_S_light_72 ?_
              refine lv_iload_n hx hb d_S_light_73 rfl (lv_at hl 4 rfl) ?_
              refine zr_i2l hx hb (zB.I g_11 (by decide) (by decide)) d_S_light_74 ?_
              refine lv_iload hx hb d_S_light_75 (lv_at hl 0 rfl) ?_
              refine zr_i2l hx hb (zB.I b_14 (by decide) (by decide)) d_S_light_77 ?_
              have b_16 : zB (-254562000) 254562000 (d * ((S 3 i) - (S 3 a))) := zB.w (zb_mul (A := 100) (B := 2545620) (zB.w g_11 (by decide) (by decide)) (zB.w b_14 (by decide) (by decide))) (by decide) (by decide)
              refine zr_lmul hx hb d_S_light_78 ?_
              refine lv_ldc2 (v := zl 100) hx hb hown (hw _ m_209) d_S_light_79 ?_
              refine zr_ldiv hx hb (zB.L b_16 (by decide) (by decide)) (zB.L (zb_c 100) (by decide) (by decide)) (Int.lt_of_lt_of_le (by decide) (zb_c 100).1) d_S_light_82 ?_
              have b_17 : zB (-254562000) 254562000 (Int.tdiv (d * ((S 3 i) - (S 3 a))) 100) := zB.w (zb_tdiv (A := 254562000) (b := 100) (zB.w b_16 (by decide) (by decide))) (by decide) (by decide)
              have b_18 : zB (-254662000) 254663000 (((S 2 a) + b) + (Int.tdiv (d * ((S 3 i) - (S 3 a))) 100)) := zB.w (zb_add b_15 b_17) (by decide) (by decide)
              refine zr_ladd hx hb d_S_light_83 ?_
              refine lv_lstore (lv' := [(7, .long (zl (((S 2 a) + b) + (Int.tdiv (d * ((S 3 i) - (S 3 a))) 100)))), (6, .int (zi ((S 3 i) - (S 3 a)))), (0, .ref (ad 0)), (1, .int (zi a)), (2, .int (zi b)), (3, .int (zi d)), (4, .int (zi t)), (5, .int (zi i))]) hx hb d_S_light_84 hl (by decide) rfl (fun ls hl => ?_)
              refine lv_aload_n hx hb d_S_light_86 rfl (lv_at hl 2 rfl) ?_
              refine va_get (D := (dC, dI)) (ci := 1) (v := .ref (ad 3)) (C := R_S) (T := T_S) (N := 13) hx hb hw i_S hown hK hP 0 rfl rfl 2 (by decide) (hw _ m_33) (fun _ h9 => h9) rfl d_S_light_87 ?_
              refine lv_iload hx hb d_S_light_90 (lv_at hl 7 rfl) ?_
              refine zr_iald hx hb hK hP 3 0 (cA := cI) (n := 60) (g := S 2) rfl rfl (i := i) (by omega) (by omega) (by decide) d_S_light_92 ?_
              refine zr_i2l hx hb (zB.I (iS_a2 hI i) (by decide) (by decide)) d_S_light_93 ?_
              refine lv_lload hx hb d_S_light_94 (lv_at hl 0 rfl) ?_
              refine zr_lcmp_le (tgt := 103) hx hb (zB.L (iS_a2 hI i) (by decide) (by decide)) (zB.L b_18 (by decide) (by decide)) d_S_light_96 d_S_light_97 (by decide) (fun c_19 => ?_) (fun c_19 => ?_)
              · replace hq := (if_neg c_19).symm.trans hq
                refine lv_iload hx hb d_S_light_103 (lv_at hl 1 rfl) ?_
                refine lv_istore (lv' := [(4, .int (zi ((S 3 i) - (S 3 a)))), (7, .long (zl (((S 2 a) + b) + (Int.tdiv (d * ((S 3 i) - (S 3 a))) 100)))), (6, .int (zi ((S 3 i) - (S 3 a)))), (0, .ref (ad 0)), (1, .int (zi a)), (2, .int (zi b)), (3, .int (zi d)), (5, .int (zi i))]) hx hb d_S_light_105 hl (by decide) rfl (fun ls hl => ?_)
                have b_20 : zB 2 61 (i + 1) := zB.w (zb_add hb_i (zb_c 1)) (by decide) (by decide)
                refine lv_iinc (v := zi (i + 1)) (lv' := [(5, .int (zi (i + 1))), (4, .int (zi ((S 3 i) - (S 3 a)))), (7, .long (zl (((S 2 a) + b) + (Int.tdiv (d * ((S 3 i) - (S 3 a))) 100)))), (6, .int (zi ((S 3 i) - (S 3 a)))), (0, .ref (ad 0)), (1, .int (zi a)), (2, .int (zi b)), (3, .int (zi d))]) hx hb d_S_light_107 hl (k := 7) rfl (zi_add _ _) (by decide) rfl (fun ls hl => ?_)
                refine lv_goto (tgt := 39) hx hb d_S_light_110 (by decide) ?_
                exact ih ((S 3 i) - (S 3 a)) (i + 1) ls (zB.w b_14 (by decide) (by decide)) ⟨by omega, by omega⟩  (by omega) hq (lv_sub hl [4, 5, 6, 7, 1, 0] rfl)
              · replace hq := (if_pos c_19).symm.trans hq
                refine lv_iload hx hb d_S_light_100 (lv_at hl 6 rfl) ?_
                exact ze_i hx hb hr hlocks hq d_S_light_102
        refine L_l _ (fun t hb_t ls hq hl => ?_) 61 0 (a + 1) ls (zB.w (zb_c 0) (by decide) (by decide)) (zB.w b_12 (by decide) (by decide))  (by omega) hq (lv_sub hl [2, 3, 4, 5, 1, 0] rfl)
        obtain ⟨hl_t, hh_t⟩ := id hb_t
        refine lv_iload hx hb d_S_light_113 (lv_at hl 4 rfl) ?_
        exact ze_i hx hb hr hlocks hq d_S_light_115
      · replace hq := (if_pos c_9).symm.trans hq
        have r_21 : zB 0 0 (f_S_isWithin d 0 100) := ⟨(Int.le_of_eq c_9.symm), (Int.le_of_eq c_9)⟩
        refine lv_iconst (v := zi (-1)) hx hb d_S_light_29 rfl ?_
        exact ze_i hx hb hr hlocks hq d_S_light_30
def f_S_count (S : Nat → Int → Int) (a : Int) : Int := if a = 0 then (S 11 0) else (if a = 1 then (S 11 6) else (if a = 2 then (S 11 1) else (if a = 3 then (f_S_freeViews S) else (if a = 4 then (f_S_blindStations S 0) else (if a = 5 then (f_S_blindStations S 1) else (-1))))))
set_option maxHeartbeats 4000000 in
set_option maxRecDepth 100000 in
theorem k_S_count (l : Launch) (dC : Nat → ClassId) (dI : Nat → Nat → Nat) (ad : Nat → Nat) (cI : ClassId) (S : Nat → Int → Int) (k0 k1 k2 k3 : Int) (hI : iS S) (hj : zJ 13 ad) (hb_k0 : zB (-30000) 30000 k0) (hb_k1 : zB (-30000) 30000 k1) (hb_k2 : zB (-30000) 30000 k2) (hb_k3 : zB (-30000) 30000 k3) (a : Int) (hb_a : zB (-2147483648) 2147483647 a) : Met l y_S_count (Cond.code y_S_count c_S_count 2 (some .int) :: zT) { frames := 7, cells := 0, slots := 0, locals := 167 } (va_Pc ([.ref (ad 0), .int (zi a)] : List Value) (zWS dC dI ad cI S k0 k1 k2 k3)) (zQ (some (.int (zi (f_S_count S a)))) (fun H => ∃ k0 k1 k2 k3 : Int, zB (-30000) 30000 k0 ∧ zB (-30000) 30000 k1 ∧ zB (-30000) 30000 k2 ∧ zB (-30000) 30000 k3 ∧ va_P (dC, dI) classes (wS ad cI S k0 k1 k2 k3) H) (zAS ad)) 0 0 (zAS ad) := by
  refine zh (cc := c_S_count) (C := R_S) (by decide) rfl rfl (Nat.le_of_ble_eq_true rfl) ?_
  intro p e s m below meth c ls hx hb hr hlocks hml hown hname hts hl hB
  have hw : ∀ w9 ∈ zT, w9.before ([.ref (ad 0), .int (zi a)] : List Value).toArray s = true := fun w9 h => hts w9 (List.mem_cons_of_mem _ h)
  obtain ⟨hP, hK, hN⟩ := hB
  obtain ⟨hn0, hn1⟩ := id (iS_s0 hI)
  have hD := zDS hj cI
  have hS : va_S (zAS ad) s.heap s.heap [] := va_S.rf
  obtain ⟨hz0, hz1⟩ := id (iS_s6 hI)
  obtain ⟨hl_a, hh_a⟩ := id hb_a
  generalize hq : f_S_count S a = r
  unfold f_S_count at hq
  replace hl : lv_has ls 2 [(0, .ref (ad 0)), (1, .int (zi a))] := hl
  refine lv_iload_n hx hb d_S_count_0 rfl (lv_at hl 1 rfl) ?_
  by_cases c_1 : a = 0
  · replace hq := (if_pos c_1).symm.trans hq
    refine lv_tableIn (tgt := 40) (off := 39) hx hb d_S_count_1 (by rw [zi_t (zB.I hb_a (by decide) (by decide))]; omega) (by rw [zi_t (zB.I hb_a (by decide) (by decide))]; omega) (by rw [zi_t (zB.I hb_a (by decide) (by decide)), c_1]; rfl) (by decide) ?_
    refine lv_aload_n hx hb d_S_count_40 rfl (lv_at hl 0 rfl) ?_
    refine va_get (D := (dC, dI)) (ci := 1) (v := .int (zi (S 11 0))) (C := R_S) (T := T_S) (N := 13) hx hb hw i_S hown hK hP 0 rfl rfl 7 (by decide) (hw _ m_38) (fun _ h9 => h9) rfl d_S_count_41 ?_
    exact zw_i hx hb hr hlocks hq ⟨k0, k1, k2, k3, zB.w hb_k0 (by decide) (by decide), zB.w hb_k1 (by decide) (by decide), zB.w hb_k2 (by decide) (by decide), zB.w hb_k3 (by decide) (by decide), hP⟩ hS d_S_count_44
  · replace hq := (if_neg c_1).symm.trans hq
    by_cases c_2 : a = 1
    · replace hq := (if_pos c_2).symm.trans hq
      refine lv_tableIn (tgt := 45) (off := 44) hx hb d_S_count_1 (by rw [zi_t (zB.I hb_a (by decide) (by decide))]; omega) (by rw [zi_t (zB.I hb_a (by decide) (by decide))]; omega) (by rw [zi_t (zB.I hb_a (by decide) (by decide)), c_2]; rfl) (by decide) ?_
      refine lv_aload_n hx hb d_S_count_45 rfl (lv_at hl 0 rfl) ?_
      refine va_get (D := (dC, dI)) (ci := 1) (v := .ref (ad 7)) (C := R_S) (T := T_S) (N := 13) hx hb hw i_S hown hK hP 0 rfl rfl 6 (by decide) (hw _ m_37) (fun _ h9 => h9) rfl d_S_count_46 ?_
      refine va_getN (D := (dC, dI)) (ci := 0) (v := .int (zi (S 11 6))) (C := R_B) (T := T_B) (N := 10) hx hb hw i_B hown hK hP 7 rfl rfl 5 (by decide) (va_Nw.use rfl hN.2.1) (fun _ h9 => h9) rfl d_S_count_49 ?_
      exact zw_i hx hb hr hlocks hq ⟨k0, k1, k2, k3, zB.w hb_k0 (by decide) (by decide), zB.w hb_k1 (by decide) (by decide), zB.w hb_k2 (by decide) (by decide), zB.w hb_k3 (by decide) (by decide), hP⟩ hS d_S_count_52
    · replace hq := (if_neg c_2).symm.trans hq
      by_cases c_3 : a = 2
      · replace hq := (if_pos c_3).symm.trans hq
        refine lv_tableIn (tgt := 53) (off := 52) hx hb d_S_count_1 (by rw [zi_t (zB.I hb_a (by decide) (by decide))]; omega) (by rw [zi_t (zB.I hb_a (by decide) (by decide))]; omega) (by rw [zi_t (zB.I hb_a (by decide) (by decide)), c_3]; rfl) (by decide) ?_
        refine lv_aload_n hx hb d_S_count_53 rfl (lv_at hl 0 rfl) ?_
        refine va_get (D := (dC, dI)) (ci := 1) (v := .int (zi (S 11 1))) (C := R_S) (T := T_S) (N := 13) hx hb hw i_S hown hK hP 0 rfl rfl 8 (by decide) (hw _ m_39) (fun _ h9 => h9) rfl d_S_count_54 ?_
        exact zw_i hx hb hr hlocks hq ⟨k0, k1, k2, k3, zB.w hb_k0 (by decide) (by decide), zB.w hb_k1 (by decide) (by decide), zB.w hb_k2 (by decide) (by decide), zB.w hb_k3 (by decide) (by decide), hP⟩ hS d_S_count_57
      · replace hq := (if_neg c_3).symm.trans hq
        by_cases c_4 : a = 3
        · replace hq := (if_pos c_4).symm.trans hq
          refine lv_tableIn (tgt := 58) (off := 57) hx hb d_S_count_1 (by rw [zi_t (zB.I hb_a (by decide) (by decide))]; omega) (by rw [zi_t (zB.I hb_a (by decide) (by decide))]; omega) (by rw [zi_t (zB.I hb_a (by decide) (by decide)), c_4]; rfl) (by decide) ?_
          refine lv_aload_n hx hb d_S_count_58 rfl (lv_at hl 0 rfl) ?_
          refine zc_w (va_runV (As := []) (rest := []) ⟨hx, hb, hml, hown, hts⟩ (k_S_freeViews l dC dI ad cI S k0 k1 k2 k3 hI hj (zB.w hb_k0 (by decide) (by decide)) (zB.w hb_k1 (by decide) (by decide)) (zB.w hb_k2 (by decide) (by decide)) (zB.w hb_k3 (by decide) (by decide))   ) (zcV 0 hts m_216 m_1 m_214 m_215 m_390 rfl rfl q_S_freeViews ⟨Nat.le_of_ble_eq_true rfl, Nat.le_of_ble_eq_true rfl⟩) (zpS0 hP hK hN []) rfl rfl hl.1 rfl (lv_room (Nat.le_of_ble_eq_true rfl)) d_S_count_59 ⟨Nat.zero_le _, Nat.zero_le _⟩) hS (fun q _ h => h) (fun q h => h) (fun H locs hP hz1 hk1 hS => ?_)
          clear hz1 hk1
          obtain ⟨k0_e_5, k1_e_5, k2_e_5, k3_e_5, hk0_e_5, hk1_e_5, hk2_e_5, hk3_e_5, hP⟩ := hP
          exact zw_i hx hb hr hlocks hq ⟨k0_e_5, k1_e_5, k2_e_5, k3_e_5, zB.w hk0_e_5 (by decide) (by decide), zB.w hk1_e_5 (by decide) (by decide), zB.w hk2_e_5 (by decide) (by decide), zB.w hk3_e_5 (by decide) (by decide), hP⟩ hS d_S_count_62
        · replace hq := (if_neg c_4).symm.trans hq
          by_cases c_6 : a = 4
          · replace hq := (if_pos c_6).symm.trans hq
            refine lv_tableIn (tgt := 63) (off := 62) hx hb d_S_count_1 (by rw [zi_t (zB.I hb_a (by decide) (by decide))]; omega) (by rw [zi_t (zB.I hb_a (by decide) (by decide))]; omega) (by rw [zi_t (zB.I hb_a (by decide) (by decide)), c_6]; rfl) (by decide) ?_
            refine lv_aload_n hx hb d_S_count_63 rfl (lv_at hl 0 rfl) ?_
            refine lv_iconst (v := zi 0) hx hb d_S_count_64 rfl ?_
            refine zc_w (va_runV (As := [.int (zi 0)]) (rest := []) ⟨hx, hb, hml, hown, hts⟩ (k_S_blindStations l dC dI ad cI S k0 k1 k2 k3 hI hj (zB.w hb_k0 (by decide) (by decide)) (zB.w hb_k1 (by decide) (by decide)) (zB.w hb_k2 (by decide) (by decide)) (zB.w hb_k3 (by decide) (by decide)) 0 (zB.w (zb_c 0) (by decide) (by decide)) ) (zcV 1 hts m_219 m_1 m_217 m_218 m_391 rfl rfl q_S_blindStations ⟨Nat.le_of_ble_eq_true rfl, Nat.le_of_ble_eq_true rfl⟩) (zpS0 hP hK hN [.int (zi 0)]) rfl rfl hl.1 rfl (lv_room (Nat.le_of_ble_eq_true rfl)) d_S_count_65 ⟨Nat.zero_le _, Nat.zero_le _⟩) hS (fun q _ h => h) (fun q h => h) (fun H locs hP hz1 hk1 hS => ?_)
            clear hz1 hk1
            obtain ⟨k0_e_7, k1_e_7, k2_e_7, k3_e_7, hk0_e_7, hk1_e_7, hk2_e_7, hk3_e_7, hP⟩ := hP
            exact zw_i hx hb hr hlocks hq ⟨k0_e_7, k1_e_7, k2_e_7, k3_e_7, zB.w hk0_e_7 (by decide) (by decide), zB.w hk1_e_7 (by decide) (by decide), zB.w hk2_e_7 (by decide) (by decide), zB.w hk3_e_7 (by decide) (by decide), hP⟩ hS d_S_count_68
          · replace hq := (if_neg c_6).symm.trans hq
            by_cases c_8 : a = 5
            · replace hq := (if_pos c_8).symm.trans hq
              refine lv_tableIn (tgt := 69) (off := 68) hx hb d_S_count_1 (by rw [zi_t (zB.I hb_a (by decide) (by decide))]; omega) (by rw [zi_t (zB.I hb_a (by decide) (by decide))]; omega) (by rw [zi_t (zB.I hb_a (by decide) (by decide)), c_8]; rfl) (by decide) ?_
              refine lv_aload_n hx hb d_S_count_69 rfl (lv_at hl 0 rfl) ?_
              refine lv_iconst (v := zi 1) hx hb d_S_count_70 rfl ?_
              refine zc_w (va_runV (As := [.int (zi 1)]) (rest := []) ⟨hx, hb, hml, hown, hts⟩ (k_S_blindStations l dC dI ad cI S k0 k1 k2 k3 hI hj (zB.w hb_k0 (by decide) (by decide)) (zB.w hb_k1 (by decide) (by decide)) (zB.w hb_k2 (by decide) (by decide)) (zB.w hb_k3 (by decide) (by decide)) 1 (zB.w (zb_c 1) (by decide) (by decide)) ) (zcV 1 hts m_219 m_1 m_217 m_218 m_391 rfl rfl q_S_blindStations ⟨Nat.le_of_ble_eq_true rfl, Nat.le_of_ble_eq_true rfl⟩) (zpS0 hP hK hN [.int (zi 1)]) rfl rfl hl.1 rfl (lv_room (Nat.le_of_ble_eq_true rfl)) d_S_count_71 ⟨Nat.zero_le _, Nat.zero_le _⟩) hS (fun q _ h => h) (fun q h => h) (fun H locs hP hz1 hk1 hS => ?_)
              clear hz1 hk1
              obtain ⟨k0_e_9, k1_e_9, k2_e_9, k3_e_9, hk0_e_9, hk1_e_9, hk2_e_9, hk3_e_9, hP⟩ := hP
              exact zw_i hx hb hr hlocks hq ⟨k0_e_9, k1_e_9, k2_e_9, k3_e_9, zB.w hk0_e_9 (by decide) (by decide), zB.w hk1_e_9 (by decide) (by decide), zB.w hk2_e_9 (by decide) (by decide), zB.w hk3_e_9 (by decide) (by decide), hP⟩ hS d_S_count_74
            · replace hq := (if_neg c_8).symm.trans hq
              refine lv_tableOut (tgt := 75) hx hb d_S_count_1 (by rw [zi_t (zB.I hb_a (by decide) (by decide))]; omega) (by decide) ?_
              refine lv_iconst (v := zi (-1)) hx hb d_S_count_75 rfl ?_
              exact zw_i hx hb hr hlocks hq ⟨k0, k1, k2, k3, zB.w hb_k0 (by decide) (by decide), zB.w hb_k1 (by decide) (by decide), zB.w hb_k2 (by decide) (by decide), zB.w hb_k3 (by decide) (by decide), hP⟩ hS d_S_count_76
end
section
theorem iS_u0 {S : Nat → Int → Int} {f : Int → Int} (h : iS S) (hf : ∀ i, zB (-15000) 15000 (f i)) : iS (zs S 0 f) := ⟨hf, iS_a1 (S := S) h, iS_a2 (S := S) h, iS_a3 (S := S) h, iS_a4 (S := S) h, iS_a5 (S := S) h, iS_a6 (S := S) h, iS_a7 (S := S) h, iS_a8 (S := S) h, iS_a9 (S := S) h, iS_a10 (S := S) h, iS_s0 (S := S) h, iS_s2 (S := S) h, iS_s3 (S := S) h, iS_s4 (S := S) h, iS_s5 (S := S) h, iS_s6 (S := S) h⟩
theorem iS_u1 {S : Nat → Int → Int} {f : Int → Int} (h : iS S) (hf : ∀ i, zB (-15000) 15000 (f i)) : iS (zs S 1 f) := ⟨iS_a0 (S := S) h, hf, iS_a2 (S := S) h, iS_a3 (S := S) h, iS_a4 (S := S) h, iS_a5 (S := S) h, iS_a6 (S := S) h, iS_a7 (S := S) h, iS_a8 (S := S) h, iS_a9 (S := S) h, iS_a10 (S := S) h, iS_s0 (S := S) h, iS_s2 (S := S) h, iS_s3 (S := S) h, iS_s4 (S := S) h, iS_s5 (S := S) h, iS_s6 (S := S) h⟩
theorem iS_u2 {S : Nat → Int → Int} {f : Int → Int} (h : iS S) (hf : ∀ i, zB (-100000) 100000 (f i)) : iS (zs S 2 f) := ⟨iS_a0 (S := S) h, iS_a1 (S := S) h, hf, iS_a3 (S := S) h, iS_a4 (S := S) h, iS_a5 (S := S) h, iS_a6 (S := S) h, iS_a7 (S := S) h, iS_a8 (S := S) h, iS_a9 (S := S) h, iS_a10 (S := S) h, iS_s0 (S := S) h, iS_s2 (S := S) h, iS_s3 (S := S) h, iS_s4 (S := S) h, iS_s5 (S := S) h, iS_s6 (S := S) h⟩
theorem iS_u3 {S : Nat → Int → Int} {f : Int → Int} (h : iS S) (hf : ∀ i, zB (0) 2545620 (f i)) : iS (zs S 3 f) := ⟨iS_a0 (S := S) h, iS_a1 (S := S) h, iS_a2 (S := S) h, hf, iS_a4 (S := S) h, iS_a5 (S := S) h, iS_a6 (S := S) h, iS_a7 (S := S) h, iS_a8 (S := S) h, iS_a9 (S := S) h, iS_a10 (S := S) h, iS_s0 (S := S) h, iS_s2 (S := S) h, iS_s3 (S := S) h, iS_s4 (S := S) h, iS_s5 (S := S) h, iS_s6 (S := S) h⟩
theorem iS_u4 {S : Nat → Int → Int} {f : Int → Int} (h : iS S) (hf : ∀ i, zB (0) 200 (f i)) : iS (zs S 4 f) := ⟨iS_a0 (S := S) h, iS_a1 (S := S) h, iS_a2 (S := S) h, iS_a3 (S := S) h, hf, iS_a5 (S := S) h, iS_a6 (S := S) h, iS_a7 (S := S) h, iS_a8 (S := S) h, iS_a9 (S := S) h, iS_a10 (S := S) h, iS_s0 (S := S) h, iS_s2 (S := S) h, iS_s3 (S := S) h, iS_s4 (S := S) h, iS_s5 (S := S) h, iS_s6 (S := S) h⟩
theorem iS_u5 {S : Nat → Int → Int} {f : Int → Int} (h : iS S) (hf : ∀ i, zB (-1) 1000 (f i)) : iS (zs S 5 f) := ⟨iS_a0 (S := S) h, iS_a1 (S := S) h, iS_a2 (S := S) h, iS_a3 (S := S) h, iS_a4 (S := S) h, hf, iS_a6 (S := S) h, iS_a7 (S := S) h, iS_a8 (S := S) h, iS_a9 (S := S) h, iS_a10 (S := S) h, iS_s0 (S := S) h, iS_s2 (S := S) h, iS_s3 (S := S) h, iS_s4 (S := S) h, iS_s5 (S := S) h, iS_s6 (S := S) h⟩
theorem iS_u6 {S : Nat → Int → Int} {f : Int → Int} (h : iS S) (hf : ∀ i, zB (-15000) 15000 (f i)) : iS (zs S 6 f) := ⟨iS_a0 (S := S) h, iS_a1 (S := S) h, iS_a2 (S := S) h, iS_a3 (S := S) h, iS_a4 (S := S) h, iS_a5 (S := S) h, hf, iS_a7 (S := S) h, iS_a8 (S := S) h, iS_a9 (S := S) h, iS_a10 (S := S) h, iS_s0 (S := S) h, iS_s2 (S := S) h, iS_s3 (S := S) h, iS_s4 (S := S) h, iS_s5 (S := S) h, iS_s6 (S := S) h⟩
theorem iS_u7 {S : Nat → Int → Int} {f : Int → Int} (h : iS S) (hf : ∀ i, zB (-15000) 15000 (f i)) : iS (zs S 7 f) := ⟨iS_a0 (S := S) h, iS_a1 (S := S) h, iS_a2 (S := S) h, iS_a3 (S := S) h, iS_a4 (S := S) h, iS_a5 (S := S) h, iS_a6 (S := S) h, hf, iS_a8 (S := S) h, iS_a9 (S := S) h, iS_a10 (S := S) h, iS_s0 (S := S) h, iS_s2 (S := S) h, iS_s3 (S := S) h, iS_s4 (S := S) h, iS_s5 (S := S) h, iS_s6 (S := S) h⟩
theorem iS_u8 {S : Nat → Int → Int} {f : Int → Int} (h : iS S) (hf : ∀ i, zB (-15000) 15000 (f i)) : iS (zs S 8 f) := ⟨iS_a0 (S := S) h, iS_a1 (S := S) h, iS_a2 (S := S) h, iS_a3 (S := S) h, iS_a4 (S := S) h, iS_a5 (S := S) h, iS_a6 (S := S) h, iS_a7 (S := S) h, hf, iS_a9 (S := S) h, iS_a10 (S := S) h, iS_s0 (S := S) h, iS_s2 (S := S) h, iS_s3 (S := S) h, iS_s4 (S := S) h, iS_s5 (S := S) h, iS_s6 (S := S) h⟩
theorem iS_u9 {S : Nat → Int → Int} {f : Int → Int} (h : iS S) (hf : ∀ i, zB (-15000) 15000 (f i)) : iS (zs S 9 f) := ⟨iS_a0 (S := S) h, iS_a1 (S := S) h, iS_a2 (S := S) h, iS_a3 (S := S) h, iS_a4 (S := S) h, iS_a5 (S := S) h, iS_a6 (S := S) h, iS_a7 (S := S) h, iS_a8 (S := S) h, hf, iS_a10 (S := S) h, iS_s0 (S := S) h, iS_s2 (S := S) h, iS_s3 (S := S) h, iS_s4 (S := S) h, iS_s5 (S := S) h, iS_s6 (S := S) h⟩
theorem iS_u10 {S : Nat → Int → Int} {f : Int → Int} (h : iS S) (hf : ∀ i, zB (-100000) 100000 (f i)) : iS (zs S 10 f) := ⟨iS_a0 (S := S) h, iS_a1 (S := S) h, iS_a2 (S := S) h, iS_a3 (S := S) h, iS_a4 (S := S) h, iS_a5 (S := S) h, iS_a6 (S := S) h, iS_a7 (S := S) h, iS_a8 (S := S) h, iS_a9 (S := S) h, hf, iS_s0 (S := S) h, iS_s2 (S := S) h, iS_s3 (S := S) h, iS_s4 (S := S) h, iS_s5 (S := S) h, iS_s6 (S := S) h⟩
theorem iS_v0 {S : Nat → Int → Int} {x : Int} (h : iS S) (hf : zB (0) 60 x) : iS (zs S 11 (zu (S 11) 0 x)) := ⟨iS_a0 (S := S) h, iS_a1 (S := S) h, iS_a2 (S := S) h, iS_a3 (S := S) h, iS_a4 (S := S) h, iS_a5 (S := S) h, iS_a6 (S := S) h, iS_a7 (S := S) h, iS_a8 (S := S) h, iS_a9 (S := S) h, iS_a10 (S := S) h, hf, iS_s2 (S := S) h, iS_s3 (S := S) h, iS_s4 (S := S) h, iS_s5 (S := S) h, iS_s6 (S := S) h⟩
theorem iS_v2 {S : Nat → Int → Int} {x : Int} (h : iS S) (hf : zB (0) 1000 x) : iS (zs S 11 (zu (S 11) 2 x)) := ⟨iS_a0 (S := S) h, iS_a1 (S := S) h, iS_a2 (S := S) h, iS_a3 (S := S) h, iS_a4 (S := S) h, iS_a5 (S := S) h, iS_a6 (S := S) h, iS_a7 (S := S) h, iS_a8 (S := S) h, iS_a9 (S := S) h, iS_a10 (S := S) h, iS_s0 (S := S) h, hf, iS_s3 (S := S) h, iS_s4 (S := S) h, iS_s5 (S := S) h, iS_s6 (S := S) h⟩
theorem iS_v3 {S : Nat → Int → Int} {x : Int} (h : iS S) (hf : zB (0) 1000 x) : iS (zs S 11 (zu (S 11) 3 x)) := ⟨iS_a0 (S := S) h, iS_a1 (S := S) h, iS_a2 (S := S) h, iS_a3 (S := S) h, iS_a4 (S := S) h, iS_a5 (S := S) h, iS_a6 (S := S) h, iS_a7 (S := S) h, iS_a8 (S := S) h, iS_a9 (S := S) h, iS_a10 (S := S) h, iS_s0 (S := S) h, iS_s2 (S := S) h, hf, iS_s4 (S := S) h, iS_s5 (S := S) h, iS_s6 (S := S) h⟩
theorem iS_v4 {S : Nat → Int → Int} {x : Int} (h : iS S) (hf : zB (0) 100 x) : iS (zs S 11 (zu (S 11) 4 x)) := ⟨iS_a0 (S := S) h, iS_a1 (S := S) h, iS_a2 (S := S) h, iS_a3 (S := S) h, iS_a4 (S := S) h, iS_a5 (S := S) h, iS_a6 (S := S) h, iS_a7 (S := S) h, iS_a8 (S := S) h, iS_a9 (S := S) h, iS_a10 (S := S) h, iS_s0 (S := S) h, iS_s2 (S := S) h, iS_s3 (S := S) h, hf, iS_s5 (S := S) h, iS_s6 (S := S) h⟩
theorem iS_v5 {S : Nat → Int → Int} {x : Int} (h : iS S) (hf : zB (50) 1000 x) : iS (zs S 11 (zu (S 11) 5 x)) := ⟨iS_a0 (S := S) h, iS_a1 (S := S) h, iS_a2 (S := S) h, iS_a3 (S := S) h, iS_a4 (S := S) h, iS_a5 (S := S) h, iS_a6 (S := S) h, iS_a7 (S := S) h, iS_a8 (S := S) h, iS_a9 (S := S) h, iS_a10 (S := S) h, iS_s0 (S := S) h, iS_s2 (S := S) h, iS_s3 (S := S) h, iS_s4 (S := S) h, hf, iS_s6 (S := S) h⟩
theorem iS_v6 {S : Nat → Int → Int} {x : Int} (h : iS S) (hf : zB (0) 8 x) : iS (zs S 11 (zu (S 11) 6 x)) := ⟨iS_a0 (S := S) h, iS_a1 (S := S) h, iS_a2 (S := S) h, iS_a3 (S := S) h, iS_a4 (S := S) h, iS_a5 (S := S) h, iS_a6 (S := S) h, iS_a7 (S := S) h, iS_a8 (S := S) h, iS_a9 (S := S) h, iS_a10 (S := S) h, iS_s0 (S := S) h, iS_s2 (S := S) h, iS_s3 (S := S) h, iS_s4 (S := S) h, iS_s5 (S := S) h, hf⟩
theorem iS_v1 {S : Nat → Int → Int} {x : Int} (h : iS S) : iS (zs S 11 (zu (S 11) 1 x)) := ⟨iS_a0 (S := S) h, iS_a1 (S := S) h, iS_a2 (S := S) h, iS_a3 (S := S) h, iS_a4 (S := S) h, iS_a5 (S := S) h, iS_a6 (S := S) h, iS_a7 (S := S) h, iS_a8 (S := S) h, iS_a9 (S := S) h, iS_a10 (S := S) h, iS_s0 (S := S) h, iS_s2 (S := S) h, iS_s3 (S := S) h, iS_s4 (S := S) h, iS_s5 (S := S) h, iS_s6 (S := S) h⟩
theorem iN_u0 {N : Nat → Int → Int} {f : Int → Int} (h : iN N) (hf : ∀ i, zB (-15000) 15000 (f i)) : iN (zs N 0 f) := ⟨hf, iN_a1 (N := N) h, iN_a2 (N := N) h, iN_a3 (N := N) h, iN_a4 (N := N) h, iN_a5 (N := N) h, iN_a6 (N := N) h, iN_s0 (N := N) h, iN_s1 (N := N) h, iN_s2 (N := N) h, iN_s3 (N := N) h, iN_s4 (N := N) h, iN_s5 (N := N) h⟩
theorem iN_u1 {N : Nat → Int → Int} {f : Int → Int} (h : iN N) (hf : ∀ i, zB (-15000) 15000 (f i)) : iN (zs N 1 f) := ⟨iN_a0 (N := N) h, hf, iN_a2 (N := N) h, iN_a3 (N := N) h, iN_a4 (N := N) h, iN_a5 (N := N) h, iN_a6 (N := N) h, iN_s0 (N := N) h, iN_s1 (N := N) h, iN_s2 (N := N) h, iN_s3 (N := N) h, iN_s4 (N := N) h, iN_s5 (N := N) h⟩
theorem iN_u2 {N : Nat → Int → Int} {f : Int → Int} (h : iN N) (hf : ∀ i, zB (-100000) 100000 (f i)) : iN (zs N 2 f) := ⟨iN_a0 (N := N) h, iN_a1 (N := N) h, hf, iN_a3 (N := N) h, iN_a4 (N := N) h, iN_a5 (N := N) h, iN_a6 (N := N) h, iN_s0 (N := N) h, iN_s1 (N := N) h, iN_s2 (N := N) h, iN_s3 (N := N) h, iN_s4 (N := N) h, iN_s5 (N := N) h⟩
theorem iN_u3 {N : Nat → Int → Int} {f : Int → Int} (h : iN N) (hf : ∀ i, zB (0) 2545620 (f i)) : iN (zs N 3 f) := ⟨iN_a0 (N := N) h, iN_a1 (N := N) h, iN_a2 (N := N) h, hf, iN_a4 (N := N) h, iN_a5 (N := N) h, iN_a6 (N := N) h, iN_s0 (N := N) h, iN_s1 (N := N) h, iN_s2 (N := N) h, iN_s3 (N := N) h, iN_s4 (N := N) h, iN_s5 (N := N) h⟩
theorem iN_u4 {N : Nat → Int → Int} {f : Int → Int} (h : iN N) (hf : ∀ i, zB (0) 200 (f i)) : iN (zs N 4 f) := ⟨iN_a0 (N := N) h, iN_a1 (N := N) h, iN_a2 (N := N) h, iN_a3 (N := N) h, hf, iN_a5 (N := N) h, iN_a6 (N := N) h, iN_s0 (N := N) h, iN_s1 (N := N) h, iN_s2 (N := N) h, iN_s3 (N := N) h, iN_s4 (N := N) h, iN_s5 (N := N) h⟩
theorem iN_u5 {N : Nat → Int → Int} {f : Int → Int} (h : iN N) (hf : ∀ i, zB (-1) 1000 (f i)) : iN (zs N 5 f) := ⟨iN_a0 (N := N) h, iN_a1 (N := N) h, iN_a2 (N := N) h, iN_a3 (N := N) h, iN_a4 (N := N) h, hf, iN_a6 (N := N) h, iN_s0 (N := N) h, iN_s1 (N := N) h, iN_s2 (N := N) h, iN_s3 (N := N) h, iN_s4 (N := N) h, iN_s5 (N := N) h⟩
theorem iN_u6 {N : Nat → Int → Int} {f : Int → Int} (h : iN N) (hf : ∀ i, zB (-100000) 100000 (f i)) : iN (zs N 6 f) := ⟨iN_a0 (N := N) h, iN_a1 (N := N) h, iN_a2 (N := N) h, iN_a3 (N := N) h, iN_a4 (N := N) h, iN_a5 (N := N) h, hf, iN_s0 (N := N) h, iN_s1 (N := N) h, iN_s2 (N := N) h, iN_s3 (N := N) h, iN_s4 (N := N) h, iN_s5 (N := N) h⟩
theorem iN_v0 {N : Nat → Int → Int} {x : Int} (h : iN N) (hf : zB (0) 60 x) : iN (zs N 7 (zu (N 7) 0 x)) := ⟨iN_a0 (N := N) h, iN_a1 (N := N) h, iN_a2 (N := N) h, iN_a3 (N := N) h, iN_a4 (N := N) h, iN_a5 (N := N) h, iN_a6 (N := N) h, hf, iN_s1 (N := N) h, iN_s2 (N := N) h, iN_s3 (N := N) h, iN_s4 (N := N) h, iN_s5 (N := N) h⟩
theorem iN_v1 {N : Nat → Int → Int} {x : Int} (h : iN N) (hf : zB (0) 8 x) : iN (zs N 7 (zu (N 7) 1 x)) := ⟨iN_a0 (N := N) h, iN_a1 (N := N) h, iN_a2 (N := N) h, iN_a3 (N := N) h, iN_a4 (N := N) h, iN_a5 (N := N) h, iN_a6 (N := N) h, iN_s0 (N := N) h, hf, iN_s2 (N := N) h, iN_s3 (N := N) h, iN_s4 (N := N) h, iN_s5 (N := N) h⟩
theorem iN_v2 {N : Nat → Int → Int} {x : Int} (h : iN N) (hf : zB (0) 1000 x) : iN (zs N 7 (zu (N 7) 2 x)) := ⟨iN_a0 (N := N) h, iN_a1 (N := N) h, iN_a2 (N := N) h, iN_a3 (N := N) h, iN_a4 (N := N) h, iN_a5 (N := N) h, iN_a6 (N := N) h, iN_s0 (N := N) h, iN_s1 (N := N) h, hf, iN_s3 (N := N) h, iN_s4 (N := N) h, iN_s5 (N := N) h⟩
theorem iN_v3 {N : Nat → Int → Int} {x : Int} (h : iN N) (hf : zB (0) 1000 x) : iN (zs N 7 (zu (N 7) 3 x)) := ⟨iN_a0 (N := N) h, iN_a1 (N := N) h, iN_a2 (N := N) h, iN_a3 (N := N) h, iN_a4 (N := N) h, iN_a5 (N := N) h, iN_a6 (N := N) h, iN_s0 (N := N) h, iN_s1 (N := N) h, iN_s2 (N := N) h, hf, iN_s4 (N := N) h, iN_s5 (N := N) h⟩
theorem iN_v4 {N : Nat → Int → Int} {x : Int} (h : iN N) (hf : zB (0) 100 x) : iN (zs N 7 (zu (N 7) 4 x)) := ⟨iN_a0 (N := N) h, iN_a1 (N := N) h, iN_a2 (N := N) h, iN_a3 (N := N) h, iN_a4 (N := N) h, iN_a5 (N := N) h, iN_a6 (N := N) h, iN_s0 (N := N) h, iN_s1 (N := N) h, iN_s2 (N := N) h, iN_s3 (N := N) h, hf, iN_s5 (N := N) h⟩
theorem iN_v5 {N : Nat → Int → Int} {x : Int} (h : iN N) (hf : zB (50) 1000 x) : iN (zs N 7 (zu (N 7) 5 x)) := ⟨iN_a0 (N := N) h, iN_a1 (N := N) h, iN_a2 (N := N) h, iN_a3 (N := N) h, iN_a4 (N := N) h, iN_a5 (N := N) h, iN_a6 (N := N) h, iN_s0 (N := N) h, iN_s1 (N := N) h, iN_s2 (N := N) h, iN_s3 (N := N) h, iN_s4 (N := N) h, hf⟩
def f_B_add (S : Nat → Int → Int) (a b d v w : Int) : Int × (Nat → Int → Int) := if (S 11 6) < 8 then ((S 11 6, zs (zs (zs (zs (zs (zs S 6 (zu (S 6) (S 11 6) a)) 7 (zu (S 7) (S 11 6) b)) 8 (zu (S 8) (S 11 6) d)) 9 (zu (S 9) (S 11 6) v)) 10 (zu (S 10) (S 11 6) w)) 11 (zu ((zs (zs (zs (zs (zs S 6 (zu (S 6) (S 11 6) a)) 7 (zu (S 7) (S 11 6) b)) 8 (zu (S 8) (S 11 6) d)) 9 (zu (S 9) (S 11 6) v)) 10 (zu (S 10) (S 11 6) w)) 11) 6 ((S 11 6) + 1)))) else ((-1, S))
set_option maxHeartbeats 4000000 in
set_option maxRecDepth 100000 in
theorem k_B_add (l : Launch) (dC : Nat → ClassId) (dI : Nat → Nat → Nat) (ad : Nat → Nat) (cI : ClassId) (S : Nat → Int → Int) (k0 k1 k2 k3 : Int) (hI : iS S) (hj : zJ 13 ad) (a b d v w : Int) (hb_a : zB (-15000) 15000 a) (hb_b : zB (-15000) 15000 b) (hb_d : zB (-15000) 15000 d) (hb_v : zB (-15000) 15000 v) (hb_w : zB (-100000) 100000 w) : Met l y_B_add (Cond.code y_B_add c_B_add 7 (some .int) :: zT) { frames := 0, cells := 0, slots := 0, locals := 0 } (va_Pc ([.ref (ad 7), .int (zi a), .int (zi b), .int (zi d), .int (zi v), .int (zi w)] : List Value) (zWS dC dI ad cI S k0 k1 k2 k3)) (zQ (some (.int (zi (f_B_add S a b d v w).1))) (fun H => va_P (dC, dI) classes (wS ad cI (f_B_add S a b d v w).2 k0 k1 k2 k3) H) (zAS ad)) 0 0 (zAS ad) := by
  refine zh (cc := c_B_add) (C := R_B) (by decide) rfl rfl (Nat.le_of_ble_eq_true rfl) ?_
  intro p e s m below meth c ls hx hb hr hlocks hml hown hname hts hl hB
  have hw : ∀ w9 ∈ zT, w9.before ([.ref (ad 7), .int (zi a), .int (zi b), .int (zi d), .int (zi v), .int (zi w)] : List Value).toArray s = true := fun w9 h => hts w9 (List.mem_cons_of_mem _ h)
  obtain ⟨hP, hK, hN⟩ := hB
  obtain ⟨hn0, hn1⟩ := id (iS_s0 hI)
  have hD := zDS hj cI
  have hS : va_S (zAS ad) s.heap s.heap [] := va_S.rf
  obtain ⟨hz0, hz1⟩ := id (iS_s6 hI)
  obtain ⟨hl_a, hh_a⟩ := id hb_a
  obtain ⟨hl_b, hh_b⟩ := id hb_b
  obtain ⟨hl_d, hh_d⟩ := id hb_d
  obtain ⟨hl_v, hh_v⟩ := id hb_v
  obtain ⟨hl_w, hh_w⟩ := id hb_w
  generalize hq : f_B_add S a b d v w = r
  unfold f_B_add at hq
  replace hl : lv_has ls 7 [(0, .ref (ad 7)), (1, .int (zi a)), (2, .int (zi b)), (3, .int (zi d)), (4, .int (zi v)), (5, .int (zi w))] := hl
  refine lv_aload_n hx hb d_B_add_0 rfl (lv_at hl 0 rfl) ?_
  refine va_get (D := (dC, dI)) (ci := 0) (v := .int (zi (S 11 6))) (C := R_B) (T := T_B) (N := 10) hx hb hw i_B hown hK hP 7 rfl rfl 5 (by decide) (hw _ m_24) (fun _ h9 => h9) rfl d_B_add_1 ?_
  refine lv_bipush (v := zi 8) hx hb d_B_add_4 (by decide) ?_
  refine zr_icmp_lt (tgt := 11) hx hb (zB.I (iS_s6 hI) (by decide) (by decide)) (zB.I (zb_c 8) (by decide) (by decide)) d_B_add_6 (by decide) (fun c_1 => ?_) (fun c_1 => ?_)
  · replace hq := (if_pos c_1).symm.trans hq
    have r_2 : zB 0 7 (S 11 6) := ⟨(iS_s6 hI).1, (Int.le_sub_one_of_lt c_1)⟩
    refine lv_aload_n hx hb d_B_add_11 rfl (lv_at hl 0 rfl) ?_
    refine va_get (D := (dC, dI)) (ci := 0) (v := .int (zi (S 11 6))) (C := R_B) (T := T_B) (N := 10) hx hb hw i_B hown hK hP 7 rfl rfl 5 (by decide) (hw _ m_24) (fun _ h9 => h9) rfl d_B_add_12 ?_
    refine lv_istore (lv' := [(6, .int (zi (S 11 6))), (0, .ref (ad 7)), (1, .int (zi a)), (2, .int (zi b)), (3, .int (zi d)), (4, .int (zi v)), (5, .int (zi w))]) hx hb d_B_add_15 hl (by decide) rfl (fun ls hl => ?_)
    refine lv_aload_n hx hb d_B_add_17 rfl (lv_at hl 1 rfl) ?_
    refine va_get (D := (dC, dI)) (ci := 0) (v := .ref (ad 8)) (C := R_B) (T := T_B) (N := 10) hx hb hw i_B hown hK hP 7 rfl rfl 0 (by decide) (hw _ m_19) (fun _ h9 => h9) rfl d_B_add_18 ?_
    refine lv_iload hx hb d_B_add_21 (lv_at hl 0 rfl) ?_
    refine lv_iload_n hx hb d_B_add_23 rfl (lv_at hl 2 rfl) ?_
    refine zr_iast hx hb hK hP (hD _ _ _ _ _) hS 8 0 (cA := cI) (n := 8) (g := S 6) rfl rfl (i := S 11 6) (v := a) (by omega) (by omega) (by decide) d_B_add_24 (fun H locs hP _ hS => ?_)
    have hI_3 : iS (zs S 6 (zu (S 6) (S 11 6) a)) := iS_u6 hI (zu_b (iS_a6 hI) (zB.w hb_a (by decide) (by decide)))
    replace hP : va_P (dC, dI) classes (wS ad cI (zs S 6 (zu (S 6) (S 11 6) a)) k0 k1 k2 k3) H := hP
    refine lv_aload_n hx hb d_B_add_25 rfl (lv_at hl 1 rfl) ?_
    refine va_get (D := (dC, dI)) (ci := 0) (v := .ref (ad 9)) (C := R_B) (T := T_B) (N := 10) hx hb hw i_B hown hK hP 7 rfl rfl 1 (by decide) (hw _ m_20) (fun _ h9 => h9) rfl d_B_add_26 ?_
    refine lv_iload hx hb d_B_add_29 (lv_at hl 0 rfl) ?_
    refine lv_iload_n hx hb d_B_add_31 rfl (lv_at hl 3 rfl) ?_
    refine zr_iast hx hb hK hP (hD _ _ _ _ _) hS 9 0 (cA := cI) (n := 8) (g := S 7) rfl rfl (i := S 11 6) (v := b) (by omega) (by omega) (by decide) d_B_add_32 (fun H locs hP _ hS => ?_)
    have hI_4 : iS (zs (zs S 6 (zu (S 6) (S 11 6) a)) 7 (zu (S 7) (S 11 6) b)) := iS_u7 hI_3 (zu_b (iS_a7 hI) (zB.w hb_b (by decide) (by decide)))
    replace hP : va_P (dC, dI) classes (wS ad cI (zs (zs S 6 (zu (S 6) (S 11 6) a)) 7 (zu (S 7) (S 11 6) b)) k0 k1 k2 k3) H := hP
    refine lv_aload_n hx hb d_B_add_33 rfl (lv_at hl 1 rfl) ?_
    refine va_get (D := (dC, dI)) (ci := 0) (v := .ref (ad 10)) (C := R_B) (T := T_B) (N := 10) hx hb hw i_B hown hK hP 7 rfl rfl 2 (by decide) (hw _ m_21) (fun _ h9 => h9) rfl d_B_add_34 ?_
    refine lv_iload hx hb d_B_add_37 (lv_at hl 0 rfl) ?_
    refine lv_iload_n hx hb d_B_add_39 rfl (lv_at hl 4 rfl) ?_
    refine zr_iast hx hb hK hP (hD _ _ _ _ _) hS 10 0 (cA := cI) (n := 8) (g := S 8) rfl rfl (i := S 11 6) (v := d) (by omega) (by omega) (by decide) d_B_add_40 (fun H locs hP _ hS => ?_)
    have hI_5 : iS (zs (zs (zs S 6 (zu (S 6) (S 11 6) a)) 7 (zu (S 7) (S 11 6) b)) 8 (zu (S 8) (S 11 6) d)) := iS_u8 hI_4 (zu_b (iS_a8 hI) (zB.w hb_d (by decide) (by decide)))
    replace hP : va_P (dC, dI) classes (wS ad cI (zs (zs (zs S 6 (zu (S 6) (S 11 6) a)) 7 (zu (S 7) (S 11 6) b)) 8 (zu (S 8) (S 11 6) d)) k0 k1 k2 k3) H := hP
    refine lv_aload_n hx hb d_B_add_41 rfl (lv_at hl 1 rfl) ?_
    refine va_get (D := (dC, dI)) (ci := 0) (v := .ref (ad 11)) (C := R_B) (T := T_B) (N := 10) hx hb hw i_B hown hK hP 7 rfl rfl 3 (by decide) (hw _ m_22) (fun _ h9 => h9) rfl d_B_add_42 ?_
    refine lv_iload hx hb d_B_add_45 (lv_at hl 0 rfl) ?_
    refine lv_iload hx hb d_B_add_47 (lv_at hl 5 rfl) ?_
    refine zr_iast hx hb hK hP (hD _ _ _ _ _) hS 11 0 (cA := cI) (n := 8) (g := S 9) rfl rfl (i := S 11 6) (v := v) (by omega) (by omega) (by decide) d_B_add_49 (fun H locs hP _ hS => ?_)
    have hI_6 : iS (zs (zs (zs (zs S 6 (zu (S 6) (S 11 6) a)) 7 (zu (S 7) (S 11 6) b)) 8 (zu (S 8) (S 11 6) d)) 9 (zu (S 9) (S 11 6) v)) := iS_u9 hI_5 (zu_b (iS_a9 hI) (zB.w hb_v (by decide) (by decide)))
    replace hP : va_P (dC, dI) classes (wS ad cI (zs (zs (zs (zs S 6 (zu (S 6) (S 11 6) a)) 7 (zu (S 7) (S 11 6) b)) 8 (zu (S 8) (S 11 6) d)) 9 (zu (S 9) (S 11 6) v)) k0 k1 k2 k3) H := hP
    refine lv_aload_n hx hb d_B_add_50 rfl (lv_at hl 1 rfl) ?_
    refine va_get (D := (dC, dI)) (ci := 0) (v := .ref (ad 12)) (C := R_B) (T := T_B) (N := 10) hx hb hw i_B hown hK hP 7 rfl rfl 4 (by decide) (hw _ m_23) (fun _ h9 => h9) rfl d_B_add_51 ?_
    refine lv_iload hx hb d_B_add_54 (lv_at hl 0 rfl) ?_
    refine lv_iload hx hb d_B_add_56 (lv_at hl 6 rfl) ?_
    refine zr_iast hx hb hK hP (hD _ _ _ _ _) hS 12 0 (cA := cI) (n := 8) (g := S 10) rfl rfl (i := S 11 6) (v := w) (by omega) (by omega) (by decide) d_B_add_58 (fun H locs hP _ hS => ?_)
    have hI_7 : iS (zs (zs (zs (zs (zs S 6 (zu (S 6) (S 11 6) a)) 7 (zu (S 7) (S 11 6) b)) 8 (zu (S 8) (S 11 6) d)) 9 (zu (S 9) (S 11 6) v)) 10 (zu (S 10) (S 11 6) w)) := iS_u10 hI_6 (zu_b (iS_a10 hI) (zB.w hb_w (by decide) (by decide)))
    replace hP : va_P (dC, dI) classes (wS ad cI (zs (zs (zs (zs (zs S 6 (zu (S 6) (S 11 6) a)) 7 (zu (S 7) (S 11 6) b)) 8 (zu (S 8) (S 11 6) d)) 9 (zu (S 9) (S 11 6) v)) 10 (zu (S 10) (S 11 6) w)) k0 k1 k2 k3) H := hP
    refine lv_aload_n hx hb d_B_add_59 rfl (lv_at hl 1 rfl) ?_
    refine lv_dup hx hb d_B_add_60 rfl ?_
    refine va_get (D := (dC, dI)) (ci := 0) (v := .int (zi (S 11 6))) (C := R_B) (T := T_B) (N := 10) hx hb hw i_B hown hK hP 7 rfl rfl 5 (by decide) (hw _ m_24) (fun _ h9 => h9) rfl d_B_add_61 ?_
    refine lv_iconst (v := zi 1) hx hb d_B_add_64 rfl ?_
    have b_8 : zB 1 9 ((S 11 6) + 1) := zB.w (zb_add (iS_s6 hI) (zb_c 1)) (by decide) (by decide)
    refine zr_iadd hx hb d_B_add_65 ?_
    refine va_put (D := (dC, dI)) (ci := 0) (v := .int (zi ((S 11 6) + 1))) (ty := .int) (C := R_B) (T := T_B) (N := 10) hx hb hw i_B t_B ty_B nm_B hown hK hP (hD _ _ _ _ _) hS 7 rfl rfl 5 (by decide) (hw _ m_24) (fun _ h9 => h9) rfl (by decide +kernel) rfl rfl (Nat.le_of_ble_eq_true rfl) d_B_add_66 (fun H locs hP _ hS => ?_)
    replace hP : va_P (dC, dI) classes (wS ad cI (zs (zs (zs (zs (zs (zs S 6 (zu (S 6) (S 11 6) a)) 7 (zu (S 7) (S 11 6) b)) 8 (zu (S 8) (S 11 6) d)) 9 (zu (S 9) (S 11 6) v)) 10 (zu (S 10) (S 11 6) w)) 11 (zu ((zs (zs (zs (zs (zs S 6 (zu (S 6) (S 11 6) a)) 7 (zu (S 7) (S 11 6) b)) 8 (zu (S 8) (S 11 6) d)) 9 (zu (S 9) (S 11 6) v)) 10 (zu (S 10) (S 11 6) w)) 11) 6 ((S 11 6) + 1))) k0 k1 k2 k3) H := hP
    refine lv_iload hx hb d_B_add_69 (lv_at hl 0 rfl) ?_
    subst hq
    exact zw_i hx hb hr hlocks rfl hP hS d_B_add_71
  · replace hq := (if_neg c_1).symm.trans hq
    have r_9 : zB 8 8 (S 11 6) := ⟨(Int.not_lt.mp c_1), (iS_s6 hI).2⟩
    refine lv_iconst (v := zi (-1)) hx hb d_B_add_9 rfl ?_
    subst hq
    exact zw_i hx hb hr hlocks rfl hP hS d_B_add_10
def f_S_box (S : Nat → Int → Int) (a b d v w : Int) : Int × (Nat → Int → Int) := if (f_S_isInPlane a b) = 0 then ((-1, S)) else (if (f_S_isInPlane d v) = 0 then ((-1, S)) else (if d < a then ((-1, S)) else (if v < b then ((-1, S)) else (if (f_S_isLevel w) = 0 then ((-1, S)) else (((f_B_add S a b d v w).1, (f_B_add S a b d v w).2))))))
set_option maxHeartbeats 4000000 in
set_option maxRecDepth 100000 in
theorem k_S_box (l : Launch) (dC : Nat → ClassId) (dI : Nat → Nat → Nat) (ad : Nat → Nat) (cI : ClassId) (S : Nat → Int → Int) (k0 k1 k2 k3 : Int) (hI : iS S) (hj : zJ 13 ad) (a b d v w : Int) (hb_a : zB (-2147483648) 2147483647 a) (hb_b : zB (-2147483648) 2147483647 b) (hb_d : zB (-2147483648) 2147483647 d) (hb_v : zB (-2147483648) 2147483647 v) (hb_w : zB (-2147483648) 2147483647 w) : Met l y_S_box (Cond.code y_S_box c_S_box 6 (some .int) :: zT) { frames := 2, cells := 0, slots := 0, locals := 43 } (va_Pc ([.ref (ad 0), .int (zi a), .int (zi b), .int (zi d), .int (zi v), .int (zi w)] : List Value) (zWS dC dI ad cI S k0 k1 k2 k3)) (zQ (some (.int (zi (f_S_box S a b d v w).1))) (fun H => va_P (dC, dI) classes (wS ad cI (f_S_box S a b d v w).2 k0 k1 k2 k3) H) (zAS ad)) 0 0 (zAS ad) := by
  refine zh (cc := c_S_box) (C := R_S) (by decide) rfl rfl (Nat.le_of_ble_eq_true rfl) ?_
  intro p e s m below meth c ls hx hb hr hlocks hml hown hname hts hl hB
  have hw : ∀ w9 ∈ zT, w9.before ([.ref (ad 0), .int (zi a), .int (zi b), .int (zi d), .int (zi v), .int (zi w)] : List Value).toArray s = true := fun w9 h => hts w9 (List.mem_cons_of_mem _ h)
  obtain ⟨hP, hK, hN⟩ := hB
  obtain ⟨hn0, hn1⟩ := id (iS_s0 hI)
  have hD := zDS hj cI
  have hS : va_S (zAS ad) s.heap s.heap [] := va_S.rf
  obtain ⟨hz0, hz1⟩ := id (iS_s6 hI)
  obtain ⟨hl_a, hh_a⟩ := id hb_a
  obtain ⟨hl_b, hh_b⟩ := id hb_b
  obtain ⟨hl_d, hh_d⟩ := id hb_d
  obtain ⟨hl_v, hh_v⟩ := id hb_v
  obtain ⟨hl_w, hh_w⟩ := id hb_w
  generalize hq : f_S_box S a b d v w = r
  unfold f_S_box at hq
  replace hl : lv_has ls 6 [(0, .ref (ad 0)), (1, .int (zi a)), (2, .int (zi b)), (3, .int (zi d)), (4, .int (zi v)), (5, .int (zi w))] := hl
  refine lv_iload_n hx hb d_S_box_0 rfl (lv_at hl 1 rfl) ?_
  refine lv_iload_n hx hb d_S_box_1 rfl (lv_at hl 2 rfl) ?_
  refine zc_n (va_runS (As := [.int (zi a), .int (zi b)]) (rest := []) ⟨hx, hb, hml, hown, hts⟩ (k_S_isInPlane l a b (zB.w hb_a (by decide) (by decide)) (zB.w hb_b (by decide) (by decide)) ) (zcS 2 hts m_50 m_1 m_48 m_49 rfl rfl q_S_isInPlane ⟨Nat.le_of_ble_eq_true rfl, Nat.le_of_ble_eq_true rfl⟩) (zp0 [.int (zi a), .int (zi b)]) rfl rfl hl.1 rfl (lv_room (Nat.le_of_ble_eq_true rfl)) d_S_box_2 ⟨Nat.zero_le _, Nat.zero_le _⟩) ?_
  refine zr_if_eq (tgt := 36) hx hb (zB.I (bb_S_isInPlane a b) (by decide) (by decide)) d_S_box_5 (by decide) (fun c_1 => ?_) (fun c_1 => ?_)
  · replace hq := (if_pos c_1).symm.trans hq
    have r_2 : zB 0 0 (f_S_isInPlane a b) := ⟨(Int.le_of_eq c_1.symm), (Int.le_of_eq c_1)⟩
    refine lv_iconst (v := zi (-1)) hx hb d_S_box_36 rfl ?_
    subst hq
    exact zw_i hx hb hr hlocks rfl hP hS d_S_box_37
  · replace hq := (if_neg c_1).symm.trans hq
    have r_3 : zB 1 1 (f_S_isInPlane a b) := ⟨(by have := (bb_S_isInPlane a b).1; omega), (bb_S_isInPlane a b).2⟩
    have g_4 := gf_S_isInPlane c_1
    obtain ⟨g_4l0, g_4h0⟩ := id g_4.1
    obtain ⟨g_4l1, g_4h1⟩ := id g_4.2
    refine lv_iload_n hx hb d_S_box_8 rfl (lv_at hl 3 rfl) ?_
    refine lv_iload hx hb d_S_box_9 (lv_at hl 4 rfl) ?_
    refine zc_n (va_runS (As := [.int (zi d), .int (zi v)]) (rest := []) ⟨hx, hb, hml, hown, hts⟩ (k_S_isInPlane l d v (zB.w hb_d (by decide) (by decide)) (zB.w hb_v (by decide) (by decide)) ) (zcS 2 hts m_50 m_1 m_48 m_49 rfl rfl q_S_isInPlane ⟨Nat.le_of_ble_eq_true rfl, Nat.le_of_ble_eq_true rfl⟩) (zp0 [.int (zi d), .int (zi v)]) rfl rfl hl.1 rfl (lv_room (Nat.le_of_ble_eq_true rfl)) d_S_box_11 ⟨Nat.zero_le _, Nat.zero_le _⟩) ?_
    refine zr_if_eq (tgt := 36) hx hb (zB.I (bb_S_isInPlane d v) (by decide) (by decide)) d_S_box_14 (by decide) (fun c_5 => ?_) (fun c_5 => ?_)
    · replace hq := (if_pos c_5).symm.trans hq
      have r_6 : zB 0 0 (f_S_isInPlane d v) := ⟨(Int.le_of_eq c_5.symm), (Int.le_of_eq c_5)⟩
      refine lv_iconst (v := zi (-1)) hx hb d_S_box_36 rfl ?_
      subst hq
      exact zw_i hx hb hr hlocks rfl hP hS d_S_box_37
    · replace hq := (if_neg c_5).symm.trans hq
      have r_7 : zB 1 1 (f_S_isInPlane d v) := ⟨(by have := (bb_S_isInPlane d v).1; omega), (bb_S_isInPlane d v).2⟩
      have g_8 := gf_S_isInPlane c_5
      obtain ⟨g_8l0, g_8h0⟩ := id g_8.1
      obtain ⟨g_8l1, g_8h1⟩ := id g_8.2
      refine lv_iload_n hx hb d_S_box_17 rfl (lv_at hl 1 rfl) ?_
      refine lv_iload_n hx hb d_S_box_18 rfl (lv_at hl 3 rfl) ?_
      refine zr_icmp_gt (tgt := 36) hx hb (zB.I g_4.1 (by decide) (by decide)) (zB.I g_8.1 (by decide) (by decide)) d_S_box_19 (by decide) (fun c_9 => ?_) (fun c_9 => ?_)
      · replace hq := (if_pos c_9).symm.trans hq
        refine lv_iconst (v := zi (-1)) hx hb d_S_box_36 rfl ?_
        subst hq
        exact zw_i hx hb hr hlocks rfl hP hS d_S_box_37
      · replace hq := (if_neg c_9).symm.trans hq
        refine lv_iload_n hx hb d_S_box_22 rfl (lv_at hl 2 rfl) ?_
        refine lv_iload hx hb d_S_box_23 (lv_at hl 4 rfl) ?_
        refine zr_icmp_gt (tgt := 36) hx hb (zB.I g_4.2 (by decide) (by decide)) (zB.I g_8.2 (by decide) (by decide)) d_S_box_25 (by decide) (fun c_10 => ?_) (fun c_10 => ?_)
        · replace hq := (if_pos c_10).symm.trans hq
          refine lv_iconst (v := zi (-1)) hx hb d_S_box_36 rfl ?_
          subst hq
          exact zw_i hx hb hr hlocks rfl hP hS d_S_box_37
        · replace hq := (if_neg c_10).symm.trans hq
          refine lv_iload hx hb d_S_box_28 (lv_at hl 5 rfl) ?_
          refine zc_n (va_runS (As := [.int (zi w)]) (rest := []) ⟨hx, hb, hml, hown, hts⟩ (k_S_isLevel l w (zB.w hb_w (by decide) (by decide)) ) (zcS 1 hts m_56 m_1 m_54 m_55 rfl rfl q_S_isLevel ⟨Nat.le_of_ble_eq_true rfl, Nat.le_of_ble_eq_true rfl⟩) (zp0 [.int (zi w)]) rfl rfl hl.1 rfl (lv_room (Nat.le_of_ble_eq_true rfl)) d_S_box_30 ⟨Nat.zero_le _, Nat.zero_le _⟩) ?_
          refine zr_if_ne (tgt := 38) hx hb (zB.I (bb_S_isLevel w) (by decide) (by decide)) d_S_box_33 (by decide) (fun c_11 => ?_) (fun c_11 => ?_)
          · replace hq := (if_neg c_11).symm.trans hq
            have r_12 : zB 1 1 (f_S_isLevel w) := ⟨(by have := (bb_S_isLevel w).1; omega), (bb_S_isLevel w).2⟩
            have g_13 := gf_S_isLevel c_11
            obtain ⟨g_13l, g_13h⟩ := id g_13
            refine lv_aload_n hx hb d_S_box_38 rfl (lv_at hl 0 rfl) ?_
            refine va_get (D := (dC, dI)) (ci := 1) (v := .ref (ad 7)) (C := R_S) (T := T_S) (N := 13) hx hb hw i_S hown hK hP 0 rfl rfl 6 (by decide) (hw _ m_37) (fun _ h9 => h9) rfl d_S_box_39 ?_
            refine lv_iload_n hx hb d_S_box_42 rfl (lv_at hl 1 rfl) ?_
            refine lv_iload_n hx hb d_S_box_43 rfl (lv_at hl 2 rfl) ?_
            refine lv_iload_n hx hb d_S_box_44 rfl (lv_at hl 3 rfl) ?_
            refine lv_iload hx hb d_S_box_45 (lv_at hl 4 rfl) ?_
            refine lv_iload hx hb d_S_box_47 (lv_at hl 5 rfl) ?_
            refine zc_w (va_runVN (As := [.int (zi a), .int (zi b), .int (zi d), .int (zi v), .int (zi w)]) (rest := []) ⟨hx, hb, hml, hown, hts⟩ (k_B_add l dC dI ad cI S k0 k1 k2 k3 hI hj a b d v w (zB.w g_4.1 (by decide) (by decide)) (zB.w g_4.2 (by decide) (by decide)) (zB.w g_8.1 (by decide) (by decide)) (zB.w g_8.2 (by decide) (by decide)) (zB.w g_13 (by decide) (by decide)) ) (zcN 5 hts m_94 m_2 hN.2.2.1 m_93 m_375 rfl rfl q_B_add ⟨Nat.le_of_ble_eq_true rfl, Nat.le_of_ble_eq_true rfl⟩) (zpS7 hP hK hN [.int (zi a), .int (zi b), .int (zi d), .int (zi v), .int (zi w)]) rfl rfl hl.1 rfl (lv_room (Nat.le_of_ble_eq_true rfl)) d_S_box_49 ⟨Nat.zero_le _, Nat.zero_le _⟩) hS (fun q _ h => h) (fun q h => h) (fun H locs hP hz1 hk1 hS => ?_)
            clear hz1 hk1
            subst hq
            exact zw_i hx hb hr hlocks rfl hP hS d_S_box_52
          · replace hq := (if_pos c_11).symm.trans hq
            have r_14 : zB 0 0 (f_S_isLevel w) := ⟨(Int.le_of_eq c_11.symm), (Int.le_of_eq c_11)⟩
            refine lv_iconst (v := zi (-1)) hx hb d_S_box_36 rfl ?_
            subst hq
            exact zw_i hx hb hr hlocks rfl hP hS d_S_box_37
def f_S_station (S : Nat → Int → Int) (a b d : Int) : Int × (Nat → Int → Int) := if (f_S_isInPlane a b) = 0 then ((-1, S)) else (if (f_S_isLevel d) = 0 then ((-1, S)) else (if (S 11 0) < 60 then (if (S 11 0) = 0 then ((S 11 0, zs (zs (zs (zs (zs (zs (zs (zs S 0 (zu (S 0) (S 11 0) a)) 1 (zu (S 1) (S 11 0) b)) 2 (zu (S 2) (S 11 0) d)) 4 (zu (S 4) (S 11 0) 50)) 5 (zu (S 5) ((2 * (S 11 0)) + 0) (-1))) 5 (zu (zu (S 5) ((2 * (S 11 0)) + 0) (-1)) ((2 * (S 11 0)) + 1) (-1))) 3 (zu (S 3) (S 11 0) 0)) 11 (zu ((zs (zs (zs (zs (zs (zs (zs S 0 (zu (S 0) (S 11 0) a)) 1 (zu (S 1) (S 11 0) b)) 2 (zu (S 2) (S 11 0) d)) 4 (zu (S 4) (S 11 0) 50)) 5 (zu (S 5) ((2 * (S 11 0)) + 0) (-1))) 5 (zu (zu (S 5) ((2 * (S 11 0)) + 0) (-1)) ((2 * (S 11 0)) + 1) (-1))) 3 (zu (S 3) (S 11 0) 0)) 11) 0 ((S 11 0) + 1)))) else ((S 11 0, zs (zs (zs (zs (zs (zs (zs (zs S 0 (zu (S 0) (S 11 0) a)) 1 (zu (S 1) (S 11 0) b)) 2 (zu (S 2) (S 11 0) d)) 4 (zu (S 4) (S 11 0) 50)) 5 (zu (S 5) ((2 * (S 11 0)) + 0) (-1))) 5 (zu (zu (S 5) ((2 * (S 11 0)) + 0) (-1)) ((2 * (S 11 0)) + 1) (-1))) 3 (zu (S 3) (S 11 0) ((S 3 ((S 11 0) - 1)) + (f_S_stepBetween (zs (zs (zs (zs (zs (zs S 0 (zu (S 0) (S 11 0) a)) 1 (zu (S 1) (S 11 0) b)) 2 (zu (S 2) (S 11 0) d)) 4 (zu (S 4) (S 11 0) 50)) 5 (zu (S 5) ((2 * (S 11 0)) + 0) (-1))) 5 (zu (zu (S 5) ((2 * (S 11 0)) + 0) (-1)) ((2 * (S 11 0)) + 1) (-1))) ((S 11 0) - 1) (S 11 0))))) 11 (zu ((zs (zs (zs (zs (zs (zs (zs S 0 (zu (S 0) (S 11 0) a)) 1 (zu (S 1) (S 11 0) b)) 2 (zu (S 2) (S 11 0) d)) 4 (zu (S 4) (S 11 0) 50)) 5 (zu (S 5) ((2 * (S 11 0)) + 0) (-1))) 5 (zu (zu (S 5) ((2 * (S 11 0)) + 0) (-1)) ((2 * (S 11 0)) + 1) (-1))) 3 (zu (S 3) (S 11 0) ((S 3 ((S 11 0) - 1)) + (f_S_stepBetween (zs (zs (zs (zs (zs (zs S 0 (zu (S 0) (S 11 0) a)) 1 (zu (S 1) (S 11 0) b)) 2 (zu (S 2) (S 11 0) d)) 4 (zu (S 4) (S 11 0) 50)) 5 (zu (S 5) ((2 * (S 11 0)) + 0) (-1))) 5 (zu (zu (S 5) ((2 * (S 11 0)) + 0) (-1)) ((2 * (S 11 0)) + 1) (-1))) ((S 11 0) - 1) (S 11 0))))) 11) 0 ((S 11 0) + 1))))) else ((-1, S))))
set_option maxHeartbeats 4000000 in
set_option maxRecDepth 100000 in
theorem k_S_station (l : Launch) (dC : Nat → ClassId) (dI : Nat → Nat → Nat) (ad : Nat → Nat) (cI : ClassId) (S : Nat → Int → Int) (k0 k1 k2 k3 : Int) (hI : iS S) (hj : zJ 13 ad) (a b d : Int) (hb_a : zB (-2147483648) 2147483647 a) (hb_b : zB (-2147483648) 2147483647 b) (hb_d : zB (-2147483648) 2147483647 d) : Met l y_S_station (Cond.code y_S_station c_S_station 5 (some .int) :: zT) { frames := 3, cells := 0, slots := 0, locals := 67 } (va_Pc ([.ref (ad 0), .int (zi a), .int (zi b), .int (zi d)] : List Value) (zWS dC dI ad cI S k0 k1 k2 k3)) (zQ (some (.int (zi (f_S_station S a b d).1))) (fun H => va_P (dC, dI) classes (wS ad cI (f_S_station S a b d).2 k0 k1 k2 k3) H) (zAS ad)) 0 0 (zAS ad) := by
  refine zh (cc := c_S_station) (C := R_S) (by decide) rfl rfl (Nat.le_of_ble_eq_true rfl) ?_
  intro p e s m below meth c ls hx hb hr hlocks hml hown hname hts hl hB
  have hw : ∀ w9 ∈ zT, w9.before ([.ref (ad 0), .int (zi a), .int (zi b), .int (zi d)] : List Value).toArray s = true := fun w9 h => hts w9 (List.mem_cons_of_mem _ h)
  obtain ⟨hP, hK, hN⟩ := hB
  obtain ⟨hn0, hn1⟩ := id (iS_s0 hI)
  have hD := zDS hj cI
  have hS : va_S (zAS ad) s.heap s.heap [] := va_S.rf
  obtain ⟨hz0, hz1⟩ := id (iS_s6 hI)
  obtain ⟨hl_a, hh_a⟩ := id hb_a
  obtain ⟨hl_b, hh_b⟩ := id hb_b
  obtain ⟨hl_d, hh_d⟩ := id hb_d
  generalize hq : f_S_station S a b d = r
  unfold f_S_station at hq
  replace hl : lv_has ls 5 [(0, .ref (ad 0)), (1, .int (zi a)), (2, .int (zi b)), (3, .int (zi d))] := hl
  refine lv_iload_n hx hb d_S_station_0 rfl (lv_at hl 1 rfl) ?_
  refine lv_iload_n hx hb d_S_station_1 rfl (lv_at hl 2 rfl) ?_
  refine zc_n (va_runS (As := [.int (zi a), .int (zi b)]) (rest := []) ⟨hx, hb, hml, hown, hts⟩ (k_S_isInPlane l a b (zB.w hb_a (by decide) (by decide)) (zB.w hb_b (by decide) (by decide)) ) (zcS 2 hts m_50 m_1 m_48 m_49 rfl rfl q_S_isInPlane ⟨Nat.le_of_ble_eq_true rfl, Nat.le_of_ble_eq_true rfl⟩) (zp0 [.int (zi a), .int (zi b)]) rfl rfl hl.1 rfl (lv_room (Nat.le_of_ble_eq_true rfl)) d_S_station_2 ⟨Nat.zero_le _, Nat.zero_le _⟩) ?_
  refine zr_if_eq (tgt := 24) hx hb (zB.I (bb_S_isInPlane a b) (by decide) (by decide)) d_S_station_5 (by decide) (fun c_1 => ?_) (fun c_1 => ?_)
  · replace hq := (if_pos c_1).symm.trans hq
    have r_2 : zB 0 0 (f_S_isInPlane a b) := ⟨(Int.le_of_eq c_1.symm), (Int.le_of_eq c_1)⟩
    refine lv_iconst (v := zi (-1)) hx hb d_S_station_24 rfl ?_
    subst hq
    exact zw_i hx hb hr hlocks rfl hP hS d_S_station_25
  · replace hq := (if_neg c_1).symm.trans hq
    have r_3 : zB 1 1 (f_S_isInPlane a b) := ⟨(by have := (bb_S_isInPlane a b).1; omega), (bb_S_isInPlane a b).2⟩
    have g_4 := gf_S_isInPlane c_1
    obtain ⟨g_4l0, g_4h0⟩ := id g_4.1
    obtain ⟨g_4l1, g_4h1⟩ := id g_4.2
    refine lv_iload_n hx hb d_S_station_8 rfl (lv_at hl 3 rfl) ?_
    refine zc_n (va_runS (As := [.int (zi d)]) (rest := []) ⟨hx, hb, hml, hown, hts⟩ (k_S_isLevel l d (zB.w hb_d (by decide) (by decide)) ) (zcS 1 hts m_56 m_1 m_54 m_55 rfl rfl q_S_isLevel ⟨Nat.le_of_ble_eq_true rfl, Nat.le_of_ble_eq_true rfl⟩) (zp0 [.int (zi d)]) rfl rfl hl.1 rfl (lv_room (Nat.le_of_ble_eq_true rfl)) d_S_station_9 ⟨Nat.zero_le _, Nat.zero_le _⟩) ?_
    refine zr_if_eq (tgt := 24) hx hb (zB.I (bb_S_isLevel d) (by decide) (by decide)) d_S_station_12 (by decide) (fun c_5 => ?_) (fun c_5 => ?_)
    · replace hq := (if_pos c_5).symm.trans hq
      have r_6 : zB 0 0 (f_S_isLevel d) := ⟨(Int.le_of_eq c_5.symm), (Int.le_of_eq c_5)⟩
      refine lv_iconst (v := zi (-1)) hx hb d_S_station_24 rfl ?_
      subst hq
      exact zw_i hx hb hr hlocks rfl hP hS d_S_station_25
    · replace hq := (if_neg c_5).symm.trans hq
      have r_7 : zB 1 1 (f_S_isLevel d) := ⟨(by have := (bb_S_isLevel d).1; omega), (bb_S_isLevel d).2⟩
      have g_8 := gf_S_isLevel c_5
      obtain ⟨g_8l, g_8h⟩ := id g_8
      refine lv_aload_n hx hb d_S_station_15 rfl (lv_at hl 0 rfl) ?_
      refine va_get (D := (dC, dI)) (ci := 1) (v := .int (zi (S 11 0))) (C := R_S) (T := T_S) (N := 13) hx hb hw i_S hown hK hP 0 rfl rfl 7 (by decide) (hw _ m_38) (fun _ h9 => h9) rfl d_S_station_16 ?_
      refine lv_bipush (v := zi 60) hx hb d_S_station_19 (by decide) ?_
      refine zr_icmp_lt (tgt := 26) hx hb (zB.I (iS_s0 hI) (by decide) (by decide)) (zB.I (zb_c 60) (by decide) (by decide)) d_S_station_21 (by decide) (fun c_9 => ?_) (fun c_9 => ?_)
      · replace hq := (if_pos c_9).symm.trans hq
        have r_10 : zB 0 59 (S 11 0) := ⟨(iS_s0 hI).1, (Int.le_sub_one_of_lt c_9)⟩
        refine lv_aload_n hx hb d_S_station_26 rfl (lv_at hl 0 rfl) ?_
        refine va_get (D := (dC, dI)) (ci := 1) (v := .int (zi (S 11 0))) (C := R_S) (T := T_S) (N := 13) hx hb hw i_S hown hK hP 0 rfl rfl 7 (by decide) (hw _ m_38) (fun _ h9 => h9) rfl d_S_station_27 ?_
        refine lv_istore (lv' := [(4, .int (zi (S 11 0))), (0, .ref (ad 0)), (1, .int (zi a)), (2, .int (zi b)), (3, .int (zi d))]) hx hb d_S_station_30 hl (by decide) rfl (fun ls hl => ?_)
        refine lv_aload_n hx hb d_S_station_32 rfl (lv_at hl 1 rfl) ?_
        refine va_get (D := (dC, dI)) (ci := 1) (v := .ref (ad 1)) (C := R_S) (T := T_S) (N := 13) hx hb hw i_S hown hK hP 0 rfl rfl 0 (by decide) (hw _ m_31) (fun _ h9 => h9) rfl d_S_station_33 ?_
        refine lv_iload hx hb d_S_station_36 (lv_at hl 0 rfl) ?_
        refine lv_iload_n hx hb d_S_station_38 rfl (lv_at hl 2 rfl) ?_
        refine zr_iast hx hb hK hP (hD _ _ _ _ _) hS 1 0 (cA := cI) (n := 60) (g := S 0) rfl rfl (i := S 11 0) (v := a) (by omega) (by omega) (by decide) d_S_station_39 (fun H locs hP _ hS => ?_)
        have hI_11 : iS (zs S 0 (zu (S 0) (S 11 0) a)) := iS_u0 hI (zu_b (iS_a0 hI) (zB.w g_4.1 (by decide) (by decide)))
        replace hP : va_P (dC, dI) classes (wS ad cI (zs S 0 (zu (S 0) (S 11 0) a)) k0 k1 k2 k3) H := hP
        refine lv_aload_n hx hb d_S_station_40 rfl (lv_at hl 1 rfl) ?_
        refine va_get (D := (dC, dI)) (ci := 1) (v := .ref (ad 2)) (C := R_S) (T := T_S) (N := 13) hx hb hw i_S hown hK hP 0 rfl rfl 1 (by decide) (hw _ m_32) (fun _ h9 => h9) rfl d_S_station_41 ?_
        refine lv_iload hx hb d_S_station_44 (lv_at hl 0 rfl) ?_
        refine lv_iload_n hx hb d_S_station_46 rfl (lv_at hl 3 rfl) ?_
        refine zr_iast hx hb hK hP (hD _ _ _ _ _) hS 2 0 (cA := cI) (n := 60) (g := S 1) rfl rfl (i := S 11 0) (v := b) (by omega) (by omega) (by decide) d_S_station_47 (fun H locs hP _ hS => ?_)
        have hI_12 : iS (zs (zs S 0 (zu (S 0) (S 11 0) a)) 1 (zu (S 1) (S 11 0) b)) := iS_u1 hI_11 (zu_b (iS_a1 hI) (zB.w g_4.2 (by decide) (by decide)))
        replace hP : va_P (dC, dI) classes (wS ad cI (zs (zs S 0 (zu (S 0) (S 11 0) a)) 1 (zu (S 1) (S 11 0) b)) k0 k1 k2 k3) H := hP
        refine lv_aload_n hx hb d_S_station_48 rfl (lv_at hl 1 rfl) ?_
        refine va_get (D := (dC, dI)) (ci := 1) (v := .ref (ad 3)) (C := R_S) (T := T_S) (N := 13) hx hb hw i_S hown hK hP 0 rfl rfl 2 (by decide) (hw _ m_33) (fun _ h9 => h9) rfl d_S_station_49 ?_
        refine lv_iload hx hb d_S_station_52 (lv_at hl 0 rfl) ?_
        refine lv_iload_n hx hb d_S_station_54 rfl (lv_at hl 4 rfl) ?_
        refine zr_iast hx hb hK hP (hD _ _ _ _ _) hS 3 0 (cA := cI) (n := 60) (g := S 2) rfl rfl (i := S 11 0) (v := d) (by omega) (by omega) (by decide) d_S_station_55 (fun H locs hP _ hS => ?_)
        have hI_13 : iS (zs (zs (zs S 0 (zu (S 0) (S 11 0) a)) 1 (zu (S 1) (S 11 0) b)) 2 (zu (S 2) (S 11 0) d)) := iS_u2 hI_12 (zu_b (iS_a2 hI) (zB.w g_8 (by decide) (by decide)))
        replace hP : va_P (dC, dI) classes (wS ad cI (zs (zs (zs S 0 (zu (S 0) (S 11 0) a)) 1 (zu (S 1) (S 11 0) b)) 2 (zu (S 2) (S 11 0) d)) k0 k1 k2 k3) H := hP
        refine lv_aload_n hx hb d_S_station_56 rfl (lv_at hl 1 rfl) ?_
        refine va_get (D := (dC, dI)) (ci := 1) (v := .ref (ad 5)) (C := R_S) (T := T_S) (N := 13) hx hb hw i_S hown hK hP 0 rfl rfl 4 (by decide) (hw _ m_35) (fun _ h9 => h9) rfl d_S_station_57 ?_
        refine lv_iload hx hb d_S_station_60 (lv_at hl 0 rfl) ?_
        refine lv_bipush (v := zi 50) hx hb d_S_station_62 (by decide) ?_
        refine zr_iast hx hb hK hP (hD _ _ _ _ _) hS 5 0 (cA := cI) (n := 60) (g := S 4) rfl rfl (i := S 11 0) (v := 50) (by omega) (by omega) (by decide) d_S_station_64 (fun H locs hP _ hS => ?_)
        have hI_14 : iS (zs (zs (zs (zs S 0 (zu (S 0) (S 11 0) a)) 1 (zu (S 1) (S 11 0) b)) 2 (zu (S 2) (S 11 0) d)) 4 (zu (S 4) (S 11 0) 50)) := iS_u4 hI_13 (zu_b (iS_a4 hI) (zB.w (zb_c 50) (by decide) (by decide)))
        replace hP : va_P (dC, dI) classes (wS ad cI (zs (zs (zs (zs S 0 (zu (S 0) (S 11 0) a)) 1 (zu (S 1) (S 11 0) b)) 2 (zu (S 2) (S 11 0) d)) 4 (zu (S 4) (S 11 0) 50)) k0 k1 k2 k3) H := hP
        refine lv_aload_n hx hb d_S_station_65 rfl (lv_at hl 1 rfl) ?_
        refine va_get (D := (dC, dI)) (ci := 1) (v := .ref (ad 6)) (C := R_S) (T := T_S) (N := 13) hx hb hw i_S hown hK hP 0 rfl rfl 5 (by decide) (hw _ m_36) (fun _ h9 => h9) rfl d_S_station_66 ?_
        refine lv_iconst (v := zi 2) hx hb d_S_station_69 rfl ?_
        refine lv_iload hx hb d_S_station_70 (lv_at hl 0 rfl) ?_
        have b_15 : zB 0 120 (2 * (S 11 0)) := zB.w (zb_mulq (zb_c 2) (iS_s0 hI) (by decide) (by decide)) (by decide) (by decide)
        refine zr_imul hx hb d_S_station_72 ?_
        refine lv_iconst (v := zi 0) hx hb d_S_station_73 rfl ?_
        have b_16 : zB 0 120 ((2 * (S 11 0)) + 0) := zB.w (zb_add b_15 (zb_c 0)) (by decide) (by decide)
        refine zr_iadd hx hb d_S_station_74 ?_
        refine lv_iconst (v := zi (-1)) hx hb d_S_station_75 rfl ?_
        refine zr_iast hx hb hK hP (hD _ _ _ _ _) hS 6 0 (cA := cI) (n := 120) (g := S 5) rfl rfl (i := (2 * (S 11 0)) + 0) (v := -1) (by omega) (by omega) (by decide) d_S_station_76 (fun H locs hP _ hS => ?_)
        have hI_17 : iS (zs (zs (zs (zs (zs S 0 (zu (S 0) (S 11 0) a)) 1 (zu (S 1) (S 11 0) b)) 2 (zu (S 2) (S 11 0) d)) 4 (zu (S 4) (S 11 0) 50)) 5 (zu (S 5) ((2 * (S 11 0)) + 0) (-1))) := iS_u5 hI_14 (zu_b (iS_a5 hI) (zB.w (zb_c (-1)) (by decide) (by decide)))
        replace hP : va_P (dC, dI) classes (wS ad cI (zs (zs (zs (zs (zs S 0 (zu (S 0) (S 11 0) a)) 1 (zu (S 1) (S 11 0) b)) 2 (zu (S 2) (S 11 0) d)) 4 (zu (S 4) (S 11 0) 50)) 5 (zu (S 5) ((2 * (S 11 0)) + 0) (-1))) k0 k1 k2 k3) H := hP
        refine lv_aload_n hx hb d_S_station_77 rfl (lv_at hl 1 rfl) ?_
        refine va_get (D := (dC, dI)) (ci := 1) (v := .ref (ad 6)) (C := R_S) (T := T_S) (N := 13) hx hb hw i_S hown hK hP 0 rfl rfl 5 (by decide) (hw _ m_36) (fun _ h9 => h9) rfl d_S_station_78 ?_
        refine lv_iconst (v := zi 2) hx hb d_S_station_81 rfl ?_
        refine lv_iload hx hb d_S_station_82 (lv_at hl 0 rfl) ?_
        refine zr_imul hx hb d_S_station_84 ?_
        refine lv_iconst (v := zi 1) hx hb d_S_station_85 rfl ?_
        have b_18 : zB 1 121 ((2 * (S 11 0)) + 1) := zB.w (zb_add b_15 (zb_c 1)) (by decide) (by decide)
        refine zr_iadd hx hb d_S_station_86 ?_
        refine lv_iconst (v := zi (-1)) hx hb d_S_station_87 rfl ?_
        refine zr_iast hx hb hK hP (hD _ _ _ _ _) hS 6 0 (cA := cI) (n := 120) (g := zu (S 5) ((2 * (S 11 0)) + 0) (-1)) rfl rfl (i := (2 * (S 11 0)) + 1) (v := -1) (by omega) (by omega) (by decide) d_S_station_88 (fun H locs hP _ hS => ?_)
        have hI_19 : iS (zs (zs (zs (zs (zs (zs S 0 (zu (S 0) (S 11 0) a)) 1 (zu (S 1) (S 11 0) b)) 2 (zu (S 2) (S 11 0) d)) 4 (zu (S 4) (S 11 0) 50)) 5 (zu (S 5) ((2 * (S 11 0)) + 0) (-1))) 5 (zu (zu (S 5) ((2 * (S 11 0)) + 0) (-1)) ((2 * (S 11 0)) + 1) (-1))) := iS_u5 hI_17 (zu_b (zu_b (iS_a5 hI) (zB.w (zb_c (-1)) (by decide) (by decide))) (zB.w (zb_c (-1)) (by decide) (by decide)))
        replace hP : va_P (dC, dI) classes (wS ad cI (zs (zs (zs (zs (zs (zs S 0 (zu (S 0) (S 11 0) a)) 1 (zu (S 1) (S 11 0) b)) 2 (zu (S 2) (S 11 0) d)) 4 (zu (S 4) (S 11 0) 50)) 5 (zu (S 5) ((2 * (S 11 0)) + 0) (-1))) 5 (zu (zu (S 5) ((2 * (S 11 0)) + 0) (-1)) ((2 * (S 11 0)) + 1) (-1))) k0 k1 k2 k3) H := hP
        refine lv_aload_n hx hb d_S_station_89 rfl (lv_at hl 1 rfl) ?_
        refine va_get (D := (dC, dI)) (ci := 1) (v := .ref (ad 4)) (C := R_S) (T := T_S) (N := 13) hx hb hw i_S hown hK hP 0 rfl rfl 3 (by decide) (hw _ m_34) (fun _ h9 => h9) rfl d_S_station_90 ?_
        refine lv_iload hx hb d_S_station_93 (lv_at hl 0 rfl) ?_
        refine lv_iload hx hb d_S_station_95 (lv_at hl 0 rfl) ?_
        refine zr_if_ne (tgt := 104) hx hb (zB.I (iS_s0 hI) (by decide) (by decide)) d_S_station_97 (by decide) (fun c_20 => ?_) (fun c_20 => ?_)
        · replace hq := (if_neg c_20).symm.trans hq
          have r_21 : zB 1 60 (S 11 0) := ⟨(by have := (iS_s0 hI).1; omega), (iS_s0 hI).2⟩
          refine lv_aload_n hx hb d_S_station_104 rfl (lv_at hl 1 rfl) ?_
          refine va_get (D := (dC, dI)) (ci := 1) (v := .ref (ad 4)) (C := R_S) (T := T_S) (N := 13) hx hb hw i_S hown hK hP 0 rfl rfl 3 (by decide) (hw _ m_34) (fun _ h9 => h9) rfl d_S_station_105 ?_
          refine lv_iload hx hb d_S_station_108 (lv_at hl 0 rfl) ?_
          refine lv_iconst (v := zi 1) hx hb d_S_station_110 rfl ?_
          have b_22 : zB 0 59 ((S 11 0) - 1) := zB.w (zb_sub r_21 (zb_c 1)) (by decide) (by decide)
          refine zr_isub hx hb d_S_station_111 ?_
          refine zr_iald hx hb hK hP 4 0 (cA := cI) (n := 60) (g := S 3) rfl rfl (i := (S 11 0) - 1) (by omega) (by omega) (by decide) d_S_station_112 ?_
          refine lv_aload_n hx hb d_S_station_113 rfl (lv_at hl 1 rfl) ?_
          refine lv_iload hx hb d_S_station_114 (lv_at hl 0 rfl) ?_
          refine lv_iconst (v := zi 1) hx hb d_S_station_116 rfl ?_
          refine zr_isub hx hb d_S_station_117 ?_
          refine lv_iload hx hb d_S_station_118 (lv_at hl 0 rfl) ?_
          refine zc_n (va_runV (As := [.int (zi ((S 11 0) - 1)), .int (zi (S 11 0))]) (rest := [.int (zi (S 3 ((S 11 0) - 1))), .int (zi (S 11 0)), .ref (ad 4)]) ⟨hx, hb, hml, hown, hts⟩ (k_S_stepBetween l dC dI ad cI (zs (zs (zs (zs (zs (zs S 0 (zu (S 0) (S 11 0) a)) 1 (zu (S 1) (S 11 0) b)) 2 (zu (S 2) (S 11 0) d)) 4 (zu (S 4) (S 11 0) 50)) 5 (zu (S 5) ((2 * (S 11 0)) + 0) (-1))) 5 (zu (zu (S 5) ((2 * (S 11 0)) + 0) (-1)) ((2 * (S 11 0)) + 1) (-1))) k0 k1 k2 k3 hI_19 ((S 11 0) - 1) (S 11 0) (zB.w b_22 (by decide) (by decide)) ⟨by omega, by omega⟩ ) (zcV 2 hts m_61 m_1 m_59 m_60 m_372 rfl rfl q_S_stepBetween ⟨Nat.le_of_ble_eq_true rfl, Nat.le_of_ble_eq_true rfl⟩) (zpS0 hP hK hN [.int (zi ((S 11 0) - 1)), .int (zi (S 11 0))]) rfl rfl hl.1 rfl (lv_room (Nat.le_of_ble_eq_true rfl)) d_S_station_120 ⟨Nat.zero_le _, Nat.zero_le _⟩) ?_
          refine zr_iadd hx hb d_S_station_123 ?_
          refine zr_iast hx hb hK hP (hD _ _ _ _ _) hS 4 0 (cA := cI) (n := 60) (g := S 3) rfl rfl (i := S 11 0) (v := (S 3 ((S 11 0) - 1)) + (f_S_stepBetween (zs (zs (zs (zs (zs (zs S 0 (zu (S 0) (S 11 0) a)) 1 (zu (S 1) (S 11 0) b)) 2 (zu (S 2) (S 11 0) d)) 4 (zu (S 4) (S 11 0) 50)) 5 (zu (S 5) ((2 * (S 11 0)) + 0) (-1))) 5 (zu (zu (S 5) ((2 * (S 11 0)) + 0) (-1)) ((2 * (S 11 0)) + 1) (-1))) ((S 11 0) - 1) (S 11 0))) (by omega) (by omega) (by decide) d_S_station_124 (fun H locs hP _ hS => ?_)
          replace hP : va_P (dC, dI) classes (wS ad cI (zs (zs (zs (zs (zs (zs (zs S 0 (zu (S 0) (S 11 0) a)) 1 (zu (S 1) (S 11 0) b)) 2 (zu (S 2) (S 11 0) d)) 4 (zu (S 4) (S 11 0) 50)) 5 (zu (S 5) ((2 * (S 11 0)) + 0) (-1))) 5 (zu (zu (S 5) ((2 * (S 11 0)) + 0) (-1)) ((2 * (S 11 0)) + 1) (-1))) 3 (zu (S 3) (S 11 0) ((S 3 ((S 11 0) - 1)) + (f_S_stepBetween (zs (zs (zs (zs (zs (zs S 0 (zu (S 0) (S 11 0) a)) 1 (zu (S 1) (S 11 0) b)) 2 (zu (S 2) (S 11 0) d)) 4 (zu (S 4) (S 11 0) 50)) 5 (zu (S 5) ((2 * (S 11 0)) + 0) (-1))) 5 (zu (zu (S 5) ((2 * (S 11 0)) + 0) (-1)) ((2 * (S 11 0)) + 1) (-1))) ((S 11 0) - 1) (S 11 0))))) k0 k1 k2 k3) H := hP
          refine lv_aload_n hx hb d_S_station_125 rfl (lv_at hl 1 rfl) ?_
          refine lv_dup hx hb d_S_station_126 rfl ?_
          refine va_get (D := (dC, dI)) (ci := 1) (v := .int (zi (S 11 0))) (C := R_S) (T := T_S) (N := 13) hx hb hw i_S hown hK hP 0 rfl rfl 7 (by decide) (hw _ m_38) (fun _ h9 => h9) rfl d_S_station_127 ?_
          refine lv_iconst (v := zi 1) hx hb d_S_station_130 rfl ?_
          have b_23 : zB 1 61 ((S 11 0) + 1) := zB.w (zb_add (iS_s0 hI) (zb_c 1)) (by decide) (by decide)
          refine zr_iadd hx hb d_S_station_131 ?_
          refine va_put (D := (dC, dI)) (ci := 1) (v := .int (zi ((S 11 0) + 1))) (ty := .int) (C := R_S) (T := T_S) (N := 13) hx hb hw i_S t_S ty_S nm_S hown hK hP (hD _ _ _ _ _) hS 0 rfl rfl 7 (by decide) (hw _ m_38) (fun _ h9 => h9) rfl (by decide +kernel) rfl rfl (Nat.le_of_ble_eq_true rfl) d_S_station_132 (fun H locs hP _ hS => ?_)
          replace hP : va_P (dC, dI) classes (wS ad cI (zs (zs (zs (zs (zs (zs (zs (zs S 0 (zu (S 0) (S 11 0) a)) 1 (zu (S 1) (S 11 0) b)) 2 (zu (S 2) (S 11 0) d)) 4 (zu (S 4) (S 11 0) 50)) 5 (zu (S 5) ((2 * (S 11 0)) + 0) (-1))) 5 (zu (zu (S 5) ((2 * (S 11 0)) + 0) (-1)) ((2 * (S 11 0)) + 1) (-1))) 3 (zu (S 3) (S 11 0) ((S 3 ((S 11 0) - 1)) + (f_S_stepBetween (zs (zs (zs (zs (zs (zs S 0 (zu (S 0) (S 11 0) a)) 1 (zu (S 1) (S 11 0) b)) 2 (zu (S 2) (S 11 0) d)) 4 (zu (S 4) (S 11 0) 50)) 5 (zu (S 5) ((2 * (S 11 0)) + 0) (-1))) 5 (zu (zu (S 5) ((2 * (S 11 0)) + 0) (-1)) ((2 * (S 11 0)) + 1) (-1))) ((S 11 0) - 1) (S 11 0))))) 11 (zu ((zs (zs (zs (zs (zs (zs (zs S 0 (zu (S 0) (S 11 0) a)) 1 (zu (S 1) (S 11 0) b)) 2 (zu (S 2) (S 11 0) d)) 4 (zu (S 4) (S 11 0) 50)) 5 (zu (S 5) ((2 * (S 11 0)) + 0) (-1))) 5 (zu (zu (S 5) ((2 * (S 11 0)) + 0) (-1)) ((2 * (S 11 0)) + 1) (-1))) 3 (zu (S 3) (S 11 0) ((S 3 ((S 11 0) - 1)) + (f_S_stepBetween (zs (zs (zs (zs (zs (zs S 0 (zu (S 0) (S 11 0) a)) 1 (zu (S 1) (S 11 0) b)) 2 (zu (S 2) (S 11 0) d)) 4 (zu (S 4) (S 11 0) 50)) 5 (zu (S 5) ((2 * (S 11 0)) + 0) (-1))) 5 (zu (zu (S 5) ((2 * (S 11 0)) + 0) (-1)) ((2 * (S 11 0)) + 1) (-1))) ((S 11 0) - 1) (S 11 0))))) 11) 0 ((S 11 0) + 1))) k0 k1 k2 k3) H := hP
          refine lv_iload hx hb d_S_station_135 (lv_at hl 0 rfl) ?_
          subst hq
          exact zw_i hx hb hr hlocks rfl hP hS d_S_station_137
        · replace hq := (if_pos c_20).symm.trans hq
          have r_24 : zB 0 0 (S 11 0) := ⟨(Int.le_of_eq c_20.symm), (Int.le_of_eq c_20)⟩
          refine lv_iconst (v := zi 0) hx hb d_S_station_100 rfl ?_
          refine lv_goto (tgt := 124) hx hb d_S_station_101 (by decide) ?_
          refine zr_iast hx hb hK hP (hD _ _ _ _ _) hS 4 0 (cA := cI) (n := 60) (g := S 3) rfl rfl (i := S 11 0) (v := 0) (by omega) (by omega) (by decide) d_S_station_124 (fun H locs hP _ hS => ?_)
          have hI_25 : iS (zs (zs (zs (zs (zs (zs (zs S 0 (zu (S 0) (S 11 0) a)) 1 (zu (S 1) (S 11 0) b)) 2 (zu (S 2) (S 11 0) d)) 4 (zu (S 4) (S 11 0) 50)) 5 (zu (S 5) ((2 * (S 11 0)) + 0) (-1))) 5 (zu (zu (S 5) ((2 * (S 11 0)) + 0) (-1)) ((2 * (S 11 0)) + 1) (-1))) 3 (zu (S 3) (S 11 0) 0)) := iS_u3 hI_19 (zu_b (iS_a3 hI) (zB.w (zb_c 0) (by decide) (by decide)))
          replace hP : va_P (dC, dI) classes (wS ad cI (zs (zs (zs (zs (zs (zs (zs S 0 (zu (S 0) (S 11 0) a)) 1 (zu (S 1) (S 11 0) b)) 2 (zu (S 2) (S 11 0) d)) 4 (zu (S 4) (S 11 0) 50)) 5 (zu (S 5) ((2 * (S 11 0)) + 0) (-1))) 5 (zu (zu (S 5) ((2 * (S 11 0)) + 0) (-1)) ((2 * (S 11 0)) + 1) (-1))) 3 (zu (S 3) (S 11 0) 0)) k0 k1 k2 k3) H := hP
          refine lv_aload_n hx hb d_S_station_125 rfl (lv_at hl 1 rfl) ?_
          refine lv_dup hx hb d_S_station_126 rfl ?_
          refine va_get (D := (dC, dI)) (ci := 1) (v := .int (zi (S 11 0))) (C := R_S) (T := T_S) (N := 13) hx hb hw i_S hown hK hP 0 rfl rfl 7 (by decide) (hw _ m_38) (fun _ h9 => h9) rfl d_S_station_127 ?_
          refine lv_iconst (v := zi 1) hx hb d_S_station_130 rfl ?_
          have b_26 : zB 1 61 ((S 11 0) + 1) := zB.w (zb_add (iS_s0 hI) (zb_c 1)) (by decide) (by decide)
          refine zr_iadd hx hb d_S_station_131 ?_
          refine va_put (D := (dC, dI)) (ci := 1) (v := .int (zi ((S 11 0) + 1))) (ty := .int) (C := R_S) (T := T_S) (N := 13) hx hb hw i_S t_S ty_S nm_S hown hK hP (hD _ _ _ _ _) hS 0 rfl rfl 7 (by decide) (hw _ m_38) (fun _ h9 => h9) rfl (by decide +kernel) rfl rfl (Nat.le_of_ble_eq_true rfl) d_S_station_132 (fun H locs hP _ hS => ?_)
          replace hP : va_P (dC, dI) classes (wS ad cI (zs (zs (zs (zs (zs (zs (zs (zs S 0 (zu (S 0) (S 11 0) a)) 1 (zu (S 1) (S 11 0) b)) 2 (zu (S 2) (S 11 0) d)) 4 (zu (S 4) (S 11 0) 50)) 5 (zu (S 5) ((2 * (S 11 0)) + 0) (-1))) 5 (zu (zu (S 5) ((2 * (S 11 0)) + 0) (-1)) ((2 * (S 11 0)) + 1) (-1))) 3 (zu (S 3) (S 11 0) 0)) 11 (zu ((zs (zs (zs (zs (zs (zs (zs S 0 (zu (S 0) (S 11 0) a)) 1 (zu (S 1) (S 11 0) b)) 2 (zu (S 2) (S 11 0) d)) 4 (zu (S 4) (S 11 0) 50)) 5 (zu (S 5) ((2 * (S 11 0)) + 0) (-1))) 5 (zu (zu (S 5) ((2 * (S 11 0)) + 0) (-1)) ((2 * (S 11 0)) + 1) (-1))) 3 (zu (S 3) (S 11 0) 0)) 11) 0 ((S 11 0) + 1))) k0 k1 k2 k3) H := hP
          refine lv_iload hx hb d_S_station_135 (lv_at hl 0 rfl) ?_
          subst hq
          exact zw_i hx hb hr hlocks rfl hP hS d_S_station_137
      · replace hq := (if_neg c_9).symm.trans hq
        have r_27 : zB 60 60 (S 11 0) := ⟨(Int.not_lt.mp c_9), (iS_s0 hI).2⟩
        refine lv_iconst (v := zi (-1)) hx hb d_S_station_24 rfl ?_
        subst hq
        exact zw_i hx hb hr hlocks rfl hP hS d_S_station_25
def f_S_heights (S : Nat → Int → Int) (a b : Int) : Int × (Nat → Int → Int) := if (f_S_isWithin a 0 1000) = 0 then ((0, S)) else (if (f_S_isWithin b 0 1000) = 0 then ((0, S)) else ((1, zs (zs S 11 (zu (S 11) 2 a)) 11 (zu ((zs S 11 (zu (S 11) 2 a)) 11) 3 b))))
set_option maxHeartbeats 4000000 in
set_option maxRecDepth 100000 in
theorem k_S_heights (l : Launch) (dC : Nat → ClassId) (dI : Nat → Nat → Nat) (ad : Nat → Nat) (cI : ClassId) (S : Nat → Int → Int) (k0 k1 k2 k3 : Int) (hI : iS S) (hj : zJ 13 ad) (a b : Int) (hb_a : zB (-2147483648) 2147483647 a) (hb_b : zB (-2147483648) 2147483647 b) : Met l y_S_heights (Cond.code y_S_heights c_S_heights 3 (some .boolean) :: zT) { frames := 1, cells := 0, slots := 0, locals := 22 } (va_Pc ([.ref (ad 0), .int (zi a), .int (zi b)] : List Value) (zWS dC dI ad cI S k0 k1 k2 k3)) (zQ (some (.int (zi (f_S_heights S a b).1))) (fun H => va_P (dC, dI) classes (wS ad cI (f_S_heights S a b).2 k0 k1 k2 k3) H) (zAS ad)) 0 0 (zAS ad) := by
  refine zh (cc := c_S_heights) (C := R_S) (by decide) rfl rfl (Nat.le_of_ble_eq_true rfl) ?_
  intro p e s m below meth c ls hx hb hr hlocks hml hown hname hts hl hB
  have hw : ∀ w9 ∈ zT, w9.before ([.ref (ad 0), .int (zi a), .int (zi b)] : List Value).toArray s = true := fun w9 h => hts w9 (List.mem_cons_of_mem _ h)
  obtain ⟨hP, hK, hN⟩ := hB
  obtain ⟨hn0, hn1⟩ := id (iS_s0 hI)
  have hD := zDS hj cI
  have hS : va_S (zAS ad) s.heap s.heap [] := va_S.rf
  obtain ⟨hz0, hz1⟩ := id (iS_s6 hI)
  obtain ⟨hl_a, hh_a⟩ := id hb_a
  obtain ⟨hl_b, hh_b⟩ := id hb_b
  generalize hq : f_S_heights S a b = r
  unfold f_S_heights at hq
  replace hl : lv_has ls 3 [(0, .ref (ad 0)), (1, .int (zi a)), (2, .int (zi b))] := hl
  refine lv_iload_n hx hb d_S_heights_0 rfl (lv_at hl 1 rfl) ?_
  refine lv_iconst (v := zi 0) hx hb d_S_heights_1 rfl ?_
  refine lv_sipush (v := zi 1000) hx hb d_S_heights_2 (by decide) ?_
  refine zc_n (va_runS (As := [.int (zi a), .int (zi 0), .int (zi 1000)]) (rest := []) ⟨hx, hb, hml, hown, hts⟩ (k_S_isWithin l a 0 1000 (zB.w hb_a (by decide) (by decide)) (zB.w (zb_c 0) (by decide) (by decide)) (zB.w (zb_c 1000) (by decide) (by decide)) ) (zcS 3 hts m_53 m_1 m_51 m_52 rfl rfl q_S_isWithin ⟨Nat.le_of_ble_eq_true rfl, Nat.le_of_ble_eq_true rfl⟩) (zp0 [.int (zi a), .int (zi 0), .int (zi 1000)]) rfl rfl hl.1 rfl (lv_room (Nat.le_of_ble_eq_true rfl)) d_S_heights_5 ⟨Nat.zero_le _, Nat.zero_le _⟩) ?_
  refine zr_if_eq (tgt := 22) hx hb (zB.I (bb_S_isWithin a 0 1000) (by decide) (by decide)) d_S_heights_8 (by decide) (fun c_1 => ?_) (fun c_1 => ?_)
  · replace hq := (if_pos c_1).symm.trans hq
    have r_2 : zB 0 0 (f_S_isWithin a 0 1000) := ⟨(Int.le_of_eq c_1.symm), (Int.le_of_eq c_1)⟩
    refine lv_iconst (v := zi 0) hx hb d_S_heights_22 rfl ?_
    subst hq
    exact zw_z hx hb hr hlocks (zB.w (zb_c 0) (by decide) (by decide)) rfl hP hS d_S_heights_23
  · replace hq := (if_neg c_1).symm.trans hq
    have r_3 : zB 1 1 (f_S_isWithin a 0 1000) := ⟨(by have := (bb_S_isWithin a 0 1000).1; omega), (bb_S_isWithin a 0 1000).2⟩
    have g_4 := gf_S_isWithin c_1
    obtain ⟨g_4l, g_4h⟩ := id g_4
    refine lv_iload_n hx hb d_S_heights_11 rfl (lv_at hl 2 rfl) ?_
    refine lv_iconst (v := zi 0) hx hb d_S_heights_12 rfl ?_
    refine lv_sipush (v := zi 1000) hx hb d_S_heights_13 (by decide) ?_
    refine zc_n (va_runS (As := [.int (zi b), .int (zi 0), .int (zi 1000)]) (rest := []) ⟨hx, hb, hml, hown, hts⟩ (k_S_isWithin l b 0 1000 (zB.w hb_b (by decide) (by decide)) (zB.w (zb_c 0) (by decide) (by decide)) (zB.w (zb_c 1000) (by decide) (by decide)) ) (zcS 3 hts m_53 m_1 m_51 m_52 rfl rfl q_S_isWithin ⟨Nat.le_of_ble_eq_true rfl, Nat.le_of_ble_eq_true rfl⟩) (zp0 [.int (zi b), .int (zi 0), .int (zi 1000)]) rfl rfl hl.1 rfl (lv_room (Nat.le_of_ble_eq_true rfl)) d_S_heights_16 ⟨Nat.zero_le _, Nat.zero_le _⟩) ?_
    refine zr_if_ne (tgt := 24) hx hb (zB.I (bb_S_isWithin b 0 1000) (by decide) (by decide)) d_S_heights_19 (by decide) (fun c_5 => ?_) (fun c_5 => ?_)
    · replace hq := (if_neg c_5).symm.trans hq
      have r_6 : zB 1 1 (f_S_isWithin b 0 1000) := ⟨(by have := (bb_S_isWithin b 0 1000).1; omega), (bb_S_isWithin b 0 1000).2⟩
      have g_7 := gf_S_isWithin c_5
      obtain ⟨g_7l, g_7h⟩ := id g_7
      refine lv_aload_n hx hb d_S_heights_24 rfl (lv_at hl 0 rfl) ?_
      refine lv_iload_n hx hb d_S_heights_25 rfl (lv_at hl 1 rfl) ?_
      refine va_put (D := (dC, dI)) (ci := 1) (v := .int (zi a)) (ty := .int) (C := R_S) (T := T_S) (N := 13) hx hb hw i_S t_S ty_S nm_S hown hK hP (hD _ _ _ _ _) hS 0 rfl rfl 9 (by decide) (hw _ m_40) (fun _ h9 => h9) rfl (by decide +kernel) rfl rfl (Nat.le_of_ble_eq_true rfl) d_S_heights_26 (fun H locs hP _ hS => ?_)
      replace hP : va_P (dC, dI) classes (wS ad cI (zs S 11 (zu (S 11) 2 a)) k0 k1 k2 k3) H := hP
      refine lv_aload_n hx hb d_S_heights_29 rfl (lv_at hl 0 rfl) ?_
      refine lv_iload_n hx hb d_S_heights_30 rfl (lv_at hl 2 rfl) ?_
      refine va_put (D := (dC, dI)) (ci := 1) (v := .int (zi b)) (ty := .int) (C := R_S) (T := T_S) (N := 13) hx hb hw i_S t_S ty_S nm_S hown hK hP (hD _ _ _ _ _) hS 0 rfl rfl 10 (by decide) (hw _ m_41) (fun _ h9 => h9) rfl (by decide +kernel) rfl rfl (Nat.le_of_ble_eq_true rfl) d_S_heights_31 (fun H locs hP _ hS => ?_)
      replace hP : va_P (dC, dI) classes (wS ad cI (zs (zs S 11 (zu (S 11) 2 a)) 11 (zu ((zs S 11 (zu (S 11) 2 a)) 11) 3 b)) k0 k1 k2 k3) H := hP
      refine lv_iconst (v := zi 1) hx hb d_S_heights_34 rfl ?_
      subst hq
      exact zw_z hx hb hr hlocks (zB.w (zb_c 1) (by decide) (by decide)) rfl hP hS d_S_heights_35
    · replace hq := (if_pos c_5).symm.trans hq
      have r_8 : zB 0 0 (f_S_isWithin b 0 1000) := ⟨(Int.le_of_eq c_5.symm), (Int.le_of_eq c_5)⟩
      refine lv_iconst (v := zi 0) hx hb d_S_heights_22 rfl ?_
      subst hq
      exact zw_z hx hb hr hlocks (zB.w (zb_c 0) (by decide) (by decide)) rfl hP hS d_S_heights_23
def f_S_clear (S : Nat → Int → Int) (a b d : Int) : Int × (Nat → Int → Int) := if (f_S_isStation S a) = 0 then ((0, S)) else (if (f_S_isSide b) = 0 then ((0, S)) else (if (f_S_isWithin d 0 1000) = 0 then ((0, S)) else (if (S 5 ((2 * a) + b)) = (-1) then ((1, zs (zs S 11 (zu (S 11) 1 ((S 11 1) + 1))) 5 (zu (S 5) ((2 * a) + b) d))) else ((1, zs S 5 (zu (S 5) ((2 * a) + b) d))))))
set_option maxHeartbeats 4000000 in
set_option maxRecDepth 100000 in
theorem k_S_clear (l : Launch) (dC : Nat → ClassId) (dI : Nat → Nat → Nat) (ad : Nat → Nat) (cI : ClassId) (S : Nat → Int → Int) (k0 k1 k2 k3 : Int) (hI : iS S) (hj : zJ 13 ad) (a b d : Int) (hb_a : zB (-2147483648) 2147483647 a) (hb_b : zB (-2147483648) 2147483647 b) (hb_d : zB (-2147483648) 2147483647 d) : Met l y_S_clear (Cond.code y_S_clear c_S_clear 5 (some .boolean) :: zT) { frames := 1, cells := 0, slots := 0, locals := 22 } (va_Pc ([.ref (ad 0), .int (zi a), .int (zi b), .int (zi d)] : List Value) (zWS dC dI ad cI S k0 k1 k2 k3)) (zQ (some (.int (zi (f_S_clear S a b d).1))) (fun H => va_P (dC, dI) classes (wS ad cI (f_S_clear S a b d).2 k0 k1 k2 k3) H) (zAS ad)) 0 0 (zAS ad) := by
  refine zh (cc := c_S_clear) (C := R_S) (by decide) rfl rfl (Nat.le_of_ble_eq_true rfl) ?_
  intro p e s m below meth c ls hx hb hr hlocks hml hown hname hts hl hB
  have hw : ∀ w9 ∈ zT, w9.before ([.ref (ad 0), .int (zi a), .int (zi b), .int (zi d)] : List Value).toArray s = true := fun w9 h => hts w9 (List.mem_cons_of_mem _ h)
  obtain ⟨hP, hK, hN⟩ := hB
  obtain ⟨hn0, hn1⟩ := id (iS_s0 hI)
  have hD := zDS hj cI
  have hS : va_S (zAS ad) s.heap s.heap [] := va_S.rf
  obtain ⟨hz0, hz1⟩ := id (iS_s6 hI)
  obtain ⟨hl_a, hh_a⟩ := id hb_a
  obtain ⟨hl_b, hh_b⟩ := id hb_b
  obtain ⟨hl_d, hh_d⟩ := id hb_d
  generalize hq : f_S_clear S a b d = r
  unfold f_S_clear at hq
  replace hl : lv_has ls 5 [(0, .ref (ad 0)), (1, .int (zi a)), (2, .int (zi b)), (3, .int (zi d))] := hl
  refine lv_aload_n hx hb d_S_clear_0 rfl (lv_at hl 0 rfl) ?_
  refine lv_iload_n hx hb d_S_clear_1 rfl (lv_at hl 1 rfl) ?_
  refine zc_n (va_runV (As := [.int (zi a)]) (rest := []) ⟨hx, hb, hml, hown, hts⟩ (k_S_isStation l dC dI ad cI S k0 k1 k2 k3 hI a (zB.w hb_a (by decide) (by decide)) ) (zcV 1 hts m_84 m_1 m_82 m_83 m_374 rfl rfl q_S_isStation ⟨Nat.le_of_ble_eq_true rfl, Nat.le_of_ble_eq_true rfl⟩) (zpS0 hP hK hN [.int (zi a)]) rfl rfl hl.1 rfl (lv_room (Nat.le_of_ble_eq_true rfl)) d_S_clear_2 ⟨Nat.zero_le _, Nat.zero_le _⟩) ?_
  refine zr_if_eq (tgt := 26) hx hb (zB.I (bb_S_isStation S a) (by decide) (by decide)) d_S_clear_5 (by decide) (fun c_1 => ?_) (fun c_1 => ?_)
  · replace hq := (if_pos c_1).symm.trans hq
    have r_2 : zB 0 0 (f_S_isStation S a) := ⟨(Int.le_of_eq c_1.symm), (Int.le_of_eq c_1)⟩
    refine lv_iconst (v := zi 0) hx hb d_S_clear_26 rfl ?_
    subst hq
    exact zw_z hx hb hr hlocks (zB.w (zb_c 0) (by decide) (by decide)) rfl hP hS d_S_clear_27
  · replace hq := (if_neg c_1).symm.trans hq
    have r_3 : zB 1 1 (f_S_isStation S a) := ⟨(by have := (bb_S_isStation S a).1; omega), (bb_S_isStation S a).2⟩
    have g_4 := gf_S_isStation hI c_1
    obtain ⟨g_4l, g_4h⟩ := id g_4.1
    have g_4n := g_4.2
    refine lv_iload_n hx hb d_S_clear_8 rfl (lv_at hl 2 rfl) ?_
    refine zc_n (va_runS (As := [.int (zi b)]) (rest := []) ⟨hx, hb, hml, hown, hts⟩ (k_S_isSide l b (zB.w hb_b (by decide) (by decide)) ) (zcS 1 hts m_87 m_1 m_85 m_86 rfl rfl q_S_isSide ⟨Nat.le_of_ble_eq_true rfl, Nat.le_of_ble_eq_true rfl⟩) (zp0 [.int (zi b)]) rfl rfl hl.1 rfl (lv_room (Nat.le_of_ble_eq_true rfl)) d_S_clear_9 ⟨Nat.zero_le _, Nat.zero_le _⟩) ?_
    refine zr_if_eq (tgt := 26) hx hb (zB.I (bb_S_isSide b) (by decide) (by decide)) d_S_clear_12 (by decide) (fun c_5 => ?_) (fun c_5 => ?_)
    · replace hq := (if_pos c_5).symm.trans hq
      have r_6 : zB 0 0 (f_S_isSide b) := ⟨(Int.le_of_eq c_5.symm), (Int.le_of_eq c_5)⟩
      refine lv_iconst (v := zi 0) hx hb d_S_clear_26 rfl ?_
      subst hq
      exact zw_z hx hb hr hlocks (zB.w (zb_c 0) (by decide) (by decide)) rfl hP hS d_S_clear_27
    · replace hq := (if_neg c_5).symm.trans hq
      have r_7 : zB 1 1 (f_S_isSide b) := ⟨(by have := (bb_S_isSide b).1; omega), (bb_S_isSide b).2⟩
      have g_8 := gf_S_isSide c_5
      obtain ⟨g_8l, g_8h⟩ := id g_8
      refine lv_iload_n hx hb d_S_clear_15 rfl (lv_at hl 3 rfl) ?_
      refine lv_iconst (v := zi 0) hx hb d_S_clear_16 rfl ?_
      refine lv_sipush (v := zi 1000) hx hb d_S_clear_17 (by decide) ?_
      refine zc_n (va_runS (As := [.int (zi d), .int (zi 0), .int (zi 1000)]) (rest := []) ⟨hx, hb, hml, hown, hts⟩ (k_S_isWithin l d 0 1000 (zB.w hb_d (by decide) (by decide)) (zB.w (zb_c 0) (by decide) (by decide)) (zB.w (zb_c 1000) (by decide) (by decide)) ) (zcS 3 hts m_53 m_1 m_51 m_52 rfl rfl q_S_isWithin ⟨Nat.le_of_ble_eq_true rfl, Nat.le_of_ble_eq_true rfl⟩) (zp0 [.int (zi d), .int (zi 0), .int (zi 1000)]) rfl rfl hl.1 rfl (lv_room (Nat.le_of_ble_eq_true rfl)) d_S_clear_20 ⟨Nat.zero_le _, Nat.zero_le _⟩) ?_
      refine zr_if_ne (tgt := 28) hx hb (zB.I (bb_S_isWithin d 0 1000) (by decide) (by decide)) d_S_clear_23 (by decide) (fun c_9 => ?_) (fun c_9 => ?_)
      · replace hq := (if_neg c_9).symm.trans hq
        have r_10 : zB 1 1 (f_S_isWithin d 0 1000) := ⟨(by have := (bb_S_isWithin d 0 1000).1; omega), (bb_S_isWithin d 0 1000).2⟩
        have g_11 := gf_S_isWithin c_9
        obtain ⟨g_11l, g_11h⟩ := id g_11
        refine lv_iconst (v := zi 2) hx hb d_S_clear_28 rfl ?_
        refine lv_iload_n hx hb d_S_clear_29 rfl (lv_at hl 1 rfl) ?_
        have b_12 : zB 0 118 (2 * a) := zB.w (zb_mulq (zb_c 2) g_4.1 (by decide) (by decide)) (by decide) (by decide)
        refine zr_imul hx hb d_S_clear_30 ?_
        refine lv_iload_n hx hb d_S_clear_31 rfl (lv_at hl 2 rfl) ?_
        have b_13 : zB 0 119 ((2 * a) + b) := zB.w (zb_add b_12 g_8) (by decide) (by decide)
        refine zr_iadd hx hb d_S_clear_32 ?_
        refine lv_istore (lv' := [(4, .int (zi ((2 * a) + b))), (0, .ref (ad 0)), (1, .int (zi a)), (2, .int (zi b)), (3, .int (zi d))]) hx hb d_S_clear_33 hl (by decide) rfl (fun ls hl => ?_)
        refine lv_aload_n hx hb d_S_clear_35 rfl (lv_at hl 1 rfl) ?_
        refine va_get (D := (dC, dI)) (ci := 1) (v := .ref (ad 6)) (C := R_S) (T := T_S) (N := 13) hx hb hw i_S hown hK hP 0 rfl rfl 5 (by decide) (hw _ m_36) (fun _ h9 => h9) rfl d_S_clear_36 ?_
        refine lv_iload hx hb d_S_clear_39 (lv_at hl 0 rfl) ?_
        refine zr_iald hx hb hK hP 6 0 (cA := cI) (n := 120) (g := S 5) rfl rfl (i := (2 * a) + b) (by omega) (by omega) (by decide) d_S_clear_41 ?_
        refine lv_iconst (v := zi (-1)) hx hb d_S_clear_42 rfl ?_
        refine zr_icmp_ne (tgt := 56) hx hb (zB.I (iS_a5 hI ((2 * a) + b)) (by decide) (by decide)) (zB.I (zb_c (-1)) (by decide) (by decide)) d_S_clear_43 (by decide) (fun c_14 => ?_) (fun c_14 => ?_)
        · replace hq := (if_neg c_14).symm.trans hq
          have r_15 : zB 0 1000 (S 5 ((2 * a) + b)) := ⟨(by have := (iS_a5 hI ((2 * a) + b)).1; omega), (iS_a5 hI ((2 * a) + b)).2⟩
          refine lv_aload_n hx hb d_S_clear_56 rfl (lv_at hl 1 rfl) ?_
          refine va_get (D := (dC, dI)) (ci := 1) (v := .ref (ad 6)) (C := R_S) (T := T_S) (N := 13) hx hb hw i_S hown hK hP 0 rfl rfl 5 (by decide) (hw _ m_36) (fun _ h9 => h9) rfl d_S_clear_57 ?_
          refine lv_iload hx hb d_S_clear_60 (lv_at hl 0 rfl) ?_
          refine lv_iload_n hx hb d_S_clear_62 rfl (lv_at hl 4 rfl) ?_
          refine zr_iast hx hb hK hP (hD _ _ _ _ _) hS 6 0 (cA := cI) (n := 120) (g := S 5) rfl rfl (i := (2 * a) + b) (v := d) (by omega) (by omega) (by decide) d_S_clear_63 (fun H locs hP _ hS => ?_)
          have hI_16 : iS (zs S 5 (zu (S 5) ((2 * a) + b) d)) := iS_u5 hI (zu_b (iS_a5 hI) (zB.w g_11 (by decide) (by decide)))
          replace hP : va_P (dC, dI) classes (wS ad cI (zs S 5 (zu (S 5) ((2 * a) + b) d)) k0 k1 k2 k3) H := hP
          refine lv_iconst (v := zi 1) hx hb d_S_clear_64 rfl ?_
          subst hq
          exact zw_z hx hb hr hlocks (zB.w (zb_c 1) (by decide) (by decide)) rfl hP hS d_S_clear_65
        · replace hq := (if_pos c_14).symm.trans hq
          have r_17 : zB (-1) (-1) (S 5 ((2 * a) + b)) := ⟨(Int.le_of_eq c_14.symm), (Int.le_of_eq c_14)⟩
          refine lv_aload_n hx hb d_S_clear_46 rfl (lv_at hl 1 rfl) ?_
          refine lv_dup hx hb d_S_clear_47 rfl ?_
          refine va_get (D := (dC, dI)) (ci := 1) (v := .int (zi (S 11 1))) (C := R_S) (T := T_S) (N := 13) hx hb hw i_S hown hK hP 0 rfl rfl 8 (by decide) (hw _ m_39) (fun _ h9 => h9) rfl d_S_clear_48 ?_
          refine lv_iconst (v := zi 1) hx hb d_S_clear_51 rfl ?_
          refine zr_iadd hx hb d_S_clear_52 ?_
          refine va_put (D := (dC, dI)) (ci := 1) (v := .int (zi ((S 11 1) + 1))) (ty := .int) (C := R_S) (T := T_S) (N := 13) hx hb hw i_S t_S ty_S nm_S hown hK hP (hD _ _ _ _ _) hS 0 rfl rfl 8 (by decide) (hw _ m_39) (fun _ h9 => h9) rfl (by decide +kernel) rfl rfl (Nat.le_of_ble_eq_true rfl) d_S_clear_53 (fun H locs hP _ hS => ?_)
          replace hP : va_P (dC, dI) classes (wS ad cI (zs S 11 (zu (S 11) 1 ((S 11 1) + 1))) k0 k1 k2 k3) H := hP
          refine lv_aload_n hx hb d_S_clear_56 rfl (lv_at hl 1 rfl) ?_
          refine va_get (D := (dC, dI)) (ci := 1) (v := .ref (ad 6)) (C := R_S) (T := T_S) (N := 13) hx hb hw i_S hown hK hP 0 rfl rfl 5 (by decide) (hw _ m_36) (fun _ h9 => h9) rfl d_S_clear_57 ?_
          refine lv_iload hx hb d_S_clear_60 (lv_at hl 0 rfl) ?_
          refine lv_iload_n hx hb d_S_clear_62 rfl (lv_at hl 4 rfl) ?_
          refine zr_iast hx hb hK hP (hD _ _ _ _ _) hS 6 0 (cA := cI) (n := 120) (g := S 5) rfl rfl (i := (2 * a) + b) (v := d) (by omega) (by omega) (by decide) d_S_clear_63 (fun H locs hP _ hS => ?_)
          have hI_18 : iS (zs (zs S 11 (zu (S 11) 1 ((S 11 1) + 1))) 5 (zu (S 5) ((2 * a) + b) d)) := iS_u5 hI (zu_b (iS_a5 hI) (zB.w g_11 (by decide) (by decide)))
          replace hP : va_P (dC, dI) classes (wS ad cI (zs (zs S 11 (zu (S 11) 1 ((S 11 1) + 1))) 5 (zu (S 5) ((2 * a) + b) d)) k0 k1 k2 k3) H := hP
          refine lv_iconst (v := zi 1) hx hb d_S_clear_64 rfl ?_
          subst hq
          exact zw_z hx hb hr hlocks (zB.w (zb_c 1) (by decide) (by decide)) rfl hP hS d_S_clear_65
      · replace hq := (if_pos c_9).symm.trans hq
        have r_19 : zB 0 0 (f_S_isWithin d 0 1000) := ⟨(Int.le_of_eq c_9.symm), (Int.le_of_eq c_9)⟩
        refine lv_iconst (v := zi 0) hx hb d_S_clear_26 rfl ?_
        subst hq
        exact zw_z hx hb hr hlocks (zB.w (zb_c 0) (by decide) (by decide)) rfl hP hS d_S_clear_27
def f_S_speed (S : Nat → Int → Int) (a b : Int) : Int × (Nat → Int → Int) := if (f_S_isStation S a) = 0 then ((0, S)) else (if (f_S_isWithin b 0 200) = 0 then ((0, S)) else ((1, zs S 4 (zu (S 4) a b))))
set_option maxHeartbeats 4000000 in
set_option maxRecDepth 100000 in
theorem k_S_speed (l : Launch) (dC : Nat → ClassId) (dI : Nat → Nat → Nat) (ad : Nat → Nat) (cI : ClassId) (S : Nat → Int → Int) (k0 k1 k2 k3 : Int) (hI : iS S) (hj : zJ 13 ad) (a b : Int) (hb_a : zB (-2147483648) 2147483647 a) (hb_b : zB (-2147483648) 2147483647 b) : Met l y_S_speed (Cond.code y_S_speed c_S_speed 3 (some .boolean) :: zT) { frames := 1, cells := 0, slots := 0, locals := 22 } (va_Pc ([.ref (ad 0), .int (zi a), .int (zi b)] : List Value) (zWS dC dI ad cI S k0 k1 k2 k3)) (zQ (some (.int (zi (f_S_speed S a b).1))) (fun H => va_P (dC, dI) classes (wS ad cI (f_S_speed S a b).2 k0 k1 k2 k3) H) (zAS ad)) 0 0 (zAS ad) := by
  refine zh (cc := c_S_speed) (C := R_S) (by decide) rfl rfl (Nat.le_of_ble_eq_true rfl) ?_
  intro p e s m below meth c ls hx hb hr hlocks hml hown hname hts hl hB
  have hw : ∀ w9 ∈ zT, w9.before ([.ref (ad 0), .int (zi a), .int (zi b)] : List Value).toArray s = true := fun w9 h => hts w9 (List.mem_cons_of_mem _ h)
  obtain ⟨hP, hK, hN⟩ := hB
  obtain ⟨hn0, hn1⟩ := id (iS_s0 hI)
  have hD := zDS hj cI
  have hS : va_S (zAS ad) s.heap s.heap [] := va_S.rf
  obtain ⟨hz0, hz1⟩ := id (iS_s6 hI)
  obtain ⟨hl_a, hh_a⟩ := id hb_a
  obtain ⟨hl_b, hh_b⟩ := id hb_b
  generalize hq : f_S_speed S a b = r
  unfold f_S_speed at hq
  replace hl : lv_has ls 3 [(0, .ref (ad 0)), (1, .int (zi a)), (2, .int (zi b))] := hl
  refine lv_aload_n hx hb d_S_speed_0 rfl (lv_at hl 0 rfl) ?_
  refine lv_iload_n hx hb d_S_speed_1 rfl (lv_at hl 1 rfl) ?_
  refine zc_n (va_runV (As := [.int (zi a)]) (rest := []) ⟨hx, hb, hml, hown, hts⟩ (k_S_isStation l dC dI ad cI S k0 k1 k2 k3 hI a (zB.w hb_a (by decide) (by decide)) ) (zcV 1 hts m_84 m_1 m_82 m_83 m_374 rfl rfl q_S_isStation ⟨Nat.le_of_ble_eq_true rfl, Nat.le_of_ble_eq_true rfl⟩) (zpS0 hP hK hN [.int (zi a)]) rfl rfl hl.1 rfl (lv_room (Nat.le_of_ble_eq_true rfl)) d_S_speed_2 ⟨Nat.zero_le _, Nat.zero_le _⟩) ?_
  refine zr_if_eq (tgt := 19) hx hb (zB.I (bb_S_isStation S a) (by decide) (by decide)) d_S_speed_5 (by decide) (fun c_1 => ?_) (fun c_1 => ?_)
  · replace hq := (if_pos c_1).symm.trans hq
    have r_2 : zB 0 0 (f_S_isStation S a) := ⟨(Int.le_of_eq c_1.symm), (Int.le_of_eq c_1)⟩
    refine lv_iconst (v := zi 0) hx hb d_S_speed_19 rfl ?_
    subst hq
    exact zw_z hx hb hr hlocks (zB.w (zb_c 0) (by decide) (by decide)) rfl hP hS d_S_speed_20
  · replace hq := (if_neg c_1).symm.trans hq
    have r_3 : zB 1 1 (f_S_isStation S a) := ⟨(by have := (bb_S_isStation S a).1; omega), (bb_S_isStation S a).2⟩
    have g_4 := gf_S_isStation hI c_1
    obtain ⟨g_4l, g_4h⟩ := id g_4.1
    have g_4n := g_4.2
    refine lv_iload_n hx hb d_S_speed_8 rfl (lv_at hl 2 rfl) ?_
    refine lv_iconst (v := zi 0) hx hb d_S_speed_9 rfl ?_
    refine lv_sipush (v := zi 200) hx hb d_S_speed_10 (by decide) ?_
    refine zc_n (va_runS (As := [.int (zi b), .int (zi 0), .int (zi 200)]) (rest := []) ⟨hx, hb, hml, hown, hts⟩ (k_S_isWithin l b 0 200 (zB.w hb_b (by decide) (by decide)) (zB.w (zb_c 0) (by decide) (by decide)) (zB.w (zb_c 200) (by decide) (by decide)) ) (zcS 3 hts m_53 m_1 m_51 m_52 rfl rfl q_S_isWithin ⟨Nat.le_of_ble_eq_true rfl, Nat.le_of_ble_eq_true rfl⟩) (zp0 [.int (zi b), .int (zi 0), .int (zi 200)]) rfl rfl hl.1 rfl (lv_room (Nat.le_of_ble_eq_true rfl)) d_S_speed_13 ⟨Nat.zero_le _, Nat.zero_le _⟩) ?_
    refine zr_if_ne (tgt := 21) hx hb (zB.I (bb_S_isWithin b 0 200) (by decide) (by decide)) d_S_speed_16 (by decide) (fun c_5 => ?_) (fun c_5 => ?_)
    · replace hq := (if_neg c_5).symm.trans hq
      have r_6 : zB 1 1 (f_S_isWithin b 0 200) := ⟨(by have := (bb_S_isWithin b 0 200).1; omega), (bb_S_isWithin b 0 200).2⟩
      have g_7 := gf_S_isWithin c_5
      obtain ⟨g_7l, g_7h⟩ := id g_7
      refine lv_aload_n hx hb d_S_speed_21 rfl (lv_at hl 0 rfl) ?_
      refine va_get (D := (dC, dI)) (ci := 1) (v := .ref (ad 5)) (C := R_S) (T := T_S) (N := 13) hx hb hw i_S hown hK hP 0 rfl rfl 4 (by decide) (hw _ m_35) (fun _ h9 => h9) rfl d_S_speed_22 ?_
      refine lv_iload_n hx hb d_S_speed_25 rfl (lv_at hl 1 rfl) ?_
      refine lv_iload_n hx hb d_S_speed_26 rfl (lv_at hl 2 rfl) ?_
      refine zr_iast hx hb hK hP (hD _ _ _ _ _) hS 5 0 (cA := cI) (n := 60) (g := S 4) rfl rfl (i := a) (v := b) (by omega) (by omega) (by decide) d_S_speed_27 (fun H locs hP _ hS => ?_)
      have hI_8 : iS (zs S 4 (zu (S 4) a b)) := iS_u4 hI (zu_b (iS_a4 hI) (zB.w g_7 (by decide) (by decide)))
      replace hP : va_P (dC, dI) classes (wS ad cI (zs S 4 (zu (S 4) a b)) k0 k1 k2 k3) H := hP
      refine lv_iconst (v := zi 1) hx hb d_S_speed_28 rfl ?_
      subst hq
      exact zw_z hx hb hr hlocks (zB.w (zb_c 1) (by decide) (by decide)) rfl hP hS d_S_speed_29
    · replace hq := (if_pos c_5).symm.trans hq
      have r_9 : zB 0 0 (f_S_isWithin b 0 200) := ⟨(Int.le_of_eq c_5.symm), (Int.le_of_eq c_5)⟩
      refine lv_iconst (v := zi 0) hx hb d_S_speed_19 rfl ?_
      subst hq
      exact zw_z hx hb hr hlocks (zB.w (zb_c 0) (by decide) (by decide)) rfl hP hS d_S_speed_20
def f_S_brake (S : Nat → Int → Int) (a b : Int) : Int × (Nat → Int → Int) := if (f_S_isWithin a 0 100) = 0 then ((0, S)) else (if (f_S_isWithin b 50 1000) = 0 then ((0, S)) else ((1, zs (zs S 11 (zu (S 11) 4 a)) 11 (zu ((zs S 11 (zu (S 11) 4 a)) 11) 5 b))))
set_option maxHeartbeats 4000000 in
set_option maxRecDepth 100000 in
theorem k_S_brake (l : Launch) (dC : Nat → ClassId) (dI : Nat → Nat → Nat) (ad : Nat → Nat) (cI : ClassId) (S : Nat → Int → Int) (k0 k1 k2 k3 : Int) (hI : iS S) (hj : zJ 13 ad) (a b : Int) (hb_a : zB (-2147483648) 2147483647 a) (hb_b : zB (-2147483648) 2147483647 b) : Met l y_S_brake (Cond.code y_S_brake c_S_brake 3 (some .boolean) :: zT) { frames := 1, cells := 0, slots := 0, locals := 22 } (va_Pc ([.ref (ad 0), .int (zi a), .int (zi b)] : List Value) (zWS dC dI ad cI S k0 k1 k2 k3)) (zQ (some (.int (zi (f_S_brake S a b).1))) (fun H => va_P (dC, dI) classes (wS ad cI (f_S_brake S a b).2 k0 k1 k2 k3) H) (zAS ad)) 0 0 (zAS ad) := by
  refine zh (cc := c_S_brake) (C := R_S) (by decide) rfl rfl (Nat.le_of_ble_eq_true rfl) ?_
  intro p e s m below meth c ls hx hb hr hlocks hml hown hname hts hl hB
  have hw : ∀ w9 ∈ zT, w9.before ([.ref (ad 0), .int (zi a), .int (zi b)] : List Value).toArray s = true := fun w9 h => hts w9 (List.mem_cons_of_mem _ h)
  obtain ⟨hP, hK, hN⟩ := hB
  obtain ⟨hn0, hn1⟩ := id (iS_s0 hI)
  have hD := zDS hj cI
  have hS : va_S (zAS ad) s.heap s.heap [] := va_S.rf
  obtain ⟨hz0, hz1⟩ := id (iS_s6 hI)
  obtain ⟨hl_a, hh_a⟩ := id hb_a
  obtain ⟨hl_b, hh_b⟩ := id hb_b
  generalize hq : f_S_brake S a b = r
  unfold f_S_brake at hq
  replace hl : lv_has ls 3 [(0, .ref (ad 0)), (1, .int (zi a)), (2, .int (zi b))] := hl
  refine lv_iload_n hx hb d_S_brake_0 rfl (lv_at hl 1 rfl) ?_
  refine lv_iconst (v := zi 0) hx hb d_S_brake_1 rfl ?_
  refine lv_bipush (v := zi 100) hx hb d_S_brake_2 (by decide) ?_
  refine zc_n (va_runS (As := [.int (zi a), .int (zi 0), .int (zi 100)]) (rest := []) ⟨hx, hb, hml, hown, hts⟩ (k_S_isWithin l a 0 100 (zB.w hb_a (by decide) (by decide)) (zB.w (zb_c 0) (by decide) (by decide)) (zB.w (zb_c 100) (by decide) (by decide)) ) (zcS 3 hts m_53 m_1 m_51 m_52 rfl rfl q_S_isWithin ⟨Nat.le_of_ble_eq_true rfl, Nat.le_of_ble_eq_true rfl⟩) (zp0 [.int (zi a), .int (zi 0), .int (zi 100)]) rfl rfl hl.1 rfl (lv_room (Nat.le_of_ble_eq_true rfl)) d_S_brake_4 ⟨Nat.zero_le _, Nat.zero_le _⟩) ?_
  refine zr_if_eq (tgt := 22) hx hb (zB.I (bb_S_isWithin a 0 100) (by decide) (by decide)) d_S_brake_7 (by decide) (fun c_1 => ?_) (fun c_1 => ?_)
  · replace hq := (if_pos c_1).symm.trans hq
    have r_2 : zB 0 0 (f_S_isWithin a 0 100) := ⟨(Int.le_of_eq c_1.symm), (Int.le_of_eq c_1)⟩
    refine lv_iconst (v := zi 0) hx hb d_S_brake_22 rfl ?_
    subst hq
    exact zw_z hx hb hr hlocks (zB.w (zb_c 0) (by decide) (by decide)) rfl hP hS d_S_brake_23
  · replace hq := (if_neg c_1).symm.trans hq
    have r_3 : zB 1 1 (f_S_isWithin a 0 100) := ⟨(by have := (bb_S_isWithin a 0 100).1; omega), (bb_S_isWithin a 0 100).2⟩
    have g_4 := gf_S_isWithin c_1
    obtain ⟨g_4l, g_4h⟩ := id g_4
    refine lv_iload_n hx hb d_S_brake_10 rfl (lv_at hl 2 rfl) ?_
    refine lv_bipush (v := zi 50) hx hb d_S_brake_11 (by decide) ?_
    refine lv_sipush (v := zi 1000) hx hb d_S_brake_13 (by decide) ?_
    refine zc_n (va_runS (As := [.int (zi b), .int (zi 50), .int (zi 1000)]) (rest := []) ⟨hx, hb, hml, hown, hts⟩ (k_S_isWithin l b 50 1000 (zB.w hb_b (by decide) (by decide)) (zB.w (zb_c 50) (by decide) (by decide)) (zB.w (zb_c 1000) (by decide) (by decide)) ) (zcS 3 hts m_53 m_1 m_51 m_52 rfl rfl q_S_isWithin ⟨Nat.le_of_ble_eq_true rfl, Nat.le_of_ble_eq_true rfl⟩) (zp0 [.int (zi b), .int (zi 50), .int (zi 1000)]) rfl rfl hl.1 rfl (lv_room (Nat.le_of_ble_eq_true rfl)) d_S_brake_16 ⟨Nat.zero_le _, Nat.zero_le _⟩) ?_
    refine zr_if_ne (tgt := 24) hx hb (zB.I (bb_S_isWithin b 50 1000) (by decide) (by decide)) d_S_brake_19 (by decide) (fun c_5 => ?_) (fun c_5 => ?_)
    · replace hq := (if_neg c_5).symm.trans hq
      have r_6 : zB 1 1 (f_S_isWithin b 50 1000) := ⟨(by have := (bb_S_isWithin b 50 1000).1; omega), (bb_S_isWithin b 50 1000).2⟩
      have g_7 := gf_S_isWithin c_5
      obtain ⟨g_7l, g_7h⟩ := id g_7
      refine lv_aload_n hx hb d_S_brake_24 rfl (lv_at hl 0 rfl) ?_
      refine lv_iload_n hx hb d_S_brake_25 rfl (lv_at hl 1 rfl) ?_
      refine va_put (D := (dC, dI)) (ci := 1) (v := .int (zi a)) (ty := .int) (C := R_S) (T := T_S) (N := 13) hx hb hw i_S t_S ty_S nm_S hown hK hP (hD _ _ _ _ _) hS 0 rfl rfl 11 (by decide) (hw _ m_42) (fun _ h9 => h9) rfl (by decide +kernel) rfl rfl (Nat.le_of_ble_eq_true rfl) d_S_brake_26 (fun H locs hP _ hS => ?_)
      replace hP : va_P (dC, dI) classes (wS ad cI (zs S 11 (zu (S 11) 4 a)) k0 k1 k2 k3) H := hP
      refine lv_aload_n hx hb d_S_brake_29 rfl (lv_at hl 0 rfl) ?_
      refine lv_iload_n hx hb d_S_brake_30 rfl (lv_at hl 2 rfl) ?_
      refine va_put (D := (dC, dI)) (ci := 1) (v := .int (zi b)) (ty := .int) (C := R_S) (T := T_S) (N := 13) hx hb hw i_S t_S ty_S nm_S hown hK hP (hD _ _ _ _ _) hS 0 rfl rfl 12 (by decide) (hw _ m_43) (fun _ h9 => h9) rfl (by decide +kernel) rfl rfl (Nat.le_of_ble_eq_true rfl) d_S_brake_31 (fun H locs hP _ hS => ?_)
      replace hP : va_P (dC, dI) classes (wS ad cI (zs (zs S 11 (zu (S 11) 4 a)) 11 (zu ((zs S 11 (zu (S 11) 4 a)) 11) 5 b)) k0 k1 k2 k3) H := hP
      refine lv_iconst (v := zi 1) hx hb d_S_brake_34 rfl ?_
      subst hq
      exact zw_z hx hb hr hlocks (zB.w (zb_c 1) (by decide) (by decide)) rfl hP hS d_S_brake_35
    · replace hq := (if_pos c_5).symm.trans hq
      have r_8 : zB 0 0 (f_S_isWithin b 50 1000) := ⟨(Int.le_of_eq c_5.symm), (Int.le_of_eq c_5)⟩
      refine lv_iconst (v := zi 0) hx hb d_S_brake_22 rfl ?_
      subst hq
      exact zw_z hx hb hr hlocks (zB.w (zb_c 0) (by decide) (by decide)) rfl hP hS d_S_brake_23
end
