theorem iS_u0 {S : Nat → Int → Int} {f : Int → Int} (h : iS S) (hf : ∀ i, zB (-15000) 15000 (f i)) : iS (zs S 0 f) := ⟨hf, iS_a1 (S := S) h, iS_a2 (S := S) h, iS_a3 (S := S) h, iS_a4 (S := S) h, iS_a5 (S := S) h, iS_a6 (S := S) h, iS_a7 (S := S) h, iS_a8 (S := S) h, iS_a9 (S := S) h, iS_a10 (S := S) h, iS_s0 (S := S) h, iS_s2 (S := S) h, iS_s3 (S := S) h, iS_s4 (S := S) h, iS_s5 (S := S) h, iS_s6 (S := S) h⟩
theorem iS_u1 {S : Nat → Int → Int} {f : Int → Int} (h : iS S) (hf : ∀ i, zB (-15000) 15000 (f i)) : iS (zs S 1 f) := ⟨iS_a0 (S := S) h, hf, iS_a2 (S := S) h, iS_a3 (S := S) h, iS_a4 (S := S) h, iS_a5 (S := S) h, iS_a6 (S := S) h, iS_a7 (S := S) h, iS_a8 (S := S) h, iS_a9 (S := S) h, iS_a10 (S := S) h, iS_s0 (S := S) h, iS_s2 (S := S) h, iS_s3 (S := S) h, iS_s4 (S := S) h, iS_s5 (S := S) h, iS_s6 (S := S) h⟩
theorem iS_u2 {S : Nat → Int → Int} {f : Int → Int} (h : iS S) (hf : ∀ i, zB (-100000) 100000 (f i)) : iS (zs S 2 f) := ⟨iS_a0 (S := S) h, iS_a1 (S := S) h, hf, iS_a3 (S := S) h, iS_a4 (S := S) h, iS_a5 (S := S) h, iS_a6 (S := S) h, iS_a7 (S := S) h, iS_a8 (S := S) h, iS_a9 (S := S) h, iS_a10 (S := S) h, iS_s0 (S := S) h, iS_s2 (S := S) h, iS_s3 (S := S) h, iS_s4 (S := S) h, iS_s5 (S := S) h, iS_s6 (S := S) h⟩
theorem iS_u3 {S : Nat → Int → Int} {f : Int → Int} (h : iS S) (hf : ∀ i, zB (0) 2545620 (f i)) : iS (zs S 3 f) := ⟨iS_a0 (S := S) h, iS_a1 (S := S) h, iS_a2 (S := S) h, hf, iS_a4 (S := S) h, iS_a5 (S := S) h, iS_a6 (S := S) h, iS_a7 (S := S) h, iS_a8 (S := S) h, iS_a9 (S := S) h, iS_a10 (S := S) h, iS_s0 (S := S) h, iS_s2 (S := S) h, iS_s3 (S := S) h, iS_s4 (S := S) h, iS_s5 (S := S) h, iS_s6 (S := S) h⟩
theorem iS_u4 {S : Nat → Int → Int} {f : Int → Int} (h : iS S) (hf : ∀ i, zB (0) 200 (f i)) : iS (zs S 4 f) := ⟨iS_a0 (S := S) h, iS_a1 (S := S) h, iS_a2 (S := S) h, iS_a3 (S := S) h, hf, iS_a5 (S := S) h, iS_a6 (S := S) h, iS_a7 (S := S) h, iS_a8 (S := S) h, iS_a9 (S := S) h, iS_a10 (S := S) h, iS_s0 (S := S) h, iS_s2 (S := S) h, iS_s3 (S := S) h, iS_s4 (S := S) h, iS_s5 (S := S) h, iS_s6 (S := S) h⟩
theorem iS_u5 {S : Nat → Int → Int} {f : Int → Int} (h : iS S) (hf : ∀ i, zB (-1) 1000 (f i)) : iS (zs S 5 f) := ⟨iS_a0 (S := S) h, iS_a1 (S := S) h, iS_a2 (S := S) h, iS_a3 (S := S) h, iS_a4 (S := S) h, hf, iS_a6 (S := S) h, iS_a7 (S := S) h, iS_a8 (S := S) h, iS_a9 (S := S) h, iS_a10 (S := S) h, iS_s0 (S := S) h, iS_s2 (S := S) h, iS_s3 (S := S) h, iS_s4 (S := S) h, iS_s5 (S := S) h, iS_s6 (S := S) h⟩
theorem iS_u6 {S : Nat → Int → Int} {f : Int → Int} (h : iS S) (hf : ∀ i, zB (-15000) 15000 (f i)) : iS (zs S 6 f) := ⟨iS_a0 (S := S) h, iS_a1 (S := S) h, iS_a2 (S := S) h, iS_a3 (S := S) h, iS_a4 (S := S) h, iS_a5 (S := S) h, hf, iS_a7 (S := S) h, iS_a8 (S := S) h, iS_a9 (S := S) h, iS_a10 (S := S) h, iS_s0 (S := S) h, iS_s2 (S := S) h, iS_s3 (S := S) h, iS_s4 (S := S) h, iS_s5 (S := S) h, iS_s6 (S := S) h⟩
theorem iS_u7 {S : Nat → Int → Int} {f : Int → Int} (h : iS S) (hf : ∀ i, zB (-15000) 15000 (f i)) : iS (zs S 7 f) := ⟨iS_a0 (S := S) h, iS_a1 (S := S) h, iS_a2 (S := S) h, iS_a3 (S := S) h, iS_a4 (S := S) h, iS_a5 (S := S) h, iS_a6 (S := S) h, hf, iS_a8 (S := S) h, iS_a9 (S := S) h, iS_a10 (S := S) h, iS_s0 (S := S) h, iS_s2 (S := S) h, iS_s3 (S := S) h, iS_s4 (S := S) h, iS_s5 (S := S) h, iS_s6 (S := S) h⟩
theorem iS_u8 {S : Nat → Int → Int} {f : Int → Int} (h : iS S) (hf : ∀ i, zB (-15000) 15000 (f i)) : iS (zs S 8 f) := ⟨iS_a0 (S := S) h, iS_a1 (S := S) h, iS_a2 (S := S) h, iS_a3 (S := S) h, iS_a4 (S := S) h, iS_a5 (S := S) h, iS_a6 (S := S) h, iS_a7 (S := S) h, hf, iS_a9 (S := S) h, iS_a10 (S := S) h, iS_s0 (S := S) h, iS_s2 (S := S) h, iS_s3 (S := S) h, iS_s4 (S := S) h, iS_s5 (S := S) h, iS_s6 (S := S) h⟩
theorem iS_u9 {S : Nat → Int → Int} {f : Int → Int} (h : iS S) (hf : ∀ i, zB (-15000) 15000 (f i)) : iS (zs S 9 f) := ⟨iS_a0 (S := S) h, iS_a1 (S := S) h, iS_a2 (S := S) h, iS_a3 (S := S) h, iS_a4 (S := S) h, iS_a5 (S := S) h, iS_a6 (S := S) h, iS_a7 (S := S) h, iS_a8 (S := S) h, hf, iS_a10 (S := S) h, iS_s0 (S := S) h, iS_s2 (S := S) h, iS_s3 (S := S) h, iS_s4 (S := S) h, iS_s5 (S := S) h, iS_s6 (S := S) h⟩
theorem iS_u10 {S : Nat → Int → Int} {f : Int → Int} (h : iS S) (hf : ∀ i, zB (-100000) 100000 (f i)) : iS (zs S 10 f) := ⟨iS_a0 (S := S) h, iS_a1 (S := S) h, iS_a2 (S := S) h, iS_a3 (S := S) h, iS_a4 (S := S) h, iS_a5 (S := S) h, iS_a6 (S := S) h, iS_a7 (S := S) h, iS_a8 (S := S) h, iS_a9 (S := S) h, hf, iS_s0 (S := S) h, iS_s2 (S := S) h, iS_s3 (S := S) h, iS_s4 (S := S) h, iS_s5 (S := S) h, iS_s6 (S := S) h⟩
theorem iS_v0 {S : Nat → Int → Int} {x : Int} (h : iS S) (hf : zB (0) 60 x) : iS (zs S 11 (zu (S 11) 0 x)) := ⟨iS_a0 (S := S) h, iS_a1 (S := S) h, iS_a2 (S := S) h, iS_a3 (S := S) h, iS_a4 (S := S) h, iS_a5 (S := S) h, iS_a6 (S := S) h, iS_a7 (S := S) h, iS_a8 (S := S) h, iS_a9 (S := S) h, iS_a10 (S := S) h, hf, iS_s2 (S := S) h, iS_s3 (S := S) h, iS_s4 (S := S) h, iS_s5 (S := S) h, iS_s6 (S := S) h⟩
theorem iS_v2 {S : Nat → Int → Int} {x : Int} (h : iS S) (hf : zB (0) 1000 x) : iS (zs S 11 (zu (S 11) 2 x)) := ⟨iS_a0 (S := S) h, iS_a1 (S := S) h, iS_a2 (S := S) h, iS_a3 (S := S) h, iS_a4 (S := S) h, iS_a5 (S := S) h, iS_a6 (S := S) h, iS_a7 (S := S) h, iS_a8 (S := S) h, iS_a9 (S := S) h, iS_a10 (S := S) h, iS_s0 (S := S) h, hf, iS_s3 (S := S) h, iS_s4 (S := S) h, iS_s5 (S := S) h, iS_s6 (S := S) h⟩
theorem iS_v3 {S : Nat → Int → Int} {x : Int} (h : iS S) (hf : zB (0) 1000 x) : iS (zs S 11 (zu (S 11) 3 x)) := ⟨iS_a0 (S := S) h, iS_a1 (S := S) h, iS_a2 (S := S) h, iS_a3 (S := S) h, iS_a4 (S := S) h, iS_a5 (S := S) h, iS_a6 (S := S) h, iS_a7 (S := S) h, iS_a8 (S := S) h, iS_a9 (S := S) h, iS_a10 (S := S) h, iS_s0 (S := S) h, iS_s2 (S := S) h, hf, iS_s4 (S := S) h, iS_s5 (S := S) h, iS_s6 (S := S) h⟩
theorem iS_v4 {S : Nat → Int → Int} {x : Int} (h : iS S) (hf : zB (0) 100 x) : iS (zs S 11 (zu (S 11) 4 x)) := ⟨iS_a0 (S := S) h, iS_a1 (S := S) h, iS_a2 (S := S) h, iS_a3 (S := S) h, iS_a4 (S := S) h, iS_a5 (S := S) h, iS_a6 (S := S) h, iS_a7 (S := S) h, iS_a8 (S := S) h, iS_a9 (S := S) h, iS_a10 (S := S) h, iS_s0 (S := S) h, iS_s2 (S := S) h, iS_s3 (S := S) h, hf, iS_s5 (S := S) h, iS_s6 (S := S) h⟩
theorem iS_v5 {S : Nat → Int → Int} {x : Int} (h : iS S) (hf : zB (50) 1000 x) : iS (zs S 11 (zu (S 11) 5 x)) := ⟨iS_a0 (S := S) h, iS_a1 (S := S) h, iS_a2 (S := S) h, iS_a3 (S := S) h, iS_a4 (S := S) h, iS_a5 (S := S) h, iS_a6 (S := S) h, iS_a7 (S := S) h, iS_a8 (S := S) h, iS_a9 (S := S) h, iS_a10 (S := S) h, iS_s0 (S := S) h, iS_s2 (S := S) h, iS_s3 (S := S) h, iS_s4 (S := S) h, hf, iS_s6 (S := S) h⟩
theorem iS_v6 {S : Nat → Int → Int} {x : Int} (h : iS S) (hf : zB (0) 8 x) : iS (zs S 11 (zu (S 11) 6 x)) := ⟨iS_a0 (S := S) h, iS_a1 (S := S) h, iS_a2 (S := S) h, iS_a3 (S := S) h, iS_a4 (S := S) h, iS_a5 (S := S) h, iS_a6 (S := S) h, iS_a7 (S := S) h, iS_a8 (S := S) h, iS_a9 (S := S) h, iS_a10 (S := S) h, iS_s0 (S := S) h, iS_s2 (S := S) h, iS_s3 (S := S) h, iS_s4 (S := S) h, iS_s5 (S := S) h, hf⟩
theorem iS_v1 {S : Nat → Int → Int} {x : Int} (h : iS S) : iS (zs S 11 (zu (S 11) 1 x)) := ⟨iS_a0 (S := S) h, iS_a1 (S := S) h, iS_a2 (S := S) h, iS_a3 (S := S) h, iS_a4 (S := S) h, iS_a5 (S := S) h, iS_a6 (S := S) h, iS_a7 (S := S) h, iS_a8 (S := S) h, iS_a9 (S := S) h, iS_a10 (S := S) h, iS_s0 (S := S) h, iS_s2 (S := S) h, iS_s3 (S := S) h, iS_s4 (S := S) h, iS_s5 (S := S) h, iS_s6 (S := S) h⟩
theorem iN_u0 {N : Nat → Int → Int} {f : Int → Int} (h : iN N) (hf : ∀ i, zB (-15000) 15000 (f i)) : iN (zs N 0 f) := ⟨hf, iN_a1 (N := N) h, iN_a2 (N := N) h, iN_a3 (N := N) h, iN_a4 (N := N) h, iN_a5 (N := N) h, iN_a6 (N := N) h, iN_s0 (N := N) h, iN_s1 (N := N) h, iN_s2 (N := N) h, iN_s3 (N := N) h, iN_s4 (N := N) h, iN_s5 (N := N) h⟩
theorem iN_u1 {N : Nat → Int → Int} {f : Int → Int} (h : iN N) (hf : ∀ i, zB (-15000) 15000 (f i)) : iN (zs N 1 f) := ⟨iN_a0 (N := N) h, hf, iN_a2 (N := N) h, iN_a3 (N := N) h, iN_a4 (N := N) h, iN_a5 (N := N) h, iN_a6 (N := N) h, iN_s0 (N := N) h, iN_s1 (N := N) h, iN_s2 (N := N) h, iN_s3 (N := N) h, iN_s4 (N := N) h, iN_s5 (N := N) h⟩
theorem iN_u2 {N : Nat → Int → Int} {f : Int → Int} (h : iN N) (hf : ∀ i, zB (-100000) 100000 (f i)) : iN (zs N 2 f) := ⟨iN_a0 (N := N) h, iN_a1 (N := N) h, hf, iN_a3 (N := N) h, iN_a4 (N := N) h, iN_a5 (N := N) h, iN_a6 (N := N) h, iN_s0 (N := N) h, iN_s1 (N := N) h, iN_s2 (N := N) h, iN_s3 (N := N) h, iN_s4 (N := N) h, iN_s5 (N := N) h⟩
theorem iN_u3 {N : Nat → Int → Int} {f : Int → Int} (h : iN N) (hf : ∀ i, zB (0) 2545620 (f i)) : iN (zs N 3 f) := ⟨iN_a0 (N := N) h, iN_a1 (N := N) h, iN_a2 (N := N) h, hf, iN_a4 (N := N) h, iN_a5 (N := N) h, iN_a6 (N := N) h, iN_s0 (N := N) h, iN_s1 (N := N) h, iN_s2 (N := N) h, iN_s3 (N := N) h, iN_s4 (N := N) h, iN_s5 (N := N) h⟩
theorem iN_u4 {N : Nat → Int → Int} {f : Int → Int} (h : iN N) (hf : ∀ i, zB (0) 200 (f i)) : iN (zs N 4 f) := ⟨iN_a0 (N := N) h, iN_a1 (N := N) h, iN_a2 (N := N) h, iN_a3 (N := N) h, hf, iN_a5 (N := N) h, iN_a6 (N := N) h, iN_s0 (N := N) h, iN_s1 (N := N) h, iN_s2 (N := N) h, iN_s3 (N := N) h, iN_s4 (N := N) h, iN_s5 (N := N) h⟩
theorem iN_u5 {N : Nat → Int → Int} {f : Int → Int} (h : iN N) (hf : ∀ i, zB (-1) 1000 (f i)) : iN (zs N 5 f) := ⟨iN_a0 (N := N) h, iN_a1 (N := N) h, iN_a2 (N := N) h, iN_a3 (N := N) h, iN_a4 (N := N) h, hf, iN_a6 (N := N) h, iN_s0 (N := N) h, iN_s1 (N := N) h, iN_s2 (N := N) h, iN_s3 (N := N) h, iN_s4 (N := N) h, iN_s5 (N := N) h⟩
theorem iN_u6 {N : Nat → Int → Int} {f : Int → Int} (h : iN N) (hf : ∀ i, zB (-100000) 100000 (f i)) : iN (zs N 6 f) := ⟨iN_a0 (N := N) h, iN_a1 (N := N) h, iN_a2 (N := N) h, iN_a3 (N := N) h, iN_a4 (N := N) h, iN_a5 (N := N) h, hf, iN_s0 (N := N) h, iN_s1 (N := N) h, iN_s2 (N := N) h, iN_s3 (N := N) h, iN_s4 (N := N) h, iN_s5 (N := N) h⟩
theorem iN_v0 {N : Nat → Int → Int} {x : Int} (h : iN N) (hf : zB (0) 60 x) : iN (zs N 7 (zu (N 7) 0 x)) := ⟨iN_a0 (N := N) h, iN_a1 (N := N) h, iN_a2 (N := N) h, iN_a3 (N := N) h, iN_a4 (N := N) h, iN_a5 (N := N) h, iN_a6 (N := N) h, hf, iN_s1 (N := N) h, iN_s2 (N := N) h, iN_s3 (N := N) h, iN_s4 (N := N) h, iN_s5 (N := N) h⟩
theorem iN_v1 {N : Nat → Int → Int} {x : Int} (h : iN N) (hf : zB (0) 8 x) : iN (zs N 7 (zu (N 7) 1 x)) := ⟨iN_a0 (N := N) h, iN_a1 (N := N) h, iN_a2 (N := N) h, iN_a3 (N := N) h, iN_a4 (N := N) h, iN_a5 (N := N) h, iN_a6 (N := N) h, iN_s0 (N := N) h, hf, iN_s2 (N := N) h, iN_s3 (N := N) h, iN_s4 (N := N) h, iN_s5 (N := N) h⟩
theorem iN_v2 {N : Nat → Int → Int} {x : Int} (h : iN N) (hf : zB (0) 1000 x) : iN (zs N 7 (zu (N 7) 2 x)) := ⟨iN_a0 (N := N) h, iN_a1 (N := N) h, iN_a2 (N := N) h, iN_a3 (N := N) h, iN_a4 (N := N) h, iN_a5 (N := N) h, iN_a6 (N := N) h, iN_s0 (N := N) h, iN_s1 (N := N) h, hf, iN_s3 (N := N) h, iN_s4 (N := N) h, iN_s5 (N := N) h⟩
theorem iN_v3 {N : Nat → Int → Int} {x : Int} (h : iN N) (hf : zB (0) 1000 x) : iN (zs N 7 (zu (N 7) 3 x)) := ⟨iN_a0 (N := N) h, iN_a1 (N := N) h, iN_a2 (N := N) h, iN_a3 (N := N) h, iN_a4 (N := N) h, iN_a5 (N := N) h, iN_a6 (N := N) h, iN_s0 (N := N) h, iN_s1 (N := N) h, iN_s2 (N := N) h, hf, iN_s4 (N := N) h, iN_s5 (N := N) h⟩
theorem iN_v4 {N : Nat → Int → Int} {x : Int} (h : iN N) (hf : zB (0) 100 x) : iN (zs N 7 (zu (N 7) 4 x)) := ⟨iN_a0 (N := N) h, iN_a1 (N := N) h, iN_a2 (N := N) h, iN_a3 (N := N) h, iN_a4 (N := N) h, iN_a5 (N := N) h, iN_a6 (N := N) h, iN_s0 (N := N) h, iN_s1 (N := N) h, iN_s2 (N := N) h, iN_s3 (N := N) h, hf, iN_s5 (N := N) h⟩
theorem iN_v5 {N : Nat → Int → Int} {x : Int} (h : iN N) (hf : zB (50) 1000 x) : iN (zs N 7 (zu (N 7) 5 x)) := ⟨iN_a0 (N := N) h, iN_a1 (N := N) h, iN_a2 (N := N) h, iN_a3 (N := N) h, iN_a4 (N := N) h, iN_a5 (N := N) h, iN_a6 (N := N) h, iN_s0 (N := N) h, iN_s1 (N := N) h, iN_s2 (N := N) h, iN_s3 (N := N) h, iN_s4 (N := N) h, hf⟩
def f_B_add (S : Nat → Int → Int) (a b d v w : Int) : Int × (Nat → Int → Int) := if (S 11 6) < 8 then ((S 11 6, zs (zs (zs (zs (zs (zs S 6 (zu (S 6) (S 11 6) a)) 7 (zu (S 7) (S 11 6) b)) 8 (zu (S 8) (S 11 6) d)) 9 (zu (S 9) (S 11 6) v)) 10 (zu (S 10) (S 11 6) w)) 11 (zu ((zs (zs (zs (zs (zs S 6 (zu (S 6) (S 11 6) a)) 7 (zu (S 7) (S 11 6) b)) 8 (zu (S 8) (S 11 6) d)) 9 (zu (S 9) (S 11 6) v)) 10 (zu (S 10) (S 11 6) w)) 11) 6 ((S 11 6) + 1)))) else ((-1, S))
set_option maxHeartbeats 4000000 in
set_option maxRecDepth 100000 in
theorem k_B_add (l : Launch) (dC : Nat → ClassId) (dI : Nat → Nat → Nat) (ad : Nat → Nat) (cI : ClassId) (S : Nat → Int → Int) (k0 k1 k2 k3 : Int) (hI : iS S) (hj : zJ 13 ad) (a b d v w : Int) (hb_a : zB (-15000) 15000 a) (hb_b : zB (-15000) 15000 b) (hb_d : zB (-15000) 15000 d) (hb_v : zB (-15000) 15000 v) (hb_w : zB (-100000) 100000 w) : Met l y_B_add (Cond.code y_B_add c_B_add 7 (some .int) :: zT) { frames := 0, cells := 0, slots := 0, locals := 0 } (va_Pc ([.ref (ad 7), .int (zi a), .int (zi b), .int (zi d), .int (zi v), .int (zi w)] : List Value) (zWS dC dI ad cI S k0 k1 k2 k3)) (zQ (some (.int (zi (f_B_add S a b d v w).1))) (fun H => va_P (dC, dI) classes (wS ad cI (f_B_add S a b d v w).2 k0 k1 k2 k3) H) (zAS ad)) 0 0 (zAS ad) := by
  refine zh (cc := c_B_add) (C := R_B) (by decide) rfl rfl (Nat.le_of_ble_eq_true rfl) ?_
  intro p e s m below meth c ls hx hb hr hlocks hml hown hname hts hl hB
  have hw : ∀ w9 ∈ zT, w9.before ([.ref (ad 7), .int (zi a), .int (zi b), .int (zi d), .int (zi v), .int (zi w)] : List Value).toArray s = true := fun w9 h => hts w9 (List.mem_cons_of_mem _ h)
  obtain ⟨hP, hK, hN⟩ := hB
  obtain ⟨hn0, hn1⟩ := id (iS_s0 hI)
  have hD := zDS hj cI
  have hS : va_S (zAS ad) s.heap s.heap [] := va_S.rf
  obtain ⟨hz0, hz1⟩ := id (iS_s6 hI)
  obtain ⟨hl_a, hh_a⟩ := id hb_a
  obtain ⟨hl_b, hh_b⟩ := id hb_b
  obtain ⟨hl_d, hh_d⟩ := id hb_d
  obtain ⟨hl_v, hh_v⟩ := id hb_v
  obtain ⟨hl_w, hh_w⟩ := id hb_w
  generalize hq : f_B_add S a b d v w = r
  unfold f_B_add at hq
  replace hl : lv_has ls 7 [(0, .ref (ad 7)), (1, .int (zi a)), (2, .int (zi b)), (3, .int (zi d)), (4, .int (zi v)), (5, .int (zi w))] := hl
  refine lv_aload_n hx hb d_B_add_0 rfl (lv_at hl 0 rfl) ?_
  refine va_get (D := (dC, dI)) (ci := 0) (v := .int (zi (S 11 6))) (C := R_B) (T := T_B) (N := 10) hx hb hw i_B hown hK hP 7 rfl rfl 5 (by decide) (hw _ m_24) (fun _ h9 => h9) rfl d_B_add_1 ?_
  refine lv_bipush (v := zi 8) hx hb d_B_add_4 (by decide) ?_
  refine zr_icmp_lt (tgt := 11) hx hb (zB.I (iS_s6 hI) (by decide) (by decide)) (zB.I (zb_c 8) (by decide) (by decide)) d_B_add_6 (by decide) (fun c_1 => ?_) (fun c_1 => ?_)
  · replace hq := (if_pos c_1).symm.trans hq
    have r_2 : zB 0 7 (S 11 6) := ⟨(iS_s6 hI).1, (Int.le_sub_one_of_lt c_1)⟩
    refine lv_aload_n hx hb d_B_add_11 rfl (lv_at hl 0 rfl) ?_
    refine va_get (D := (dC, dI)) (ci := 0) (v := .int (zi (S 11 6))) (C := R_B) (T := T_B) (N := 10) hx hb hw i_B hown hK hP 7 rfl rfl 5 (by decide) (hw _ m_24) (fun _ h9 => h9) rfl d_B_add_12 ?_
    refine lv_istore (lv' := [(6, .int (zi (S 11 6))), (0, .ref (ad 7)), (1, .int (zi a)), (2, .int (zi b)), (3, .int (zi d)), (4, .int (zi v)), (5, .int (zi w))]) hx hb d_B_add_15 hl (by decide) rfl (fun ls hl => ?_)
    refine lv_aload_n hx hb d_B_add_17 rfl (lv_at hl 1 rfl) ?_
    refine va_get (D := (dC, dI)) (ci := 0) (v := .ref (ad 8)) (C := R_B) (T := T_B) (N := 10) hx hb hw i_B hown hK hP 7 rfl rfl 0 (by decide) (hw _ m_19) (fun _ h9 => h9) rfl d_B_add_18 ?_
    refine lv_iload hx hb d_B_add_21 (lv_at hl 0 rfl) ?_
    refine lv_iload_n hx hb d_B_add_23 rfl (lv_at hl 2 rfl) ?_
    refine zr_iast hx hb hK hP (hD _ _ _ _ _) hS 8 0 (cA := cI) (n := 8) (g := S 6) rfl rfl (i := S 11 6) (v := a) (by omega) (by omega) (by decide) d_B_add_24 (fun H locs hP _ hS => ?_)
    have hI_3 : iS (zs S 6 (zu (S 6) (S 11 6) a)) := iS_u6 hI (zu_b (iS_a6 hI) (zB.w hb_a (by decide) (by decide)))
    replace hP : va_P (dC, dI) classes (wS ad cI (zs S 6 (zu (S 6) (S 11 6) a)) k0 k1 k2 k3) H := hP
    refine lv_aload_n hx hb d_B_add_25 rfl (lv_at hl 1 rfl) ?_
    refine va_get (D := (dC, dI)) (ci := 0) (v := .ref (ad 9)) (C := R_B) (T := T_B) (N := 10) hx hb hw i_B hown hK hP 7 rfl rfl 1 (by decide) (hw _ m_20) (fun _ h9 => h9) rfl d_B_add_26 ?_
    refine lv_iload hx hb d_B_add_29 (lv_at hl 0 rfl) ?_
    refine lv_iload_n hx hb d_B_add_31 rfl (lv_at hl 3 rfl) ?_
    refine zr_iast hx hb hK hP (hD _ _ _ _ _) hS 9 0 (cA := cI) (n := 8) (g := S 7) rfl rfl (i := S 11 6) (v := b) (by omega) (by omega) (by decide) d_B_add_32 (fun H locs hP _ hS => ?_)
    have hI_4 : iS (zs (zs S 6 (zu (S 6) (S 11 6) a)) 7 (zu (S 7) (S 11 6) b)) := iS_u7 hI_3 (zu_b (iS_a7 hI) (zB.w hb_b (by decide) (by decide)))
    replace hP : va_P (dC, dI) classes (wS ad cI (zs (zs S 6 (zu (S 6) (S 11 6) a)) 7 (zu (S 7) (S 11 6) b)) k0 k1 k2 k3) H := hP
    refine lv_aload_n hx hb d_B_add_33 rfl (lv_at hl 1 rfl) ?_
    refine va_get (D := (dC, dI)) (ci := 0) (v := .ref (ad 10)) (C := R_B) (T := T_B) (N := 10) hx hb hw i_B hown hK hP 7 rfl rfl 2 (by decide) (hw _ m_21) (fun _ h9 => h9) rfl d_B_add_34 ?_
    refine lv_iload hx hb d_B_add_37 (lv_at hl 0 rfl) ?_
    refine lv_iload_n hx hb d_B_add_39 rfl (lv_at hl 4 rfl) ?_
    refine zr_iast hx hb hK hP (hD _ _ _ _ _) hS 10 0 (cA := cI) (n := 8) (g := S 8) rfl rfl (i := S 11 6) (v := d) (by omega) (by omega) (by decide) d_B_add_40 (fun H locs hP _ hS => ?_)
    have hI_5 : iS (zs (zs (zs S 6 (zu (S 6) (S 11 6) a)) 7 (zu (S 7) (S 11 6) b)) 8 (zu (S 8) (S 11 6) d)) := iS_u8 hI_4 (zu_b (iS_a8 hI) (zB.w hb_d (by decide) (by decide)))
    replace hP : va_P (dC, dI) classes (wS ad cI (zs (zs (zs S 6 (zu (S 6) (S 11 6) a)) 7 (zu (S 7) (S 11 6) b)) 8 (zu (S 8) (S 11 6) d)) k0 k1 k2 k3) H := hP
    refine lv_aload_n hx hb d_B_add_41 rfl (lv_at hl 1 rfl) ?_
    refine va_get (D := (dC, dI)) (ci := 0) (v := .ref (ad 11)) (C := R_B) (T := T_B) (N := 10) hx hb hw i_B hown hK hP 7 rfl rfl 3 (by decide) (hw _ m_22) (fun _ h9 => h9) rfl d_B_add_42 ?_
    refine lv_iload hx hb d_B_add_45 (lv_at hl 0 rfl) ?_
    refine lv_iload hx hb d_B_add_47 (lv_at hl 5 rfl) ?_
    refine zr_iast hx hb hK hP (hD _ _ _ _ _) hS 11 0 (cA := cI) (n := 8) (g := S 9) rfl rfl (i := S 11 6) (v := v) (by omega) (by omega) (by decide) d_B_add_49 (fun H locs hP _ hS => ?_)
    have hI_6 : iS (zs (zs (zs (zs S 6 (zu (S 6) (S 11 6) a)) 7 (zu (S 7) (S 11 6) b)) 8 (zu (S 8) (S 11 6) d)) 9 (zu (S 9) (S 11 6) v)) := iS_u9 hI_5 (zu_b (iS_a9 hI) (zB.w hb_v (by decide) (by decide)))
    replace hP : va_P (dC, dI) classes (wS ad cI (zs (zs (zs (zs S 6 (zu (S 6) (S 11 6) a)) 7 (zu (S 7) (S 11 6) b)) 8 (zu (S 8) (S 11 6) d)) 9 (zu (S 9) (S 11 6) v)) k0 k1 k2 k3) H := hP
    refine lv_aload_n hx hb d_B_add_50 rfl (lv_at hl 1 rfl) ?_
    refine va_get (D := (dC, dI)) (ci := 0) (v := .ref (ad 12)) (C := R_B) (T := T_B) (N := 10) hx hb hw i_B hown hK hP 7 rfl rfl 4 (by decide) (hw _ m_23) (fun _ h9 => h9) rfl d_B_add_51 ?_
    refine lv_iload hx hb d_B_add_54 (lv_at hl 0 rfl) ?_
    refine lv_iload hx hb d_B_add_56 (lv_at hl 6 rfl) ?_
    refine zr_iast hx hb hK hP (hD _ _ _ _ _) hS 12 0 (cA := cI) (n := 8) (g := S 10) rfl rfl (i := S 11 6) (v := w) (by omega) (by omega) (by decide) d_B_add_58 (fun H locs hP _ hS => ?_)
    have hI_7 : iS (zs (zs (zs (zs (zs S 6 (zu (S 6) (S 11 6) a)) 7 (zu (S 7) (S 11 6) b)) 8 (zu (S 8) (S 11 6) d)) 9 (zu (S 9) (S 11 6) v)) 10 (zu (S 10) (S 11 6) w)) := iS_u10 hI_6 (zu_b (iS_a10 hI) (zB.w hb_w (by decide) (by decide)))
    replace hP : va_P (dC, dI) classes (wS ad cI (zs (zs (zs (zs (zs S 6 (zu (S 6) (S 11 6) a)) 7 (zu (S 7) (S 11 6) b)) 8 (zu (S 8) (S 11 6) d)) 9 (zu (S 9) (S 11 6) v)) 10 (zu (S 10) (S 11 6) w)) k0 k1 k2 k3) H := hP
    refine lv_aload_n hx hb d_B_add_59 rfl (lv_at hl 1 rfl) ?_
    refine lv_dup hx hb d_B_add_60 rfl ?_
    refine va_get (D := (dC, dI)) (ci := 0) (v := .int (zi (S 11 6))) (C := R_B) (T := T_B) (N := 10) hx hb hw i_B hown hK hP 7 rfl rfl 5 (by decide) (hw _ m_24) (fun _ h9 => h9) rfl d_B_add_61 ?_
    refine lv_iconst (v := zi 1) hx hb d_B_add_64 rfl ?_
    have b_8 : zB 1 9 ((S 11 6) + 1) := zB.w (zb_add (iS_s6 hI) (zb_c 1)) (by decide) (by decide)
    refine zr_iadd hx hb d_B_add_65 ?_
    refine va_put (D := (dC, dI)) (ci := 0) (v := .int (zi ((S 11 6) + 1))) (ty := .int) (C := R_B) (T := T_B) (N := 10) hx hb hw i_B t_B ty_B nm_B hown hK hP (hD _ _ _ _ _) hS 7 rfl rfl 5 (by decide) (hw _ m_24) (fun _ h9 => h9) rfl (by decide +kernel) rfl rfl (Nat.le_of_ble_eq_true rfl) d_B_add_66 (fun H locs hP _ hS => ?_)
    replace hP : va_P (dC, dI) classes (wS ad cI (zs (zs (zs (zs (zs (zs S 6 (zu (S 6) (S 11 6) a)) 7 (zu (S 7) (S 11 6) b)) 8 (zu (S 8) (S 11 6) d)) 9 (zu (S 9) (S 11 6) v)) 10 (zu (S 10) (S 11 6) w)) 11 (zu ((zs (zs (zs (zs (zs S 6 (zu (S 6) (S 11 6) a)) 7 (zu (S 7) (S 11 6) b)) 8 (zu (S 8) (S 11 6) d)) 9 (zu (S 9) (S 11 6) v)) 10 (zu (S 10) (S 11 6) w)) 11) 6 ((S 11 6) + 1))) k0 k1 k2 k3) H := hP
    refine lv_iload hx hb d_B_add_69 (lv_at hl 0 rfl) ?_
    subst hq
    exact zw_i hx hb hr hlocks rfl hP hS d_B_add_71
  · replace hq := (if_neg c_1).symm.trans hq
    have r_9 : zB 8 8 (S 11 6) := ⟨(Int.not_lt.mp c_1), (iS_s6 hI).2⟩
    refine lv_iconst (v := zi (-1)) hx hb d_B_add_9 rfl ?_
    subst hq
    exact zw_i hx hb hr hlocks rfl hP hS d_B_add_10
def f_S_box (S : Nat → Int → Int) (a b d v w : Int) : Int × (Nat → Int → Int) := if (f_S_isInPlane a b) = 0 then ((-1, S)) else (if (f_S_isInPlane d v) = 0 then ((-1, S)) else (if d < a then ((-1, S)) else (if v < b then ((-1, S)) else (if (f_S_isLevel w) = 0 then ((-1, S)) else (((f_B_add S a b d v w).1, (f_B_add S a b d v w).2))))))
set_option maxHeartbeats 4000000 in
set_option maxRecDepth 100000 in
theorem k_S_box (l : Launch) (dC : Nat → ClassId) (dI : Nat → Nat → Nat) (ad : Nat → Nat) (cI : ClassId) (S : Nat → Int → Int) (k0 k1 k2 k3 : Int) (hI : iS S) (hj : zJ 13 ad) (a b d v w : Int) (hb_a : zB (-2147483648) 2147483647 a) (hb_b : zB (-2147483648) 2147483647 b) (hb_d : zB (-2147483648) 2147483647 d) (hb_v : zB (-2147483648) 2147483647 v) (hb_w : zB (-2147483648) 2147483647 w) : Met l y_S_box (Cond.code y_S_box c_S_box 6 (some .int) :: zT) { frames := 2, cells := 0, slots := 0, locals := 43 } (va_Pc ([.ref (ad 0), .int (zi a), .int (zi b), .int (zi d), .int (zi v), .int (zi w)] : List Value) (zWS dC dI ad cI S k0 k1 k2 k3)) (zQ (some (.int (zi (f_S_box S a b d v w).1))) (fun H => va_P (dC, dI) classes (wS ad cI (f_S_box S a b d v w).2 k0 k1 k2 k3) H) (zAS ad)) 0 0 (zAS ad) := by
  refine zh (cc := c_S_box) (C := R_S) (by decide) rfl rfl (Nat.le_of_ble_eq_true rfl) ?_
  intro p e s m below meth c ls hx hb hr hlocks hml hown hname hts hl hB
  have hw : ∀ w9 ∈ zT, w9.before ([.ref (ad 0), .int (zi a), .int (zi b), .int (zi d), .int (zi v), .int (zi w)] : List Value).toArray s = true := fun w9 h => hts w9 (List.mem_cons_of_mem _ h)
  obtain ⟨hP, hK, hN⟩ := hB
  obtain ⟨hn0, hn1⟩ := id (iS_s0 hI)
  have hD := zDS hj cI
  have hS : va_S (zAS ad) s.heap s.heap [] := va_S.rf
  obtain ⟨hz0, hz1⟩ := id (iS_s6 hI)
  obtain ⟨hl_a, hh_a⟩ := id hb_a
  obtain ⟨hl_b, hh_b⟩ := id hb_b
  obtain ⟨hl_d, hh_d⟩ := id hb_d
  obtain ⟨hl_v, hh_v⟩ := id hb_v
  obtain ⟨hl_w, hh_w⟩ := id hb_w
  generalize hq : f_S_box S a b d v w = r
  unfold f_S_box at hq
  replace hl : lv_has ls 6 [(0, .ref (ad 0)), (1, .int (zi a)), (2, .int (zi b)), (3, .int (zi d)), (4, .int (zi v)), (5, .int (zi w))] := hl
  refine lv_iload_n hx hb d_S_box_0 rfl (lv_at hl 1 rfl) ?_
  refine lv_iload_n hx hb d_S_box_1 rfl (lv_at hl 2 rfl) ?_
  refine zc_n (va_runS (As := [.int (zi a), .int (zi b)]) (rest := []) ⟨hx, hb, hml, hown, hts⟩ (k_S_isInPlane l a b (zB.w hb_a (by decide) (by decide)) (zB.w hb_b (by decide) (by decide)) ) (zcS 2 hts m_50 m_1 m_48 m_49 rfl rfl q_S_isInPlane ⟨Nat.le_of_ble_eq_true rfl, Nat.le_of_ble_eq_true rfl⟩) (zp0 [.int (zi a), .int (zi b)]) rfl rfl hl.1 rfl (lv_room (Nat.le_of_ble_eq_true rfl)) d_S_box_2 ⟨Nat.zero_le _, Nat.zero_le _⟩) ?_
  refine zr_if_eq (tgt := 36) hx hb (zB.I (bb_S_isInPlane a b) (by decide) (by decide)) d_S_box_5 (by decide) (fun c_1 => ?_) (fun c_1 => ?_)
  · replace hq := (if_pos c_1).symm.trans hq
    have r_2 : zB 0 0 (f_S_isInPlane a b) := ⟨(Int.le_of_eq c_1.symm), (Int.le_of_eq c_1)⟩
    refine lv_iconst (v := zi (-1)) hx hb d_S_box_36 rfl ?_
    subst hq
    exact zw_i hx hb hr hlocks rfl hP hS d_S_box_37
  · replace hq := (if_neg c_1).symm.trans hq
    have r_3 : zB 1 1 (f_S_isInPlane a b) := ⟨(by have := (bb_S_isInPlane a b).1; omega), (bb_S_isInPlane a b).2⟩
    have g_4 := gf_S_isInPlane c_1
    obtain ⟨g_4l0, g_4h0⟩ := id g_4.1
    obtain ⟨g_4l1, g_4h1⟩ := id g_4.2
    refine lv_iload_n hx hb d_S_box_8 rfl (lv_at hl 3 rfl) ?_
    refine lv_iload hx hb d_S_box_9 (lv_at hl 4 rfl) ?_
    refine zc_n (va_runS (As := [.int (zi d), .int (zi v)]) (rest := []) ⟨hx, hb, hml, hown, hts⟩ (k_S_isInPlane l d v (zB.w hb_d (by decide) (by decide)) (zB.w hb_v (by decide) (by decide)) ) (zcS 2 hts m_50 m_1 m_48 m_49 rfl rfl q_S_isInPlane ⟨Nat.le_of_ble_eq_true rfl, Nat.le_of_ble_eq_true rfl⟩) (zp0 [.int (zi d), .int (zi v)]) rfl rfl hl.1 rfl (lv_room (Nat.le_of_ble_eq_true rfl)) d_S_box_11 ⟨Nat.zero_le _, Nat.zero_le _⟩) ?_
    refine zr_if_eq (tgt := 36) hx hb (zB.I (bb_S_isInPlane d v) (by decide) (by decide)) d_S_box_14 (by decide) (fun c_5 => ?_) (fun c_5 => ?_)
    · replace hq := (if_pos c_5).symm.trans hq
      have r_6 : zB 0 0 (f_S_isInPlane d v) := ⟨(Int.le_of_eq c_5.symm), (Int.le_of_eq c_5)⟩
      refine lv_iconst (v := zi (-1)) hx hb d_S_box_36 rfl ?_
      subst hq
      exact zw_i hx hb hr hlocks rfl hP hS d_S_box_37
    · replace hq := (if_neg c_5).symm.trans hq
      have r_7 : zB 1 1 (f_S_isInPlane d v) := ⟨(by have := (bb_S_isInPlane d v).1; omega), (bb_S_isInPlane d v).2⟩
      have g_8 := gf_S_isInPlane c_5
      obtain ⟨g_8l0, g_8h0⟩ := id g_8.1
      obtain ⟨g_8l1, g_8h1⟩ := id g_8.2
      refine lv_iload_n hx hb d_S_box_17 rfl (lv_at hl 1 rfl) ?_
      refine lv_iload_n hx hb d_S_box_18 rfl (lv_at hl 3 rfl) ?_
      refine zr_icmp_gt (tgt := 36) hx hb (zB.I g_4.1 (by decide) (by decide)) (zB.I g_8.1 (by decide) (by decide)) d_S_box_19 (by decide) (fun c_9 => ?_) (fun c_9 => ?_)
      · replace hq := (if_pos c_9).symm.trans hq
        refine lv_iconst (v := zi (-1)) hx hb d_S_box_36 rfl ?_
        subst hq
        exact zw_i hx hb hr hlocks rfl hP hS d_S_box_37
      · replace hq := (if_neg c_9).symm.trans hq
        refine lv_iload_n hx hb d_S_box_22 rfl (lv_at hl 2 rfl) ?_
        refine lv_iload hx hb d_S_box_23 (lv_at hl 4 rfl) ?_
        refine zr_icmp_gt (tgt := 36) hx hb (zB.I g_4.2 (by decide) (by decide)) (zB.I g_8.2 (by decide) (by decide)) d_S_box_25 (by decide) (fun c_10 => ?_) (fun c_10 => ?_)
        · replace hq := (if_pos c_10).symm.trans hq
          refine lv_iconst (v := zi (-1)) hx hb d_S_box_36 rfl ?_
          subst hq
          exact zw_i hx hb hr hlocks rfl hP hS d_S_box_37
        · replace hq := (if_neg c_10).symm.trans hq
          refine lv_iload hx hb d_S_box_28 (lv_at hl 5 rfl) ?_
          refine zc_n (va_runS (As := [.int (zi w)]) (rest := []) ⟨hx, hb, hml, hown, hts⟩ (k_S_isLevel l w (zB.w hb_w (by decide) (by decide)) ) (zcS 1 hts m_56 m_1 m_54 m_55 rfl rfl q_S_isLevel ⟨Nat.le_of_ble_eq_true rfl, Nat.le_of_ble_eq_true rfl⟩) (zp0 [.int (zi w)]) rfl rfl hl.1 rfl (lv_room (Nat.le_of_ble_eq_true rfl)) d_S_box_30 ⟨Nat.zero_le _, Nat.zero_le _⟩) ?_
          refine zr_if_ne (tgt := 38) hx hb (zB.I (bb_S_isLevel w) (by decide) (by decide)) d_S_box_33 (by decide) (fun c_11 => ?_) (fun c_11 => ?_)
          · replace hq := (if_neg c_11).symm.trans hq
            have r_12 : zB 1 1 (f_S_isLevel w) := ⟨(by have := (bb_S_isLevel w).1; omega), (bb_S_isLevel w).2⟩
            have g_13 := gf_S_isLevel c_11
            obtain ⟨g_13l, g_13h⟩ := id g_13
            refine lv_aload_n hx hb d_S_box_38 rfl (lv_at hl 0 rfl) ?_
            refine va_get (D := (dC, dI)) (ci := 1) (v := .ref (ad 7)) (C := R_S) (T := T_S) (N := 13) hx hb hw i_S hown hK hP 0 rfl rfl 6 (by decide) (hw _ m_37) (fun _ h9 => h9) rfl d_S_box_39 ?_
            refine lv_iload_n hx hb d_S_box_42 rfl (lv_at hl 1 rfl) ?_
            refine lv_iload_n hx hb d_S_box_43 rfl (lv_at hl 2 rfl) ?_
            refine lv_iload_n hx hb d_S_box_44 rfl (lv_at hl 3 rfl) ?_
            refine lv_iload hx hb d_S_box_45 (lv_at hl 4 rfl) ?_
            refine lv_iload hx hb d_S_box_47 (lv_at hl 5 rfl) ?_
            refine zc_w (va_runVN (As := [.int (zi a), .int (zi b), .int (zi d), .int (zi v), .int (zi w)]) (rest := []) ⟨hx, hb, hml, hown, hts⟩ (k_B_add l dC dI ad cI S k0 k1 k2 k3 hI hj a b d v w (zB.w g_4.1 (by decide) (by decide)) (zB.w g_4.2 (by decide) (by decide)) (zB.w g_8.1 (by decide) (by decide)) (zB.w g_8.2 (by decide) (by decide)) (zB.w g_13 (by decide) (by decide)) ) (zcN 5 hts m_94 m_2 hN.2.2.1 m_93 m_375 rfl rfl q_B_add ⟨Nat.le_of_ble_eq_true rfl, Nat.le_of_ble_eq_true rfl⟩) (zpS7 hP hK hN [.int (zi a), .int (zi b), .int (zi d), .int (zi v), .int (zi w)]) rfl rfl hl.1 rfl (lv_room (Nat.le_of_ble_eq_true rfl)) d_S_box_49 ⟨Nat.zero_le _, Nat.zero_le _⟩) hS (fun q _ h => h) (fun q h => h) (fun H locs hP hz1 hk1 hS => ?_)
            clear hz1 hk1
            subst hq
            exact zw_i hx hb hr hlocks rfl hP hS d_S_box_52
          · replace hq := (if_pos c_11).symm.trans hq
            have r_14 : zB 0 0 (f_S_isLevel w) := ⟨(Int.le_of_eq c_11.symm), (Int.le_of_eq c_11)⟩
            refine lv_iconst (v := zi (-1)) hx hb d_S_box_36 rfl ?_
            subst hq
            exact zw_i hx hb hr hlocks rfl hP hS d_S_box_37
def f_S_station (S : Nat → Int → Int) (a b d : Int) : Int × (Nat → Int → Int) := if (f_S_isInPlane a b) = 0 then ((-1, S)) else (if (f_S_isLevel d) = 0 then ((-1, S)) else (if (S 11 0) < 60 then (if (S 11 0) = 0 then ((S 11 0, zs (zs (zs (zs (zs (zs (zs (zs S 0 (zu (S 0) (S 11 0) a)) 1 (zu (S 1) (S 11 0) b)) 2 (zu (S 2) (S 11 0) d)) 4 (zu (S 4) (S 11 0) 50)) 5 (zu (S 5) ((2 * (S 11 0)) + 0) (-1))) 5 (zu (zu (S 5) ((2 * (S 11 0)) + 0) (-1)) ((2 * (S 11 0)) + 1) (-1))) 3 (zu (S 3) (S 11 0) 0)) 11 (zu ((zs (zs (zs (zs (zs (zs (zs S 0 (zu (S 0) (S 11 0) a)) 1 (zu (S 1) (S 11 0) b)) 2 (zu (S 2) (S 11 0) d)) 4 (zu (S 4) (S 11 0) 50)) 5 (zu (S 5) ((2 * (S 11 0)) + 0) (-1))) 5 (zu (zu (S 5) ((2 * (S 11 0)) + 0) (-1)) ((2 * (S 11 0)) + 1) (-1))) 3 (zu (S 3) (S 11 0) 0)) 11) 0 ((S 11 0) + 1)))) else ((S 11 0, zs (zs (zs (zs (zs (zs (zs (zs S 0 (zu (S 0) (S 11 0) a)) 1 (zu (S 1) (S 11 0) b)) 2 (zu (S 2) (S 11 0) d)) 4 (zu (S 4) (S 11 0) 50)) 5 (zu (S 5) ((2 * (S 11 0)) + 0) (-1))) 5 (zu (zu (S 5) ((2 * (S 11 0)) + 0) (-1)) ((2 * (S 11 0)) + 1) (-1))) 3 (zu (S 3) (S 11 0) ((S 3 ((S 11 0) - 1)) + (f_S_stepBetween (zs (zs (zs (zs (zs (zs S 0 (zu (S 0) (S 11 0) a)) 1 (zu (S 1) (S 11 0) b)) 2 (zu (S 2) (S 11 0) d)) 4 (zu (S 4) (S 11 0) 50)) 5 (zu (S 5) ((2 * (S 11 0)) + 0) (-1))) 5 (zu (zu (S 5) ((2 * (S 11 0)) + 0) (-1)) ((2 * (S 11 0)) + 1) (-1))) ((S 11 0) - 1) (S 11 0))))) 11 (zu ((zs (zs (zs (zs (zs (zs (zs S 0 (zu (S 0) (S 11 0) a)) 1 (zu (S 1) (S 11 0) b)) 2 (zu (S 2) (S 11 0) d)) 4 (zu (S 4) (S 11 0) 50)) 5 (zu (S 5) ((2 * (S 11 0)) + 0) (-1))) 5 (zu (zu (S 5) ((2 * (S 11 0)) + 0) (-1)) ((2 * (S 11 0)) + 1) (-1))) 3 (zu (S 3) (S 11 0) ((S 3 ((S 11 0) - 1)) + (f_S_stepBetween (zs (zs (zs (zs (zs (zs S 0 (zu (S 0) (S 11 0) a)) 1 (zu (S 1) (S 11 0) b)) 2 (zu (S 2) (S 11 0) d)) 4 (zu (S 4) (S 11 0) 50)) 5 (zu (S 5) ((2 * (S 11 0)) + 0) (-1))) 5 (zu (zu (S 5) ((2 * (S 11 0)) + 0) (-1)) ((2 * (S 11 0)) + 1) (-1))) ((S 11 0) - 1) (S 11 0))))) 11) 0 ((S 11 0) + 1))))) else ((-1, S))))
set_option maxHeartbeats 4000000 in
set_option maxRecDepth 100000 in
theorem k_S_station (l : Launch) (dC : Nat → ClassId) (dI : Nat → Nat → Nat) (ad : Nat → Nat) (cI : ClassId) (S : Nat → Int → Int) (k0 k1 k2 k3 : Int) (hI : iS S) (hj : zJ 13 ad) (a b d : Int) (hb_a : zB (-2147483648) 2147483647 a) (hb_b : zB (-2147483648) 2147483647 b) (hb_d : zB (-2147483648) 2147483647 d) : Met l y_S_station (Cond.code y_S_station c_S_station 5 (some .int) :: zT) { frames := 3, cells := 0, slots := 0, locals := 67 } (va_Pc ([.ref (ad 0), .int (zi a), .int (zi b), .int (zi d)] : List Value) (zWS dC dI ad cI S k0 k1 k2 k3)) (zQ (some (.int (zi (f_S_station S a b d).1))) (fun H => va_P (dC, dI) classes (wS ad cI (f_S_station S a b d).2 k0 k1 k2 k3) H) (zAS ad)) 0 0 (zAS ad) := by
  refine zh (cc := c_S_station) (C := R_S) (by decide) rfl rfl (Nat.le_of_ble_eq_true rfl) ?_
  intro p e s m below meth c ls hx hb hr hlocks hml hown hname hts hl hB
  have hw : ∀ w9 ∈ zT, w9.before ([.ref (ad 0), .int (zi a), .int (zi b), .int (zi d)] : List Value).toArray s = true := fun w9 h => hts w9 (List.mem_cons_of_mem _ h)
  obtain ⟨hP, hK, hN⟩ := hB
  obtain ⟨hn0, hn1⟩ := id (iS_s0 hI)
  have hD := zDS hj cI
  have hS : va_S (zAS ad) s.heap s.heap [] := va_S.rf
  obtain ⟨hz0, hz1⟩ := id (iS_s6 hI)
  obtain ⟨hl_a, hh_a⟩ := id hb_a
  obtain ⟨hl_b, hh_b⟩ := id hb_b
  obtain ⟨hl_d, hh_d⟩ := id hb_d
  generalize hq : f_S_station S a b d = r
  unfold f_S_station at hq
  replace hl : lv_has ls 5 [(0, .ref (ad 0)), (1, .int (zi a)), (2, .int (zi b)), (3, .int (zi d))] := hl
  refine lv_iload_n hx hb d_S_station_0 rfl (lv_at hl 1 rfl) ?_
  refine lv_iload_n hx hb d_S_station_1 rfl (lv_at hl 2 rfl) ?_
  refine zc_n (va_runS (As := [.int (zi a), .int (zi b)]) (rest := []) ⟨hx, hb, hml, hown, hts⟩ (k_S_isInPlane l a b (zB.w hb_a (by decide) (by decide)) (zB.w hb_b (by decide) (by decide)) ) (zcS 2 hts m_50 m_1 m_48 m_49 rfl rfl q_S_isInPlane ⟨Nat.le_of_ble_eq_true rfl, Nat.le_of_ble_eq_true rfl⟩) (zp0 [.int (zi a), .int (zi b)]) rfl rfl hl.1 rfl (lv_room (Nat.le_of_ble_eq_true rfl)) d_S_station_2 ⟨Nat.zero_le _, Nat.zero_le _⟩) ?_
  refine zr_if_eq (tgt := 24) hx hb (zB.I (bb_S_isInPlane a b) (by decide) (by decide)) d_S_station_5 (by decide) (fun c_1 => ?_) (fun c_1 => ?_)
  · replace hq := (if_pos c_1).symm.trans hq
    have r_2 : zB 0 0 (f_S_isInPlane a b) := ⟨(Int.le_of_eq c_1.symm), (Int.le_of_eq c_1)⟩
    refine lv_iconst (v := zi (-1)) hx hb d_S_station_24 rfl ?_
    subst hq
    exact zw_i hx hb hr hlocks rfl hP hS d_S_station_25
  · replace hq := (if_neg c_1).symm.trans hq
    have r_3 : zB 1 1 (f_S_isInPlane a b) := ⟨(by have := (bb_S_isInPlane a b).1; omega), (bb_S_isInPlane a b).2⟩
    have g_4 := gf_S_isInPlane c_1
    obtain ⟨g_4l0, g_4h0⟩ := id g_4.1
    obtain ⟨g_4l1, g_4h1⟩ := id g_4.2
    refine lv_iload_n hx hb d_S_station_8 rfl (lv_at hl 3 rfl) ?_
    refine zc_n (va_runS (As := [.int (zi d)]) (rest := []) ⟨hx, hb, hml, hown, hts⟩ (k_S_isLevel l d (zB.w hb_d (by decide) (by decide)) ) (zcS 1 hts m_56 m_1 m_54 m_55 rfl rfl q_S_isLevel ⟨Nat.le_of_ble_eq_true rfl, Nat.le_of_ble_eq_true rfl⟩) (zp0 [.int (zi d)]) rfl rfl hl.1 rfl (lv_room (Nat.le_of_ble_eq_true rfl)) d_S_station_9 ⟨Nat.zero_le _, Nat.zero_le _⟩) ?_
    refine zr_if_eq (tgt := 24) hx hb (zB.I (bb_S_isLevel d) (by decide) (by decide)) d_S_station_12 (by decide) (fun c_5 => ?_) (fun c_5 => ?_)
    · replace hq := (if_pos c_5).symm.trans hq
      have r_6 : zB 0 0 (f_S_isLevel d) := ⟨(Int.le_of_eq c_5.symm), (Int.le_of_eq c_5)⟩
      refine lv_iconst (v := zi (-1)) hx hb d_S_station_24 rfl ?_
      subst hq
      exact zw_i hx hb hr hlocks rfl hP hS d_S_station_25
    · replace hq := (if_neg c_5).symm.trans hq
      have r_7 : zB 1 1 (f_S_isLevel d) := ⟨(by have := (bb_S_isLevel d).1; omega), (bb_S_isLevel d).2⟩
      have g_8 := gf_S_isLevel c_5
      obtain ⟨g_8l, g_8h⟩ := id g_8
      refine lv_aload_n hx hb d_S_station_15 rfl (lv_at hl 0 rfl) ?_
      refine va_get (D := (dC, dI)) (ci := 1) (v := .int (zi (S 11 0))) (C := R_S) (T := T_S) (N := 13) hx hb hw i_S hown hK hP 0 rfl rfl 7 (by decide) (hw _ m_38) (fun _ h9 => h9) rfl d_S_station_16 ?_
      refine lv_bipush (v := zi 60) hx hb d_S_station_19 (by decide) ?_
      refine zr_icmp_lt (tgt := 26) hx hb (zB.I (iS_s0 hI) (by decide) (by decide)) (zB.I (zb_c 60) (by decide) (by decide)) d_S_station_21 (by decide) (fun c_9 => ?_) (fun c_9 => ?_)
      · replace hq := (if_pos c_9).symm.trans hq
        have r_10 : zB 0 59 (S 11 0) := ⟨(iS_s0 hI).1, (Int.le_sub_one_of_lt c_9)⟩
        refine lv_aload_n hx hb d_S_station_26 rfl (lv_at hl 0 rfl) ?_
        refine va_get (D := (dC, dI)) (ci := 1) (v := .int (zi (S 11 0))) (C := R_S) (T := T_S) (N := 13) hx hb hw i_S hown hK hP 0 rfl rfl 7 (by decide) (hw _ m_38) (fun _ h9 => h9) rfl d_S_station_27 ?_
        refine lv_istore (lv' := [(4, .int (zi (S 11 0))), (0, .ref (ad 0)), (1, .int (zi a)), (2, .int (zi b)), (3, .int (zi d))]) hx hb d_S_station_30 hl (by decide) rfl (fun ls hl => ?_)
        refine lv_aload_n hx hb d_S_station_32 rfl (lv_at hl 1 rfl) ?_
        refine va_get (D := (dC, dI)) (ci := 1) (v := .ref (ad 1)) (C := R_S) (T := T_S) (N := 13) hx hb hw i_S hown hK hP 0 rfl rfl 0 (by decide) (hw _ m_31) (fun _ h9 => h9) rfl d_S_station_33 ?_
        refine lv_iload hx hb d_S_station_36 (lv_at hl 0 rfl) ?_
        refine lv_iload_n hx hb d_S_station_38 rfl (lv_at hl 2 rfl) ?_
        refine zr_iast hx hb hK hP (hD _ _ _ _ _) hS 1 0 (cA := cI) (n := 60) (g := S 0) rfl rfl (i := S 11 0) (v := a) (by omega) (by omega) (by decide) d_S_station_39 (fun H locs hP _ hS => ?_)
        have hI_11 : iS (zs S 0 (zu (S 0) (S 11 0) a)) := iS_u0 hI (zu_b (iS_a0 hI) (zB.w g_4.1 (by decide) (by decide)))
        replace hP : va_P (dC, dI) classes (wS ad cI (zs S 0 (zu (S 0) (S 11 0) a)) k0 k1 k2 k3) H := hP
        refine lv_aload_n hx hb d_S_station_40 rfl (lv_at hl 1 rfl) ?_
        refine va_get (D := (dC, dI)) (ci := 1) (v := .ref (ad 2)) (C := R_S) (T := T_S) (N := 13) hx hb hw i_S hown hK hP 0 rfl rfl 1 (by decide) (hw _ m_32) (fun _ h9 => h9) rfl d_S_station_41 ?_
        refine lv_iload hx hb d_S_station_44 (lv_at hl 0 rfl) ?_
        refine lv_iload_n hx hb d_S_station_46 rfl (lv_at hl 3 rfl) ?_
        refine zr_iast hx hb hK hP (hD _ _ _ _ _) hS 2 0 (cA := cI) (n := 60) (g := S 1) rfl rfl (i := S 11 0) (v := b) (by omega) (by omega) (by decide) d_S_station_47 (fun H locs hP _ hS => ?_)
        have hI_12 : iS (zs (zs S 0 (zu (S 0) (S 11 0) a)) 1 (zu (S 1) (S 11 0) b)) := iS_u1 hI_11 (zu_b (iS_a1 hI) (zB.w g_4.2 (by decide) (by decide)))
        replace hP : va_P (dC, dI) classes (wS ad cI (zs (zs S 0 (zu (S 0) (S 11 0) a)) 1 (zu (S 1) (S 11 0) b)) k0 k1 k2 k3) H := hP
        refine lv_aload_n hx hb d_S_station_48 rfl (lv_at hl 1 rfl) ?_
        refine va_get (D := (dC, dI)) (ci := 1) (v := .ref (ad 3)) (C := R_S) (T := T_S) (N := 13) hx hb hw i_S hown hK hP 0 rfl rfl 2 (by decide) (hw _ m_33) (fun _ h9 => h9) rfl d_S_station_49 ?_
        refine lv_iload hx hb d_S_station_52 (lv_at hl 0 rfl) ?_
        refine lv_iload_n hx hb d_S_station_54 rfl (lv_at hl 4 rfl) ?_
        refine zr_iast hx hb hK hP (hD _ _ _ _ _) hS 3 0 (cA := cI) (n := 60) (g := S 2) rfl rfl (i := S 11 0) (v := d) (by omega) (by omega) (by decide) d_S_station_55 (fun H locs hP _ hS => ?_)
        have hI_13 : iS (zs (zs (zs S 0 (zu (S 0) (S 11 0) a)) 1 (zu (S 1) (S 11 0) b)) 2 (zu (S 2) (S 11 0) d)) := iS_u2 hI_12 (zu_b (iS_a2 hI) (zB.w g_8 (by decide) (by decide)))
        replace hP : va_P (dC, dI) classes (wS ad cI (zs (zs (zs S 0 (zu (S 0) (S 11 0) a)) 1 (zu (S 1) (S 11 0) b)) 2 (zu (S 2) (S 11 0) d)) k0 k1 k2 k3) H := hP
        refine lv_aload_n hx hb d_S_station_56 rfl (lv_at hl 1 rfl) ?_
        refine va_get (D := (dC, dI)) (ci := 1) (v := .ref (ad 5)) (C := R_S) (T := T_S) (N := 13) hx hb hw i_S hown hK hP 0 rfl rfl 4 (by decide) (hw _ m_35) (fun _ h9 => h9) rfl d_S_station_57 ?_
        refine lv_iload hx hb d_S_station_60 (lv_at hl 0 rfl) ?_
        refine lv_bipush (v := zi 50) hx hb d_S_station_62 (by decide) ?_
        refine zr_iast hx hb hK hP (hD _ _ _ _ _) hS 5 0 (cA := cI) (n := 60) (g := S 4) rfl rfl (i := S 11 0) (v := 50) (by omega) (by omega) (by decide) d_S_station_64 (fun H locs hP _ hS => ?_)
        have hI_14 : iS (zs (zs (zs (zs S 0 (zu (S 0) (S 11 0) a)) 1 (zu (S 1) (S 11 0) b)) 2 (zu (S 2) (S 11 0) d)) 4 (zu (S 4) (S 11 0) 50)) := iS_u4 hI_13 (zu_b (iS_a4 hI) (zB.w (zb_c 50) (by decide) (by decide)))
        replace hP : va_P (dC, dI) classes (wS ad cI (zs (zs (zs (zs S 0 (zu (S 0) (S 11 0) a)) 1 (zu (S 1) (S 11 0) b)) 2 (zu (S 2) (S 11 0) d)) 4 (zu (S 4) (S 11 0) 50)) k0 k1 k2 k3) H := hP
        refine lv_aload_n hx hb d_S_station_65 rfl (lv_at hl 1 rfl) ?_
        refine va_get (D := (dC, dI)) (ci := 1) (v := .ref (ad 6)) (C := R_S) (T := T_S) (N := 13) hx hb hw i_S hown hK hP 0 rfl rfl 5 (by decide) (hw _ m_36) (fun _ h9 => h9) rfl d_S_station_66 ?_
        refine lv_iconst (v := zi 2) hx hb d_S_station_69 rfl ?_
        refine lv_iload hx hb d_S_station_70 (lv_at hl 0 rfl) ?_
        have b_15 : zB 0 120 (2 * (S 11 0)) := zB.w (zb_mulq (zb_c 2) (iS_s0 hI) (by decide) (by decide)) (by decide) (by decide)
        refine zr_imul hx hb d_S_station_72 ?_
        refine lv_iconst (v := zi 0) hx hb d_S_station_73 rfl ?_
        have b_16 : zB 0 120 ((2 * (S 11 0)) + 0) := zB.w (zb_add b_15 (zb_c 0)) (by decide) (by decide)
        refine zr_iadd hx hb d_S_station_74 ?_
        refine lv_iconst (v := zi (-1)) hx hb d_S_station_75 rfl ?_
        refine zr_iast hx hb hK hP (hD _ _ _ _ _) hS 6 0 (cA := cI) (n := 120) (g := S 5) rfl rfl (i := (2 * (S 11 0)) + 0) (v := -1) (by omega) (by omega) (by decide) d_S_station_76 (fun H locs hP _ hS => ?_)
        have hI_17 : iS (zs (zs (zs (zs (zs S 0 (zu (S 0) (S 11 0) a)) 1 (zu (S 1) (S 11 0) b)) 2 (zu (S 2) (S 11 0) d)) 4 (zu (S 4) (S 11 0) 50)) 5 (zu (S 5) ((2 * (S 11 0)) + 0) (-1))) := iS_u5 hI_14 (zu_b (iS_a5 hI) (zB.w (zb_c (-1)) (by decide) (by decide)))
        replace hP : va_P (dC, dI) classes (wS ad cI (zs (zs (zs (zs (zs S 0 (zu (S 0) (S 11 0) a)) 1 (zu (S 1) (S 11 0) b)) 2 (zu (S 2) (S 11 0) d)) 4 (zu (S 4) (S 11 0) 50)) 5 (zu (S 5) ((2 * (S 11 0)) + 0) (-1))) k0 k1 k2 k3) H := hP
        refine lv_aload_n hx hb d_S_station_77 rfl (lv_at hl 1 rfl) ?_
        refine va_get (D := (dC, dI)) (ci := 1) (v := .ref (ad 6)) (C := R_S) (T := T_S) (N := 13) hx hb hw i_S hown hK hP 0 rfl rfl 5 (by decide) (hw _ m_36) (fun _ h9 => h9) rfl d_S_station_78 ?_
        refine lv_iconst (v := zi 2) hx hb d_S_station_81 rfl ?_
        refine lv_iload hx hb d_S_station_82 (lv_at hl 0 rfl) ?_
        refine zr_imul hx hb d_S_station_84 ?_
        refine lv_iconst (v := zi 1) hx hb d_S_station_85 rfl ?_
        have b_18 : zB 1 121 ((2 * (S 11 0)) + 1) := zB.w (zb_add b_15 (zb_c 1)) (by decide) (by decide)
        refine zr_iadd hx hb d_S_station_86 ?_
        refine lv_iconst (v := zi (-1)) hx hb d_S_station_87 rfl ?_
        refine zr_iast hx hb hK hP (hD _ _ _ _ _) hS 6 0 (cA := cI) (n := 120) (g := zu (S 5) ((2 * (S 11 0)) + 0) (-1)) rfl rfl (i := (2 * (S 11 0)) + 1) (v := -1) (by omega) (by omega) (by decide) d_S_station_88 (fun H locs hP _ hS => ?_)
        have hI_19 : iS (zs (zs (zs (zs (zs (zs S 0 (zu (S 0) (S 11 0) a)) 1 (zu (S 1) (S 11 0) b)) 2 (zu (S 2) (S 11 0) d)) 4 (zu (S 4) (S 11 0) 50)) 5 (zu (S 5) ((2 * (S 11 0)) + 0) (-1))) 5 (zu (zu (S 5) ((2 * (S 11 0)) + 0) (-1)) ((2 * (S 11 0)) + 1) (-1))) := iS_u5 hI_17 (zu_b (zu_b (iS_a5 hI) (zB.w (zb_c (-1)) (by decide) (by decide))) (zB.w (zb_c (-1)) (by decide) (by decide)))
        replace hP : va_P (dC, dI) classes (wS ad cI (zs (zs (zs (zs (zs (zs S 0 (zu (S 0) (S 11 0) a)) 1 (zu (S 1) (S 11 0) b)) 2 (zu (S 2) (S 11 0) d)) 4 (zu (S 4) (S 11 0) 50)) 5 (zu (S 5) ((2 * (S 11 0)) + 0) (-1))) 5 (zu (zu (S 5) ((2 * (S 11 0)) + 0) (-1)) ((2 * (S 11 0)) + 1) (-1))) k0 k1 k2 k3) H := hP
        refine lv_aload_n hx hb d_S_station_89 rfl (lv_at hl 1 rfl) ?_
        refine va_get (D := (dC, dI)) (ci := 1) (v := .ref (ad 4)) (C := R_S) (T := T_S) (N := 13) hx hb hw i_S hown hK hP 0 rfl rfl 3 (by decide) (hw _ m_34) (fun _ h9 => h9) rfl d_S_station_90 ?_
        refine lv_iload hx hb d_S_station_93 (lv_at hl 0 rfl) ?_
        refine lv_iload hx hb d_S_station_95 (lv_at hl 0 rfl) ?_
        refine zr_if_ne (tgt := 104) hx hb (zB.I (iS_s0 hI) (by decide) (by decide)) d_S_station_97 (by decide) (fun c_20 => ?_) (fun c_20 => ?_)
        · replace hq := (if_neg c_20).symm.trans hq
          have r_21 : zB 1 60 (S 11 0) := ⟨(by have := (iS_s0 hI).1; omega), (iS_s0 hI).2⟩
          refine lv_aload_n hx hb d_S_station_104 rfl (lv_at hl 1 rfl) ?_
          refine va_get (D := (dC, dI)) (ci := 1) (v := .ref (ad 4)) (C := R_S) (T := T_S) (N := 13) hx hb hw i_S hown hK hP 0 rfl rfl 3 (by decide) (hw _ m_34) (fun _ h9 => h9) rfl d_S_station_105 ?_
          refine lv_iload hx hb d_S_station_108 (lv_at hl 0 rfl) ?_
          refine lv_iconst (v := zi 1) hx hb d_S_station_110 rfl ?_
          have b_22 : zB 0 59 ((S 11 0) - 1) := zB.w (zb_sub r_21 (zb_c 1)) (by decide) (by decide)
          refine zr_isub hx hb d_S_station_111 ?_
          refine zr_iald hx hb hK hP 4 0 (cA := cI) (n := 60) (g := S 3) rfl rfl (i := (S 11 0) - 1) (by omega) (by omega) (by decide) d_S_station_112 ?_
          refine lv_aload_n hx hb d_S_station_113 rfl (lv_at hl 1 rfl) ?_
          refine lv_iload hx hb d_S_station_114 (lv_at hl 0 rfl) ?_
          refine lv_iconst (v := zi 1) hx hb d_S_station_116 rfl ?_
          refine zr_isub hx hb d_S_station_117 ?_
          refine lv_iload hx hb d_S_station_118 (lv_at hl 0 rfl) ?_
          refine zc_n (va_runV (As := [.int (zi ((S 11 0) - 1)), .int (zi (S 11 0))]) (rest := [.int (zi (S 3 ((S 11 0) - 1))), .int (zi (S 11 0)), .ref (ad 4)]) ⟨hx, hb, hml, hown, hts⟩ (k_S_stepBetween l dC dI ad cI (zs (zs (zs (zs (zs (zs S 0 (zu (S 0) (S 11 0) a)) 1 (zu (S 1) (S 11 0) b)) 2 (zu (S 2) (S 11 0) d)) 4 (zu (S 4) (S 11 0) 50)) 5 (zu (S 5) ((2 * (S 11 0)) + 0) (-1))) 5 (zu (zu (S 5) ((2 * (S 11 0)) + 0) (-1)) ((2 * (S 11 0)) + 1) (-1))) k0 k1 k2 k3 hI_19 ((S 11 0) - 1) (S 11 0) (zB.w b_22 (by decide) (by decide)) ⟨by omega, by omega⟩ ) (zcV 2 hts m_61 m_1 m_59 m_60 m_372 rfl rfl q_S_stepBetween ⟨Nat.le_of_ble_eq_true rfl, Nat.le_of_ble_eq_true rfl⟩) (zpS0 hP hK hN [.int (zi ((S 11 0) - 1)), .int (zi (S 11 0))]) rfl rfl hl.1 rfl (lv_room (Nat.le_of_ble_eq_true rfl)) d_S_station_120 ⟨Nat.zero_le _, Nat.zero_le _⟩) ?_
          refine zr_iadd hx hb d_S_station_123 ?_
          refine zr_iast hx hb hK hP (hD _ _ _ _ _) hS 4 0 (cA := cI) (n := 60) (g := S 3) rfl rfl (i := S 11 0) (v := (S 3 ((S 11 0) - 1)) + (f_S_stepBetween (zs (zs (zs (zs (zs (zs S 0 (zu (S 0) (S 11 0) a)) 1 (zu (S 1) (S 11 0) b)) 2 (zu (S 2) (S 11 0) d)) 4 (zu (S 4) (S 11 0) 50)) 5 (zu (S 5) ((2 * (S 11 0)) + 0) (-1))) 5 (zu (zu (S 5) ((2 * (S 11 0)) + 0) (-1)) ((2 * (S 11 0)) + 1) (-1))) ((S 11 0) - 1) (S 11 0))) (by omega) (by omega) (by decide) d_S_station_124 (fun H locs hP _ hS => ?_)
          replace hP : va_P (dC, dI) classes (wS ad cI (zs (zs (zs (zs (zs (zs (zs S 0 (zu (S 0) (S 11 0) a)) 1 (zu (S 1) (S 11 0) b)) 2 (zu (S 2) (S 11 0) d)) 4 (zu (S 4) (S 11 0) 50)) 5 (zu (S 5) ((2 * (S 11 0)) + 0) (-1))) 5 (zu (zu (S 5) ((2 * (S 11 0)) + 0) (-1)) ((2 * (S 11 0)) + 1) (-1))) 3 (zu (S 3) (S 11 0) ((S 3 ((S 11 0) - 1)) + (f_S_stepBetween (zs (zs (zs (zs (zs (zs S 0 (zu (S 0) (S 11 0) a)) 1 (zu (S 1) (S 11 0) b)) 2 (zu (S 2) (S 11 0) d)) 4 (zu (S 4) (S 11 0) 50)) 5 (zu (S 5) ((2 * (S 11 0)) + 0) (-1))) 5 (zu (zu (S 5) ((2 * (S 11 0)) + 0) (-1)) ((2 * (S 11 0)) + 1) (-1))) ((S 11 0) - 1) (S 11 0))))) k0 k1 k2 k3) H := hP
          refine lv_aload_n hx hb d_S_station_125 rfl (lv_at hl 1 rfl) ?_
          refine lv_dup hx hb d_S_station_126 rfl ?_
          refine va_get (D := (dC, dI)) (ci := 1) (v := .int (zi (S 11 0))) (C := R_S) (T := T_S) (N := 13) hx hb hw i_S hown hK hP 0 rfl rfl 7 (by decide) (hw _ m_38) (fun _ h9 => h9) rfl d_S_station_127 ?_
          refine lv_iconst (v := zi 1) hx hb d_S_station_130 rfl ?_
          have b_23 : zB 1 61 ((S 11 0) + 1) := zB.w (zb_add (iS_s0 hI) (zb_c 1)) (by decide) (by decide)
          refine zr_iadd hx hb d_S_station_131 ?_
          refine va_put (D := (dC, dI)) (ci := 1) (v := .int (zi ((S 11 0) + 1))) (ty := .int) (C := R_S) (T := T_S) (N := 13) hx hb hw i_S t_S ty_S nm_S hown hK hP (hD _ _ _ _ _) hS 0 rfl rfl 7 (by decide) (hw _ m_38) (fun _ h9 => h9) rfl (by decide +kernel) rfl rfl (Nat.le_of_ble_eq_true rfl) d_S_station_132 (fun H locs hP _ hS => ?_)
          replace hP : va_P (dC, dI) classes (wS ad cI (zs (zs (zs (zs (zs (zs (zs (zs S 0 (zu (S 0) (S 11 0) a)) 1 (zu (S 1) (S 11 0) b)) 2 (zu (S 2) (S 11 0) d)) 4 (zu (S 4) (S 11 0) 50)) 5 (zu (S 5) ((2 * (S 11 0)) + 0) (-1))) 5 (zu (zu (S 5) ((2 * (S 11 0)) + 0) (-1)) ((2 * (S 11 0)) + 1) (-1))) 3 (zu (S 3) (S 11 0) ((S 3 ((S 11 0) - 1)) + (f_S_stepBetween (zs (zs (zs (zs (zs (zs S 0 (zu (S 0) (S 11 0) a)) 1 (zu (S 1) (S 11 0) b)) 2 (zu (S 2) (S 11 0) d)) 4 (zu (S 4) (S 11 0) 50)) 5 (zu (S 5) ((2 * (S 11 0)) + 0) (-1))) 5 (zu (zu (S 5) ((2 * (S 11 0)) + 0) (-1)) ((2 * (S 11 0)) + 1) (-1))) ((S 11 0) - 1) (S 11 0))))) 11 (zu ((zs (zs (zs (zs (zs (zs (zs S 0 (zu (S 0) (S 11 0) a)) 1 (zu (S 1) (S 11 0) b)) 2 (zu (S 2) (S 11 0) d)) 4 (zu (S 4) (S 11 0) 50)) 5 (zu (S 5) ((2 * (S 11 0)) + 0) (-1))) 5 (zu (zu (S 5) ((2 * (S 11 0)) + 0) (-1)) ((2 * (S 11 0)) + 1) (-1))) 3 (zu (S 3) (S 11 0) ((S 3 ((S 11 0) - 1)) + (f_S_stepBetween (zs (zs (zs (zs (zs (zs S 0 (zu (S 0) (S 11 0) a)) 1 (zu (S 1) (S 11 0) b)) 2 (zu (S 2) (S 11 0) d)) 4 (zu (S 4) (S 11 0) 50)) 5 (zu (S 5) ((2 * (S 11 0)) + 0) (-1))) 5 (zu (zu (S 5) ((2 * (S 11 0)) + 0) (-1)) ((2 * (S 11 0)) + 1) (-1))) ((S 11 0) - 1) (S 11 0))))) 11) 0 ((S 11 0) + 1))) k0 k1 k2 k3) H := hP
          refine lv_iload hx hb d_S_station_135 (lv_at hl 0 rfl) ?_
          subst hq
          exact zw_i hx hb hr hlocks rfl hP hS d_S_station_137
        · replace hq := (if_pos c_20).symm.trans hq
          have r_24 : zB 0 0 (S 11 0) := ⟨(Int.le_of_eq c_20.symm), (Int.le_of_eq c_20)⟩
          refine lv_iconst (v := zi 0) hx hb d_S_station_100 rfl ?_
          refine lv_goto (tgt := 124) hx hb d_S_station_101 (by decide) ?_
          refine zr_iast hx hb hK hP (hD _ _ _ _ _) hS 4 0 (cA := cI) (n := 60) (g := S 3) rfl rfl (i := S 11 0) (v := 0) (by omega) (by omega) (by decide) d_S_station_124 (fun H locs hP _ hS => ?_)
          have hI_25 : iS (zs (zs (zs (zs (zs (zs (zs S 0 (zu (S 0) (S 11 0) a)) 1 (zu (S 1) (S 11 0) b)) 2 (zu (S 2) (S 11 0) d)) 4 (zu (S 4) (S 11 0) 50)) 5 (zu (S 5) ((2 * (S 11 0)) + 0) (-1))) 5 (zu (zu (S 5) ((2 * (S 11 0)) + 0) (-1)) ((2 * (S 11 0)) + 1) (-1))) 3 (zu (S 3) (S 11 0) 0)) := iS_u3 hI_19 (zu_b (iS_a3 hI) (zB.w (zb_c 0) (by decide) (by decide)))
          replace hP : va_P (dC, dI) classes (wS ad cI (zs (zs (zs (zs (zs (zs (zs S 0 (zu (S 0) (S 11 0) a)) 1 (zu (S 1) (S 11 0) b)) 2 (zu (S 2) (S 11 0) d)) 4 (zu (S 4) (S 11 0) 50)) 5 (zu (S 5) ((2 * (S 11 0)) + 0) (-1))) 5 (zu (zu (S 5) ((2 * (S 11 0)) + 0) (-1)) ((2 * (S 11 0)) + 1) (-1))) 3 (zu (S 3) (S 11 0) 0)) k0 k1 k2 k3) H := hP
          refine lv_aload_n hx hb d_S_station_125 rfl (lv_at hl 1 rfl) ?_
          refine lv_dup hx hb d_S_station_126 rfl ?_
          refine va_get (D := (dC, dI)) (ci := 1) (v := .int (zi (S 11 0))) (C := R_S) (T := T_S) (N := 13) hx hb hw i_S hown hK hP 0 rfl rfl 7 (by decide) (hw _ m_38) (fun _ h9 => h9) rfl d_S_station_127 ?_
          refine lv_iconst (v := zi 1) hx hb d_S_station_130 rfl ?_
          have b_26 : zB 1 61 ((S 11 0) + 1) := zB.w (zb_add (iS_s0 hI) (zb_c 1)) (by decide) (by decide)
          refine zr_iadd hx hb d_S_station_131 ?_
          refine va_put (D := (dC, dI)) (ci := 1) (v := .int (zi ((S 11 0) + 1))) (ty := .int) (C := R_S) (T := T_S) (N := 13) hx hb hw i_S t_S ty_S nm_S hown hK hP (hD _ _ _ _ _) hS 0 rfl rfl 7 (by decide) (hw _ m_38) (fun _ h9 => h9) rfl (by decide +kernel) rfl rfl (Nat.le_of_ble_eq_true rfl) d_S_station_132 (fun H locs hP _ hS => ?_)
          replace hP : va_P (dC, dI) classes (wS ad cI (zs (zs (zs (zs (zs (zs (zs (zs S 0 (zu (S 0) (S 11 0) a)) 1 (zu (S 1) (S 11 0) b)) 2 (zu (S 2) (S 11 0) d)) 4 (zu (S 4) (S 11 0) 50)) 5 (zu (S 5) ((2 * (S 11 0)) + 0) (-1))) 5 (zu (zu (S 5) ((2 * (S 11 0)) + 0) (-1)) ((2 * (S 11 0)) + 1) (-1))) 3 (zu (S 3) (S 11 0) 0)) 11 (zu ((zs (zs (zs (zs (zs (zs (zs S 0 (zu (S 0) (S 11 0) a)) 1 (zu (S 1) (S 11 0) b)) 2 (zu (S 2) (S 11 0) d)) 4 (zu (S 4) (S 11 0) 50)) 5 (zu (S 5) ((2 * (S 11 0)) + 0) (-1))) 5 (zu (zu (S 5) ((2 * (S 11 0)) + 0) (-1)) ((2 * (S 11 0)) + 1) (-1))) 3 (zu (S 3) (S 11 0) 0)) 11) 0 ((S 11 0) + 1))) k0 k1 k2 k3) H := hP
          refine lv_iload hx hb d_S_station_135 (lv_at hl 0 rfl) ?_
          subst hq
          exact zw_i hx hb hr hlocks rfl hP hS d_S_station_137
      · replace hq := (if_neg c_9).symm.trans hq
        have r_27 : zB 60 60 (S 11 0) := ⟨(Int.not_lt.mp c_9), (iS_s0 hI).2⟩
        refine lv_iconst (v := zi (-1)) hx hb d_S_station_24 rfl ?_
        subst hq
        exact zw_i hx hb hr hlocks rfl hP hS d_S_station_25
def f_S_heights (S : Nat → Int → Int) (a b : Int) : Int × (Nat → Int → Int) := if (f_S_isWithin a 0 1000) = 0 then ((0, S)) else (if (f_S_isWithin b 0 1000) = 0 then ((0, S)) else ((1, zs (zs S 11 (zu (S 11) 2 a)) 11 (zu ((zs S 11 (zu (S 11) 2 a)) 11) 3 b))))
set_option maxHeartbeats 4000000 in
set_option maxRecDepth 100000 in
theorem k_S_heights (l : Launch) (dC : Nat → ClassId) (dI : Nat → Nat → Nat) (ad : Nat → Nat) (cI : ClassId) (S : Nat → Int → Int) (k0 k1 k2 k3 : Int) (hI : iS S) (hj : zJ 13 ad) (a b : Int) (hb_a : zB (-2147483648) 2147483647 a) (hb_b : zB (-2147483648) 2147483647 b) : Met l y_S_heights (Cond.code y_S_heights c_S_heights 3 (some .boolean) :: zT) { frames := 1, cells := 0, slots := 0, locals := 22 } (va_Pc ([.ref (ad 0), .int (zi a), .int (zi b)] : List Value) (zWS dC dI ad cI S k0 k1 k2 k3)) (zQ (some (.int (zi (f_S_heights S a b).1))) (fun H => va_P (dC, dI) classes (wS ad cI (f_S_heights S a b).2 k0 k1 k2 k3) H) (zAS ad)) 0 0 (zAS ad) := by
  refine zh (cc := c_S_heights) (C := R_S) (by decide) rfl rfl (Nat.le_of_ble_eq_true rfl) ?_
  intro p e s m below meth c ls hx hb hr hlocks hml hown hname hts hl hB
  have hw : ∀ w9 ∈ zT, w9.before ([.ref (ad 0), .int (zi a), .int (zi b)] : List Value).toArray s = true := fun w9 h => hts w9 (List.mem_cons_of_mem _ h)
  obtain ⟨hP, hK, hN⟩ := hB
  obtain ⟨hn0, hn1⟩ := id (iS_s0 hI)
  have hD := zDS hj cI
  have hS : va_S (zAS ad) s.heap s.heap [] := va_S.rf
  obtain ⟨hz0, hz1⟩ := id (iS_s6 hI)
  obtain ⟨hl_a, hh_a⟩ := id hb_a
  obtain ⟨hl_b, hh_b⟩ := id hb_b
  generalize hq : f_S_heights S a b = r
  unfold f_S_heights at hq
  replace hl : lv_has ls 3 [(0, .ref (ad 0)), (1, .int (zi a)), (2, .int (zi b))] := hl
  refine lv_iload_n hx hb d_S_heights_0 rfl (lv_at hl 1 rfl) ?_
  refine lv_iconst (v := zi 0) hx hb d_S_heights_1 rfl ?_
  refine lv_sipush (v := zi 1000) hx hb d_S_heights_2 (by decide) ?_
  refine zc_n (va_runS (As := [.int (zi a), .int (zi 0), .int (zi 1000)]) (rest := []) ⟨hx, hb, hml, hown, hts⟩ (k_S_isWithin l a 0 1000 (zB.w hb_a (by decide) (by decide)) (zB.w (zb_c 0) (by decide) (by decide)) (zB.w (zb_c 1000) (by decide) (by decide)) ) (zcS 3 hts m_53 m_1 m_51 m_52 rfl rfl q_S_isWithin ⟨Nat.le_of_ble_eq_true rfl, Nat.le_of_ble_eq_true rfl⟩) (zp0 [.int (zi a), .int (zi 0), .int (zi 1000)]) rfl rfl hl.1 rfl (lv_room (Nat.le_of_ble_eq_true rfl)) d_S_heights_5 ⟨Nat.zero_le _, Nat.zero_le _⟩) ?_
  refine zr_if_eq (tgt := 22) hx hb (zB.I (bb_S_isWithin a 0 1000) (by decide) (by decide)) d_S_heights_8 (by decide) (fun c_1 => ?_) (fun c_1 => ?_)
  · replace hq := (if_pos c_1).symm.trans hq
    have r_2 : zB 0 0 (f_S_isWithin a 0 1000) := ⟨(Int.le_of_eq c_1.symm), (Int.le_of_eq c_1)⟩
    refine lv_iconst (v := zi 0) hx hb d_S_heights_22 rfl ?_
    subst hq
    exact zw_z hx hb hr hlocks (zB.w (zb_c 0) (by decide) (by decide)) rfl hP hS d_S_heights_23
  · replace hq := (if_neg c_1).symm.trans hq
    have r_3 : zB 1 1 (f_S_isWithin a 0 1000) := ⟨(by have := (bb_S_isWithin a 0 1000).1; omega), (bb_S_isWithin a 0 1000).2⟩
    have g_4 := gf_S_isWithin c_1
    obtain ⟨g_4l, g_4h⟩ := id g_4
    refine lv_iload_n hx hb d_S_heights_11 rfl (lv_at hl 2 rfl) ?_
    refine lv_iconst (v := zi 0) hx hb d_S_heights_12 rfl ?_
    refine lv_sipush (v := zi 1000) hx hb d_S_heights_13 (by decide) ?_
    refine zc_n (va_runS (As := [.int (zi b), .int (zi 0), .int (zi 1000)]) (rest := []) ⟨hx, hb, hml, hown, hts⟩ (k_S_isWithin l b 0 1000 (zB.w hb_b (by decide) (by decide)) (zB.w (zb_c 0) (by decide) (by decide)) (zB.w (zb_c 1000) (by decide) (by decide)) ) (zcS 3 hts m_53 m_1 m_51 m_52 rfl rfl q_S_isWithin ⟨Nat.le_of_ble_eq_true rfl, Nat.le_of_ble_eq_true rfl⟩) (zp0 [.int (zi b), .int (zi 0), .int (zi 1000)]) rfl rfl hl.1 rfl (lv_room (Nat.le_of_ble_eq_true rfl)) d_S_heights_16 ⟨Nat.zero_le _, Nat.zero_le _⟩) ?_
    refine zr_if_ne (tgt := 24) hx hb (zB.I (bb_S_isWithin b 0 1000) (by decide) (by decide)) d_S_heights_19 (by decide) (fun c_5 => ?_) (fun c_5 => ?_)
    · replace hq := (if_neg c_5).symm.trans hq
      have r_6 : zB 1 1 (f_S_isWithin b 0 1000) := ⟨(by have := (bb_S_isWithin b 0 1000).1; omega), (bb_S_isWithin b 0 1000).2⟩
      have g_7 := gf_S_isWithin c_5
      obtain ⟨g_7l, g_7h⟩ := id g_7
      refine lv_aload_n hx hb d_S_heights_24 rfl (lv_at hl 0 rfl) ?_
      refine lv_iload_n hx hb d_S_heights_25 rfl (lv_at hl 1 rfl) ?_
      refine va_put (D := (dC, dI)) (ci := 1) (v := .int (zi a)) (ty := .int) (C := R_S) (T := T_S) (N := 13) hx hb hw i_S t_S ty_S nm_S hown hK hP (hD _ _ _ _ _) hS 0 rfl rfl 9 (by decide) (hw _ m_40) (fun _ h9 => h9) rfl (by decide +kernel) rfl rfl (Nat.le_of_ble_eq_true rfl) d_S_heights_26 (fun H locs hP _ hS => ?_)
      replace hP : va_P (dC, dI) classes (wS ad cI (zs S 11 (zu (S 11) 2 a)) k0 k1 k2 k3) H := hP
      refine lv_aload_n hx hb d_S_heights_29 rfl (lv_at hl 0 rfl) ?_
      refine lv_iload_n hx hb d_S_heights_30 rfl (lv_at hl 2 rfl) ?_
      refine va_put (D := (dC, dI)) (ci := 1) (v := .int (zi b)) (ty := .int) (C := R_S) (T := T_S) (N := 13) hx hb hw i_S t_S ty_S nm_S hown hK hP (hD _ _ _ _ _) hS 0 rfl rfl 10 (by decide) (hw _ m_41) (fun _ h9 => h9) rfl (by decide +kernel) rfl rfl (Nat.le_of_ble_eq_true rfl) d_S_heights_31 (fun H locs hP _ hS => ?_)
      replace hP : va_P (dC, dI) classes (wS ad cI (zs (zs S 11 (zu (S 11) 2 a)) 11 (zu ((zs S 11 (zu (S 11) 2 a)) 11) 3 b)) k0 k1 k2 k3) H := hP
      refine lv_iconst (v := zi 1) hx hb d_S_heights_34 rfl ?_
      subst hq
      exact zw_z hx hb hr hlocks (zB.w (zb_c 1) (by decide) (by decide)) rfl hP hS d_S_heights_35
    · replace hq := (if_pos c_5).symm.trans hq
      have r_8 : zB 0 0 (f_S_isWithin b 0 1000) := ⟨(Int.le_of_eq c_5.symm), (Int.le_of_eq c_5)⟩
      refine lv_iconst (v := zi 0) hx hb d_S_heights_22 rfl ?_
      subst hq
      exact zw_z hx hb hr hlocks (zB.w (zb_c 0) (by decide) (by decide)) rfl hP hS d_S_heights_23
def f_S_clear (S : Nat → Int → Int) (a b d : Int) : Int × (Nat → Int → Int) := if (f_S_isStation S a) = 0 then ((0, S)) else (if (f_S_isSide b) = 0 then ((0, S)) else (if (f_S_isWithin d 0 1000) = 0 then ((0, S)) else (if (S 5 ((2 * a) + b)) = (-1) then ((1, zs (zs S 11 (zu (S 11) 1 ((S 11 1) + 1))) 5 (zu (S 5) ((2 * a) + b) d))) else ((1, zs S 5 (zu (S 5) ((2 * a) + b) d))))))
set_option maxHeartbeats 4000000 in
set_option maxRecDepth 100000 in
theorem k_S_clear (l : Launch) (dC : Nat → ClassId) (dI : Nat → Nat → Nat) (ad : Nat → Nat) (cI : ClassId) (S : Nat → Int → Int) (k0 k1 k2 k3 : Int) (hI : iS S) (hj : zJ 13 ad) (a b d : Int) (hb_a : zB (-2147483648) 2147483647 a) (hb_b : zB (-2147483648) 2147483647 b) (hb_d : zB (-2147483648) 2147483647 d) : Met l y_S_clear (Cond.code y_S_clear c_S_clear 5 (some .boolean) :: zT) { frames := 1, cells := 0, slots := 0, locals := 22 } (va_Pc ([.ref (ad 0), .int (zi a), .int (zi b), .int (zi d)] : List Value) (zWS dC dI ad cI S k0 k1 k2 k3)) (zQ (some (.int (zi (f_S_clear S a b d).1))) (fun H => va_P (dC, dI) classes (wS ad cI (f_S_clear S a b d).2 k0 k1 k2 k3) H) (zAS ad)) 0 0 (zAS ad) := by
  refine zh (cc := c_S_clear) (C := R_S) (by decide) rfl rfl (Nat.le_of_ble_eq_true rfl) ?_
  intro p e s m below meth c ls hx hb hr hlocks hml hown hname hts hl hB
  have hw : ∀ w9 ∈ zT, w9.before ([.ref (ad 0), .int (zi a), .int (zi b), .int (zi d)] : List Value).toArray s = true := fun w9 h => hts w9 (List.mem_cons_of_mem _ h)
  obtain ⟨hP, hK, hN⟩ := hB
  obtain ⟨hn0, hn1⟩ := id (iS_s0 hI)
  have hD := zDS hj cI
  have hS : va_S (zAS ad) s.heap s.heap [] := va_S.rf
  obtain ⟨hz0, hz1⟩ := id (iS_s6 hI)
  obtain ⟨hl_a, hh_a⟩ := id hb_a
  obtain ⟨hl_b, hh_b⟩ := id hb_b
  obtain ⟨hl_d, hh_d⟩ := id hb_d
  generalize hq : f_S_clear S a b d = r
  unfold f_S_clear at hq
  replace hl : lv_has ls 5 [(0, .ref (ad 0)), (1, .int (zi a)), (2, .int (zi b)), (3, .int (zi d))] := hl
  refine lv_aload_n hx hb d_S_clear_0 rfl (lv_at hl 0 rfl) ?_
  refine lv_iload_n hx hb d_S_clear_1 rfl (lv_at hl 1 rfl) ?_
  refine zc_n (va_runV (As := [.int (zi a)]) (rest := []) ⟨hx, hb, hml, hown, hts⟩ (k_S_isStation l dC dI ad cI S k0 k1 k2 k3 hI a (zB.w hb_a (by decide) (by decide)) ) (zcV 1 hts m_84 m_1 m_82 m_83 m_374 rfl rfl q_S_isStation ⟨Nat.le_of_ble_eq_true rfl, Nat.le_of_ble_eq_true rfl⟩) (zpS0 hP hK hN [.int (zi a)]) rfl rfl hl.1 rfl (lv_room (Nat.le_of_ble_eq_true rfl)) d_S_clear_2 ⟨Nat.zero_le _, Nat.zero_le _⟩) ?_
  refine zr_if_eq (tgt := 26) hx hb (zB.I (bb_S_isStation S a) (by decide) (by decide)) d_S_clear_5 (by decide) (fun c_1 => ?_) (fun c_1 => ?_)
  · replace hq := (if_pos c_1).symm.trans hq
    have r_2 : zB 0 0 (f_S_isStation S a) := ⟨(Int.le_of_eq c_1.symm), (Int.le_of_eq c_1)⟩
    refine lv_iconst (v := zi 0) hx hb d_S_clear_26 rfl ?_
    subst hq
    exact zw_z hx hb hr hlocks (zB.w (zb_c 0) (by decide) (by decide)) rfl hP hS d_S_clear_27
  · replace hq := (if_neg c_1).symm.trans hq
    have r_3 : zB 1 1 (f_S_isStation S a) := ⟨(by have := (bb_S_isStation S a).1; omega), (bb_S_isStation S a).2⟩
    have g_4 := gf_S_isStation hI c_1
    obtain ⟨g_4l, g_4h⟩ := id g_4.1
    have g_4n := g_4.2
    refine lv_iload_n hx hb d_S_clear_8 rfl (lv_at hl 2 rfl) ?_
    refine zc_n (va_runS (As := [.int (zi b)]) (rest := []) ⟨hx, hb, hml, hown, hts⟩ (k_S_isSide l b (zB.w hb_b (by decide) (by decide)) ) (zcS 1 hts m_87 m_1 m_85 m_86 rfl rfl q_S_isSide ⟨Nat.le_of_ble_eq_true rfl, Nat.le_of_ble_eq_true rfl⟩) (zp0 [.int (zi b)]) rfl rfl hl.1 rfl (lv_room (Nat.le_of_ble_eq_true rfl)) d_S_clear_9 ⟨Nat.zero_le _, Nat.zero_le _⟩) ?_
    refine zr_if_eq (tgt := 26) hx hb (zB.I (bb_S_isSide b) (by decide) (by decide)) d_S_clear_12 (by decide) (fun c_5 => ?_) (fun c_5 => ?_)
    · replace hq := (if_pos c_5).symm.trans hq
      have r_6 : zB 0 0 (f_S_isSide b) := ⟨(Int.le_of_eq c_5.symm), (Int.le_of_eq c_5)⟩
      refine lv_iconst (v := zi 0) hx hb d_S_clear_26 rfl ?_
      subst hq
      exact zw_z hx hb hr hlocks (zB.w (zb_c 0) (by decide) (by decide)) rfl hP hS d_S_clear_27
    · replace hq := (if_neg c_5).symm.trans hq
      have r_7 : zB 1 1 (f_S_isSide b) := ⟨(by have := (bb_S_isSide b).1; omega), (bb_S_isSide b).2⟩
      have g_8 := gf_S_isSide c_5
      obtain ⟨g_8l, g_8h⟩ := id g_8
      refine lv_iload_n hx hb d_S_clear_15 rfl (lv_at hl 3 rfl) ?_
      refine lv_iconst (v := zi 0) hx hb d_S_clear_16 rfl ?_
      refine lv_sipush (v := zi 1000) hx hb d_S_clear_17 (by decide) ?_
      refine zc_n (va_runS (As := [.int (zi d), .int (zi 0), .int (zi 1000)]) (rest := []) ⟨hx, hb, hml, hown, hts⟩ (k_S_isWithin l d 0 1000 (zB.w hb_d (by decide) (by decide)) (zB.w (zb_c 0) (by decide) (by decide)) (zB.w (zb_c 1000) (by decide) (by decide)) ) (zcS 3 hts m_53 m_1 m_51 m_52 rfl rfl q_S_isWithin ⟨Nat.le_of_ble_eq_true rfl, Nat.le_of_ble_eq_true rfl⟩) (zp0 [.int (zi d), .int (zi 0), .int (zi 1000)]) rfl rfl hl.1 rfl (lv_room (Nat.le_of_ble_eq_true rfl)) d_S_clear_20 ⟨Nat.zero_le _, Nat.zero_le _⟩) ?_
      refine zr_if_ne (tgt := 28) hx hb (zB.I (bb_S_isWithin d 0 1000) (by decide) (by decide)) d_S_clear_23 (by decide) (fun c_9 => ?_) (fun c_9 => ?_)
      · replace hq := (if_neg c_9).symm.trans hq
        have r_10 : zB 1 1 (f_S_isWithin d 0 1000) := ⟨(by have := (bb_S_isWithin d 0 1000).1; omega), (bb_S_isWithin d 0 1000).2⟩
        have g_11 := gf_S_isWithin c_9
        obtain ⟨g_11l, g_11h⟩ := id g_11
        refine lv_iconst (v := zi 2) hx hb d_S_clear_28 rfl ?_
        refine lv_iload_n hx hb d_S_clear_29 rfl (lv_at hl 1 rfl) ?_
        have b_12 : zB 0 118 (2 * a) := zB.w (zb_mulq (zb_c 2) g_4.1 (by decide) (by decide)) (by decide) (by decide)
        refine zr_imul hx hb d_S_clear_30 ?_
        refine lv_iload_n hx hb d_S_clear_31 rfl (lv_at hl 2 rfl) ?_
        have b_13 : zB 0 119 ((2 * a) + b) := zB.w (zb_add b_12 g_8) (by decide) (by decide)
        refine zr_iadd hx hb d_S_clear_32 ?_
        refine lv_istore (lv' := [(4, .int (zi ((2 * a) + b))), (0, .ref (ad 0)), (1, .int (zi a)), (2, .int (zi b)), (3, .int (zi d))]) hx hb d_S_clear_33 hl (by decide) rfl (fun ls hl => ?_)
        refine lv_aload_n hx hb d_S_clear_35 rfl (lv_at hl 1 rfl) ?_
        refine va_get (D := (dC, dI)) (ci := 1) (v := .ref (ad 6)) (C := R_S) (T := T_S) (N := 13) hx hb hw i_S hown hK hP 0 rfl rfl 5 (by decide) (hw _ m_36) (fun _ h9 => h9) rfl d_S_clear_36 ?_
        refine lv_iload hx hb d_S_clear_39 (lv_at hl 0 rfl) ?_
        refine zr_iald hx hb hK hP 6 0 (cA := cI) (n := 120) (g := S 5) rfl rfl (i := (2 * a) + b) (by omega) (by omega) (by decide) d_S_clear_41 ?_
        refine lv_iconst (v := zi (-1)) hx hb d_S_clear_42 rfl ?_
        refine zr_icmp_ne (tgt := 56) hx hb (zB.I (iS_a5 hI ((2 * a) + b)) (by decide) (by decide)) (zB.I (zb_c (-1)) (by decide) (by decide)) d_S_clear_43 (by decide) (fun c_14 => ?_) (fun c_14 => ?_)
        · replace hq := (if_neg c_14).symm.trans hq
          have r_15 : zB 0 1000 (S 5 ((2 * a) + b)) := ⟨(by have := (iS_a5 hI ((2 * a) + b)).1; omega), (iS_a5 hI ((2 * a) + b)).2⟩
          refine lv_aload_n hx hb d_S_clear_56 rfl (lv_at hl 1 rfl) ?_
          refine va_get (D := (dC, dI)) (ci := 1) (v := .ref (ad 6)) (C := R_S) (T := T_S) (N := 13) hx hb hw i_S hown hK hP 0 rfl rfl 5 (by decide) (hw _ m_36) (fun _ h9 => h9) rfl d_S_clear_57 ?_
          refine lv_iload hx hb d_S_clear_60 (lv_at hl 0 rfl) ?_
          refine lv_iload_n hx hb d_S_clear_62 rfl (lv_at hl 4 rfl) ?_
          refine zr_iast hx hb hK hP (hD _ _ _ _ _) hS 6 0 (cA := cI) (n := 120) (g := S 5) rfl rfl (i := (2 * a) + b) (v := d) (by omega) (by omega) (by decide) d_S_clear_63 (fun H locs hP _ hS => ?_)
          have hI_16 : iS (zs S 5 (zu (S 5) ((2 * a) + b) d)) := iS_u5 hI (zu_b (iS_a5 hI) (zB.w g_11 (by decide) (by decide)))
          replace hP : va_P (dC, dI) classes (wS ad cI (zs S 5 (zu (S 5) ((2 * a) + b) d)) k0 k1 k2 k3) H := hP
          refine lv_iconst (v := zi 1) hx hb d_S_clear_64 rfl ?_
          subst hq
          exact zw_z hx hb hr hlocks (zB.w (zb_c 1) (by decide) (by decide)) rfl hP hS d_S_clear_65
        · replace hq := (if_pos c_14).symm.trans hq
          have r_17 : zB (-1) (-1) (S 5 ((2 * a) + b)) := ⟨(Int.le_of_eq c_14.symm), (Int.le_of_eq c_14)⟩
          refine lv_aload_n hx hb d_S_clear_46 rfl (lv_at hl 1 rfl) ?_
          refine lv_dup hx hb d_S_clear_47 rfl ?_
          refine va_get (D := (dC, dI)) (ci := 1) (v := .int (zi (S 11 1))) (C := R_S) (T := T_S) (N := 13) hx hb hw i_S hown hK hP 0 rfl rfl 8 (by decide) (hw _ m_39) (fun _ h9 => h9) rfl d_S_clear_48 ?_
          refine lv_iconst (v := zi 1) hx hb d_S_clear_51 rfl ?_
          refine zr_iadd hx hb d_S_clear_52 ?_
          refine va_put (D := (dC, dI)) (ci := 1) (v := .int (zi ((S 11 1) + 1))) (ty := .int) (C := R_S) (T := T_S) (N := 13) hx hb hw i_S t_S ty_S nm_S hown hK hP (hD _ _ _ _ _) hS 0 rfl rfl 8 (by decide) (hw _ m_39) (fun _ h9 => h9) rfl (by decide +kernel) rfl rfl (Nat.le_of_ble_eq_true rfl) d_S_clear_53 (fun H locs hP _ hS => ?_)
          replace hP : va_P (dC, dI) classes (wS ad cI (zs S 11 (zu (S 11) 1 ((S 11 1) + 1))) k0 k1 k2 k3) H := hP
          refine lv_aload_n hx hb d_S_clear_56 rfl (lv_at hl 1 rfl) ?_
          refine va_get (D := (dC, dI)) (ci := 1) (v := .ref (ad 6)) (C := R_S) (T := T_S) (N := 13) hx hb hw i_S hown hK hP 0 rfl rfl 5 (by decide) (hw _ m_36) (fun _ h9 => h9) rfl d_S_clear_57 ?_
          refine lv_iload hx hb d_S_clear_60 (lv_at hl 0 rfl) ?_
          refine lv_iload_n hx hb d_S_clear_62 rfl (lv_at hl 4 rfl) ?_
          refine zr_iast hx hb hK hP (hD _ _ _ _ _) hS 6 0 (cA := cI) (n := 120) (g := S 5) rfl rfl (i := (2 * a) + b) (v := d) (by omega) (by omega) (by decide) d_S_clear_63 (fun H locs hP _ hS => ?_)
          have hI_18 : iS (zs (zs S 11 (zu (S 11) 1 ((S 11 1) + 1))) 5 (zu (S 5) ((2 * a) + b) d)) := iS_u5 hI (zu_b (iS_a5 hI) (zB.w g_11 (by decide) (by decide)))
          replace hP : va_P (dC, dI) classes (wS ad cI (zs (zs S 11 (zu (S 11) 1 ((S 11 1) + 1))) 5 (zu (S 5) ((2 * a) + b) d)) k0 k1 k2 k3) H := hP
          refine lv_iconst (v := zi 1) hx hb d_S_clear_64 rfl ?_
          subst hq
          exact zw_z hx hb hr hlocks (zB.w (zb_c 1) (by decide) (by decide)) rfl hP hS d_S_clear_65
      · replace hq := (if_pos c_9).symm.trans hq
        have r_19 : zB 0 0 (f_S_isWithin d 0 1000) := ⟨(Int.le_of_eq c_9.symm), (Int.le_of_eq c_9)⟩
        refine lv_iconst (v := zi 0) hx hb d_S_clear_26 rfl ?_
        subst hq
        exact zw_z hx hb hr hlocks (zB.w (zb_c 0) (by decide) (by decide)) rfl hP hS d_S_clear_27
def f_S_speed (S : Nat → Int → Int) (a b : Int) : Int × (Nat → Int → Int) := if (f_S_isStation S a) = 0 then ((0, S)) else (if (f_S_isWithin b 0 200) = 0 then ((0, S)) else ((1, zs S 4 (zu (S 4) a b))))
set_option maxHeartbeats 4000000 in
set_option maxRecDepth 100000 in
theorem k_S_speed (l : Launch) (dC : Nat → ClassId) (dI : Nat → Nat → Nat) (ad : Nat → Nat) (cI : ClassId) (S : Nat → Int → Int) (k0 k1 k2 k3 : Int) (hI : iS S) (hj : zJ 13 ad) (a b : Int) (hb_a : zB (-2147483648) 2147483647 a) (hb_b : zB (-2147483648) 2147483647 b) : Met l y_S_speed (Cond.code y_S_speed c_S_speed 3 (some .boolean) :: zT) { frames := 1, cells := 0, slots := 0, locals := 22 } (va_Pc ([.ref (ad 0), .int (zi a), .int (zi b)] : List Value) (zWS dC dI ad cI S k0 k1 k2 k3)) (zQ (some (.int (zi (f_S_speed S a b).1))) (fun H => va_P (dC, dI) classes (wS ad cI (f_S_speed S a b).2 k0 k1 k2 k3) H) (zAS ad)) 0 0 (zAS ad) := by
  refine zh (cc := c_S_speed) (C := R_S) (by decide) rfl rfl (Nat.le_of_ble_eq_true rfl) ?_
  intro p e s m below meth c ls hx hb hr hlocks hml hown hname hts hl hB
  have hw : ∀ w9 ∈ zT, w9.before ([.ref (ad 0), .int (zi a), .int (zi b)] : List Value).toArray s = true := fun w9 h => hts w9 (List.mem_cons_of_mem _ h)
  obtain ⟨hP, hK, hN⟩ := hB
  obtain ⟨hn0, hn1⟩ := id (iS_s0 hI)
  have hD := zDS hj cI
  have hS : va_S (zAS ad) s.heap s.heap [] := va_S.rf
  obtain ⟨hz0, hz1⟩ := id (iS_s6 hI)
  obtain ⟨hl_a, hh_a⟩ := id hb_a
  obtain ⟨hl_b, hh_b⟩ := id hb_b
  generalize hq : f_S_speed S a b = r
  unfold f_S_speed at hq
  replace hl : lv_has ls 3 [(0, .ref (ad 0)), (1, .int (zi a)), (2, .int (zi b))] := hl
  refine lv_aload_n hx hb d_S_speed_0 rfl (lv_at hl 0 rfl) ?_
  refine lv_iload_n hx hb d_S_speed_1 rfl (lv_at hl 1 rfl) ?_
  refine zc_n (va_runV (As := [.int (zi a)]) (rest := []) ⟨hx, hb, hml, hown, hts⟩ (k_S_isStation l dC dI ad cI S k0 k1 k2 k3 hI a (zB.w hb_a (by decide) (by decide)) ) (zcV 1 hts m_84 m_1 m_82 m_83 m_374 rfl rfl q_S_isStation ⟨Nat.le_of_ble_eq_true rfl, Nat.le_of_ble_eq_true rfl⟩) (zpS0 hP hK hN [.int (zi a)]) rfl rfl hl.1 rfl (lv_room (Nat.le_of_ble_eq_true rfl)) d_S_speed_2 ⟨Nat.zero_le _, Nat.zero_le _⟩) ?_
  refine zr_if_eq (tgt := 19) hx hb (zB.I (bb_S_isStation S a) (by decide) (by decide)) d_S_speed_5 (by decide) (fun c_1 => ?_) (fun c_1 => ?_)
  · replace hq := (if_pos c_1).symm.trans hq
    have r_2 : zB 0 0 (f_S_isStation S a) := ⟨(Int.le_of_eq c_1.symm), (Int.le_of_eq c_1)⟩
    refine lv_iconst (v := zi 0) hx hb d_S_speed_19 rfl ?_
    subst hq
    exact zw_z hx hb hr hlocks (zB.w (zb_c 0) (by decide) (by decide)) rfl hP hS d_S_speed_20
  · replace hq := (if_neg c_1).symm.trans hq
    have r_3 : zB 1 1 (f_S_isStation S a) := ⟨(by have := (bb_S_isStation S a).1; omega), (bb_S_isStation S a).2⟩
    have g_4 := gf_S_isStation hI c_1
    obtain ⟨g_4l, g_4h⟩ := id g_4.1
    have g_4n := g_4.2
    refine lv_iload_n hx hb d_S_speed_8 rfl (lv_at hl 2 rfl) ?_
    refine lv_iconst (v := zi 0) hx hb d_S_speed_9 rfl ?_
    refine lv_sipush (v := zi 200) hx hb d_S_speed_10 (by decide) ?_
    refine zc_n (va_runS (As := [.int (zi b), .int (zi 0), .int (zi 200)]) (rest := []) ⟨hx, hb, hml, hown, hts⟩ (k_S_isWithin l b 0 200 (zB.w hb_b (by decide) (by decide)) (zB.w (zb_c 0) (by decide) (by decide)) (zB.w (zb_c 200) (by decide) (by decide)) ) (zcS 3 hts m_53 m_1 m_51 m_52 rfl rfl q_S_isWithin ⟨Nat.le_of_ble_eq_true rfl, Nat.le_of_ble_eq_true rfl⟩) (zp0 [.int (zi b), .int (zi 0), .int (zi 200)]) rfl rfl hl.1 rfl (lv_room (Nat.le_of_ble_eq_true rfl)) d_S_speed_13 ⟨Nat.zero_le _, Nat.zero_le _⟩) ?_
    refine zr_if_ne (tgt := 21) hx hb (zB.I (bb_S_isWithin b 0 200) (by decide) (by decide)) d_S_speed_16 (by decide) (fun c_5 => ?_) (fun c_5 => ?_)
    · replace hq := (if_neg c_5).symm.trans hq
      have r_6 : zB 1 1 (f_S_isWithin b 0 200) := ⟨(by have := (bb_S_isWithin b 0 200).1; omega), (bb_S_isWithin b 0 200).2⟩
      have g_7 := gf_S_isWithin c_5
      obtain ⟨g_7l, g_7h⟩ := id g_7
      refine lv_aload_n hx hb d_S_speed_21 rfl (lv_at hl 0 rfl) ?_
      refine va_get (D := (dC, dI)) (ci := 1) (v := .ref (ad 5)) (C := R_S) (T := T_S) (N := 13) hx hb hw i_S hown hK hP 0 rfl rfl 4 (by decide) (hw _ m_35) (fun _ h9 => h9) rfl d_S_speed_22 ?_
      refine lv_iload_n hx hb d_S_speed_25 rfl (lv_at hl 1 rfl) ?_
      refine lv_iload_n hx hb d_S_speed_26 rfl (lv_at hl 2 rfl) ?_
      refine zr_iast hx hb hK hP (hD _ _ _ _ _) hS 5 0 (cA := cI) (n := 60) (g := S 4) rfl rfl (i := a) (v := b) (by omega) (by omega) (by decide) d_S_speed_27 (fun H locs hP _ hS => ?_)
      have hI_8 : iS (zs S 4 (zu (S 4) a b)) := iS_u4 hI (zu_b (iS_a4 hI) (zB.w g_7 (by decide) (by decide)))
      replace hP : va_P (dC, dI) classes (wS ad cI (zs S 4 (zu (S 4) a b)) k0 k1 k2 k3) H := hP
      refine lv_iconst (v := zi 1) hx hb d_S_speed_28 rfl ?_
      subst hq
      exact zw_z hx hb hr hlocks (zB.w (zb_c 1) (by decide) (by decide)) rfl hP hS d_S_speed_29
    · replace hq := (if_pos c_5).symm.trans hq
      have r_9 : zB 0 0 (f_S_isWithin b 0 200) := ⟨(Int.le_of_eq c_5.symm), (Int.le_of_eq c_5)⟩
      refine lv_iconst (v := zi 0) hx hb d_S_speed_19 rfl ?_
      subst hq
      exact zw_z hx hb hr hlocks (zB.w (zb_c 0) (by decide) (by decide)) rfl hP hS d_S_speed_20
def f_S_brake (S : Nat → Int → Int) (a b : Int) : Int × (Nat → Int → Int) := if (f_S_isWithin a 0 100) = 0 then ((0, S)) else (if (f_S_isWithin b 50 1000) = 0 then ((0, S)) else ((1, zs (zs S 11 (zu (S 11) 4 a)) 11 (zu ((zs S 11 (zu (S 11) 4 a)) 11) 5 b))))
set_option maxHeartbeats 4000000 in
set_option maxRecDepth 100000 in
theorem k_S_brake (l : Launch) (dC : Nat → ClassId) (dI : Nat → Nat → Nat) (ad : Nat → Nat) (cI : ClassId) (S : Nat → Int → Int) (k0 k1 k2 k3 : Int) (hI : iS S) (hj : zJ 13 ad) (a b : Int) (hb_a : zB (-2147483648) 2147483647 a) (hb_b : zB (-2147483648) 2147483647 b) : Met l y_S_brake (Cond.code y_S_brake c_S_brake 3 (some .boolean) :: zT) { frames := 1, cells := 0, slots := 0, locals := 22 } (va_Pc ([.ref (ad 0), .int (zi a), .int (zi b)] : List Value) (zWS dC dI ad cI S k0 k1 k2 k3)) (zQ (some (.int (zi (f_S_brake S a b).1))) (fun H => va_P (dC, dI) classes (wS ad cI (f_S_brake S a b).2 k0 k1 k2 k3) H) (zAS ad)) 0 0 (zAS ad) := by
  refine zh (cc := c_S_brake) (C := R_S) (by decide) rfl rfl (Nat.le_of_ble_eq_true rfl) ?_
  intro p e s m below meth c ls hx hb hr hlocks hml hown hname hts hl hB
  have hw : ∀ w9 ∈ zT, w9.before ([.ref (ad 0), .int (zi a), .int (zi b)] : List Value).toArray s = true := fun w9 h => hts w9 (List.mem_cons_of_mem _ h)
  obtain ⟨hP, hK, hN⟩ := hB
  obtain ⟨hn0, hn1⟩ := id (iS_s0 hI)
  have hD := zDS hj cI
  have hS : va_S (zAS ad) s.heap s.heap [] := va_S.rf
  obtain ⟨hz0, hz1⟩ := id (iS_s6 hI)
  obtain ⟨hl_a, hh_a⟩ := id hb_a
  obtain ⟨hl_b, hh_b⟩ := id hb_b
  generalize hq : f_S_brake S a b = r
  unfold f_S_brake at hq
  replace hl : lv_has ls 3 [(0, .ref (ad 0)), (1, .int (zi a)), (2, .int (zi b))] := hl
  refine lv_iload_n hx hb d_S_brake_0 rfl (lv_at hl 1 rfl) ?_
  refine lv_iconst (v := zi 0) hx hb d_S_brake_1 rfl ?_
  refine lv_bipush (v := zi 100) hx hb d_S_brake_2 (by decide) ?_
  refine zc_n (va_runS (As := [.int (zi a), .int (zi 0), .int (zi 100)]) (rest := []) ⟨hx, hb, hml, hown, hts⟩ (k_S_isWithin l a 0 100 (zB.w hb_a (by decide) (by decide)) (zB.w (zb_c 0) (by decide) (by decide)) (zB.w (zb_c 100) (by decide) (by decide)) ) (zcS 3 hts m_53 m_1 m_51 m_52 rfl rfl q_S_isWithin ⟨Nat.le_of_ble_eq_true rfl, Nat.le_of_ble_eq_true rfl⟩) (zp0 [.int (zi a), .int (zi 0), .int (zi 100)]) rfl rfl hl.1 rfl (lv_room (Nat.le_of_ble_eq_true rfl)) d_S_brake_4 ⟨Nat.zero_le _, Nat.zero_le _⟩) ?_
  refine zr_if_eq (tgt := 22) hx hb (zB.I (bb_S_isWithin a 0 100) (by decide) (by decide)) d_S_brake_7 (by decide) (fun c_1 => ?_) (fun c_1 => ?_)
  · replace hq := (if_pos c_1).symm.trans hq
    have r_2 : zB 0 0 (f_S_isWithin a 0 100) := ⟨(Int.le_of_eq c_1.symm), (Int.le_of_eq c_1)⟩
    refine lv_iconst (v := zi 0) hx hb d_S_brake_22 rfl ?_
    subst hq
    exact zw_z hx hb hr hlocks (zB.w (zb_c 0) (by decide) (by decide)) rfl hP hS d_S_brake_23
  · replace hq := (if_neg c_1).symm.trans hq
    have r_3 : zB 1 1 (f_S_isWithin a 0 100) := ⟨(by have := (bb_S_isWithin a 0 100).1; omega), (bb_S_isWithin a 0 100).2⟩
    have g_4 := gf_S_isWithin c_1
    obtain ⟨g_4l, g_4h⟩ := id g_4
    refine lv_iload_n hx hb d_S_brake_10 rfl (lv_at hl 2 rfl) ?_
    refine lv_bipush (v := zi 50) hx hb d_S_brake_11 (by decide) ?_
    refine lv_sipush (v := zi 1000) hx hb d_S_brake_13 (by decide) ?_
    refine zc_n (va_runS (As := [.int (zi b), .int (zi 50), .int (zi 1000)]) (rest := []) ⟨hx, hb, hml, hown, hts⟩ (k_S_isWithin l b 50 1000 (zB.w hb_b (by decide) (by decide)) (zB.w (zb_c 50) (by decide) (by decide)) (zB.w (zb_c 1000) (by decide) (by decide)) ) (zcS 3 hts m_53 m_1 m_51 m_52 rfl rfl q_S_isWithin ⟨Nat.le_of_ble_eq_true rfl, Nat.le_of_ble_eq_true rfl⟩) (zp0 [.int (zi b), .int (zi 50), .int (zi 1000)]) rfl rfl hl.1 rfl (lv_room (Nat.le_of_ble_eq_true rfl)) d_S_brake_16 ⟨Nat.zero_le _, Nat.zero_le _⟩) ?_
    refine zr_if_ne (tgt := 24) hx hb (zB.I (bb_S_isWithin b 50 1000) (by decide) (by decide)) d_S_brake_19 (by decide) (fun c_5 => ?_) (fun c_5 => ?_)
    · replace hq := (if_neg c_5).symm.trans hq
      have r_6 : zB 1 1 (f_S_isWithin b 50 1000) := ⟨(by have := (bb_S_isWithin b 50 1000).1; omega), (bb_S_isWithin b 50 1000).2⟩
      have g_7 := gf_S_isWithin c_5
      obtain ⟨g_7l, g_7h⟩ := id g_7
      refine lv_aload_n hx hb d_S_brake_24 rfl (lv_at hl 0 rfl) ?_
      refine lv_iload_n hx hb d_S_brake_25 rfl (lv_at hl 1 rfl) ?_
      refine va_put (D := (dC, dI)) (ci := 1) (v := .int (zi a)) (ty := .int) (C := R_S) (T := T_S) (N := 13) hx hb hw i_S t_S ty_S nm_S hown hK hP (hD _ _ _ _ _) hS 0 rfl rfl 11 (by decide) (hw _ m_42) (fun _ h9 => h9) rfl (by decide +kernel) rfl rfl (Nat.le_of_ble_eq_true rfl) d_S_brake_26 (fun H locs hP _ hS => ?_)
      replace hP : va_P (dC, dI) classes (wS ad cI (zs S 11 (zu (S 11) 4 a)) k0 k1 k2 k3) H := hP
      refine lv_aload_n hx hb d_S_brake_29 rfl (lv_at hl 0 rfl) ?_
      refine lv_iload_n hx hb d_S_brake_30 rfl (lv_at hl 2 rfl) ?_
      refine va_put (D := (dC, dI)) (ci := 1) (v := .int (zi b)) (ty := .int) (C := R_S) (T := T_S) (N := 13) hx hb hw i_S t_S ty_S nm_S hown hK hP (hD _ _ _ _ _) hS 0 rfl rfl 12 (by decide) (hw _ m_43) (fun _ h9 => h9) rfl (by decide +kernel) rfl rfl (Nat.le_of_ble_eq_true rfl) d_S_brake_31 (fun H locs hP _ hS => ?_)
      replace hP : va_P (dC, dI) classes (wS ad cI (zs (zs S 11 (zu (S 11) 4 a)) 11 (zu ((zs S 11 (zu (S 11) 4 a)) 11) 5 b)) k0 k1 k2 k3) H := hP
      refine lv_iconst (v := zi 1) hx hb d_S_brake_34 rfl ?_
      subst hq
      exact zw_z hx hb hr hlocks (zB.w (zb_c 1) (by decide) (by decide)) rfl hP hS d_S_brake_35
    · replace hq := (if_pos c_5).symm.trans hq
      have r_8 : zB 0 0 (f_S_isWithin b 50 1000) := ⟨(Int.le_of_eq c_5.symm), (Int.le_of_eq c_5)⟩
      refine lv_iconst (v := zi 0) hx hb d_S_brake_22 rfl ?_
      subst hq
      exact zw_z hx hb hr hlocks (zB.w (zb_c 0) (by decide) (by decide)) rfl hP hS d_S_brake_23
