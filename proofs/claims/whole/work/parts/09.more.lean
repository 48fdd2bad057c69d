theorem zb_mulq {a b c d x y : Int} (h : zB a b x) (g : zB c d y) (ha : 0 ≤ a) (hc : 0 ≤ c) : zB (a * c) (b * d) (x * y) := by
  obtain ⟨h1, h2⟩ := h
  obtain ⟨g1, g2⟩ := g
  have hx : 0 ≤ x := Int.le_trans ha h1
  have hy : 0 ≤ y := Int.le_trans hc g1
  exact ⟨Int.mul_le_mul h1 g1 hc hx, Int.mul_le_mul h2 g2 hy (Int.le_trans hx h2)⟩
