def cntN (g : Int → Int) : Nat → Int
  | 0 => 0
  | k + 1 => cntN g k + (if g (k : Int) < 0 then 0 else 1)
def RR (S N : Nat → Int → Int) : Prop :=
  iS S ∧ jN N ∧ S 0 = N 0 ∧ S 1 = N 1 ∧ S 2 = N 2 ∧ S 3 = N 3 ∧ S 4 = N 4 ∧ S 5 = N 5 ∧ S 11 0 = N 7 0 ∧ S 11 2 = N 7 2 ∧ S 11 3 = N 7 3 ∧ S 11 4 = N 7 4 ∧ S 11 5 = N 7 5 ∧ S 11 6 = N 7 1 ∧
  (∀ j : Int, 0 ≤ j → S 6 j = N 6 (5 * j) ∧ S 7 j = N 6 (5 * j + 1) ∧ S 8 j = N 6 (5 * j + 2) ∧ S 9 j = N 6 (5 * j + 3) ∧ S 10 j = N 6 (5 * j + 4)) ∧
  S 11 1 = cntN (N 5) (2 * N 7 0).toNat ∧ N 3 0 = 0 ∧ (∀ i : Int, 0 ≤ i → i < N 7 0 → N 3 i ≤ 42427 * i)
