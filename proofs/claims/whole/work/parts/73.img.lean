/-! images -/
def kpI (IQ N : Int → Int) (i : Int) : Int → Int := fun x => if 647 * i ≤ x ∧ x < 647 * i + 647 then N (x - 647 * i) else IQ x
theorem kpI_in (IQ N : Int → Int) (i : Int) {x : Int} (h0 : 0 ≤ x) (h1 : x < 647) : kpI IQ N i (647 * i + x) = N x := by
  unfold kpI
  rw [if_pos (by omega)]
  congr 1
  omega
theorem kpI_out (IQ N : Int → Int) {i j x : Int} (h : i ≠ j) (h0 : 0 ≤ x) (h1 : x < 647) : kpI IQ N i (647 * j + x) = IQ (647 * j + x) := by
  unfold kpI
  rw [if_neg (by omega)]
