/-! what the changing calls make of the numbers N: 0 FLOOR, 1 REACH, 2 .. 6 the rows' sizes, 7 on the rows, 128 each -/
def okN (N : Int → Int) : Prop := (0 ≤ N 0 ∧ N 0 ≤ 99999) ∧ (1 ≤ N 1 ∧ N 1 ≤ 5) ∧ (∀ p, 0 ≤ p → p < 5 → 0 ≤ N (2 + p) ∧ N (2 + p) ≤ 128) ∧ (∀ j, 7 ≤ j → j < 647 → -100 ≤ N j ∧ N j ≤ 100)
def sp_add (N : Int → Int) (p v : Int) : Int → Int := ups (ups N (7 + 128 * p + N (2 + p)) v) (2 + p) (N (2 + p) + 1)
def sp_wipe (N : Int → Int) (p : Int) : Int → Int := ups N (2 + p) 0
def lxN (sd : Int) : Nat → Int
  | 0 => sd
  | n + 1 => lxN sd n * 16807 % 2147483647
def lx (sd i : Int) : Int := lxN sd i.toNat
theorem lx_0 (sd : Int) : lx sd 0 = sd := rfl
theorem lx_s (sd : Int) {i : Int} (h : 0 ≤ i) : lx sd (i + 1) = lx sd i * 16807 % 2147483647 := by
  unfold lx
  rw [show (i + 1).toNat = i.toNat + 1 by omega]
  rfl
theorem lx_rg {sd : Int} (h0 : 0 ≤ sd) (h1 : sd < 2147483647) (i : Int) : 0 ≤ lx sd i ∧ lx sd i < 2147483647 := by
  unfold lx
  cases i.toNat with
  | zero => exact ⟨h0, h1⟩
  | succ n => show 0 ≤ lxN sd n * 16807 % 2147483647 ∧ lxN sd n * 16807 % 2147483647 < 2147483647; omega
def sp_lots (N : Int → Int) (p n sd : Int) : Int → Int := fun j => if j = 2 + p then n else if 7 + 128 * p ≤ j ∧ j < 7 + 128 * p + n then lx sd (j - (7 + 128 * p) + 1) % 201 - 100 else N j
def sp_noise (N : Int → Int) (p s sd : Int) : Int → Int := fun j => if 7 + 128 * p ≤ j ∧ j < 7 + 128 * p + N (2 + p) then cl (N j + lx sd (j - (7 + 128 * p) + 1) % (2 * s + 1) - s) else N j
def sp_loud (N : Int → Int) (p a b : Int) : Int → Int := fun j => if 7 + 128 * p ≤ j ∧ j < 7 + 128 * p + N (2 + p) then cl (zdiv (N j * a) b) else N j
def sp_hear (N : Int → Int) (p f m : Int) : Int → Int := fun j => if j = 6 then m else if 519 ≤ j ∧ j < 519 + m then N (7 + 128 * p + (f + (j - 519))) else N j
/-- what the past keeps of a row -/
def rmN (NB NU : Int → Int) (nx row : Int) : Int → Int := fun j => if nx * 128 ≤ j ∧ j < nx * 128 + 128 then NU (row * 128 + (j - nx * 128)) else NB j
