theorem vc_0 (FD : Int → Int) (re u key d : Int) : vc FD re u key d 0 = 0 := rfl
theorem vc_s (FD : Int → Int) (re u key d : Int) {J : Int} (h : 0 ≤ J) : vc FD re u key d (J + 1) = vc FD re u key d J + bI (kyf FD re (J / 16) (J % 16) (J % 16 + key / 64) = key ∧ vcl J u = d) := sumZ_s _ h
theorem bz_rg (V RK : Int → Int) (wo : Int) {k : Int} (h : 0 ≤ k) : -1 ≤ bz V RK wo k ∧ bz V RK wo k < k := by
  rcases bz_is V RK wo h with ⟨a, -⟩ | ⟨a, b, -⟩
  · omega
  · omega
theorem krN_in (f : Int → Int) : ∀ (n : Nat) (k lf : Int), krN f n k lf = -1 ∨ (k ≤ krN f n k lf ∧ krN f n k lf < k + n ∧ 0 < f (krN f n k lf))
  | 0, _, _ => Or.inl rfl
  | n + 1, k, lf => by
    show (if 0 < f k then (if lf = 0 then k else krN f n (k + 1) (lf - 1)) else krN f n (k + 1) lf) = -1 ∨ _
    have e : krN f (n + 1) k lf = (if 0 < f k then (if lf = 0 then k else krN f n (k + 1) (lf - 1)) else krN f n (k + 1) lf) := rfl
    rw [e]
    by_cases h : 0 < f k
    · rw [if_pos h]
      by_cases h2 : lf = 0
      · rw [if_pos h2]; right; exact ⟨Int.le_refl _, by omega, h⟩
      · rw [if_neg h2]
        rcases krN_in f n (k + 1) (lf - 1) with a | a
        · exact Or.inl a
        · right; exact ⟨by omega, by omega, a.2.2⟩
    · rw [if_neg h]
      rcases krN_in f n (k + 1) lf with a | a
      · exact Or.inl a
      · right; exact ⟨by omega, by omega, a.2.2⟩
theorem kr_in (f : Int → Int) {e k : Int} (lf : Int) (h : k ≤ e) : kr f e k lf = -1 ∨ (k ≤ kr f e k lf ∧ kr f e k lf < e ∧ 0 < f (kr f e k lf)) := by
  have := krN_in f (e - k).toNat k lf
  rw [Int.toNat_of_nonneg (show 0 ≤ e - k by omega)] at this
  unfold kr
  rcases this with a | a
  · exact Or.inl a
  · right; exact ⟨a.1, by omega, a.2.2⟩
theorem mo_1 {c : Int → Int} (h : c 0 = 0) : mo c 1 = (-1, 0) := by
  have := mo_f (c := c) (k := 0) (Int.le_refl 0) (by rw [mo_0, h]; exact Int.le_refl _)
  rw [mo_0] at this
  exact this
/-- the peaks of a row end with its windows -/
theorem pk_tail {N : Int → Int} {r n : Int} (f : Int → Int → Int) (h0 : 0 ≤ n) (h1 : n ≤ 16) (h : N (2 + r) / 8 ≤ n) (hf : ∀ x, f x (-1) = 0) : sumZ (fun y => f y (FDn N (r * 16 + y))) 16 = sumZ (fun y => f y (FDn N (r * 16 + y))) n := by
  refine sumZ_tail h0 h1 (fun j g1 g2 => ?_)
  show f j (FDn N (r * 16 + j)) = 0
  rw [FDn_out (by omega) (by omega) (by omega)]
  exact hf j
