/-! the reference's numbers -/
def FDn (N : Int → Int) : Int → Int := pf (fun x => N (7 + x)) (fun x => N (2 + x)) (N 0)
theorem FDn_rg (N : Int → Int) : ∀ j, -1 ≤ FDn N j ∧ FDn N j ≤ 7 ∧ FDn N j ≠ 0 := fun j => pf_rg _ _ _ j
theorem FDn_in {N : Int → Int} {r w : Int} (h0 : 0 ≤ w) (h1 : w < 16) (h : w < N (2 + r) / 8) : FDn N (r * 16 + w) = pk8 (fun i => N (7 + (r * 128 + (w * 8 + i)))) (N 0) := pf_t (NU := fun x => N (7 + x)) (SZ := fun x => N (2 + x)) h0 h1 h
theorem FDn_out {N : Int → Int} {r w : Int} (h0 : 0 ≤ w) (h1 : w < 16) (h : N (2 + r) / 8 ≤ w) : FDn N (r * 16 + w) = -1 := pf_f (NU := fun x => N (7 + x)) (SZ := fun x => N (2 + x)) h0 h1 h
def pkM (N PK : Int → Int) : Prop := ∀ r w, 0 ≤ r → r < 5 → 0 ≤ w → w < N (2 + r) / 8 → PK (16 * r + w) = FDn N (r * 16 + w)
theorem ky_nw {N : Int → Int} {re r v w : Int} (h : ¬ (0 ≤ v ∧ v ≤ N (2 + r) / 8 - 1) ∨ ¬ (0 ≤ w ∧ w ≤ N (2 + r) / 8 - 1)) : kyf (FDn N) re r v w = -1 := by
  refine kyf_no (fun hk => ?_)
  rcases h with h | h
  · exact hk.2.1 (FDn_out (by omega) (by omega) (by omega))
  · exact hk.2.2 (FDn_out (by omega) (by omega) (by omega))
theorem cnt_64 {FD : Int → Int} (hF : ∀ j, -1 ≤ FD j ∧ FD j ≤ 7 ∧ FD j ≠ 0) {re x : Int} (hr : re ≤ 5) (h0 : 0 ≤ x) (h1 : x < 64) : cnt FD re x 64 = 0 := sumZ_zero (fun j g1 g2 => bI_f (fun h => by
  have := kyf_rg hF re (j / 16) (j % 16) (j % 16 + x / 64) hr
  omega))
/-- the keys of a row at a window -/
def hur (FD : Int → Int) (re row u : Int) : Int := sumZ (fun y => bI (kyf FD re row u (u + (y + 1)) ≠ -1)) 15
theorem hur_re {FD : Int → Int} {re row u n : Int} (h0 : 0 ≤ n) (h1 : n ≤ 15) (h : re ≤ n ∨ 15 - u ≤ n) : sumZ (fun y => bI (kyf FD re row u (u + (y + 1)) ≠ -1)) n = hur FD re row u :=
  (sumZ_tail h0 h1 (fun j g1 g2 => bI_f (fun z => z (kyf_far (by omega))))).symm
/-- the past behind a note -/
def ntP (P N : Int → Int) (ac : Int) : Int → Int := fun j => if ac = 8 then (if j < 4529 then P (j + 647) else N (j - 4529)) else (if 647 * ac ≤ j ∧ j < 647 * ac + 647 then N (j - 647 * ac) else P j)
/-- the best cell so far: with votes, not ranked, of another piece than wo -/
def bzN (V RK : Int → Int) (wo : Int) : Nat → Int
  | 0 => -1
  | n + 1 => if (0 < V n ∧ RK n = 0 ∧ (n : Int) / 31 ≠ wo) ∧ (bzN V RK wo n = -1 ∨ V (bzN V RK wo n) < V n) then n else bzN V RK wo n
def bz (V RK : Int → Int) (wo k : Int) : Int := bzN V RK wo k.toNat
theorem bz_0 (V RK : Int → Int) (wo : Int) : bz V RK wo 0 = -1 := rfl
theorem bz_t {V RK : Int → Int} {wo k : Int} (h0 : 0 ≤ k) (h : (0 < V k ∧ RK k = 0 ∧ k / 31 ≠ wo) ∧ (bz V RK wo k = -1 ∨ V (bz V RK wo k) < V k)) : bz V RK wo (k + 1) = k := by
  unfold bz at h ⊢
  rw [show (k + 1).toNat = k.toNat + 1 by omega]
  show (if (0 < V (k.toNat : Int) ∧ RK (k.toNat : Int) = 0 ∧ (k.toNat : Int) / 31 ≠ wo) ∧ (bzN V RK wo k.toNat = -1 ∨ V (bzN V RK wo k.toNat) < V (k.toNat : Int)) then (k.toNat : Int) else bzN V RK wo k.toNat) = k
  rw [Int.toNat_of_nonneg h0, if_pos h]
theorem bz_f {V RK : Int → Int} {wo k : Int} (h0 : 0 ≤ k) (h : ¬ ((0 < V k ∧ RK k = 0 ∧ k / 31 ≠ wo) ∧ (bz V RK wo k = -1 ∨ V (bz V RK wo k) < V k))) : bz V RK wo (k + 1) = bz V RK wo k := by
  unfold bz at h ⊢
  rw [show (k + 1).toNat = k.toNat + 1 by omega]
  show (if (0 < V (k.toNat : Int) ∧ RK (k.toNat : Int) = 0 ∧ (k.toNat : Int) / 31 ≠ wo) ∧ (bzN V RK wo k.toNat = -1 ∨ V (bzN V RK wo k.toNat) < V (k.toNat : Int)) then (k.toNat : Int) else bzN V RK wo k.toNat) = _
  rw [Int.toNat_of_nonneg h0, if_neg h]
/-- what the best cell is -/
theorem bzN_is (V RK : Int → Int) (wo : Int) : ∀ n : Nat, (bzN V RK wo n = -1 ∧ ∀ j, 0 ≤ j → j < (n : Int) → ¬ (0 < V j ∧ RK j = 0 ∧ j / 31 ≠ wo)) ∨ (0 ≤ bzN V RK wo n ∧ bzN V RK wo n < (n : Int) ∧ (0 < V (bzN V RK wo n) ∧ RK (bzN V RK wo n) = 0 ∧ bzN V RK wo n / 31 ≠ wo) ∧ ∀ j, 0 ≤ j → j < (n : Int) → (0 < V j ∧ RK j = 0 ∧ j / 31 ≠ wo) → V j < V (bzN V RK wo n) ∨ (V j = V (bzN V RK wo n) ∧ bzN V RK wo n ≤ j))
  | 0 => Or.inl ⟨rfl, fun j g1 g2 => by omega⟩
  | n + 1 => by
    have ih := bzN_is V RK wo n
    show ((if (0 < V n ∧ RK n = 0 ∧ (n : Int) / 31 ≠ wo) ∧ (bzN V RK wo n = -1 ∨ V (bzN V RK wo n) < V n) then (n : Int) else bzN V RK wo n) = -1 ∧ _) ∨ _
    by_cases h : (0 < V n ∧ RK n = 0 ∧ (n : Int) / 31 ≠ wo) ∧ (bzN V RK wo n = -1 ∨ V (bzN V RK wo n) < V n)
    · have e : bzN V RK wo (n + 1) = (n : Int) := if_pos h
      right
      rw [e]
      refine ⟨by omega, by omega, h.1, fun j g1 g2 g3 => ?_⟩
      by_cases hj : j = (n : Int)
      · rw [hj]; right; exact ⟨rfl, Int.le_refl _⟩
      · rcases ih with ⟨a1, a2⟩ | ⟨a1, a2, a3, a4⟩
        · exact absurd g3 (a2 j g1 (by omega))
        · have := a4 j g1 (by omega) g3
          omega
    · have e : bzN V RK wo (n + 1) = bzN V RK wo n := if_neg h
      rw [if_neg h, e]
      rcases ih with ⟨a1, a2⟩ | ⟨a1, a2, a3, a4⟩
      · left
        refine ⟨a1, fun j g1 g2 g3 => ?_⟩
        by_cases hj : j = (n : Int)
        · rw [hj] at g3; exact h ⟨g3, Or.inl a1⟩
        · exact a2 j g1 (by omega) g3
      · right
        refine ⟨a1, by omega, a3, fun j g1 g2 g3 => ?_⟩
        by_cases hj : j = (n : Int)
        · rw [hj] at g3 ⊢
          have : ¬ V (bzN V RK wo n) < V n := fun z => h ⟨g3, Or.inr z⟩
          omega
        · exact a4 j g1 (by omega) g3
theorem bz_is (V RK : Int → Int) (wo : Int) {k : Int} (h0 : 0 ≤ k) : (bz V RK wo k = -1 ∧ ∀ j, 0 ≤ j → j < k → ¬ (0 < V j ∧ RK j = 0 ∧ j / 31 ≠ wo)) ∨ (0 ≤ bz V RK wo k ∧ bz V RK wo k < k ∧ (0 < V (bz V RK wo k) ∧ RK (bz V RK wo k) = 0 ∧ bz V RK wo k / 31 ≠ wo) ∧ ∀ j, 0 ≤ j → j < k → (0 < V j ∧ RK j = 0 ∧ j / 31 ≠ wo) → V j < V (bz V RK wo k) ∨ (V j = V (bz V RK wo k) ∧ bz V RK wo k ≤ j)) := by
  have := bzN_is V RK wo k.toNat
  rw [Int.toNat_of_nonneg h0] at this
  exact this
/-- the best of those from rank j on, when those ahead are marked -/
theorem bz_rank {V RK O : Int → Int} {n j : Int} (hO : okO V O n 124) (h0 : 0 ≤ j) (h1 : j ≤ n) (hR : ∀ d, 0 ≤ d → d < 124 → (RK d = 0 ↔ ∀ i, 0 ≤ i → i < j → O i ≠ d)) : bz V RK (-1) 124 = if j < n then O j else -1 := by
  have hb := bz_is V RK (-1) (k := 124) (by omega)
  by_cases hj : j < n
  · rw [if_pos hj]
    have a := hO.1 j h0 hj
    have eO : 0 < V (O j) ∧ RK (O j) = 0 ∧ O j / 31 ≠ -1 := ⟨a.2.2, (hR _ a.1 a.2.1).mpr (fun i g1 g2 => by
      have := hO.2.1 i j g1 g2 hj
      intro z
      rw [z] at this
      omega), by omega⟩
    rcases hb with ⟨b1, b2⟩ | ⟨b1, b2, b3, b4⟩
    · exact absurd eO (b2 _ a.1 a.2.1)
    · obtain ⟨i, g1, g2, g3⟩ := hO.2.2 _ b1 b2 b3.1
      have g4 : j ≤ i := by
        rcases (show j ≤ i ∨ i < j by omega) with z | z
        · exact z
        · exact absurd g3 ((hR _ b1 b2).mp b3.2.1 i g1 z)
      by_cases hij : i = j
      · rw [← g3, hij]
      · have c1 := hO.2.1 j i h0 (by omega) g2
        have c2 := b4 _ a.1 a.2.1 eO
        rw [← g3] at c2 ⊢
        omega
  · rw [if_neg hj]
    rcases hb with ⟨b1, -⟩ | ⟨b1, b2, b3, -⟩
    · exact b1
    · obtain ⟨i, g1, g2, g3⟩ := hO.2.2 _ b1 b2 b3.1
      exact absurd g3 ((hR _ b1 b2).mp b3.2.1 i g1 (by omega))
/-- the best of another piece: the first of the ranks that is of another one -/
theorem bz_piece {V RK O : Int → Int} {n : Int} (hO : okO V O n 124) (hn : 0 < n) (hR : ∀ d, 0 ≤ d → d < 124 → RK d = 0) : bz V RK (O 0 / 31) 124 = if kr (fun x => bI (O x / 31 ≠ O 0 / 31)) n 1 0 = -1 then -1 else O (kr (fun x => bI (O x / 31 ≠ O 0 / 31)) n 1 0) := by
  -- the first from k on
  have key : ∀ (t : Nat) (k : Int), 1 ≤ k → k ≤ n → n - k < t → (∀ i, 0 ≤ i → i < k → O i / 31 = O 0 / 31) → bz V RK (O 0 / 31) 124 = if kr (fun x => bI (O x / 31 ≠ O 0 / 31)) n k 0 = -1 then -1 else O (kr (fun x => bI (O x / 31 ≠ O 0 / 31)) n k 0) := by
    intro t
    induction t with
    | zero => intro k h1 h2 h3 h4; omega
    | succ t ih =>
      intro k h1 h2 h3 h4
      by_cases hk : k = n
      · subst hk
        rw [kr_e _ 0 (Int.le_refl k), if_pos rfl]
        rcases bz_is V RK (O 0 / 31) (k := 124) (by omega) with ⟨b1, -⟩ | ⟨b1, b2, b3, -⟩
        · exact b1
        · obtain ⟨i, g1, g2, g3⟩ := hO.2.2 _ b1 b2 b3.1
          exact absurd (by rw [← g3]; exact h4 i g1 g2) b3.2.2
      · by_cases hp : O k / 31 = O 0 / 31
        · have e := kr_n (f := fun x => bI (O x / 31 ≠ O 0 / 31)) (e := n) (k := k) 0 (by omega) (by rw [bI_f (fun z => z hp)]; omega)
          rw [← e]
          refine ih (k + 1) (by omega) (by omega) (by omega) (fun i g1 g2 => ?_)
          by_cases hi : i = k
          · rw [hi]; exact hp
          · exact h4 i g1 (by omega)
        · have e : kr (fun x => bI (O x / 31 ≠ O 0 / 31)) n k 0 = k := kr_y0 (by omega) (by rw [bI_t hp]; omega)
          rw [e, if_neg (by omega)]
          have a := hO.1 k (by omega) (by omega)
          have eO : 0 < V (O k) ∧ RK (O k) = 0 ∧ O k / 31 ≠ O 0 / 31 := ⟨a.2.2, hR _ a.1 a.2.1, hp⟩
          rcases bz_is V RK (O 0 / 31) (k := 124) (by omega) with ⟨b1, b2⟩ | ⟨b1, b2, b3, b4⟩
          · exact absurd eO (b2 _ a.1 a.2.1)
          · obtain ⟨i, g1, g2, g3⟩ := hO.2.2 _ b1 b2 b3.1
            have g4 : k ≤ i := by
              rcases (show k ≤ i ∨ i < k by omega) with z | z
              · exact z
              · exact absurd (by rw [← g3]; exact h4 i g1 z) b3.2.2
            by_cases hik : i = k
            · rw [← g3, hik]
            · have c1 := hO.2.1 k i (by omega) (by omega) g2
              have c2 := b4 _ a.1 a.2.1 eO
              rw [← g3] at c2 ⊢
              omega
  exact key (n.toNat + 1) 1 (by omega) (by omega) (by omega) (fun i g1 g2 => by rw [show i = 0 by omega])
