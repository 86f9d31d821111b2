/-! what ties the class to the reference between two calls -/
theorem okN_cong {N M : Int → Int} (h : ∀ k, 0 ≤ k → k < 647 → M k = N k) (hN : okN N) : okN M := by
  obtain ⟨h1, h2, h3, h4⟩ := hN
  refine ⟨by rw [h 0 (by omega) (by omega)]; exact h1, by rw [h 1 (by omega) (by omega)]; exact h2, fun p g1 g2 => by rw [h (2 + p) (by omega) (by omega)]; exact h3 p g1 g2, fun j g1 g2 => by rw [h j (by omega) g2]; exact h4 j g1 g2⟩
/-- the state j calls ago, as the reference keeps it -/
def sj (N P : Int → Int) (ac j : Int) : Int → Int := fun k => if j = 0 then N k else P (647 * (ac - j) + k)
/-- a state with what entry e of the class's past puts back -/
def rst (NB RR RS RF RE M : Int → Int) (e : Int) : Int → Int := fun k => if k = 0 then RF e else if k = 1 then RE e else if k = 2 + RR e then RS e else if 7 + 128 * RR e ≤ k ∧ k < 7 + 128 * RR e + 128 then NB (e * 128 + (k - 7 - 128 * RR e)) else M k
def PR (N P : Int → Int) (ac : Int) (NB RR RS RF RE : Int → Int) (nx dp : Int) : Prop := dp = ac ∧ 0 ≤ ac ∧ ac ≤ 8 ∧ 0 ≤ nx ∧ nx < 8 ∧ ∀ j, 0 ≤ j → j < ac → 0 ≤ RR ((nx + 7 - j) % 8) ∧ RR ((nx + 7 - j) % 8) < 5 ∧ okN (sj N P ac (j + 1)) ∧ ∀ k, 0 ≤ k → k < 647 → sj N P ac (j + 1) k = rst NB RR RS RF RE (sj N P ac j) ((nx + 7 - j) % 8) k
theorem PR_0 (N P NB RR RS RF RE : Int → Int) {nx : Int} (h1 : 0 ≤ nx) (h2 : nx < 8) : PR N P 0 NB RR RS RF RE nx 0 := ⟨rfl, by omega, by omega, h1, h2, fun j g1 g2 => by omega⟩
theorem rst_cong {NB RR RS RF RE M M2 : Int → Int} {e k : Int} (h : M k = M2 k) : rst NB RR RS RF RE M e k = rst NB RR RS RF RE M2 e k := by
  unfold rst
  rw [h]
/-- the latest is undone -/
theorem PR_undo {N P : Int → Int} {ac : Int} {NB RR RS RF RE : Int → Int} {nx dp : Int} (h : PR N P ac NB RR RS RF RE nx dp) (ha : 0 < ac) : okN (fun k => P (647 * (ac - 1) + k)) ∧ (0 ≤ RR ((nx + 7) % 8) ∧ RR ((nx + 7) % 8) < 5) ∧ (∀ k, 0 ≤ k → k < 647 → P (647 * (ac - 1) + k) = rst NB RR RS RF RE N ((nx + 7) % 8) k) ∧ PR (fun k => P (647 * (ac - 1) + k)) P (ac - 1) NB RR RS RF RE ((nx + 7) % 8) (dp - 1) := by
  obtain ⟨hd, h0, h8, n0, n8, hc⟩ := h
  have e1 : sj N P ac (0 + 1) = fun k => P (647 * (ac - 1) + k) := by
    funext k; unfold sj; rw [if_neg (by omega)]; rfl
  have e0 : sj N P ac 0 = N := by funext k; unfold sj; rw [if_pos rfl]
  have c0 := hc 0 (Int.le_refl 0) ha
  rw [e1, e0, show nx + 7 - 0 = nx + 7 by omega] at c0
  refine ⟨c0.2.2.1, ⟨c0.1, c0.2.1⟩, c0.2.2.2, by omega, by omega, by omega, by omega, by omega, fun j g1 g2 => ?_⟩
  have c1 := hc (j + 1) (by omega) (by omega)
  have e2 : ((nx + 7) % 8 + 7 - j) % 8 = (nx + 7 - (j + 1)) % 8 := by omega
  have e3 : ∀ i, 0 ≤ i → sj (fun k => P (647 * (ac - 1) + k)) P (ac - 1) i = sj N P ac (i + 1) := by
    intro i hi
    funext k
    unfold sj
    rw [if_neg (show ¬ i + 1 = 0 by omega)]
    by_cases hz : i = 0
    · rw [if_pos hz, hz]; rfl
    · rw [if_neg hz]; congr 1; omega
  rw [e2, e3 j g1, e3 (j + 1) (by omega)]
  exact c1
/-- what a changing call may change: FLOOR, REACH, a row and its size -/
def chg (N N1 : Int → Int) (row : Int) : Prop := ∀ k, 0 ≤ k → k < 647 → k ≠ 0 → k ≠ 1 → k ≠ 2 + row → ¬ (7 + 128 * row ≤ k ∧ k < 7 + 128 * row + 128) → N1 k = N k
theorem PR_push {N N1 P : Int → Int} {ac : Int} {NB RR RS RF RE : Int → Int} {nx dp row : Int} (h : PR N P ac NB RR RS RF RE nx dp) (hN : okN N) (h0 : 0 ≤ row) (h1 : row < 5) (hc : chg N N1 row) : PR N1 (ntP P N ac) (min (ac + 1) 8) (rmN NB (fun x => N (7 + x)) nx row) (ups RR nx row) (ups RS nx (N (2 + row))) (ups RF nx (N 0)) (ups RE nx (N 1)) ((nx + 1) % 8) (min (dp + 1) 8) := by
  obtain ⟨hd, a0, a8, n0, n8, hh⟩ := h
  -- the reference's past, block by block
  have b1 : ∀ k, 0 ≤ k → k < 647 → sj N1 (ntP P N ac) (min (ac + 1) 8) 1 k = N k := by
    intro k g1 g2
    unfold sj ntP
    rw [if_neg (by omega)]
    by_cases h8 : ac = 8
    · rw [if_pos h8, if_neg (by omega)]; congr 1; omega
    · rw [if_neg h8, if_pos (by omega)]; congr 1; omega
  have b2 : ∀ i k, 1 ≤ i → i ≤ min (ac + 1) 8 → 0 ≤ k → k < 647 → sj N1 (ntP P N ac) (min (ac + 1) 8) i k = sj N P ac (i - 1) k := by
    intro i k g1 g2 g3 g4
    by_cases hi : i = 1
    · rw [hi, b1 k g3 g4]; unfold sj; rw [if_pos (by omega)]
    · unfold sj ntP
      rw [if_neg (show ¬ i = 0 by omega), if_neg (show ¬ i - 1 = 0 by omega)]
      by_cases h8 : ac = 8
      · rw [if_pos h8, if_pos (by omega)]; congr 1; omega
      · rw [if_neg h8, if_neg (by omega)]; congr 1; omega
  refine ⟨by omega, by omega, by omega, by omega, by omega, fun j g1 g2 => ?_⟩
  by_cases hj : j = 0
  · subst hj
    have e1 : ((nx + 1) % 8 + 7 - 0) % 8 = nx := by omega
    rw [e1, ups_s]
    refine ⟨h0, h1, okN_cong (fun k q1 q2 => b1 k q1 q2) hN, fun k q1 q2 => ?_⟩
    show sj N1 (ntP P N ac) (min (ac + 1) 8) 1 k = _
    rw [b1 k q1 q2]
    unfold rst
    rw [ups_s, ups_s, ups_s, ups_s]
    by_cases k0 : k = 0
    · rw [if_pos k0, k0]
    · rw [if_neg k0]
      by_cases k1 : k = 1
      · rw [if_pos k1, k1]
      · rw [if_neg k1]
        by_cases k2 : k = 2 + row
        · rw [if_pos k2, k2]
        · rw [if_neg k2]
          by_cases k3 : 7 + 128 * row ≤ k ∧ k < 7 + 128 * row + 128
          · rw [if_pos k3]
            unfold rmN
            rw [if_pos (by omega)]
            show N k = N (7 + (row * 128 + (nx * 128 + (k - 7 - 128 * row) - nx * 128)))
            congr 1; omega
          · rw [if_neg k3]
            unfold sj
            rw [if_pos rfl]
            exact (hc k q1 q2 k0 k1 k2 k3).symm
  · have e1 : ((nx + 1) % 8 + 7 - j) % 8 = (nx + 7 - (j - 1)) % 8 := by omega
    have e2 : (nx + 7 - (j - 1)) % 8 ≠ nx := by omega
    obtain ⟨c1, c2, c3, c4⟩ := hh (j - 1) (by omega) (by omega)
    rw [e1, ups_n _ _ e2]
    rw [show j - 1 + 1 = j by omega] at c3 c4
    refine ⟨c1, c2, okN_cong (fun k q1 q2 => ?_) c3, fun k q1 q2 => ?_⟩
    · rw [b2 (j + 1) k (by omega) (by omega) q1 q2, show j + 1 - 1 = j by omega]
    · rw [b2 (j + 1) k (by omega) (by omega) q1 q2, show j + 1 - 1 = j by omega, c4 k q1 q2]
      have c5 := b2 j k (by omega) (by omega) q1 q2
      unfold rst
      rw [ups_n _ _ e2, ups_n _ _ e2, ups_n _ _ e2, ups_n _ _ e2, c5]
      by_cases k3 : 7 + 128 * RR ((nx + 7 - (j - 1)) % 8) ≤ k ∧ k < 7 + 128 * RR ((nx + 7 - (j - 1)) % 8) + 128
      · have e3 : rmN NB (fun x => N (7 + x)) nx row ((nx + 7 - (j - 1)) % 8 * 128 + (k - 7 - 128 * RR ((nx + 7 - (j - 1)) % 8))) = NB ((nx + 7 - (j - 1)) % 8 * 128 + (k - 7 - 128 * RR ((nx + 7 - (j - 1)) % 8))) := by
          unfold rmN
          rw [if_neg (by omega)]
        rw [if_pos k3, if_pos k3, e3]
      · rw [if_neg k3, if_neg k3]
/-! the changed numbers keep their bounds, and change a row alone -/
theorem okN_add {N : Int → Int} {p v : Int} (h : okN N) (h0 : 0 ≤ p) (h1 : p ≤ 4) (hv : -100 ≤ v ∧ v ≤ 100) (hs : N (2 + p) < 128) : okN (sp_add N p v) := by
  obtain ⟨a1, a2, a3, a4⟩ := h
  have a5 := a3 p h0 (by omega)
  refine ⟨?_, ?_, fun r g1 g2 => ?_, fun j g1 g2 => ?_⟩
  · simp only [sp_add, ups]; rw [if_neg (by omega), if_neg (by omega)]; exact a1
  · simp only [sp_add, ups]; rw [if_neg (by omega), if_neg (by omega)]; exact a2
  · have a6 := a3 r g1 g2
    simp only [sp_add, ups]
    by_cases hr : 2 + r = 2 + p
    · rw [if_pos hr]; omega
    · rw [if_neg hr, if_neg (by omega)]; exact a6
  · have a6 := a4 j g1 g2
    simp only [sp_add, ups]
    rw [if_neg (by omega)]
    by_cases hj : j = 7 + 128 * p + N (2 + p)
    · rw [if_pos hj]; exact hv
    · rw [if_neg hj]; exact a6
theorem chg_add {N : Int → Int} {p v : Int} (h : okN N) (h0 : 0 ≤ p) (h1 : p ≤ 4) (hs : N (2 + p) < 128) : chg N (sp_add N p v) p := by
  have a5 := h.2.2.1 p h0 (by omega)
  intro k g1 g2 g3 g4 g5 g6
  simp only [sp_add, ups]
  rw [if_neg g5, if_neg (by omega)]
theorem okN_wipe {N : Int → Int} {p : Int} (h : okN N) (h0 : 0 ≤ p) (h1 : p ≤ 4) : okN (sp_wipe N p) := by
  obtain ⟨a1, a2, a3, a4⟩ := h
  refine ⟨?_, ?_, fun r g1 g2 => ?_, fun j g1 g2 => ?_⟩
  · simp only [sp_wipe, ups]; rw [if_neg (by omega)]; exact a1
  · simp only [sp_wipe, ups]; rw [if_neg (by omega)]; exact a2
  · have a6 := a3 r g1 g2
    simp only [sp_wipe, ups]
    by_cases hr : 2 + r = 2 + p
    · rw [if_pos hr]; omega
    · rw [if_neg hr]; exact a6
  · simp only [sp_wipe, ups]
    rw [if_neg (by omega)]; exact a4 j g1 g2
theorem chg_wipe {N : Int → Int} {p : Int} : chg N (sp_wipe N p) p := by
  intro k g1 g2 g3 g4 g5 g6
  simp only [sp_wipe, ups]
  rw [if_neg g5]
theorem okN_lots {N : Int → Int} {p n sd : Int} (h : okN N) (h0 : 0 ≤ p) (h1 : p ≤ 4) (hn : 1 ≤ n ∧ n ≤ 128) : okN (sp_lots N p n sd) := by
  obtain ⟨a1, a2, a3, a4⟩ := h
  refine ⟨?_, ?_, fun r g1 g2 => ?_, fun j g1 g2 => ?_⟩
  · simp only [sp_lots]; rw [if_neg (by omega), if_neg (by omega)]; exact a1
  · simp only [sp_lots]; rw [if_neg (by omega), if_neg (by omega)]; exact a2
  · have a6 := a3 r g1 g2
    simp only [sp_lots]
    by_cases hr : 2 + r = 2 + p
    · rw [if_pos hr]; omega
    · rw [if_neg hr, if_neg (by omega)]; exact a6
  · have a6 := a4 j g1 g2
    simp only [sp_lots]
    rw [if_neg (by omega)]
    by_cases hj : 7 + 128 * p ≤ j ∧ j < 7 + 128 * p + n
    · rw [if_pos hj]; omega
    · rw [if_neg hj]; exact a6
theorem chg_lots {N : Int → Int} {p n sd : Int} (hn : n ≤ 128) : chg N (sp_lots N p n sd) p := by
  intro k g1 g2 g3 g4 g5 g6
  simp only [sp_lots]
  rw [if_neg g5, if_neg (by omega)]
theorem okN_noise {N : Int → Int} {p s sd : Int} (h : okN N) (h0 : 0 ≤ p) (h1 : p ≤ 4) : okN (sp_noise N p s sd) := by
  obtain ⟨a1, a2, a3, a4⟩ := h
  refine ⟨?_, ?_, fun r g1 g2 => ?_, fun j g1 g2 => ?_⟩
  · simp only [sp_noise]; rw [if_neg (by omega)]; exact a1
  · simp only [sp_noise]; rw [if_neg (by omega)]; exact a2
  · simp only [sp_noise]; rw [if_neg (by omega)]; exact a3 r g1 g2
  · simp only [sp_noise]
    by_cases hj : 7 + 128 * p ≤ j ∧ j < 7 + 128 * p + N (2 + p)
    · rw [if_pos hj]; exact cl_rg _
    · rw [if_neg hj]; exact a4 j g1 g2
theorem chg_noise {N : Int → Int} {p s sd : Int} (h : okN N) (h0 : 0 ≤ p) (h1 : p ≤ 4) : chg N (sp_noise N p s sd) p := by
  have a5 := h.2.2.1 p h0 (by omega)
  intro k g1 g2 g3 g4 g5 g6
  simp only [sp_noise]
  rw [if_neg (by omega)]
theorem okN_loud {N : Int → Int} {p a b : Int} (h : okN N) (h0 : 0 ≤ p) (h1 : p ≤ 4) : okN (sp_loud N p a b) := by
  obtain ⟨a1, a2, a3, a4⟩ := h
  refine ⟨?_, ?_, fun r g1 g2 => ?_, fun j g1 g2 => ?_⟩
  · simp only [sp_loud]; rw [if_neg (by omega)]; exact a1
  · simp only [sp_loud]; rw [if_neg (by omega)]; exact a2
  · simp only [sp_loud]; rw [if_neg (by omega)]; exact a3 r g1 g2
  · simp only [sp_loud]
    by_cases hj : 7 + 128 * p ≤ j ∧ j < 7 + 128 * p + N (2 + p)
    · rw [if_pos hj]; exact cl_rg _
    · rw [if_neg hj]; exact a4 j g1 g2
theorem chg_loud {N : Int → Int} {p a b : Int} (h : okN N) (h0 : 0 ≤ p) (h1 : p ≤ 4) : chg N (sp_loud N p a b) p := by
  have a5 := h.2.2.1 p h0 (by omega)
  intro k g1 g2 g3 g4 g5 g6
  simp only [sp_loud]
  rw [if_neg (by omega)]
theorem okN_hear {N : Int → Int} {p f m : Int} (h : okN N) (h0 : 0 ≤ p) (h1 : p ≤ 3) (hf : 0 ≤ f) (hm : 0 ≤ m) (hm2 : m ≤ 128) (hm3 : f + m ≤ 128) : okN (sp_hear N p f m) := by
  obtain ⟨a1, a2, a3, a4⟩ := h
  refine ⟨?_, ?_, fun r g1 g2 => ?_, fun j g1 g2 => ?_⟩
  · simp only [sp_hear]; rw [if_neg (by omega), if_neg (by omega)]; exact a1
  · simp only [sp_hear]; rw [if_neg (by omega), if_neg (by omega)]; exact a2
  · have a6 := a3 r g1 g2
    simp only [sp_hear]
    by_cases hr : 2 + r = 6
    · rw [if_pos hr]; omega
    · rw [if_neg hr, if_neg (by omega)]; exact a6
  · simp only [sp_hear]
    rw [if_neg (by omega)]
    by_cases hj : 519 ≤ j ∧ j < 519 + m
    · rw [if_pos hj]; exact a4 _ (by omega) (by omega)
    · rw [if_neg hj]; exact a4 j g1 g2
theorem chg_hear {N : Int → Int} {p f m : Int} (hm2 : m ≤ 128) : chg N (sp_hear N p f m) 4 := by
  intro k g1 g2 g3 g4 g5 g6
  simp only [sp_hear]
  rw [if_neg (by omega), if_neg (by omega)]
theorem okN_bound {N : Int → Int} {w v : Int} (h : okN N) (hw : (w = 0 ∧ 0 ≤ v ∧ v ≤ 99999) ∨ (w = 1 ∧ 1 ≤ v ∧ v ≤ 5)) : okN (ups N w v) := by
  obtain ⟨a1, a2, a3, a4⟩ := h
  refine ⟨?_, ?_, fun r g1 g2 => ?_, fun j g1 g2 => ?_⟩
  · simp only [ups]
    by_cases h9 : 0 = w
    · rw [if_pos h9]; omega
    · rw [if_neg h9]; exact a1
  · simp only [ups]
    by_cases h9 : 1 = w
    · rw [if_pos h9]; omega
    · rw [if_neg h9]; exact a2
  · simp only [ups]; rw [if_neg (by omega)]; exact a3 r g1 g2
  · simp only [ups]; rw [if_neg (by omega)]; exact a4 j g1 g2
theorem chg_bound {N : Int → Int} {w v : Int} (hw : w = 0 ∨ w = 1) : chg N (ups N w v) 4 := by
  intro k g1 g2 g3 g4 g5 g6
  simp only [ups]
  rw [if_neg (by omega)]
