/-! filling the entries: up to place B, and of place B the keys nearer than far -/
def enP (FD : Int → Int) (re : Int) (EN : Int → Int) (B far : Int) : Prop := ∀ key J, 0 ≤ key → key < 384 → 0 ≤ J → J < 64 → (J < B ∨ (J = B ∧ key / 64 < far)) → kyf FD re (J / 16) (J % 16) (J % 16 + key / 64) = key → EN (stt FD re key + cnt FD re key J) = 1000 * (J / 16) + J % 16
theorem std_at {FD : Int → Int} (hF : ∀ j, -1 ≤ FD j ∧ FD j ≤ 7 ∧ FD j ≠ 0) {re p v far : Int} (hr : re ≤ 5) (h0 : 0 ≤ v) (h1 : v < 16) (h : kyf FD re p v (v + far) ≠ -1) : kyf FD re ((p * 16 + v) / 16) ((p * 16 + v) % 16) ((p * 16 + v) % 16 + kyf FD re p v (v + far) / 64) = kyf FD re p v (v + far) := by
  have h2 := kyf_rg hF re p v (v + far) hr
  rw [show (p * 16 + v) / 16 = p by omega, show (p * 16 + v) % 16 = v by omega, show kyf FD re p v (v + far) / 64 = far by omega]
theorem enP_0 {FD : Int → Int} (hF : ∀ j, -1 ≤ FD j ∧ FD j ≤ 7 ∧ FD j ≠ 0) {re : Int} (hr : re ≤ 5) (EN : Int → Int) : enP FD re EN 0 1 := by
  intro key J h1 h2 h3 h4 h5 h6
  have := kyf_rg hF re (J / 16) (J % 16) (J % 16 + key / 64) hr
  omega
theorem enP_no {FD : Int → Int} {re p v far : Int} {EN : Int → Int} (h0 : 0 ≤ v) (h1 : v < 16) (hc : kyf FD re p v (v + far) = -1) (h : enP FD re EN (p * 16 + v) far) : enP FD re EN (p * 16 + v) (far + 1) := by
  intro key J g1 g2 g3 g4 g5 g6
  by_cases hk : J = p * 16 + v ∧ key / 64 = far
  · exfalso
    rw [hk.2, hk.1, show (p * 16 + v) / 16 = p by omega, show (p * 16 + v) % 16 = v by omega, hc] at g6
    omega
  · exact h key J g1 g2 g3 g4 (by omega) g6
theorem enP_yes {FD : Int → Int} (hF : ∀ j, -1 ≤ FD j ∧ FD j ≤ 7 ∧ FD j ≠ 0) {re p v far : Int} {EN : Int → Int} (hr : re ≤ 5) (hp : 0 ≤ p) (hp4 : p < 4) (h0 : 0 ≤ v) (h1 : v < 16) (hc : kyf FD re p v (v + far) ≠ -1) (h : enP FD re EN (p * 16 + v) far) : enP FD re (ups EN (stt FD re (kyf FD re p v (v + far)) + cnt FD re (kyf FD re p v (v + far)) (p * 16 + v)) (1000 * p + v)) (p * 16 + v) (far + 1) := by
  have hs := std_at hF (p := p) (v := v) (far := far) hr h0 h1 hc
  have hkr := kyf_rg hF re p v (v + far) hr
  intro key J g1 g2 g3 g4 g5 g6
  by_cases he : stt FD re key + cnt FD re key J = stt FD re (kyf FD re p v (v + far)) + cnt FD re (kyf FD re p v (v + far)) (p * 16 + v)
  · obtain ⟨-, hJ⟩ := stt_apart g1 (by omega) g3 (by omega) g4 (by omega) g6 hs he
    rw [he, ups_s, hJ]
    omega
  · rw [ups_n _ _ he]
    refine h key J g1 g2 g3 g4 ?_ g6
    rcases g5 with g5 | g5
    · exact Or.inl g5
    · right
      refine ⟨g5.1, ?_⟩
      by_cases hk : key / 64 = far
      · exfalso
        apply he
        have e1 : key = kyf FD re p v (v + far) := by
          rw [← g6, g5.1, show (p * 16 + v) / 16 = p by omega, show (p * 16 + v) % 16 = v by omega, hk]
        rw [← e1, g5.1]
      · omega
theorem enP_end {FD : Int → Int} (hF : ∀ j, -1 ≤ FD j ∧ FD j ≤ 7 ∧ FD j ≠ 0) {re B : Int} {EN : Int → Int} (hr : re ≤ 5) (h : enP FD re EN B (re + 1)) : enP FD re EN (B + 1) 1 := by
  intro key J g1 g2 g3 g4 g5 g6
  have := kyf_rg hF re (J / 16) (J % 16) (J % 16 + key / 64) hr
  exact h key J g1 g2 g3 g4 (by omega) g6
theorem enP_ok {FD : Int → Int} {re : Int} {EN : Int → Int} (h : enP FD re EN 64 1) : enOK FD re EN := fun key J g1 g2 g3 g4 g5 => h key J g1 g2 g3 g4 (Or.inl g4) g5
/-- the bounds of an entry -/
theorem en_bd {FD : Int → Int} {re key J : Int} (h0 : 0 ≤ key) (h1 : key < 384) (h2 : 0 ≤ J) (h3 : J < 64) (hs : kyf FD re (J / 16) (J % 16) (J % 16 + key / 64) = key) (hT : stt FD re 384 ≤ 320) : 0 ≤ stt FD re key ∧ 0 ≤ cnt FD re key J ∧ stt FD re key + cnt FD re key J < 320 := by
  have a1 := cnt_lt h2 h3 hs
  have a2 := stt_s FD re h0
  have a3 := stt_mono FD re (j := key + 1) (k := 384) (by omega) (by omega)
  have a4 := (cnt_rg FD re key h2).1
  have a5 := stt_0 FD re h0
  omega
