/-! the numbers of the document, as functions of whole numbers -/
/-- the nearest of -100 .. 100 -/
def cl (v : Int) : Int := if 100 < zr v then 100 else if zr v < -100 then -100 else zr v
theorem cl_rg (v : Int) : -100 ≤ cl v ∧ cl v ≤ 100 := by
  unfold cl
  by_cases h1 : 100 < zr v
  · rw [if_pos h1]; omega
  · rw [if_neg h1]
    by_cases h2 : zr v < -100
    · rw [if_pos h2]; omega
    · rw [if_neg h2]; omega
theorem cl_mm (v : Int) : iI (if zr (-100) < zr (if zr v < zr 100 then v else 100) then if zr v < zr 100 then v else 100 else -100) = iI (cl v) := by
  have e1 : zr 100 = 100 := zr_of (by omega) (by omega)
  have e2 : zr (-100) = -100 := zr_of (by omega) (by omega)
  rw [e1, e2]
  unfold cl
  by_cases h1 : zr v < 100
  · rw [if_pos h1, if_neg (show ¬ 100 < zr v by omega)]
    by_cases h2 : -100 < zr v
    · rw [if_pos h2, if_neg (show ¬ zr v < -100 by omega), iI_zr]
    · rw [if_neg h2]
      by_cases h3 : zr v < -100
      · rw [if_pos h3]
      · rw [if_neg h3, show zr v = -100 by omega]
  · rw [if_neg h1, e1, if_pos (show (-100 : Int) < 100 by omega)]
    by_cases h3 : 100 < zr v
    · rw [if_pos h3]
    · rw [if_neg h3, if_neg (show ¬ zr v < -100 by omega), show zr v = 100 by omega]
/-- f 0 + .. + f (n - 1) -/
def sumN (f : Int → Int) : Nat → Int
  | 0 => 0
  | n + 1 => sumN f n + f (n : Int)
def sumZ (f : Int → Int) (n : Int) : Int := sumN f n.toNat
theorem sumZ_0 (f : Int → Int) : sumZ f 0 = 0 := rfl
theorem sumZ_s (f : Int → Int) {n : Int} (h : 0 ≤ n) : sumZ f (n + 1) = sumZ f n + f n := by
  unfold sumZ
  have e1 : (n + 1).toNat = n.toNat + 1 := by omega
  rw [e1]
  show sumN f n.toNat + f (n.toNat : Int) = _
  rw [Int.toNat_of_nonneg h]
theorem sumN_cong {f g : Int → Int} : ∀ (n : Nat), (∀ j : Int, 0 ≤ j → j < n → f j = g j) → sumN f n = sumN g n
  | 0, _ => rfl
  | n + 1, h => by
    show sumN f n + f n = sumN g n + g n
    rw [sumN_cong n (fun j h1 h2 => h j h1 (by omega)), h n (by omega) (by omega)]
theorem sumZ_cong {f g : Int → Int} {n : Int} (h : ∀ j : Int, 0 ≤ j → j < n → f j = g j) : sumZ f n = sumZ g n := by
  unfold sumZ
  by_cases h0 : 0 ≤ n
  · exact sumN_cong _ (fun j h1 h2 => h j h1 (by omega))
  · rw [show n.toNat = 0 by omega]; rfl
theorem sumN_rg {f : Int → Int} {a b : Int} : ∀ (n : Nat), (∀ j : Int, 0 ≤ j → j < n → a ≤ f j ∧ f j ≤ b) → n * a ≤ sumN f n ∧ sumN f n ≤ n * b
  | 0, _ => by simp [sumN]
  | n + 1, h => by
    have h1 := sumN_rg n (fun j g1 g2 => h j g1 (by omega))
    have h2 := h n (by omega) (by omega)
    show ((n + 1 : Nat) : Int) * a ≤ sumN f n + f n ∧ sumN f n + f n ≤ ((n + 1 : Nat) : Int) * b
    have e1 : ((n + 1 : Nat) : Int) = (n : Int) + 1 := by omega
    rw [e1, Int.add_mul, Int.add_mul, Int.one_mul, Int.one_mul]
    omega
theorem sumZ_01 {f : Int → Int} {n : Int} (h0 : 0 ≤ n) (h : ∀ j : Int, 0 ≤ j → j < n → 0 ≤ f j ∧ f j ≤ 1) : 0 ≤ sumZ f n ∧ sumZ f n ≤ n := by
  have h1 := sumN_rg (a := 0) (b := 1) n.toNat (fun j g1 g2 => h j g1 (by omega))
  unfold sumZ
  omega
theorem sumZ_zero {f : Int → Int} {n : Int} (h : ∀ j : Int, 0 ≤ j → j < n → f j = 0) : sumZ f n = 0 := by
  rw [sumZ_cong (g := fun _ => 0) h]
  unfold sumZ
  generalize n.toNat = k
  induction k with
  | zero => rfl
  | succ k ih => show sumN (fun _ => 0) k + 0 = 0; rw [ih]; rfl
theorem sumN_add (f g : Int → Int) : ∀ n : Nat, sumN (fun j => f j + g j) n = sumN f n + sumN g n
  | 0 => rfl
  | n + 1 => by
    show sumN (fun j => f j + g j) n + (f n + g n) = sumN f n + f n + (sumN g n + g n)
    rw [sumN_add f g n]; omega
theorem sumZ_add (f g : Int → Int) (n : Int) : sumZ (fun j => f j + g j) n = sumZ f n + sumZ g n := sumN_add f g n.toNat
/-- from a point on there is nothing -/
theorem sumZ_tail {f : Int → Int} {m n : Int} (h0 : 0 ≤ m) (h1 : m ≤ n) (h : ∀ j : Int, m ≤ j → j < n → f j = 0) : sumZ f n = sumZ f m := by
  obtain ⟨k, hk⟩ : ∃ k : Nat, n = m + k := ⟨(n - m).toNat, by omega⟩
  subst hk
  clear h1
  induction k with
  | zero => rw [show m + ((0 : Nat) : Int) = m by omega]
  | succ k ih =>
    rw [show m + ((k + 1 : Nat) : Int) = (m + k) + 1 by omega, sumZ_s f (by omega), h (m + k) (by omega) (by omega), ih (fun j g1 g2 => h j g1 (by omega))]
    omega
theorem sumZ_ups (f : Int → Int) (i v : Int) {n : Int} (h0 : 0 ≤ i) (h1 : i < n) : sumZ (ups f i v) n = sumZ f n - f i + v := by
  obtain ⟨k, hk⟩ : ∃ k : Nat, n = k := ⟨n.toNat, by omega⟩
  subst hk
  induction k with
  | zero => omega
  | succ k ih =>
    rw [show ((k + 1 : Nat) : Int) = (k : Int) + 1 by omega, sumZ_s _ (by omega), sumZ_s _ (by omega)]
    by_cases hi : i = (k : Int)
    · subst hi
      rw [ups_s, sumZ_cong (f := ups f (k : Int) v) (g := f) (fun j _ g2 => ups_n f v (by omega))]
      omega
    · rw [ih (by omega), ups_n f v (by omega)]
      omega
/-- what a window's turn does at h: pairs a, a + h of which a has no bit h -/
def fpN (h : Int) (w : Int → Int) : Nat → Int → Int
  | 0 => w
  | a + 1 => if zand (a : Int) h = 0 then ups (ups (fpN h w a) a (fpN h w a a + fpN h w a (a + h))) (a + h) (fpN h w a a - fpN h w a (a + h)) else fpN h w a
def fp (h : Int) (w : Int → Int) (a : Int) : Int → Int := fpN h w a.toNat
theorem fp_0 (h : Int) (w : Int → Int) : fp h w 0 = w := rfl
theorem fp_t {h a : Int} (w : Int → Int) (h0 : 0 ≤ a) (hz : zand a h = 0) : fp h w (a + 1) = ups (ups (fp h w a) a (fp h w a a + fp h w a (a + h))) (a + h) (fp h w a a - fp h w a (a + h)) := by
  unfold fp
  rw [show (a + 1).toNat = a.toNat + 1 by omega]
  show (if zand (a.toNat : Int) h = 0 then _ else _) = _
  rw [Int.toNat_of_nonneg h0, if_pos hz]
theorem fp_f {h a : Int} (w : Int → Int) (h0 : 0 ≤ a) (hz : ¬ zand a h = 0) : fp h w (a + 1) = fp h w a := by
  unfold fp
  rw [show (a + 1).toNat = a.toNat + 1 by omega]
  show (if zand (a.toNat : Int) h = 0 then _ else _) = _
  rw [Int.toNat_of_nonneg h0, if_neg hz]
/-- the bits -/
theorem zand_8 {a h : Int} (h0 : 0 ≤ a) (h1 : a < 8) (hh : h = 1 ∨ h = 2 ∨ h = 4) : (zand a h = 0 → a + h < 8) ∧ (8 ≤ a + h → ¬ zand a h = 0) := by
  have k1 : ∀ a' : Nat, a' < 8 → (zand (a' : Int) 1 = 0 → (a' : Int) + 1 < 8) ∧ (8 ≤ (a' : Int) + 1 → ¬ zand (a' : Int) 1 = 0) := by decide +kernel
  have k2 : ∀ a' : Nat, a' < 8 → (zand (a' : Int) 2 = 0 → (a' : Int) + 2 < 8) ∧ (8 ≤ (a' : Int) + 2 → ¬ zand (a' : Int) 2 = 0) := by decide +kernel
  have k4 : ∀ a' : Nat, a' < 8 → (zand (a' : Int) 4 = 0 → (a' : Int) + 4 < 8) ∧ (8 ≤ (a' : Int) + 4 → ¬ zand (a' : Int) 4 = 0) := by decide +kernel
  obtain ⟨b, rfl⟩ : ∃ b : Nat, a = b := ⟨a.toNat, by omega⟩
  rcases hh with rfl | rfl | rfl
  · exact k1 b (by omega)
  · exact k2 b (by omega)
  · exact k4 b (by omega)
/-- the class's end of the walk is the reference's -/
theorem fp_end {h : Int} (w : Int → Int) (hh : h = 1 ∨ h = 2 ∨ h = 4) : ∀ k : Nat, (k : Int) ≤ h → fp h w (8 - h + k) = fp h w (8 - h)
  | 0, _ => by rw [show (8 : Int) - h + ((0 : Nat) : Int) = 8 - h by omega]
  | k + 1, hk => by
    rw [show (8 : Int) - h + ((k + 1 : Nat) : Int) = (8 - h + k) + 1 by omega, fp_f w (by omega) ((zand_8 (by omega) (by omega) hh).2 (by omega))]
    exact fp_end w hh k (by omega)
theorem fp_8 {h : Int} (w : Int → Int) (hh : h = 1 ∨ h = 2 ∨ h = 4) : fp h w (8 - h) = fp h w 8 := by
  have := fp_end w hh h.toNat (by omega)
  rw [show (8 : Int) - h + (h.toNat : Int) = 8 by omega] at this
  exact this.symm
/-- the eight numbers of a window, turned -/
def wv (x : Int → Int) : Int → Int := fp 4 (fp 2 (fp 1 x 8) 8) 8
def sh (w : Int → Int) (k : Int) : Int := zdiv (w k * w k) 64
theorem sh_rg (w : Int → Int) (k : Int) : -2147483648 ≤ sh w k ∧ sh w k < 2147483648 := zdiv_rg _ _
/-- the best of waves 1 .. n + 1 -/
def bsN (s : Int → Int) : Nat → Int
  | 0 => 1
  | n + 1 => if s (bsN s n) < s ((n : Int) + 2) then (n : Int) + 2 else bsN s n
def bs (s : Int → Int) (k : Int) : Int := bsN s (k - 2).toNat
theorem bs_2 (s : Int → Int) : bs s 2 = 1 := rfl
theorem bs_t {s : Int → Int} {k : Int} (h0 : 2 ≤ k) (h : s (bs s k) < s k) : bs s (k + 1) = k := by
  unfold bs at h ⊢
  rw [show (k + 1 - 2).toNat = (k - 2).toNat + 1 by omega]
  show (if s (bsN s (k - 2).toNat) < s (((k - 2).toNat : Int) + 2) then (((k - 2).toNat : Int) + 2) else _) = _
  rw [show ((k - 2).toNat : Int) + 2 = k by omega, if_pos h]
theorem bs_f {s : Int → Int} {k : Int} (h0 : 2 ≤ k) (h : s k ≤ s (bs s k)) : bs s (k + 1) = bs s k := by
  unfold bs at h ⊢
  rw [show (k + 1 - 2).toNat = (k - 2).toNat + 1 by omega]
  show (if s (bsN s (k - 2).toNat) < s (((k - 2).toNat : Int) + 2) then (((k - 2).toNat : Int) + 2) else _) = _
  rw [show ((k - 2).toNat : Int) + 2 = k by omega, if_neg (by omega)]
theorem bsN_rg (s : Int → Int) : ∀ n : Nat, 1 ≤ bsN s n ∧ bsN s n ≤ (n : Int) + 1
  | 0 => ⟨Int.le_refl _, Int.le_refl _⟩
  | n + 1 => by
    have := bsN_rg s n
    show 1 ≤ (if s (bsN s n) < s ((n : Int) + 2) then (n : Int) + 2 else bsN s n) ∧ (if s (bsN s n) < s ((n : Int) + 2) then (n : Int) + 2 else bsN s n) ≤ ((n + 1 : Nat) : Int) + 1
    by_cases h : s (bsN s n) < s ((n : Int) + 2)
    · rw [if_pos h]; omega
    · rw [if_neg h]; omega
theorem bs_rg (s : Int → Int) {k : Int} (h : 2 ≤ k) : 1 ≤ bs s k ∧ bs s k < k := by
  have := bsN_rg s (k - 2).toNat
  unfold bs
  omega
/-- the peak of eight numbers over a floor -/
def pk8 (x : Int → Int) (fl : Int) : Int := if fl ≤ sh (wv x) (bs (sh (wv x)) 8) then bs (sh (wv x)) 8 else -1
theorem pk8_rg (x : Int → Int) (fl : Int) : -1 ≤ pk8 x fl ∧ pk8 x fl ≤ 7 ∧ pk8 x fl ≠ 0 := by
  have := bs_rg (sh (wv x)) (k := 8) (by omega)
  unfold pk8
  by_cases h : fl ≤ sh (wv x) (bs (sh (wv x)) 8)
  · rw [if_pos h]; omega
  · rw [if_neg h]; omega
/-- the key of windows v, w of a row by its peaks FD (16 a row); none -/
def kyf (FD : Int → Int) (re row v w : Int) : Int := if (0 ≤ v ∧ v < w ∧ w < 16 ∧ w - v ≤ re) ∧ FD (row * 16 + v) ≠ -1 ∧ FD (row * 16 + w) ≠ -1 then 64 * (w - v) + 8 * FD (row * 16 + v) + FD (row * 16 + w) else -1
theorem kyf_no {FD : Int → Int} {re row v w : Int} (h : ¬ ((0 ≤ v ∧ v < w ∧ w < 16 ∧ w - v ≤ re) ∧ FD (row * 16 + v) ≠ -1 ∧ FD (row * 16 + w) ≠ -1)) : kyf FD re row v w = -1 := by
  unfold kyf; rw [if_neg h]
theorem kyf_yes {FD : Int → Int} {re row v w : Int} (h : (0 ≤ v ∧ v < w ∧ w < 16 ∧ w - v ≤ re) ∧ FD (row * 16 + v) ≠ -1 ∧ FD (row * 16 + w) ≠ -1) : kyf FD re row v w = 64 * (w - v) + 8 * FD (row * 16 + v) + FD (row * 16 + w) := by
  unfold kyf; rw [if_pos h]
/-- a key's bounds, and how far apart its windows are -/
theorem kyf_rg {FD : Int → Int} (hF : ∀ j, -1 ≤ FD j ∧ FD j ≤ 7 ∧ FD j ≠ 0) (re row v w : Int) (hr : re ≤ 5) : kyf FD re row v w = -1 ∨ (64 ≤ kyf FD re row v w ∧ kyf FD re row v w ≤ 383 ∧ kyf FD re row v w / 64 = w - v ∧ 1 ≤ w - v ∧ w - v ≤ re ∧ 0 ≤ v ∧ w < 16) := by
  have h1 := hF (row * 16 + v)
  have h2 := hF (row * 16 + w)
  by_cases h : (0 ≤ v ∧ v < w ∧ w < 16 ∧ w - v ≤ re) ∧ FD (row * 16 + v) ≠ -1 ∧ FD (row * 16 + w) ≠ -1
  · right
    rw [kyf_yes h]
    generalize FD (row * 16 + v) = p at *
    generalize FD (row * 16 + w) = q at *
    omega
  · left; exact kyf_no h
/-- the peaks of a state's rows, 16 a row: windows that there are not have none -/
def pf (NU SZ : Int → Int) (fl j : Int) : Int := if j % 16 < SZ (j / 16) / 8 then pk8 (fun i => NU (j / 16 * 128 + (j % 16 * 8 + i))) fl else -1
theorem pf_rg (NU SZ : Int → Int) (fl j : Int) : -1 ≤ pf NU SZ fl j ∧ pf NU SZ fl j ≤ 7 ∧ pf NU SZ fl j ≠ 0 := by
  have := pk8_rg (fun i => NU (j / 16 * 128 + (j % 16 * 8 + i))) fl
  unfold pf
  by_cases h : j % 16 < SZ (j / 16) / 8
  · rw [if_pos h]; exact this
  · rw [if_neg h]; omega
theorem pf_t {NU SZ : Int → Int} {fl row w : Int} (h0 : 0 ≤ w) (h1 : w < 16) (h : w < SZ row / 8) : pf NU SZ fl (row * 16 + w) = pk8 (fun i => NU (row * 128 + (w * 8 + i))) fl := by
  unfold pf
  rw [show (row * 16 + w) / 16 = row by omega, show (row * 16 + w) % 16 = w by omega, if_pos h]
theorem pf_f {NU SZ : Int → Int} {fl row w : Int} (h0 : 0 ≤ w) (h1 : w < 16) (h : SZ row / 8 ≤ w) : pf NU SZ fl (row * 16 + w) = -1 := by
  unfold pf
  rw [show (row * 16 + w) / 16 = row by omega, show (row * 16 + w) % 16 = w by omega, if_neg (by omega)]
/-- the number that comes most often: the best so far, and how often -/
def moN (c : Int → Int) : Nat → Int × Int
  | 0 => (-1, 0)
  | n + 1 => if (moN c n).2 < c (n : Int) then ((n : Int), c (n : Int)) else moN c n
def mo (c : Int → Int) (k : Int) : Int × Int := moN c k.toNat
theorem mo_0 (c : Int → Int) : mo c 0 = (-1, 0) := rfl
theorem mo_t {c : Int → Int} {k : Int} (h0 : 0 ≤ k) (h : (mo c k).2 < c k) : mo c (k + 1) = (k, c k) := by
  unfold mo at h ⊢
  rw [show (k + 1).toNat = k.toNat + 1 by omega]
  show (if (moN c k.toNat).2 < c (k.toNat : Int) then ((k.toNat : Int), c (k.toNat : Int)) else moN c k.toNat) = _
  rw [Int.toNat_of_nonneg h0, if_pos h]
theorem mo_f {c : Int → Int} {k : Int} (h0 : 0 ≤ k) (h : c k ≤ (mo c k).2) : mo c (k + 1) = mo c k := by
  unfold mo at h ⊢
  rw [show (k + 1).toNat = k.toNat + 1 by omega]
  show (if (moN c k.toNat).2 < c (k.toNat : Int) then ((k.toNat : Int), c (k.toNat : Int)) else moN c k.toNat) = _
  rw [Int.toNat_of_nonneg h0, if_neg (by omega)]
theorem moN_rg {c : Int → Int} {b : Int} (hb : 0 ≤ b) (h : ∀ j, 0 ≤ c j ∧ c j ≤ b) : ∀ n : Nat, -1 ≤ (moN c n).1 ∧ (moN c n).1 < n ∧ 0 ≤ (moN c n).2 ∧ (moN c n).2 ≤ b
  | 0 => ⟨Int.le_refl _, by show (-1 : Int) < ((0 : Nat) : Int); omega, Int.le_refl _, hb⟩
  | n + 1 => by
    have h1 := moN_rg hb h n
    have h2 := h n
    show -1 ≤ (if (moN c n).2 < c (n : Int) then ((n : Int), c (n : Int)) else moN c n).1 ∧ (if (moN c n).2 < c (n : Int) then ((n : Int), c (n : Int)) else moN c n).1 < ((n + 1 : Nat) : Int) ∧ 0 ≤ (if (moN c n).2 < c (n : Int) then ((n : Int), c (n : Int)) else moN c n).2 ∧ (if (moN c n).2 < c (n : Int) then ((n : Int), c (n : Int)) else moN c n).2 ≤ b
    by_cases h3 : (moN c n).2 < c (n : Int)
    · rw [if_pos h3]; show -1 ≤ (n : Int) ∧ (n : Int) < ((n + 1 : Nat) : Int) ∧ 0 ≤ c (n : Int) ∧ c (n : Int) ≤ b; omega
    · rw [if_neg h3]; omega
theorem mo_rg {c : Int → Int} {b k : Int} (hb : 0 ≤ b) (h0 : 0 ≤ k) (h : ∀ j, 0 ≤ c j ∧ c j ≤ b) : -1 ≤ (mo c k).1 ∧ (mo c k).1 < k ∧ 0 ≤ (mo c k).2 ∧ (mo c k).2 ≤ b := by
  have := moN_rg hb h k.toNat
  unfold mo
  omega
/-- a sum that is gone through from 1 on -/
theorem sumZ_p (f : Int → Int) {n : Int} (h : 1 ≤ n) : sumZ f (n + 1 - 1) = sumZ f (n - 1) + f (n - 1) := by
  rw [show n + 1 - 1 = (n - 1) + 1 by omega, sumZ_s f (by omega)]
