/-! numbers of the machine as whole numbers: every int is iI z, every long lI z -/
def iI (z : Int) : Int32 := Int32.ofInt z
def lI (z : Int) : Int64 := Int64.ofInt z
theorem iI_of (x : Int32) : iI x.toInt = x := Int32.ofInt_toInt x
theorem iI_to {z : Int} (h1 : -2147483648 ≤ z) (h2 : z < 2147483648) : (iI z).toInt = z := Int32.toInt_ofInt_of_le (by omega) (by omega)
theorem iI_add (a b : Int) : iI a + iI b = iI (a + b) := (Int32.ofInt_add a b).symm
theorem iI_sub (a b : Int) : iI a - iI b = iI (a - b) := (Int32.ofInt_sub a b).symm
theorem iI_mul (a b : Int) : iI a * iI b = iI (a * b) := (Int32.ofInt_mul a b).symm
theorem iI_neg (a : Int) : -iI a = iI (-a) := (Int32.ofInt_neg a).symm
theorem iI_eq {a b : Int} (ha : -2147483648 ≤ a ∧ a < 2147483648) (hb : -2147483648 ≤ b ∧ b < 2147483648) : iI a = iI b ↔ a = b := by
  rw [← Int32.toInt_inj, iI_to ha.1 ha.2, iI_to hb.1 hb.2]
theorem iI_lt {a b : Int} (ha : -2147483648 ≤ a ∧ a < 2147483648) (hb : -2147483648 ≤ b ∧ b < 2147483648) : iI a < iI b ↔ a < b := by
  rw [Int32.lt_iff_toInt_lt, iI_to ha.1 ha.2, iI_to hb.1 hb.2]
theorem iI_le {a b : Int} (ha : -2147483648 ≤ a ∧ a < 2147483648) (hb : -2147483648 ≤ b ∧ b < 2147483648) : iI a ≤ iI b ↔ a ≤ b := by
  rw [Int32.le_iff_toInt_le, iI_to ha.1 ha.2, iI_to hb.1 hb.2]
theorem iI_0 : iI 0 = 0 := rfl
/-- a number wrapped into the ints -/
def zr (z : Int) : Int := (iI z).toInt
theorem zr_rg (z : Int) : -2147483648 ≤ zr z ∧ zr z < 2147483648 := ⟨Int32.le_toInt (iI z), Int32.toInt_lt (iI z)⟩
theorem iI_zr (z : Int) : iI (zr z) = iI z := iI_of (iI z)
theorem zr_of {z : Int} (h1 : -2147483648 ≤ z) (h2 : z < 2147483648) : zr z = z := iI_to h1 h2
def zdiv (a b : Int) : Int := (iI a / iI b).toInt
theorem zdiv_rg (a b : Int) : -2147483648 ≤ zdiv a b ∧ zdiv a b < 2147483648 := ⟨Int32.le_toInt _, Int32.toInt_lt _⟩
theorem iI_div (a b : Int) : iI a / iI b = iI (zdiv a b) := (iI_of _).symm
theorem iI_divN {a b : Int} (h1 : 0 ≤ a) (h2 : a < 2147483648) (h3 : 0 < b) (h4 : b < 2147483648) : iI a / iI b = iI (a / b) := by
  have h := Int32.ofInt_tdiv (a := a) (b := b) (by simp [Int32.toInt_minValue]; omega) (by simp [Int32.toInt_maxValue]; omega) (by simp [Int32.toInt_minValue]; omega) (by simp [Int32.toInt_maxValue]; omega)
  rw [Int.tdiv_eq_ediv_of_nonneg h1] at h
  exact h.symm
theorem iI_remN {a b : Int} (h1 : 0 ≤ a) (h2 : a < 2147483648) (h3 : 0 < b) (h4 : b < 2147483648) : iI a - iI a / iI b * iI b = iI (a % b) := by
  rw [iI_divN h1 h2 h3 h4, iI_mul, iI_sub]
  congr 1
  have := Int.mul_ediv_add_emod a b
  rw [Int.mul_comm] at this
  omega
theorem lI_add (a b : Int) : lI a + lI b = lI (a + b) := (Int64.ofInt_add a b).symm
theorem lI_mul (a b : Int) : lI a * lI b = lI (a * b) := (Int64.ofInt_mul a b).symm
theorem lI_sub (a b : Int) : lI a - lI b = lI (a - b) := (Int64.ofInt_sub a b).symm
theorem lI_remN {a b : Int} (h1 : 0 ≤ a) (h2 : a < 9223372036854775808) (h3 : 0 < b) (h4 : b < 9223372036854775808) : lI a - lI a / lI b * lI b = lI (a % b) := by
  have h := Int64.ofInt_tdiv (a := a) (b := b) (by simp [Int64.toInt_minValue]; omega) (by simp [Int64.toInt_maxValue]; omega) (by simp [Int64.toInt_minValue]; omega) (by simp [Int64.toInt_maxValue]; omega)
  rw [Int.tdiv_eq_ediv_of_nonneg h1] at h
  have h' : lI a / lI b = lI (a / b) := h.symm
  rw [h', lI_mul, lI_sub]
  congr 1
  have := Int.mul_ediv_add_emod a b
  rw [Int.mul_comm] at this
  omega
theorem iI_l {a : Int} (h1 : -2147483648 ≤ a) (h2 : a < 2147483648) : (iI a).toInt64 = lI a := Int32.toInt64_ofInt (by simp [Int32.toInt_minValue]; omega) (by simp [Int32.toInt_maxValue]; omega)
theorem lI_i (a : Int) : (lI a).toInt32 = iI a := Int64.toInt32_ofInt
theorem lI_to {z : Int} (h1 : -9223372036854775808 ≤ z) (h2 : z < 9223372036854775808) : (lI z).toInt = z := Int64.toInt_ofInt_of_le (by omega) (by omega)
theorem lI_ne0 {a : Int} (h1 : 0 < a) (h2 : a < 9223372036854775808) : ¬ lI a = 0 := by
  intro h
  have := congrArg Int64.toInt h
  rw [lI_to (by omega) h2] at this
  simp at this
  omega
theorem iI_ne0 {a : Int} (h1 : 0 < a) (h2 : a < 2147483648) : ¬ iI a = 0 := by
  rw [← iI_0, iI_eq (by omega) (by omega)]; omega
theorem iI_clamp {z : Int} (h1 : 0 ≤ z) (h2 : z < 2147483648) : (iI z).toNatClampNeg = z.toNat := Int32.toNatClampNeg_ofInt_of_le (by omega) (by omega)
theorem iI_in {z : Int} {n : Nat} (h0 : 0 ≤ z) (h1 : z < n) (hn : n < 2147483648) : vp_in (iI z) n := by
  rw [vp_in_iff, iI_to (by omega) (by omega)]; omega
/-! an array's contents: a function of whole numbers -/
def za (F : Int → Int) : Nat → Int32 := fun k => iI (F (k : Int))
def ups (F : Int → Int) (z v : Int) : Int → Int := fun j => if j = z then v else F j
theorem za_at (F : Int → Int) {z : Int} (h : 0 ≤ z) : za F z.toNat = iI (F z) := by
  show iI (F (z.toNat : Int)) = _
  rw [Int.toNat_of_nonneg h]
theorem za_ups (F : Int → Int) {z : Int} (v : Int) (h : 0 ≤ z) : upd (za F) z.toNat (iI v) = za (ups F z v) := by
  funext k
  by_cases hk : k = z.toNat
  · have e9 : (k : Int) = z := by omega
    show (if k = z.toNat then iI v else za F k) = iI (if (k : Int) = z then v else F k)
    rw [if_pos hk, if_pos e9]
  · have e9 : ¬ (k : Int) = z := by omega
    show (if k = z.toNat then iI v else za F k) = iI (if (k : Int) = z then v else F k)
    rw [if_neg hk, if_neg e9]
    rfl
theorem ups_s (F : Int → Int) (z v : Int) : ups F z v z = v := by simp [ups]
theorem ups_n (F : Int → Int) {z j : Int} (v : Int) (h : j ≠ z) : ups F z v j = F j := by simp [ups, h]
def bI (P : Prop) [Decidable P] : Int := if P then 1 else 0
theorem bI_t {P : Prop} [Decidable P] (h : P) : bI P = 1 := by simp [bI, h]
theorem bI_f {P : Prop} [Decidable P] (h : ¬ P) : bI P = 0 := by simp [bI, h]
theorem bI_01 (P : Prop) [Decidable P] : bI P = 0 ∨ bI P = 1 := by unfold bI; split <;> simp
theorem bI_rg (P : Prop) [Decidable P] : 0 ≤ bI P ∧ bI P ≤ 1 := by rcases bI_01 P with h | h <;> rw [h] <;> omega
theorem bI_iff {P Q : Prop} [Decidable P] [Decidable Q] (h : P ↔ Q) : bI P = bI Q := by unfold bI; simp [h]
/-! the worlds: one list of array classes for all -/
abbrev zG : Type := va_G × ClassId × ClassId × ClassId
abbrev zTy (g : zG) : List (ClassId × FieldType) := [(g.2.1, .int), (g.2.2.1, .boolean), (g.2.2.2, .object "SoundPictures$State")]
abbrev zK (g : zG) (U : State) : Prop := va_K g.1 vwCl (zTy g) U
abbrev zP (g : zG) (ws : va_W) (H : Heap) : Prop := va_P g.1 vwCl ws H
abbrev zI (g : zG) (a n : Nat) (F : Int → Int) : Nat × va_E := (a, .inl (g.2.1, n, .inl (za F)))
abbrev zB (g : zG) (a n : Nat) (F : Int → Int) : Nat × va_E := (a, .inl (g.2.2.1, n, .inl (za F)))
/-- an array's contents count within its length alone -/
theorem zI_congr {g : zG} {a n : Nat} {F G : Int → Int} {H : Heap} (h : ∀ j : Int, 0 ≤ j → j < n → F j = G j) (hF : va_at g.1 vwCl (zI g a n F) H) : va_at g.1 vwCl (zI g a n G) H := by
  show H[a]? = some (vp_cell g.2.1 (n, .inl (za G)))
  rw [show H[a]? = some (vp_cell g.2.1 (n, .inl (za F))) from hF]
  rw [vp_cell_i, vp_cell_i]
  congr 1
  unfold arrV
  congr 1
  apply congrArg
  funext j
  show Value.int (iI (F (j.val : Int))) = Value.int (iI (G (j.val : Int)))
  rw [h _ (by omega) (by have := j.isLt; omega)]
theorem zB_congr {g : zG} {a n : Nat} {F G : Int → Int} {H : Heap} (h : ∀ j : Int, 0 ≤ j → j < n → F j = G j) (hF : va_at g.1 vwCl (zB g a n F) H) : va_at g.1 vwCl (zB g a n G) H := by
  show H[a]? = some (vp_cell g.2.2.1 (n, .inl (za G)))
  rw [show H[a]? = some (vp_cell g.2.2.1 (n, .inl (za F))) from hF]
  rw [vp_cell_i, vp_cell_i]
  congr 1
  unfold arrV
  congr 1
  apply congrArg
  funext j
  show Value.int (iI (F (j.val : Int))) = Value.int (iI (G (j.val : Int)))
  rw [h _ (by omega) (by have := j.isLt; omega)]
theorem zP_set {g : zG} {ws : va_W} {H : Heap} (hP : zP g ws H) (q0 : Nat) {a : Nat} {c0 c1 : va_E} (h0 : ws[q0]? = some (a, c0)) (h : va_at g.1 vwCl (a, c0) H → va_at g.1 vwCl (a, c1) H) : zP g (ws.set q0 (a, c1)) H := by
  have hl := (List.getElem?_eq_some_iff.mp h0).1
  intro k q hk
  by_cases hkp : k = q0
  · subst hkp
    rw [List.getElem?_set_self hl] at hk
    cases hk
    exact h (hP k _ h0)
  · rw [List.getElem?_set_ne (Ne.symm hkp)] at hk
    exact hP k q hk
theorem zP_arr {g : zG} {ws : va_W} {H : Heap} (hP : zP g ws H) (q0 : Nat) {a n : Nat} {F : Int → Int} (G : Int → Int) (h0 : ws[q0]? = some (zI g a n F)) (h : ∀ j : Int, 0 ≤ j → j < n → F j = G j) : zP g (ws.set q0 (zI g a n G)) H := zP_set hP q0 h0 (zI_congr h)
theorem zP_arrB {g : zG} {ws : va_W} {H : Heap} (hP : zP g ws H) (q0 : Nat) {a n : Nat} {F : Int → Int} (G : Int → Int) (h0 : ws[q0]? = some (zB g a n F)) (h : ∀ j : Int, 0 ≤ j → j < n → F j = G j) : zP g (ws.set q0 (zB g a n G)) H := zP_set hP q0 h0 (zB_congr h)
theorem zD_set {A : Nat → Prop} {ws : va_W} (hD : va_D A ws) (q0 : Nat) {a : Nat} {c0 c1 : va_E} (h0 : ws[q0]? = some (a, c0)) : va_D A (ws.set q0 (a, c1)) := hD.set h0
