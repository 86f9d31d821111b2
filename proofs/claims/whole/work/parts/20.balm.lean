/-! the votes -/
theorem sumZ_one {f : Int → Int} {n J : Int} (h0 : 0 ≤ J) (h1 : J < n) (h : ∀ x, 0 ≤ x → x < n → x ≠ J → f x = 0) : sumZ f n = f J := by
  rw [sumZ_tail (f := f) (m := J + 1) (n := n) (by omega) (by omega) (fun j g1 g2 => h j (by omega) g2 (by omega)), sumZ_s f h0, sumZ_zero (fun j g1 g2 => h j g1 (by omega) (by omega))]
  omega
/-- the cell of a place x for what is heard at u -/
def vcl (x u : Int) : Int := x / 16 * 31 + (x % 16 - u) + 15
theorem vcl_rg {x u : Int} (h0 : 0 ≤ x) (h1 : x < 64) (h2 : 0 ≤ u) (h3 : u < 16) : 0 ≤ vcl x u ∧ vcl x u < 124 := by unfold vcl; omega
/-- how many of the first J places of a key go to cell d -/
def vc (FD : Int → Int) (re u key d J : Int) : Int := sumZ (fun x => bI (kyf FD re (x / 16) (x % 16) (x % 16 + key / 64) = key ∧ vcl x u = d)) J
/-- how many of the first i of a key's places go to cell d -/
def vci (FD : Int → Int) (re u key d i : Int) : Int := sumZ (fun x => bI ((kyf FD re (x / 16) (x % 16) (x % 16 + key / 64) = key ∧ vcl x u = d) ∧ cnt FD re key x < i)) 64
theorem vci_0 (FD : Int → Int) (re u key d : Int) : vci FD re u key d 0 = 0 := sumZ_zero (fun x g1 _ => bI_f (fun h => by have := (cnt_rg FD re key g1).1; omega))
theorem cnt_one {FD : Int → Int} {re key x J : Int} (hx : 0 ≤ x) (hJ : 0 ≤ J) (hs : kyf FD re (x / 16) (x % 16) (x % 16 + key / 64) = key) (hs2 : kyf FD re (J / 16) (J % 16) (J % 16 + key / 64) = key) (he : cnt FD re key x = cnt FD re key J) : x = J := by
  rcases Int.lt_trichotomy x J with h | h | h
  · have := cnt_lt hx h hs; omega
  · exact h
  · have := cnt_lt hJ h hs2; omega
theorem vci_s {FD : Int → Int} {re u key J : Int} (d : Int) (h0 : 0 ≤ J) (h1 : J < 64) (hs : kyf FD re (J / 16) (J % 16) (J % 16 + key / 64) = key) : vci FD re u key d (cnt FD re key J + 1) = vci FD re u key d (cnt FD re key J) + bI (vcl J u = d) := by
  unfold vci
  have e1 : sumZ (fun x => bI ((kyf FD re (x / 16) (x % 16) (x % 16 + key / 64) = key ∧ vcl x u = d) ∧ cnt FD re key x < cnt FD re key J + 1)) 64 = sumZ (fun x => bI ((kyf FD re (x / 16) (x % 16) (x % 16 + key / 64) = key ∧ vcl x u = d) ∧ cnt FD re key x < cnt FD re key J) + bI ((kyf FD re (x / 16) (x % 16) (x % 16 + key / 64) = key ∧ vcl x u = d) ∧ cnt FD re key x = cnt FD re key J)) 64 := by
    refine sumZ_cong (fun x _ _ => ?_)
    by_cases hA : kyf FD re (x / 16) (x % 16) (x % 16 + key / 64) = key ∧ vcl x u = d
    · rcases Int.lt_trichotomy (cnt FD re key x) (cnt FD re key J) with h | h | h
      · rw [bI_t ⟨hA, by omega⟩, bI_t ⟨hA, h⟩, bI_f (fun z => by omega)]; rfl
      · rw [bI_t ⟨hA, by omega⟩, bI_f (fun z => by omega), bI_t ⟨hA, h⟩]; rfl
      · rw [bI_f (fun z => by omega), bI_f (fun z => by omega), bI_f (fun z => by omega)]; rfl
    · rw [bI_f (fun z => hA z.1), bI_f (fun z => hA z.1), bI_f (fun z => hA z.1)]; rfl
  rw [e1, sumZ_add, sumZ_one (f := fun x => bI ((kyf FD re (x / 16) (x % 16) (x % 16 + key / 64) = key ∧ vcl x u = d) ∧ cnt FD re key x = cnt FD re key J)) h0 h1 (fun x g1 g2 g3 => bI_f (fun z => g3 (cnt_one g1 h0 z.1.1 hs z.2)))]
  congr 1
  exact bI_iff ⟨fun z => z.1.2, fun z => ⟨⟨hs, z⟩, rfl⟩⟩
theorem vci_e (FD : Int → Int) (re u key d : Int) : vci FD re u key d (cnt FD re key 64) = vc FD re u key d 64 := sumZ_cong (fun x g1 g2 => bI_iff ⟨fun z => z.1, fun z => ⟨z, cnt_lt g1 g2 z.1⟩⟩)
/-- a key's place number i -/
theorem cnt_nth {FD : Int → Int} {re key : Int} : ∀ (n : Nat) (i : Int), 0 ≤ i → i < cnt FD re key n → ∃ J : Int, 0 ≤ J ∧ J < (n : Int) ∧ kyf FD re (J / 16) (J % 16) (J % 16 + key / 64) = key ∧ cnt FD re key J = i
  | 0, i, h0, h1 => by rw [show ((0 : Nat) : Int) = 0 from rfl, cnt_0] at h1; omega
  | n + 1, i, h0, h1 => by
    rw [show ((n + 1 : Nat) : Int) = (n : Int) + 1 by omega, cnt_s1 FD re key (by omega)] at h1
    by_cases h2 : i < cnt FD re key n
    · obtain ⟨J, a, b, d⟩ := cnt_nth n i h0 h2
      exact ⟨J, a, by omega, d⟩
    · by_cases h3 : kyf FD re ((n : Int) / 16) ((n : Int) % 16) ((n : Int) % 16 + key / 64) = key
      · rw [bI_t h3] at h1
        exact ⟨n, by omega, by omega, h3, by omega⟩
      · rw [bI_f h3] at h1
        omega
theorem stt_rg {FD : Int → Int} {re k : Int} (h0 : 0 ≤ k) (h1 : k ≤ 384) (hT : stt FD re 384 ≤ 320) : 0 ≤ stt FD re k ∧ stt FD re k ≤ 320 := by
  have a := stt_0 FD re h0
  have b := stt_mono FD re h0 h1
  omega
/-- what the heard key of windows u, u + y + 1 gives to cell d; whether it is there; whether the ledger has it -/
def vk (FD : Int → Int) (re u d y : Int) : Int := if kyf FD re 4 u (u + (y + 1)) = -1 then 0 else vc FD re u (kyf FD re 4 u (u + (y + 1))) d 64
def vu (FD : Int → Int) (re u d : Int) : Int := sumZ (fun y => vk FD re u d y) 15
def vt (FD : Int → Int) (re d U : Int) : Int := sumZ (fun x => vu FD re x d) U
def hk (FD : Int → Int) (re u y : Int) : Int := bI (kyf FD re 4 u (u + (y + 1)) ≠ -1)
def hu (FD : Int → Int) (re u : Int) : Int := sumZ (fun y => hk FD re u y) 15
def kw (FD : Int → Int) (re u y : Int) : Int := bI (kyf FD re 4 u (u + (y + 1)) ≠ -1 ∧ 0 < cnt FD re (kyf FD re 4 u (u + (y + 1))) 64)
def ku (FD : Int → Int) (re u : Int) : Int := sumZ (fun y => kw FD re u y) 15
theorem kyf_far {FD : Int → Int} {re row u w : Int} (h : re < w - u ∨ 16 ≤ w) : kyf FD re row u w = -1 := kyf_no (by omega)
theorem vu_re {FD : Int → Int} {re u d n : Int} (h0 : 0 ≤ n) (h1 : n ≤ 15) (h : re ≤ n ∨ 15 - u ≤ n) : sumZ (fun y => vk FD re u d y) n = vu FD re u d :=
  (sumZ_tail h0 h1 (fun j g1 g2 => by show vk FD re u d j = 0; unfold vk; rw [if_pos (kyf_far (by omega))])).symm
theorem hu_re {FD : Int → Int} {re u n : Int} (h0 : 0 ≤ n) (h1 : n ≤ 15) (h : re ≤ n ∨ 15 - u ≤ n) : sumZ (fun y => hk FD re u y) n = hu FD re u :=
  (sumZ_tail h0 h1 (fun j g1 g2 => bI_f (fun z => z (kyf_far (by omega))))).symm
theorem ku_re {FD : Int → Int} {re u n : Int} (h0 : 0 ≤ n) (h1 : n ≤ 15) (h : re ≤ n ∨ 15 - u ≤ n) : sumZ (fun y => kw FD re u y) n = ku FD re u :=
  (sumZ_tail h0 h1 (fun j g1 g2 => bI_f (fun z => z.1 (kyf_far (by omega))))).symm
theorem vc_rg (FD : Int → Int) (re u key d : Int) : 0 ≤ vc FD re u key d 64 ∧ vc FD re u key d 64 ≤ 64 := sumZ_01 (by omega) (fun _ _ _ => bI_rg _)
theorem vk_rg (FD : Int → Int) (re u d y : Int) : 0 ≤ vk FD re u d y ∧ vk FD re u d y ≤ 64 := by
  unfold vk
  by_cases h : kyf FD re 4 u (u + (y + 1)) = -1
  · rw [if_pos h]; omega
  · rw [if_neg h]; exact vc_rg _ _ _ _ _
theorem sumZ_rg {f : Int → Int} {n a b : Int} (h0 : 0 ≤ n) (h : ∀ j : Int, 0 ≤ j → j < n → a ≤ f j ∧ f j ≤ b) : n * a ≤ sumZ f n ∧ sumZ f n ≤ n * b := by
  have h1 := sumN_rg (a := a) (b := b) n.toNat (fun j g1 g2 => h j g1 (by omega))
  rw [Int.toNat_of_nonneg h0] at h1
  exact h1
theorem vu_rg (FD : Int → Int) (re u d : Int) : 0 ≤ vu FD re u d ∧ vu FD re u d ≤ 960 := by
  have := sumZ_rg (f := fun y => vk FD re u d y) (n := 15) (a := 0) (b := 64) (by omega) (fun _ _ _ => vk_rg _ _ _ _ _)
  unfold vu
  omega
theorem vt_rg (FD : Int → Int) (re d : Int) : 0 ≤ vt FD re d 16 ∧ vt FD re d 16 ≤ 15360 := by
  have := sumZ_rg (f := fun x => vu FD re x d) (n := 16) (a := 0) (b := 960) (by omega) (fun _ _ _ => vu_rg _ _ _ _)
  unfold vt
  omega
/-! the ranks: cells below C with votes, the most first, of like ones the least -/
def okO (V O : Int → Int) (n C : Int) : Prop := (∀ i, 0 ≤ i → i < n → 0 ≤ O i ∧ O i < C ∧ 0 < V (O i)) ∧ (∀ i j, 0 ≤ i → i < j → j < n → V (O j) < V (O i) ∨ (V (O i) = V (O j) ∧ O i < O j)) ∧ (∀ d, 0 ≤ d → d < C → 0 < V d → ∃ i, 0 ≤ i ∧ i < n ∧ O i = d)
theorem okO_0 (V O : Int → Int) : okO V O 0 0 := ⟨fun i h1 h2 => by omega, fun i j h1 h2 h3 => by omega, fun d h1 h2 => by omega⟩
theorem okO_no {V O : Int → Int} {n C : Int} (h : okO V O n C) (hv : V C ≤ 0) : okO V O n (C + 1) := by
  refine ⟨fun i h1 h2 => ?_, h.2.1, fun d h1 h2 h3 => ?_⟩
  · have := h.1 i h1 h2; omega
  · have : d ≠ C := fun z => by rw [z] at h3; omega
    exact h.2.2 d h1 (by omega) h3
theorem okO_ins {V O OO : Int → Int} {n C k : Int} (h : okO V O n C) (hC : 0 ≤ C) (hv : 0 < V C) (k0 : 0 ≤ k) (k1 : k ≤ n) (e1 : ∀ i, 0 ≤ i → i < k → OO i = O i) (e2 : ∀ i, k < i → i ≤ n → OO i = O (i - 1)) (e3 : ∀ i, k ≤ i → i < n → V (O i) < V C) (e4 : k = 0 ∨ V C ≤ V (O (k - 1))) : okO V (ups OO k C) (n + 1) (C + 1) := by
  -- those ahead have at least as many
  have e5 : ∀ i, 0 ≤ i → i < k → V C ≤ V (O i) := by
    intro i h1 h2
    rcases e4 with e4 | e4
    · omega
    · by_cases hi : i = k - 1
      · rw [hi]; exact e4
      · have := h.2.1 i (k - 1) h1 (by omega) (by omega)
        omega
  have a1 : ∀ i, 0 ≤ i → i < k → ups OO k C i = O i := fun i h1 h2 => by rw [ups_n _ _ (by omega)]; exact e1 i h1 h2
  have a2 : ∀ i, k < i → i ≤ n → ups OO k C i = O (i - 1) := fun i h1 h2 => by rw [ups_n _ _ (by omega)]; exact e2 i h1 h2
  have a3 : ups OO k C k = C := ups_s _ _ _
  refine ⟨fun i h1 h2 => ?_, fun i j h1 h2 h3 => ?_, fun d h1 h2 h3 => ?_⟩
  · rcases Int.lt_trichotomy i k with q | q | q
    · rw [a1 i h1 q]; have := h.1 i h1 (by omega); omega
    · rw [q, a3]; omega
    · rw [a2 i q (by omega)]; have := h.1 (i - 1) (by omega) (by omega); omega
  · rcases Int.lt_trichotomy i k with q | q | q
    · rw [a1 i h1 q]
      rcases Int.lt_trichotomy j k with r | r | r
      · rw [a1 j (by omega) r]; exact h.2.1 i j h1 h2 (by omega)
      · rw [r, a3]
        have g1 := e5 i h1 q
        have g2 := h.1 i h1 (by omega)
        omega
      · rw [a2 j r (by omega)]; exact h.2.1 i (j - 1) h1 (by omega) (by omega)
    · rw [q, a3, a2 j (by omega) (by omega)]
      have := e3 (j - 1) (by omega) (by omega)
      exact Or.inl this
    · rw [a2 i q (by omega), a2 j (by omega) (by omega)]; exact h.2.1 (i - 1) (j - 1) (by omega) (by omega) (by omega)
  · by_cases hd : d = C
    · exact ⟨k, k0, by omega, by rw [a3, hd]⟩
    · obtain ⟨i, g1, g2, g3⟩ := h.2.2 d h1 (by omega) h3
      by_cases hi : i < k
      · exact ⟨i, g1, by omega, by rw [a1 i g1 hi]; exact g3⟩
      · exact ⟨i + 1, by omega, by omega, by rw [a2 (i + 1) (by omega) (by omega), show i + 1 - 1 = i by omega]; exact g3⟩
/-- the doubt, out of votes and ranks -/
def dbt (V O : Int → Int) (n : Int) : Int := if n ≤ 0 then 100 else if kr (fun x => bI (O x / 31 ≠ O 0 / 31)) n 1 0 = -1 then 0 else V (O (kr (fun x => bI (O x / 31 ≠ O 0 / 31)) n 1 0)) * 100 / V (O 0)
