/-! the ledger's numbers: places x = piece * 16 + AT, 64 in all -/
def cnt (FD : Int → Int) (re key J : Int) : Int := sumZ (fun x => bI (kyf FD re (x / 16) (x % 16) (x % 16 + key / 64) = key)) J
theorem cnt_0 (FD : Int → Int) (re key : Int) : cnt FD re key 0 = 0 := rfl
theorem cnt_s1 (FD : Int → Int) (re key : Int) {J : Int} (h : 0 ≤ J) : cnt FD re key (J + 1) = cnt FD re key J + bI (kyf FD re (J / 16) (J % 16) (J % 16 + key / 64) = key) := sumZ_s _ h
theorem cnt_s (FD : Int → Int) (re key : Int) {p v : Int} (hp : 0 ≤ p) (h0 : 0 ≤ v) (h1 : v < 16) : cnt FD re key (p * 16 + v + 1) = cnt FD re key (p * 16 + v) + bI (kyf FD re p v (v + key / 64) = key) := by
  rw [cnt_s1 FD re key (by omega), show (p * 16 + v) / 16 = p by omega, show (p * 16 + v) % 16 = v by omega]
theorem cnt_rg (FD : Int → Int) (re key : Int) {J : Int} (h : 0 ≤ J) : 0 ≤ cnt FD re key J ∧ cnt FD re key J ≤ J := sumZ_01 h (fun _ _ _ => bI_rg _)
theorem sumZ_mono {f : Int → Int} {m n : Int} (h0 : 0 ≤ m) (h1 : m ≤ n) (h : ∀ j, m ≤ j → j < n → 0 ≤ f j) : sumZ f m ≤ sumZ f n := by
  obtain ⟨k, hk⟩ : ∃ k : Nat, n = m + k := ⟨(n - m).toNat, by omega⟩
  subst hk
  clear h1
  induction k with
  | zero => rw [show m + ((0 : Nat) : Int) = m by omega]; exact Int.le_refl _
  | succ k ih =>
    rw [show m + ((k + 1 : Nat) : Int) = (m + k) + 1 by omega, sumZ_s f (by omega)]
    have h2 := h (m + k) (by omega) (by omega)
    have h3 := ih (fun j g1 g2 => h j g1 (by omega))
    omega
theorem cnt_mono (FD : Int → Int) (re key : Int) {J K : Int} (h0 : 0 ≤ J) (h1 : J ≤ K) : cnt FD re key J ≤ cnt FD re key K := sumZ_mono h0 h1 (fun _ _ _ => (bI_rg _).1)
/-- a place that has the key comes ahead of those behind it -/
theorem cnt_lt {FD : Int → Int} {re key J K : Int} (h0 : 0 ≤ J) (h1 : J < K) (hs : kyf FD re (J / 16) (J % 16) (J % 16 + key / 64) = key) : cnt FD re key J < cnt FD re key K := by
  have h2 := cnt_mono FD re key (J := J + 1) (K := K) (by omega) (by omega)
  rw [cnt_s1 FD re key h0, bI_t hs] at h2
  omega
/-- the current window's share, as far as far -/
def par1 (FD : Int → Int) (re p v far key : Int) : Int := bI (kyf FD re p v (v + key / 64) = key ∧ key / 64 < far)
theorem par1_rg (FD : Int → Int) (re p v far key : Int) : 0 ≤ par1 FD re p v far key ∧ par1 FD re p v far key ≤ 1 := bI_rg _
section LM
variable {FD : Int → Int} {re p v far key : Int} (hF : ∀ j, -1 ≤ FD j ∧ FD j ≤ 7 ∧ FD j ≠ 0) (hr : re ≤ 5)
theorem par1_1 (hk : 0 ≤ key) (hF : ∀ j, -1 ≤ FD j ∧ FD j ≤ 7 ∧ FD j ≠ 0) (hr : re ≤ 5) : par1 FD re p v 1 key = 0 := by
  refine bI_f (fun h => ?_)
  have := kyf_rg hF re p v (v + key / 64) hr
  omega
theorem par1_no (hk : 0 ≤ key) (h : kyf FD re p v (v + far) = -1) : par1 FD re p v (far + 1) key = par1 FD re p v far key := by
  refine bI_iff ⟨fun q => ⟨q.1, ?_⟩, fun q => ⟨q.1, by omega⟩⟩
  have h1 : key / 64 ≠ far := fun z => by
    have := q.1
    rw [z, h] at this
    omega
  omega
theorem par1_yes (hF : ∀ j, -1 ≤ FD j ∧ FD j ≤ 7 ∧ FD j ≠ 0) (hr : re ≤ 5) (h : kyf FD re p v (v + far) ≠ -1) : par1 FD re p v far (kyf FD re p v (v + far)) = 0 ∧ par1 FD re p v (far + 1) (kyf FD re p v (v + far)) = 1 := by
  have h1 := kyf_rg hF re p v (v + far) hr
  have h2 : kyf FD re p v (v + far) / 64 = far := by omega
  refine ⟨bI_f (fun q => by omega), bI_t ⟨by rw [h2], by omega⟩⟩
theorem par1_ne (h : kyf FD re p v (v + far) ≠ -1) (hne : key ≠ kyf FD re p v (v + far)) : par1 FD re p v (far + 1) key = par1 FD re p v far key := by
  refine bI_iff ⟨fun q => ⟨q.1, ?_⟩, fun q => ⟨q.1, by omega⟩⟩
  have h1 : key / 64 ≠ far := fun z => by
    have := q.1
    rw [z] at this
    exact hne this.symm
  omega
theorem par1_end (hk : 0 ≤ key) (hF : ∀ j, -1 ≤ FD j ∧ FD j ≤ 7 ∧ FD j ≠ 0) (hr : re ≤ 5) : par1 FD re p v (re + 1) key = bI (kyf FD re p v (v + key / 64) = key) := by
  refine bI_iff ⟨fun q => q.1, fun q => ⟨q, ?_⟩⟩
  have := kyf_rg hF re p v (v + key / 64) hr
  omega
end LM
/-- where a key's places begin -/
def stt (FD : Int → Int) (re k : Int) : Int := sumZ (fun x => cnt FD re x 64) k
theorem stt_s (FD : Int → Int) (re : Int) {k : Int} (h : 0 ≤ k) : stt FD re (k + 1) = stt FD re k + cnt FD re k 64 := sumZ_s _ h
theorem stt_mono (FD : Int → Int) (re : Int) {j k : Int} (h0 : 0 ≤ j) (h1 : j ≤ k) : stt FD re j ≤ stt FD re k := sumZ_mono h0 h1 (fun _ _ _ => (cnt_rg FD re _ (by omega)).1)
theorem stt_0 (FD : Int → Int) (re : Int) {k : Int} (h0 : 0 ≤ k) : 0 ≤ stt FD re k := stt_mono FD re (Int.le_refl 0) h0
/-- two places of the ledger are apart -/
theorem stt_apart {FD : Int → Int} {re key J key2 J2 : Int} (hk : 0 ≤ key) (hk2 : 0 ≤ key2) (hJ : 0 ≤ J) (hJ2 : 0 ≤ J2) (hJ4 : J < 64) (hJ5 : J2 < 64) (hs : kyf FD re (J / 16) (J % 16) (J % 16 + key / 64) = key) (hs2 : kyf FD re (J2 / 16) (J2 % 16) (J2 % 16 + key2 / 64) = key2) (he : stt FD re key + cnt FD re key J = stt FD re key2 + cnt FD re key2 J2) : key = key2 ∧ J = J2 := by
  have a1 := cnt_lt hJ hJ4 hs
  have a2 := cnt_lt hJ2 hJ5 hs2
  have b1 := (cnt_rg FD re key hJ).1
  have b2 := (cnt_rg FD re key2 hJ2).1
  have c1 := stt_s FD re hk
  have c2 := stt_s FD re hk2
  have hkk : key = key2 := by
    rcases Int.lt_trichotomy key key2 with h | h | h
    · have := stt_mono FD re (j := key + 1) (k := key2) (by omega) (by omega)
      omega
    · exact h
    · have := stt_mono FD re (j := key2 + 1) (k := key) (by omega) (by omega)
      omega
  subst hkk
  refine ⟨rfl, ?_⟩
  rcases Int.lt_trichotomy J J2 with h | h | h
  · have := cnt_lt hJ h hs
    omega
  · exact h
  · have := cnt_lt hJ2 h hs2
    omega
/-- the entries: each place stands where its key's places begin, behind those ahead of it -/
def enOK (FD : Int → Int) (re : Int) (EN : Int → Int) : Prop := ∀ key J, 0 ≤ key → key < 384 → 0 ≤ J → J < 64 → kyf FD re (J / 16) (J % 16) (J % 16 + key / 64) = key → EN (stt FD re key + cnt FD re key J) = 1000 * (J / 16) + J % 16
/-- the first so many, as the reference goes through them -/
def krN (f : Int → Int) : Nat → Int → Int → Int
  | 0, _, _ => -1
  | n + 1, k, lf => if 0 < f k then (if lf = 0 then k else krN f n (k + 1) (lf - 1)) else krN f n (k + 1) lf
theorem krN_cong {f h : Int → Int} : ∀ (n : Nat) (k lf : Int), (∀ j, k ≤ j → j < k + n → f j = h j) → krN f n k lf = krN h n k lf
  | 0, _, _, _ => rfl
  | n + 1, k, lf, hh => by
    show (if 0 < f k then (if lf = 0 then k else krN f n (k + 1) (lf - 1)) else krN f n (k + 1) lf) = (if 0 < h k then (if lf = 0 then k else krN h n (k + 1) (lf - 1)) else krN h n (k + 1) lf)
    rw [hh k (by omega) (by omega), krN_cong n (k + 1) (lf - 1) (fun j g1 g2 => hh j (by omega) (by omega)), krN_cong n (k + 1) lf (fun j g1 g2 => hh j (by omega) (by omega))]
def kr (f : Int → Int) (e k lf : Int) : Int := krN f (e - k).toNat k lf
theorem kr_e (f : Int → Int) {e k : Int} (lf : Int) (h : e ≤ k) : kr f e k lf = -1 := by
  unfold kr
  rw [show (e - k).toNat = 0 by omega]
  rfl
theorem kr_s (f : Int → Int) {e k : Int} (lf : Int) (h : k < e) : kr f e k lf = if 0 < f k then (if lf = 0 then k else kr f e (k + 1) (lf - 1)) else kr f e (k + 1) lf := by
  unfold kr
  rw [show (e - k).toNat = (e - (k + 1)).toNat + 1 by omega]
  rfl
theorem kr_n {f : Int → Int} {e k : Int} (lf : Int) (h : k < e) (h2 : f k ≤ 0) : kr f e (k + 1) lf = kr f e k lf := by
  rw [kr_s f lf h, if_neg (by omega)]
theorem kr_y0 {f : Int → Int} {e k : Int} (h : k < e) (h2 : 0 < f k) : kr f e k 0 = k := by
  rw [kr_s f 0 h, if_pos h2, if_pos rfl]
theorem kr_y {f : Int → Int} {e k lf : Int} (h : k < e) (h2 : 0 < f k) (h3 : lf ≠ 0) : kr f e (k + 1) (lf - 1) = kr f e k lf := by
  rw [kr_s f lf h, if_pos h2, if_neg h3]
theorem kr_cong {f h : Int → Int} {e k lf : Int} (hh : ∀ j, k ≤ j → j < e → f j = h j) : kr f e k lf = kr h e k lf := krN_cong _ _ _ (fun j g1 g2 => hh j g1 (by omega))
