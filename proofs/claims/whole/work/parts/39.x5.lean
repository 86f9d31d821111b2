set_option maxRecDepth 20000 in
theorem in_m_X5_share_X5 : ∀ w ∈ u_ws RX5 TX5 7, w ∈ wsX5_share := zmem_of _ [45, 46, 47, 48, 49, 50, 51] (by decide +kernel)
set_option maxHeartbeats 4000000 in
set_option maxRecDepth 100000 in
theorem m_X5_share (l : Launch) (g : zG) (o h b im a d bb : Nat) (fr : Int) (hn hs : Nat) (fl re : Int) (NU SZ : Int → Int) (aw af ao : Nat) (WA : Int → Int) (pi_ w k : Int) (z1 : ∀ q, 0 ≤ q → q < 5 → 0 ≤ SZ q ∧ SZ q ≤ 128) (a1 : (0 ≤ pi_ ∧ pi_ ≤ 4) ∧ (0 ≤ w ∧ w ≤ SZ pi_ / 8 - 1)) (a2 : 0 ≤ k ∧ k ≤ 7) : zE l yX5_share wsX5_share ({ frames := 3, cells := 0, slots := 0, locals := 72 }) g [.ref o, .int (iI pi_), .int (iI w), .int (iI k)] [(o, .inr (5, [.ref h, .ref b, .ref im, .ref a, .ref d, .ref bb, .int (iI fr)])), (h, .inr (4, [.ref hn, .ref hs, .int (iI fl), .int (iI re)])), zI g hn 640 NU, zI g hs 5 SZ, (a, .inr (3, [.ref aw, .ref af, .ref ao])), zI g aw 8 WA] (S := Unit) (fun r _ => r = sh (wv (fun i => NU (pi_ * 128 + (w * 8 + i)))) k) (fun _ => [(o, .inr (5, [.ref h, .ref b, .ref im, .ref a, .ref d, .ref bb, .int (iI fr)])), (h, .inr (4, [.ref hn, .ref hs, .int (iI fl), .int (iI re)])), zI g hn 640 NU, zI g hs 5 SZ, (a, .inr (3, [.ref aw, .ref af, .ref ao])), zI g aw 8 (wv (fun i => NU (pi_ * 128 + (w * 8 + i))))]) := by
  refine z_entE (cc := cX5_share) (nL := 4) (ret := (some .int)) (own := RX5) (by decide) rfl rfl (Nat.le_of_ble_eq_true rfl) ?_
  intro p e s m below meth c Q ls A C hlk hr hQ hP hK hD hA hS hl
  have hx := C.1
  have hb := C.2.1
  have hl : lv_has ls 4 [(0, .ref o), (1, .int (iI pi_)), (2, .int (iI w)), (3, .int (iI k))] := hl
  obtain ⟨H, hHe⟩ : ∃ H, H = s.heap := ⟨_, rfl⟩
  obtain ⟨locs, hLe⟩ : ∃ q : List Loc, q = [] := ⟨_, rfl⟩
  have hP : zP g [(o, .inr (5, [.ref h, .ref b, .ref im, .ref a, .ref d, .ref bb, .int (iI fr)])), (h, .inr (4, [.ref hn, .ref hs, .int (iI fl), .int (iI re)])), zI g hn 640 NU, zI g hs 5 SZ, (a, .inr (3, [.ref aw, .ref af, .ref ao])), zI g aw 8 WA] H := by rw [hHe]; exact hP
  have hS : va_S A s.heap H locs := by rw [hHe, hLe]; exact hS
  suffices hgo : W p l e ({ frames := 3, cells := 0, slots := 0, locals := 72 }) s m ([.ref o, .int (iI pi_), .int (iI w), .int (iI k)] : List Value).toArray below meth c H locs 0 0 Q (F0 m 0 ls []) by rw [hHe, hLe] at hgo; exact hgo
  clear hHe hLe
  have hz1 := z1 pi_ (by omega) (by omega)
  refine lv_aload_n hx hb dX5_share_0 rfl (lv_at hl 0 rfl) ?_
  refine lv_iload_n hx hb dX5_share_1 rfl (lv_at hl 1 rfl) ?_
  refine lv_iload_n hx hb dX5_share_2 rfl (lv_at hl 2 rfl) ?_
  refine z_cS (As := [.int (iI pi_), .int (iI w)]) (rest := []) C (m_X5_isWindow (l := l) (g := g) (o := o) (h := h) (b := b) (im := im) (a := a) (d := d) (bb := bb) (fr := fr) (hn := hn) (hs := hs) (fl := fl) (re := re) (SZ := SZ) (pi_ := pi_) (w := w) (g_pi_ := by omega) (g_w := by omega) (z1 := z1)) (cwV 2 C.2.2.2.2 gX5_share_X5_isWindow rfl rfl rfl (by decide +kernel) ⟨Nat.le_of_ble_eq_true rfl, Nat.le_of_ble_eq_true rfl⟩) hK hP [0, 1, 3] rfl 0 rfl rfl rfl hl.1 rfl (Nat.le_of_ble_eq_true rfl) dX5_share_3 ⟨Nat.zero_le _, Nat.zero_le _⟩ ?_
  refine z_ifb_ne (tgt := 12) hx hb dX5_share_6 (by decide) (fun c_1 => ?_) (fun c_1 => ?_)
  · refine lv_iload_n hx hb dX5_share_12 rfl (lv_at hl 3 rfl) ?_
    refine lv_iconst (v := iI 0) hx hb dX5_share_13 rfl ?_
    refine lv_bipush (v := iI 7) hx hb dX5_share_14 (by decide +kernel) ?_
    refine z_cSS (As := [.int (iI k), .int (iI 0), .int (iI 7)]) (rest := []) C (m_X5_isWithin (l := l) (g := g) (v := k) (lo := 0) (hi := 7) (g_v := by omega) (g_lo := by omega) (g_hi := by omega)) (cwS 3 C.2.2.2.2 gX5_share_X5_isWithin rfl rfl rfl (by decide +kernel) ⟨Nat.le_of_ble_eq_true rfl, Nat.le_of_ble_eq_true rfl⟩) hK hP [] rfl rfl hl.1 rfl (Nat.le_of_ble_eq_true rfl) dX5_share_16 ⟨Nat.zero_le _, Nat.zero_le _⟩ ?_
    refine z_ifb_ne (tgt := 25) hx hb dX5_share_19 (by decide) (fun c_2 => ?_) (fun c_2 => ?_)
    · refine lv_aload_n hx hb dX5_share_25 rfl (lv_at hl 0 rfl) ?_
      refine z_get (v := .ref a) (Cn := RX5) (T := TX5) (N := 7) (ci := 5) C in_m_X5_share_X5 hK hP 0 rfl rfl 3 (by decide) (List.mem_of_getElem? (i := 3) rfl) rfl dX5_share_26 ?_
      refine lv_aload_n hx hb dX5_share_29 rfl (lv_at hl 0 rfl) ?_
      refine z_get (v := .ref h) (Cn := RX5) (T := TX5) (N := 7) (ci := 5) C in_m_X5_share_X5 hK hP 0 rfl rfl 0 (by decide) (List.mem_of_getElem? (i := 4) rfl) rfl dX5_share_30 ?_
      refine lv_iload_n hx hb dX5_share_33 rfl (lv_at hl 1 rfl) ?_
      refine lv_iload_n hx hb dX5_share_34 rfl (lv_at hl 2 rfl) ?_
      refine lv_iload_n hx hb dX5_share_35 rfl (lv_at hl 3 rfl) ?_
      refine z_cE (As := [.ref h, .int (iI pi_), .int (iI w), .int (iI k)]) (rest := []) C (m_X3_shareIn (l := l) (g := g) (a := a) (aw := aw) (af := af) (ao := ao) (h := h) (hn := hn) (hs := hs) (fl := fl) (re := re) (WA := WA) (NU := NU) (row := pi_) (wi := w) (wave := k) (h1 := by omega) (h2 := by omega) (w1 := by omega) (w2 := by omega) (v1 := by omega) (v2 := by omega)) (cwV 4 C.2.2.2.2 gX5_share_X3_shareIn rfl rfl rfl (by decide +kernel) ⟨Nat.le_of_ble_eq_true rfl, Nat.le_of_ble_eq_true rfl⟩) hK hP hD hS hA [4, 5, 1, 2] (by decide) rfl (fun _ => rfl) 4 rfl rfl rfl hl.1 rfl (Nat.le_of_ble_eq_true rfl) dX5_share_36 ⟨Nat.zero_le _, Nat.zero_le _⟩ (fun r_5 u_3 H locs hq_4 hP hD hS => ?_)
      have hq_4 : r_5 = sh (wv (fun i => NU (pi_ * 128 + (w * 8 + i)))) k := hq_4
      subst hq_4
      have hP : zP g [(o, .inr (5, [.ref h, .ref b, .ref im, .ref a, .ref d, .ref bb, .int (iI fr)])), (h, .inr (4, [.ref hn, .ref hs, .int (iI fl), .int (iI re)])), zI g hn 640 NU, zI g hs 5 SZ, (a, .inr (3, [.ref aw, .ref af, .ref ao])), zI g aw 8 (wv (fun i => NU (pi_ * 128 + (w * 8 + i))))] H := hP
      have hD : va_D A [(o, .inr (5, [.ref h, .ref b, .ref im, .ref a, .ref d, .ref bb, .int (iI fr)])), (h, .inr (4, [.ref hn, .ref hs, .int (iI fl), .int (iI re)])), zI g hn 640 NU, zI g hs 5 SZ, (a, .inr (3, [.ref aw, .ref af, .ref ao])), zI g aw 8 (wv (fun i => NU (pi_ * 128 + (w * 8 + i))))] := hD
      exact z_retE hx hb hlk hr hQ dX5_share_39 hS () (rfl) (hP)
    · exfalso; omega
  · exfalso; omega
set_option maxHeartbeats 4000000 in
set_option maxRecDepth 100000 in
theorem m_X5_share_n (l : Launch) (g : zG) (o h b im a d bb : Nat) (fr : Int) (hn hs : Nat) (fl re : Int) (SZ : Int → Int) (pi_ w k : Int) (z1 : ∀ q, 0 ≤ q → q < 5 → 0 ≤ SZ q ∧ SZ q ≤ 128) (g_pi_ : -2147483648 ≤ pi_ ∧ pi_ < 2147483648) (g_w : -2147483648 ≤ w ∧ w < 2147483648) (g_k : -2147483648 ≤ k ∧ k < 2147483648) (rf : ¬ (((0 ≤ pi_ ∧ pi_ ≤ 4) ∧ (0 ≤ w ∧ w ≤ SZ pi_ / 8 - 1)) ∧ 0 ≤ k ∧ k ≤ 7)) : zS l yX5_share wsX5_share ({ frames := 3, cells := 0, slots := 0, locals := 64 }) g [.ref o, .int (iI pi_), .int (iI w), .int (iI k)] [(o, .inr (5, [.ref h, .ref b, .ref im, .ref a, .ref d, .ref bb, .int (iI fr)])), (h, .inr (4, [.ref hn, .ref hs, .int (iI fl), .int (iI re)])), zI g hs 5 SZ] (if ¬ ((0 ≤ pi_ ∧ pi_ ≤ 4) ∧ (0 ≤ w ∧ w ≤ SZ pi_ / 8 - 1)) then -1000000001 else -1000000002) := by
  refine z_entS (cc := cX5_share) (nL := 4) (ret := (some .int)) (own := RX5) (by decide) rfl rfl (Nat.le_of_ble_eq_true rfl) ?_
  intro p e s m below meth c Q ls C hlk hr hQ hP hK hl
  have hx := C.1
  have hb := C.2.1
  have hl : lv_has ls 4 [(0, .ref o), (1, .int (iI pi_)), (2, .int (iI w)), (3, .int (iI k))] := hl
  refine lv_aload_n hx hb dX5_share_0 rfl (lv_at hl 0 rfl) ?_
  refine lv_iload_n hx hb dX5_share_1 rfl (lv_at hl 1 rfl) ?_
  refine lv_iload_n hx hb dX5_share_2 rfl (lv_at hl 2 rfl) ?_
  refine z_cS (As := [.int (iI pi_), .int (iI w)]) (rest := []) C (m_X5_isWindow (l := l) (g := g) (o := o) (h := h) (b := b) (im := im) (a := a) (d := d) (bb := bb) (fr := fr) (hn := hn) (hs := hs) (fl := fl) (re := re) (SZ := SZ) (pi_ := pi_) (w := w) (g_pi_ := by omega) (g_w := by omega) (z1 := z1)) (cwV 2 C.2.2.2.2 gX5_share_X5_isWindow rfl rfl rfl (by decide +kernel) ⟨Nat.le_of_ble_eq_true rfl, Nat.le_of_ble_eq_true rfl⟩) hK hP [0, 1, 2] rfl 0 rfl rfl rfl hl.1 rfl (Nat.le_of_ble_eq_true rfl) dX5_share_3 ⟨Nat.zero_le _, Nat.zero_le _⟩ ?_
  refine z_ifb_ne (tgt := 12) hx hb dX5_share_6 (by decide) (fun c1 => ?_) (fun c1 => ?_)
  · refine lv_iload_n hx hb dX5_share_12 rfl (lv_at hl 3 rfl) ?_
    refine lv_iconst (v := iI 0) hx hb dX5_share_13 rfl ?_
    refine lv_bipush (v := iI 7) hx hb dX5_share_14 (by decide +kernel) ?_
    refine z_cSS (As := [.int (iI k), .int (iI 0), .int (iI 7)]) (rest := []) C (m_X5_isWithin (l := l) (g := g) (v := k) (lo := 0) (hi := 7) (g_v := by omega) (g_lo := by omega) (g_hi := by omega)) (cwS 3 C.2.2.2.2 gX5_share_X5_isWithin rfl rfl rfl (by decide +kernel) ⟨Nat.le_of_ble_eq_true rfl, Nat.le_of_ble_eq_true rfl⟩) hK hP [] rfl rfl hl.1 rfl (Nat.le_of_ble_eq_true rfl) dX5_share_16 ⟨Nat.zero_le _, Nat.zero_le _⟩ ?_
    refine z_ifb_ne (tgt := 25) hx hb dX5_share_19 (by decide) (fun c_1 => ?_) (fun c_1 => ?_)
    · exact absurd ⟨c1, c_1⟩ rf
    · refine z_ldc C (List.mem_of_getElem? (i := 2) rfl) (-1000000002) (by decide +kernel) dX5_share_22 ?_
      exact z_retS hx hb hlk hr hQ dX5_share_24 ((if_neg (fun z => z c1)).symm)
  · refine z_ldc C (List.mem_of_getElem? (i := 1) rfl) (-1000000001) (by decide +kernel) dX5_share_9 ?_
    exact z_retS hx hb hlk hr hQ dX5_share_11 ((if_pos c1).symm)
set_option maxRecDepth 20000 in
theorem in_m_X5_peak_X5 : ∀ w ∈ u_ws RX5 TX5 7, w ∈ wsX5_peak := zmem_of _ [130, 131, 132, 133, 134, 135, 136] (by decide +kernel)
set_option maxHeartbeats 4000000 in
set_option maxRecDepth 100000 in
theorem m_X5_peak (l : Launch) (g : zG) (o h b im a d bb : Nat) (fr : Int) (hn hs : Nat) (fl re : Int) (NU SZ : Int → Int) (aw af ao ds df de bc bo : Nat) (WA FD ST FI EN CE OR : Int → Int) (un rk he kn al : Int) (pi_ w : Int) (hfr : fr = 0 ∨ (fr = 1 ∧ fOK (pf NU SZ fl) re FD ST EN CE OR un rk he kn al)) (f1 : 0 ≤ fl ∧ fl ≤ 99999) (f2 : 1 ≤ re ∧ re ≤ 5) (z1 : ∀ q, 0 ≤ q → q < 5 → 0 ≤ SZ q ∧ SZ q ≤ 128) (a1 : (0 ≤ pi_ ∧ pi_ ≤ 4) ∧ (0 ≤ w ∧ w ≤ SZ pi_ / 8 - 1)) : zE l yX5_peak wsX5_peak ({ frames := 5, cells := 0, slots := 0, locals := 118 }) g [.ref o, .int (iI pi_), .int (iI w)] [(o, .inr (5, [.ref h, .ref b, .ref im, .ref a, .ref d, .ref bb, .int (iI fr)])), (h, .inr (4, [.ref hn, .ref hs, .int (iI fl), .int (iI re)])), zI g hn 640 NU, zI g hs 5 SZ, (a, .inr (3, [.ref aw, .ref af, .ref ao])), zI g aw 8 WA, zI g af 80 FD, (d, .inr (1, [.ref ds, .ref df, .ref de, .int (iI un)])), zI g ds 385 ST, zI g df 384 FI, zI g de 320 EN, (bb, .inr (0, [.ref bc, .ref bo, .int (iI rk), .int (iI he), .int (iI kn), .int (iI al)])), zI g bc 124 CE, zI g bo 124 OR] (S := ((Int → Int) × (Int → Int) × (Int → Int) × (Int → Int))) (fun r u => (r = pf NU SZ fl (pi_ * 16 + w)) ∧ cOK (pf NU SZ fl) re u.2.2.1 u.2.2.2) (fun u => [(o, .inr (5, [.ref h, .ref b, .ref im, .ref a, .ref d, .ref bb, .int (iI 1)])), (h, .inr (4, [.ref hn, .ref hs, .int (iI fl), .int (iI re)])), zI g hn 640 NU, zI g hs 5 SZ, (a, .inr (3, [.ref aw, .ref af, .ref ao])), zI g aw 8 (u.1), zI g af 80 (pf NU SZ fl), (d, .inr (1, [.ref ds, .ref df, .ref de, .int (iI (un_ (pf NU SZ fl) re))])), zI g ds 385 (stt (pf NU SZ fl) re), zI g df 384 (u.2.1), zI g de 320 (u.2.2.1), (bb, .inr (0, [.ref bc, .ref bo, .int (iI (nt_ (pf NU SZ fl) re)), .int (iI (he_ (pf NU SZ fl) re)), .int (iI (ku_ (pf NU SZ fl) re)), .int (iI (al_ (pf NU SZ fl) re))])), zI g bc 124 (V_ (pf NU SZ fl) re), zI g bo 124 (u.2.2.2)]) := by
  refine z_entE (cc := cX5_peak) (nL := 3) (ret := (some .int)) (own := RX5) (by decide) rfl rfl (Nat.le_of_ble_eq_true rfl) ?_
  intro p e s m below meth c Q ls A C hlk hr hQ hP hK hD hA hS hl
  have hx := C.1
  have hb := C.2.1
  have hl : lv_has ls 3 [(0, .ref o), (1, .int (iI pi_)), (2, .int (iI w))] := hl
  obtain ⟨H, hHe⟩ : ∃ H, H = s.heap := ⟨_, rfl⟩
  obtain ⟨locs, hLe⟩ : ∃ q : List Loc, q = [] := ⟨_, rfl⟩
  have hP : zP g [(o, .inr (5, [.ref h, .ref b, .ref im, .ref a, .ref d, .ref bb, .int (iI fr)])), (h, .inr (4, [.ref hn, .ref hs, .int (iI fl), .int (iI re)])), zI g hn 640 NU, zI g hs 5 SZ, (a, .inr (3, [.ref aw, .ref af, .ref ao])), zI g aw 8 WA, zI g af 80 FD, (d, .inr (1, [.ref ds, .ref df, .ref de, .int (iI un)])), zI g ds 385 ST, zI g df 384 FI, zI g de 320 EN, (bb, .inr (0, [.ref bc, .ref bo, .int (iI rk), .int (iI he), .int (iI kn), .int (iI al)])), zI g bc 124 CE, zI g bo 124 OR] H := by rw [hHe]; exact hP
  have hS : va_S A s.heap H locs := by rw [hHe, hLe]; exact hS
  suffices hgo : W p l e ({ frames := 5, cells := 0, slots := 0, locals := 118 }) s m ([.ref o, .int (iI pi_), .int (iI w)] : List Value).toArray below meth c H locs 0 0 Q (F0 m 0 ls []) by rw [hHe, hLe] at hgo; exact hgo
  clear hHe hLe
  have hz1 := z1 pi_ (by omega) (by omega)
  refine lv_aload_n hx hb dX5_peak_0 rfl (lv_at hl 0 rfl) ?_
  refine lv_iload_n hx hb dX5_peak_1 rfl (lv_at hl 1 rfl) ?_
  refine lv_iload_n hx hb dX5_peak_2 rfl (lv_at hl 2 rfl) ?_
  refine z_cS (As := [.int (iI pi_), .int (iI w)]) (rest := []) C (m_X5_isWindow (l := l) (g := g) (o := o) (h := h) (b := b) (im := im) (a := a) (d := d) (bb := bb) (fr := fr) (hn := hn) (hs := hs) (fl := fl) (re := re) (SZ := SZ) (pi_ := pi_) (w := w) (g_pi_ := by omega) (g_w := by omega) (z1 := z1)) (cwV 2 C.2.2.2.2 gX5_peak_X5_isWindow rfl rfl rfl (by decide +kernel) ⟨Nat.le_of_ble_eq_true rfl, Nat.le_of_ble_eq_true rfl⟩) hK hP [0, 1, 3] rfl 0 rfl rfl rfl hl.1 rfl (Nat.le_of_ble_eq_true rfl) dX5_peak_3 ⟨Nat.zero_le _, Nat.zero_le _⟩ ?_
  refine z_ifb_ne (tgt := 12) hx hb dX5_peak_6 (by decide) (fun c_1 => ?_) (fun c_1 => ?_)
  · refine lv_aload_n hx hb dX5_peak_12 rfl (lv_at hl 0 rfl) ?_
    refine z_cV (As := []) (rest := []) C (m_X5_refresh (l := l) (g := g) (o := o) (h := h) (b := b) (im := im) (a := a) (d := d) (bb := bb) (fr := fr) (hn := hn) (hs := hs) (fl := fl) (re := re) (NU := NU) (SZ := SZ) (aw := aw) (af := af) (ao := ao) (ds := ds) (df := df) (de := de) (bc := bc) (bo := bo) (WA := WA) (FD := FD) (ST := ST) (FI := FI) (EN := EN) (CE := CE) (OR := OR) (un := un) (rk := rk) (he := he) (kn := kn) (al := al) (hfr := hfr) (f1 := by omega) (f2 := by omega) (z1 := z1)) (cwV 0 C.2.2.2.2 gX5_peak_X5_refresh rfl rfl rfl (by decide +kernel) ⟨Nat.le_of_ble_eq_true rfl, Nat.le_of_ble_eq_true rfl⟩) hK hP hD hS hA [0, 1, 2, 3, 4, 5, 6, 7, 8, 9, 10, 11, 12, 13] (by decide) rfl (fun _ => rfl) 0 rfl rfl rfl hl.1 rfl (Nat.le_of_ble_eq_true rfl) dX5_peak_13 ⟨Nat.zero_le _, Nat.zero_le _⟩ (fun u H locs hu hP hD hS => ?_)
    have hP : zP g [(o, .inr (5, [.ref h, .ref b, .ref im, .ref a, .ref d, .ref bb, .int (iI 1)])), (h, .inr (4, [.ref hn, .ref hs, .int (iI fl), .int (iI re)])), zI g hn 640 NU, zI g hs 5 SZ, (a, .inr (3, [.ref aw, .ref af, .ref ao])), zI g aw 8 (u.1), zI g af 80 (pf NU SZ fl), (d, .inr (1, [.ref ds, .ref df, .ref de, .int (iI (un_ (pf NU SZ fl) re))])), zI g ds 385 (stt (pf NU SZ fl) re), zI g df 384 (u.2.1), zI g de 320 (u.2.2.1), (bb, .inr (0, [.ref bc, .ref bo, .int (iI (nt_ (pf NU SZ fl) re)), .int (iI (he_ (pf NU SZ fl) re)), .int (iI (ku_ (pf NU SZ fl) re)), .int (iI (al_ (pf NU SZ fl) re))])), zI g bc 124 (V_ (pf NU SZ fl) re), zI g bo 124 (u.2.2.2)] H := hP
    have hD : va_D A [(o, .inr (5, [.ref h, .ref b, .ref im, .ref a, .ref d, .ref bb, .int (iI 1)])), (h, .inr (4, [.ref hn, .ref hs, .int (iI fl), .int (iI re)])), zI g hn 640 NU, zI g hs 5 SZ, (a, .inr (3, [.ref aw, .ref af, .ref ao])), zI g aw 8 (u.1), zI g af 80 (pf NU SZ fl), (d, .inr (1, [.ref ds, .ref df, .ref de, .int (iI (un_ (pf NU SZ fl) re))])), zI g ds 385 (stt (pf NU SZ fl) re), zI g df 384 (u.2.1), zI g de 320 (u.2.2.1), (bb, .inr (0, [.ref bc, .ref bo, .int (iI (nt_ (pf NU SZ fl) re)), .int (iI (he_ (pf NU SZ fl) re)), .int (iI (ku_ (pf NU SZ fl) re)), .int (iI (al_ (pf NU SZ fl) re))])), zI g bc 124 (V_ (pf NU SZ fl) re), zI g bo 124 (u.2.2.2)] := hD
    have hnt := nt_rg (pf NU SZ fl) re
    obtain ⟨hE, hT, hO⟩ := hu
    refine lv_aload_n hx hb dX5_peak_16 rfl (lv_at hl 0 rfl) ?_
    refine z_get (v := .ref a) (Cn := RX5) (T := TX5) (N := 7) (ci := 5) C in_m_X5_peak_X5 hK hP 0 rfl rfl 3 (by decide) (List.mem_of_getElem? (i := 2) rfl) rfl dX5_peak_17 ?_
    refine lv_iload_n hx hb dX5_peak_20 rfl (lv_at hl 1 rfl) ?_
    refine lv_iload_n hx hb dX5_peak_21 rfl (lv_at hl 2 rfl) ?_
    refine z_cS (As := [.int (iI pi_), .int (iI w)]) (rest := []) C (m_X3_peakOf (l := l) (g := g) (a := a) (aw := aw) (af := af) (ao := ao) (FD := pf NU SZ fl) (row := pi_) (w := w) (h1 := by omega) (h2 := by omega)) (cwV 2 C.2.2.2.2 gX5_peak_X3_peakOf rfl rfl rfl (by decide +kernel) ⟨Nat.le_of_ble_eq_true rfl, Nat.le_of_ble_eq_true rfl⟩) hK hP [4, 6] rfl 4 rfl rfl rfl hl.1 rfl (Nat.le_of_ble_eq_true rfl) dX5_peak_22 ⟨Nat.zero_le _, Nat.zero_le _⟩ ?_
    exact z_retE hx hb hlk hr hQ dX5_peak_25 hS u (⟨rfl, hE, hT, hO⟩) (hP)
  · exfalso; omega
set_option maxHeartbeats 4000000 in
set_option maxRecDepth 100000 in
theorem m_X5_peak_n (l : Launch) (g : zG) (o h b im a d bb : Nat) (fr : Int) (hn hs : Nat) (fl re : Int) (SZ : Int → Int) (pi_ w : Int) (z1 : ∀ q, 0 ≤ q → q < 5 → 0 ≤ SZ q ∧ SZ q ≤ 128) (g_pi_ : -2147483648 ≤ pi_ ∧ pi_ < 2147483648) (g_w : -2147483648 ≤ w ∧ w < 2147483648) (rf : ¬ ((0 ≤ pi_ ∧ pi_ ≤ 4) ∧ (0 ≤ w ∧ w ≤ SZ pi_ / 8 - 1))) : zS l yX5_peak wsX5_peak ({ frames := 3, cells := 0, slots := 0, locals := 64 }) g [.ref o, .int (iI pi_), .int (iI w)] [(o, .inr (5, [.ref h, .ref b, .ref im, .ref a, .ref d, .ref bb, .int (iI fr)])), (h, .inr (4, [.ref hn, .ref hs, .int (iI fl), .int (iI re)])), zI g hs 5 SZ] (-1000000001) := by
  refine z_entS (cc := cX5_peak) (nL := 3) (ret := (some .int)) (own := RX5) (by decide) rfl rfl (Nat.le_of_ble_eq_true rfl) ?_
  intro p e s m below meth c Q ls C hlk hr hQ hP hK hl
  have hx := C.1
  have hb := C.2.1
  have hl : lv_has ls 3 [(0, .ref o), (1, .int (iI pi_)), (2, .int (iI w))] := hl
  refine lv_aload_n hx hb dX5_peak_0 rfl (lv_at hl 0 rfl) ?_
  refine lv_iload_n hx hb dX5_peak_1 rfl (lv_at hl 1 rfl) ?_
  refine lv_iload_n hx hb dX5_peak_2 rfl (lv_at hl 2 rfl) ?_
  refine z_cS (As := [.int (iI pi_), .int (iI w)]) (rest := []) C (m_X5_isWindow (l := l) (g := g) (o := o) (h := h) (b := b) (im := im) (a := a) (d := d) (bb := bb) (fr := fr) (hn := hn) (hs := hs) (fl := fl) (re := re) (SZ := SZ) (pi_ := pi_) (w := w) (g_pi_ := by omega) (g_w := by omega) (z1 := z1)) (cwV 2 C.2.2.2.2 gX5_peak_X5_isWindow rfl rfl rfl (by decide +kernel) ⟨Nat.le_of_ble_eq_true rfl, Nat.le_of_ble_eq_true rfl⟩) hK hP [0, 1, 2] rfl 0 rfl rfl rfl hl.1 rfl (Nat.le_of_ble_eq_true rfl) dX5_peak_3 ⟨Nat.zero_le _, Nat.zero_le _⟩ ?_
  refine z_ifb_ne (tgt := 12) hx hb dX5_peak_6 (by decide) (fun c_1 => ?_) (fun c_1 => ?_)
  · exact absurd c_1 rf
  · refine z_ldc C (List.mem_of_getElem? (i := 1) rfl) (-1000000001) (by decide +kernel) dX5_peak_9 ?_
    exact z_retS hx hb hlk hr hQ dX5_peak_11 (rfl)
set_option maxRecDepth 20000 in
theorem in_m_X5_key_X5 : ∀ w ∈ u_ws RX5 TX5 7, w ∈ wsX5_key := zmem_of _ [130, 131, 132, 133, 134, 135, 136] (by decide +kernel)
set_option maxHeartbeats 4000000 in
set_option maxRecDepth 100000 in
theorem m_X5_key (l : Launch) (g : zG) (o h b im a d bb : Nat) (fr : Int) (hn hs : Nat) (fl re : Int) (NU SZ : Int → Int) (aw af ao ds df de bc bo : Nat) (WA FD ST FI EN CE OR : Int → Int) (un rk he kn al : Int) (pi_ v w : Int) (hfr : fr = 0 ∨ (fr = 1 ∧ fOK (pf NU SZ fl) re FD ST EN CE OR un rk he kn al)) (f1 : 0 ≤ fl ∧ fl ≤ 99999) (f2 : 1 ≤ re ∧ re ≤ 5) (z1 : ∀ q, 0 ≤ q → q < 5 → 0 ≤ SZ q ∧ SZ q ≤ 128) (a1 : (0 ≤ pi_ ∧ pi_ ≤ 4) ∧ (0 ≤ v ∧ v ≤ SZ pi_ / 8 - 1)) (a2 : (0 ≤ pi_ ∧ pi_ ≤ 4) ∧ (0 ≤ w ∧ w ≤ SZ pi_ / 8 - 1)) : zE l yX5_key wsX5_key ({ frames := 5, cells := 0, slots := 0, locals := 118 }) g [.ref o, .int (iI pi_), .int (iI v), .int (iI w)] [(o, .inr (5, [.ref h, .ref b, .ref im, .ref a, .ref d, .ref bb, .int (iI fr)])), (h, .inr (4, [.ref hn, .ref hs, .int (iI fl), .int (iI re)])), zI g hn 640 NU, zI g hs 5 SZ, (a, .inr (3, [.ref aw, .ref af, .ref ao])), zI g aw 8 WA, zI g af 80 FD, (d, .inr (1, [.ref ds, .ref df, .ref de, .int (iI un)])), zI g ds 385 ST, zI g df 384 FI, zI g de 320 EN, (bb, .inr (0, [.ref bc, .ref bo, .int (iI rk), .int (iI he), .int (iI kn), .int (iI al)])), zI g bc 124 CE, zI g bo 124 OR] (S := ((Int → Int) × (Int → Int) × (Int → Int) × (Int → Int))) (fun r u => (r = kyf (pf NU SZ fl) re pi_ v w) ∧ cOK (pf NU SZ fl) re u.2.2.1 u.2.2.2) (fun u => [(o, .inr (5, [.ref h, .ref b, .ref im, .ref a, .ref d, .ref bb, .int (iI 1)])), (h, .inr (4, [.ref hn, .ref hs, .int (iI fl), .int (iI re)])), zI g hn 640 NU, zI g hs 5 SZ, (a, .inr (3, [.ref aw, .ref af, .ref ao])), zI g aw 8 (u.1), zI g af 80 (pf NU SZ fl), (d, .inr (1, [.ref ds, .ref df, .ref de, .int (iI (un_ (pf NU SZ fl) re))])), zI g ds 385 (stt (pf NU SZ fl) re), zI g df 384 (u.2.1), zI g de 320 (u.2.2.1), (bb, .inr (0, [.ref bc, .ref bo, .int (iI (nt_ (pf NU SZ fl) re)), .int (iI (he_ (pf NU SZ fl) re)), .int (iI (ku_ (pf NU SZ fl) re)), .int (iI (al_ (pf NU SZ fl) re))])), zI g bc 124 (V_ (pf NU SZ fl) re), zI g bo 124 (u.2.2.2)]) := by
  refine z_entE (cc := cX5_key) (nL := 4) (ret := (some .int)) (own := RX5) (by decide) rfl rfl (Nat.le_of_ble_eq_true rfl) ?_
  intro p e s m below meth c Q ls A C hlk hr hQ hP hK hD hA hS hl
  have hx := C.1
  have hb := C.2.1
  have hl : lv_has ls 4 [(0, .ref o), (1, .int (iI pi_)), (2, .int (iI v)), (3, .int (iI w))] := hl
  obtain ⟨H, hHe⟩ : ∃ H, H = s.heap := ⟨_, rfl⟩
  obtain ⟨locs, hLe⟩ : ∃ q : List Loc, q = [] := ⟨_, rfl⟩
  have hP : zP g [(o, .inr (5, [.ref h, .ref b, .ref im, .ref a, .ref d, .ref bb, .int (iI fr)])), (h, .inr (4, [.ref hn, .ref hs, .int (iI fl), .int (iI re)])), zI g hn 640 NU, zI g hs 5 SZ, (a, .inr (3, [.ref aw, .ref af, .ref ao])), zI g aw 8 WA, zI g af 80 FD, (d, .inr (1, [.ref ds, .ref df, .ref de, .int (iI un)])), zI g ds 385 ST, zI g df 384 FI, zI g de 320 EN, (bb, .inr (0, [.ref bc, .ref bo, .int (iI rk), .int (iI he), .int (iI kn), .int (iI al)])), zI g bc 124 CE, zI g bo 124 OR] H := by rw [hHe]; exact hP
  have hS : va_S A s.heap H locs := by rw [hHe, hLe]; exact hS
  suffices hgo : W p l e ({ frames := 5, cells := 0, slots := 0, locals := 118 }) s m ([.ref o, .int (iI pi_), .int (iI v), .int (iI w)] : List Value).toArray below meth c H locs 0 0 Q (F0 m 0 ls []) by rw [hHe, hLe] at hgo; exact hgo
  clear hHe hLe
  have hz1 := z1 pi_ (by omega) (by omega)
  refine lv_aload_n hx hb dX5_key_0 rfl (lv_at hl 0 rfl) ?_
  refine lv_iload_n hx hb dX5_key_1 rfl (lv_at hl 1 rfl) ?_
  refine lv_iload_n hx hb dX5_key_2 rfl (lv_at hl 2 rfl) ?_
  refine z_cS (As := [.int (iI pi_), .int (iI v)]) (rest := []) C (m_X5_isWindow (l := l) (g := g) (o := o) (h := h) (b := b) (im := im) (a := a) (d := d) (bb := bb) (fr := fr) (hn := hn) (hs := hs) (fl := fl) (re := re) (SZ := SZ) (pi_ := pi_) (w := v) (g_pi_ := by omega) (g_w := by omega) (z1 := z1)) (cwV 2 C.2.2.2.2 gX5_key_X5_isWindow rfl rfl rfl (by decide +kernel) ⟨Nat.le_of_ble_eq_true rfl, Nat.le_of_ble_eq_true rfl⟩) hK hP [0, 1, 3] rfl 0 rfl rfl rfl hl.1 rfl (Nat.le_of_ble_eq_true rfl) dX5_key_3 ⟨Nat.zero_le _, Nat.zero_le _⟩ ?_
  refine z_ifb_eq (tgt := 18) hx hb dX5_key_6 (by decide) (fun c_1 => ?_) (fun c_1 => ?_)
  · exfalso; omega
  · refine lv_aload_n hx hb dX5_key_9 rfl (lv_at hl 0 rfl) ?_
    refine lv_iload_n hx hb dX5_key_10 rfl (lv_at hl 1 rfl) ?_
    refine lv_iload_n hx hb dX5_key_11 rfl (lv_at hl 3 rfl) ?_
    refine z_cS (As := [.int (iI pi_), .int (iI w)]) (rest := []) C (m_X5_isWindow (l := l) (g := g) (o := o) (h := h) (b := b) (im := im) (a := a) (d := d) (bb := bb) (fr := fr) (hn := hn) (hs := hs) (fl := fl) (re := re) (SZ := SZ) (pi_ := pi_) (w := w) (g_pi_ := by omega) (g_w := by omega) (z1 := z1)) (cwV 2 C.2.2.2.2 gX5_key_X5_isWindow rfl rfl rfl (by decide +kernel) ⟨Nat.le_of_ble_eq_true rfl, Nat.le_of_ble_eq_true rfl⟩) hK hP [0, 1, 3] rfl 0 rfl rfl rfl hl.1 rfl (Nat.le_of_ble_eq_true rfl) dX5_key_12 ⟨Nat.zero_le _, Nat.zero_le _⟩ ?_
    refine z_ifb_ne (tgt := 21) hx hb dX5_key_15 (by decide) (fun c_2 => ?_) (fun c_2 => ?_)
    · refine lv_aload_n hx hb dX5_key_21 rfl (lv_at hl 0 rfl) ?_
      refine z_cV (As := []) (rest := []) C (m_X5_refresh (l := l) (g := g) (o := o) (h := h) (b := b) (im := im) (a := a) (d := d) (bb := bb) (fr := fr) (hn := hn) (hs := hs) (fl := fl) (re := re) (NU := NU) (SZ := SZ) (aw := aw) (af := af) (ao := ao) (ds := ds) (df := df) (de := de) (bc := bc) (bo := bo) (WA := WA) (FD := FD) (ST := ST) (FI := FI) (EN := EN) (CE := CE) (OR := OR) (un := un) (rk := rk) (he := he) (kn := kn) (al := al) (hfr := hfr) (f1 := by omega) (f2 := by omega) (z1 := z1)) (cwV 0 C.2.2.2.2 gX5_key_X5_refresh rfl rfl rfl (by decide +kernel) ⟨Nat.le_of_ble_eq_true rfl, Nat.le_of_ble_eq_true rfl⟩) hK hP hD hS hA [0, 1, 2, 3, 4, 5, 6, 7, 8, 9, 10, 11, 12, 13] (by decide) rfl (fun _ => rfl) 0 rfl rfl rfl hl.1 rfl (Nat.le_of_ble_eq_true rfl) dX5_key_22 ⟨Nat.zero_le _, Nat.zero_le _⟩ (fun u H locs hu hP hD hS => ?_)
      have hP : zP g [(o, .inr (5, [.ref h, .ref b, .ref im, .ref a, .ref d, .ref bb, .int (iI 1)])), (h, .inr (4, [.ref hn, .ref hs, .int (iI fl), .int (iI re)])), zI g hn 640 NU, zI g hs 5 SZ, (a, .inr (3, [.ref aw, .ref af, .ref ao])), zI g aw 8 (u.1), zI g af 80 (pf NU SZ fl), (d, .inr (1, [.ref ds, .ref df, .ref de, .int (iI (un_ (pf NU SZ fl) re))])), zI g ds 385 (stt (pf NU SZ fl) re), zI g df 384 (u.2.1), zI g de 320 (u.2.2.1), (bb, .inr (0, [.ref bc, .ref bo, .int (iI (nt_ (pf NU SZ fl) re)), .int (iI (he_ (pf NU SZ fl) re)), .int (iI (ku_ (pf NU SZ fl) re)), .int (iI (al_ (pf NU SZ fl) re))])), zI g bc 124 (V_ (pf NU SZ fl) re), zI g bo 124 (u.2.2.2)] H := hP
      have hD : va_D A [(o, .inr (5, [.ref h, .ref b, .ref im, .ref a, .ref d, .ref bb, .int (iI 1)])), (h, .inr (4, [.ref hn, .ref hs, .int (iI fl), .int (iI re)])), zI g hn 640 NU, zI g hs 5 SZ, (a, .inr (3, [.ref aw, .ref af, .ref ao])), zI g aw 8 (u.1), zI g af 80 (pf NU SZ fl), (d, .inr (1, [.ref ds, .ref df, .ref de, .int (iI (un_ (pf NU SZ fl) re))])), zI g ds 385 (stt (pf NU SZ fl) re), zI g df 384 (u.2.1), zI g de 320 (u.2.2.1), (bb, .inr (0, [.ref bc, .ref bo, .int (iI (nt_ (pf NU SZ fl) re)), .int (iI (he_ (pf NU SZ fl) re)), .int (iI (ku_ (pf NU SZ fl) re)), .int (iI (al_ (pf NU SZ fl) re))])), zI g bc 124 (V_ (pf NU SZ fl) re), zI g bo 124 (u.2.2.2)] := hD
      have hnt := nt_rg (pf NU SZ fl) re
      obtain ⟨hE, hT, hO⟩ := hu
      refine lv_aload_n hx hb dX5_key_25 rfl (lv_at hl 0 rfl) ?_
      refine z_get (v := .ref a) (Cn := RX5) (T := TX5) (N := 7) (ci := 5) C in_m_X5_key_X5 hK hP 0 rfl rfl 3 (by decide) (List.mem_of_getElem? (i := 2) rfl) rfl dX5_key_26 ?_
      refine lv_iload_n hx hb dX5_key_29 rfl (lv_at hl 1 rfl) ?_
      refine lv_iload_n hx hb dX5_key_30 rfl (lv_at hl 2 rfl) ?_
      refine lv_iload_n hx hb dX5_key_31 rfl (lv_at hl 3 rfl) ?_
      refine lv_aload_n hx hb dX5_key_32 rfl (lv_at hl 0 rfl) ?_
      refine z_get (v := .ref h) (Cn := RX5) (T := TX5) (N := 7) (ci := 5) C in_m_X5_key_X5 hK hP 0 rfl rfl 0 (by decide) (List.mem_of_getElem? (i := 3) rfl) rfl dX5_key_33 ?_
      refine z_cS (As := []) (rest := [.int (iI w), .int (iI v), .int (iI pi_), .ref a]) C (m_X4_reach (l := l) (g := g) (h := h) (hn := hn) (hs := hs) (fl := fl) (re := re) ) (cwV 0 C.2.2.2.2 gX5_key_X4_reach rfl rfl rfl (by decide +kernel) ⟨Nat.le_of_ble_eq_true rfl, Nat.le_of_ble_eq_true rfl⟩) hK hP [1] rfl 1 rfl rfl rfl hl.1 rfl (Nat.le_of_ble_eq_true rfl) dX5_key_36 ⟨Nat.zero_le _, Nat.zero_le _⟩ ?_
      refine z_cS (As := [.int (iI pi_), .int (iI v), .int (iI w), .int (iI re)]) (rest := []) C (m_X3_keyOf (l := l) (g := g) (a := a) (aw := aw) (af := af) (ao := ao) (FD := pf NU SZ fl) (row := pi_) (v := v) (w := w) (re := re) (h1 := by omega) (h2 := by omega) (v1 := by omega) (v2 := by omega) (v3 := by omega) (hF := (fun j => pf_rg NU SZ fl j))) (cwV 4 C.2.2.2.2 gX5_key_X3_keyOf rfl rfl rfl (by decide +kernel) ⟨Nat.le_of_ble_eq_true rfl, Nat.le_of_ble_eq_true rfl⟩) hK hP [4, 6] rfl 4 rfl rfl rfl hl.1 rfl (Nat.le_of_ble_eq_true rfl) dX5_key_39 ⟨Nat.zero_le _, Nat.zero_le _⟩ ?_
      exact z_retE hx hb hlk hr hQ dX5_key_42 hS u (⟨rfl, hE, hT, hO⟩) (hP)
    · exfalso; omega
set_option maxHeartbeats 4000000 in
set_option maxRecDepth 100000 in
theorem m_X5_key_n (l : Launch) (g : zG) (o h b im a d bb : Nat) (fr : Int) (hn hs : Nat) (fl re : Int) (SZ : Int → Int) (pi_ v w : Int) (z1 : ∀ q, 0 ≤ q → q < 5 → 0 ≤ SZ q ∧ SZ q ≤ 128) (g_pi_ : -2147483648 ≤ pi_ ∧ pi_ < 2147483648) (g_v : -2147483648 ≤ v ∧ v < 2147483648) (g_w : -2147483648 ≤ w ∧ w < 2147483648) (rf : ¬ (((0 ≤ pi_ ∧ pi_ ≤ 4) ∧ (0 ≤ v ∧ v ≤ SZ pi_ / 8 - 1)) ∧ (0 ≤ pi_ ∧ pi_ ≤ 4) ∧ (0 ≤ w ∧ w ≤ SZ pi_ / 8 - 1))) : zS l yX5_key wsX5_key ({ frames := 3, cells := 0, slots := 0, locals := 64 }) g [.ref o, .int (iI pi_), .int (iI v), .int (iI w)] [(o, .inr (5, [.ref h, .ref b, .ref im, .ref a, .ref d, .ref bb, .int (iI fr)])), (h, .inr (4, [.ref hn, .ref hs, .int (iI fl), .int (iI re)])), zI g hs 5 SZ] (-1000000001) := by
  refine z_entS (cc := cX5_key) (nL := 4) (ret := (some .int)) (own := RX5) (by decide) rfl rfl (Nat.le_of_ble_eq_true rfl) ?_
  intro p e s m below meth c Q ls C hlk hr hQ hP hK hl
  have hx := C.1
  have hb := C.2.1
  have hl : lv_has ls 4 [(0, .ref o), (1, .int (iI pi_)), (2, .int (iI v)), (3, .int (iI w))] := hl
  refine lv_aload_n hx hb dX5_key_0 rfl (lv_at hl 0 rfl) ?_
  refine lv_iload_n hx hb dX5_key_1 rfl (lv_at hl 1 rfl) ?_
  refine lv_iload_n hx hb dX5_key_2 rfl (lv_at hl 2 rfl) ?_
  refine z_cS (As := [.int (iI pi_), .int (iI v)]) (rest := []) C (m_X5_isWindow (l := l) (g := g) (o := o) (h := h) (b := b) (im := im) (a := a) (d := d) (bb := bb) (fr := fr) (hn := hn) (hs := hs) (fl := fl) (re := re) (SZ := SZ) (pi_ := pi_) (w := v) (g_pi_ := by omega) (g_w := by omega) (z1 := z1)) (cwV 2 C.2.2.2.2 gX5_key_X5_isWindow rfl rfl rfl (by decide +kernel) ⟨Nat.le_of_ble_eq_true rfl, Nat.le_of_ble_eq_true rfl⟩) hK hP [0, 1, 2] rfl 0 rfl rfl rfl hl.1 rfl (Nat.le_of_ble_eq_true rfl) dX5_key_3 ⟨Nat.zero_le _, Nat.zero_le _⟩ ?_
  refine z_ifb_eq (tgt := 18) hx hb dX5_key_6 (by decide) (fun c1 => ?_) (fun c1 => ?_)
  · refine z_ldc C (List.mem_of_getElem? (i := 1) rfl) (-1000000001) (by decide +kernel) dX5_key_18 ?_
    exact z_retS hx hb hlk hr hQ dX5_key_20 (rfl)
  · refine lv_aload_n hx hb dX5_key_9 rfl (lv_at hl 0 rfl) ?_
    refine lv_iload_n hx hb dX5_key_10 rfl (lv_at hl 1 rfl) ?_
    refine lv_iload_n hx hb dX5_key_11 rfl (lv_at hl 3 rfl) ?_
    refine z_cS (As := [.int (iI pi_), .int (iI w)]) (rest := []) C (m_X5_isWindow (l := l) (g := g) (o := o) (h := h) (b := b) (im := im) (a := a) (d := d) (bb := bb) (fr := fr) (hn := hn) (hs := hs) (fl := fl) (re := re) (SZ := SZ) (pi_ := pi_) (w := w) (g_pi_ := by omega) (g_w := by omega) (z1 := z1)) (cwV 2 C.2.2.2.2 gX5_key_X5_isWindow rfl rfl rfl (by decide +kernel) ⟨Nat.le_of_ble_eq_true rfl, Nat.le_of_ble_eq_true rfl⟩) hK hP [0, 1, 2] rfl 0 rfl rfl rfl hl.1 rfl (Nat.le_of_ble_eq_true rfl) dX5_key_12 ⟨Nat.zero_le _, Nat.zero_le _⟩ ?_
    refine z_ifb_ne (tgt := 21) hx hb dX5_key_15 (by decide) (fun c_1 => ?_) (fun c_1 => ?_)
    · exact absurd ⟨c1, c_1⟩ rf
    · refine z_ldc C (List.mem_of_getElem? (i := 1) rfl) (-1000000001) (by decide +kernel) dX5_key_18 ?_
      exact z_retS hx hb hlk hr hQ dX5_key_20 (rfl)
set_option maxRecDepth 20000 in
theorem in_m_X5_keyAt_X5 : ∀ w ∈ u_ws RX5 TX5 7, w ∈ wsX5_keyAt := zmem_of _ [122, 123, 124, 125, 126, 127, 128] (by decide +kernel)
set_option maxHeartbeats 4000000 in
set_option maxRecDepth 100000 in
theorem m_X5_keyAt (l : Launch) (g : zG) (o h b im a d bb : Nat) (fr : Int) (hn hs : Nat) (fl re : Int) (NU SZ : Int → Int) (aw af ao ds df de bc bo : Nat) (WA FD ST FI EN CE OR : Int → Int) (un rk he kn al : Int) (kk : Int) (hfr : fr = 0 ∨ (fr = 1 ∧ fOK (pf NU SZ fl) re FD ST EN CE OR un rk he kn al)) (f1 : 0 ≤ fl ∧ fl ≤ 99999) (f2 : 1 ≤ re ∧ re ≤ 5) (z1 : ∀ q, 0 ≤ q → q < 5 → 0 ≤ SZ q ∧ SZ q ≤ 128) (a1 : 0 ≤ kk ∧ kk < 2147483648) : zE l yX5_keyAt wsX5_keyAt ({ frames := 5, cells := 0, slots := 0, locals := 118 }) g [.ref o, .int (iI kk)] [(o, .inr (5, [.ref h, .ref b, .ref im, .ref a, .ref d, .ref bb, .int (iI fr)])), (h, .inr (4, [.ref hn, .ref hs, .int (iI fl), .int (iI re)])), zI g hn 640 NU, zI g hs 5 SZ, (a, .inr (3, [.ref aw, .ref af, .ref ao])), zI g aw 8 WA, zI g af 80 FD, (d, .inr (1, [.ref ds, .ref df, .ref de, .int (iI un)])), zI g ds 385 ST, zI g df 384 FI, zI g de 320 EN, (bb, .inr (0, [.ref bc, .ref bo, .int (iI rk), .int (iI he), .int (iI kn), .int (iI al)])), zI g bc 124 CE, zI g bo 124 OR] (S := ((Int → Int) × (Int → Int) × (Int → Int) × (Int → Int))) (fun r u => (r = kr (fun x => stt (pf NU SZ fl) re (x + 1) - stt (pf NU SZ fl) re x) 384 64 kk) ∧ cOK (pf NU SZ fl) re u.2.2.1 u.2.2.2) (fun u => [(o, .inr (5, [.ref h, .ref b, .ref im, .ref a, .ref d, .ref bb, .int (iI 1)])), (h, .inr (4, [.ref hn, .ref hs, .int (iI fl), .int (iI re)])), zI g hn 640 NU, zI g hs 5 SZ, (a, .inr (3, [.ref aw, .ref af, .ref ao])), zI g aw 8 (u.1), zI g af 80 (pf NU SZ fl), (d, .inr (1, [.ref ds, .ref df, .ref de, .int (iI (un_ (pf NU SZ fl) re))])), zI g ds 385 (stt (pf NU SZ fl) re), zI g df 384 (u.2.1), zI g de 320 (u.2.2.1), (bb, .inr (0, [.ref bc, .ref bo, .int (iI (nt_ (pf NU SZ fl) re)), .int (iI (he_ (pf NU SZ fl) re)), .int (iI (ku_ (pf NU SZ fl) re)), .int (iI (al_ (pf NU SZ fl) re))])), zI g bc 124 (V_ (pf NU SZ fl) re), zI g bo 124 (u.2.2.2)]) := by
  refine z_entE (cc := cX5_keyAt) (nL := 2) (ret := (some .int)) (own := RX5) (by decide) rfl rfl (Nat.le_of_ble_eq_true rfl) ?_
  intro p e s m below meth c Q ls A C hlk hr hQ hP hK hD hA hS hl
  have hx := C.1
  have hb := C.2.1
  have hl : lv_has ls 2 [(0, .ref o), (1, .int (iI kk))] := hl
  obtain ⟨H, hHe⟩ : ∃ H, H = s.heap := ⟨_, rfl⟩
  obtain ⟨locs, hLe⟩ : ∃ q : List Loc, q = [] := ⟨_, rfl⟩
  have hP : zP g [(o, .inr (5, [.ref h, .ref b, .ref im, .ref a, .ref d, .ref bb, .int (iI fr)])), (h, .inr (4, [.ref hn, .ref hs, .int (iI fl), .int (iI re)])), zI g hn 640 NU, zI g hs 5 SZ, (a, .inr (3, [.ref aw, .ref af, .ref ao])), zI g aw 8 WA, zI g af 80 FD, (d, .inr (1, [.ref ds, .ref df, .ref de, .int (iI un)])), zI g ds 385 ST, zI g df 384 FI, zI g de 320 EN, (bb, .inr (0, [.ref bc, .ref bo, .int (iI rk), .int (iI he), .int (iI kn), .int (iI al)])), zI g bc 124 CE, zI g bo 124 OR] H := by rw [hHe]; exact hP
  have hS : va_S A s.heap H locs := by rw [hHe, hLe]; exact hS
  suffices hgo : W p l e ({ frames := 5, cells := 0, slots := 0, locals := 118 }) s m ([.ref o, .int (iI kk)] : List Value).toArray below meth c H locs 0 0 Q (F0 m 0 ls []) by rw [hHe, hLe] at hgo; exact hgo
  clear hHe hLe
  refine lv_iload_n hx hb dX5_keyAt_0 rfl (lv_at hl 1 rfl) ?_
  refine z_if_ge (tgt := 7) hx hb dX5_keyAt_1 (by decide) (by omega) (fun c_1 => ?_) (fun c_1 => ?_)
  · refine lv_aload_n hx hb dX5_keyAt_7 rfl (lv_at hl 0 rfl) ?_
    refine z_cV (As := []) (rest := []) C (m_X5_refresh (l := l) (g := g) (o := o) (h := h) (b := b) (im := im) (a := a) (d := d) (bb := bb) (fr := fr) (hn := hn) (hs := hs) (fl := fl) (re := re) (NU := NU) (SZ := SZ) (aw := aw) (af := af) (ao := ao) (ds := ds) (df := df) (de := de) (bc := bc) (bo := bo) (WA := WA) (FD := FD) (ST := ST) (FI := FI) (EN := EN) (CE := CE) (OR := OR) (un := un) (rk := rk) (he := he) (kn := kn) (al := al) (hfr := hfr) (f1 := by omega) (f2 := by omega) (z1 := z1)) (cwV 0 C.2.2.2.2 gX5_keyAt_X5_refresh rfl rfl rfl (by decide +kernel) ⟨Nat.le_of_ble_eq_true rfl, Nat.le_of_ble_eq_true rfl⟩) hK hP hD hS hA [0, 1, 2, 3, 4, 5, 6, 7, 8, 9, 10, 11, 12, 13] (by decide) rfl (fun _ => rfl) 0 rfl rfl rfl hl.1 rfl (Nat.le_of_ble_eq_true rfl) dX5_keyAt_8 ⟨Nat.zero_le _, Nat.zero_le _⟩ (fun u H locs hu hP hD hS => ?_)
    have hP : zP g [(o, .inr (5, [.ref h, .ref b, .ref im, .ref a, .ref d, .ref bb, .int (iI 1)])), (h, .inr (4, [.ref hn, .ref hs, .int (iI fl), .int (iI re)])), zI g hn 640 NU, zI g hs 5 SZ, (a, .inr (3, [.ref aw, .ref af, .ref ao])), zI g aw 8 (u.1), zI g af 80 (pf NU SZ fl), (d, .inr (1, [.ref ds, .ref df, .ref de, .int (iI (un_ (pf NU SZ fl) re))])), zI g ds 385 (stt (pf NU SZ fl) re), zI g df 384 (u.2.1), zI g de 320 (u.2.2.1), (bb, .inr (0, [.ref bc, .ref bo, .int (iI (nt_ (pf NU SZ fl) re)), .int (iI (he_ (pf NU SZ fl) re)), .int (iI (ku_ (pf NU SZ fl) re)), .int (iI (al_ (pf NU SZ fl) re))])), zI g bc 124 (V_ (pf NU SZ fl) re), zI g bo 124 (u.2.2.2)] H := hP
    have hD : va_D A [(o, .inr (5, [.ref h, .ref b, .ref im, .ref a, .ref d, .ref bb, .int (iI 1)])), (h, .inr (4, [.ref hn, .ref hs, .int (iI fl), .int (iI re)])), zI g hn 640 NU, zI g hs 5 SZ, (a, .inr (3, [.ref aw, .ref af, .ref ao])), zI g aw 8 (u.1), zI g af 80 (pf NU SZ fl), (d, .inr (1, [.ref ds, .ref df, .ref de, .int (iI (un_ (pf NU SZ fl) re))])), zI g ds 385 (stt (pf NU SZ fl) re), zI g df 384 (u.2.1), zI g de 320 (u.2.2.1), (bb, .inr (0, [.ref bc, .ref bo, .int (iI (nt_ (pf NU SZ fl) re)), .int (iI (he_ (pf NU SZ fl) re)), .int (iI (ku_ (pf NU SZ fl) re)), .int (iI (al_ (pf NU SZ fl) re))])), zI g bc 124 (V_ (pf NU SZ fl) re), zI g bo 124 (u.2.2.2)] := hD
    have hnt := nt_rg (pf NU SZ fl) re
    obtain ⟨hE, hT, hO⟩ := hu
    refine lv_aload_n hx hb dX5_keyAt_11 rfl (lv_at hl 0 rfl) ?_
    refine z_get (v := .ref d) (Cn := RX5) (T := TX5) (N := 7) (ci := 5) C in_m_X5_keyAt_X5 hK hP 0 rfl rfl 4 (by decide) (List.mem_of_getElem? (i := 2) rfl) rfl dX5_keyAt_12 ?_
    refine lv_iload_n hx hb dX5_keyAt_15 rfl (lv_at hl 1 rfl) ?_
    refine z_cS (As := [.int (iI kk)]) (rest := []) C (m_X1_keyByRise (l := l) (g := g) (d := d) (ds := ds) (df := df) (de := de) (un := un_ (pf NU SZ fl) re) (ST := stt (pf NU SZ fl) re) (kk := kk) (k1 := by omega) (k2 := by omega) (s1 := (fun k g1 g2 => stt_rg g1 g2 hT))) (cwV 1 C.2.2.2.2 gX5_keyAt_X1_keyByRise rfl rfl rfl (by decide +kernel) ⟨Nat.le_of_ble_eq_true rfl, Nat.le_of_ble_eq_true rfl⟩) hK hP [7, 8] rfl 7 rfl rfl rfl hl.1 rfl (Nat.le_of_ble_eq_true rfl) dX5_keyAt_16 ⟨Nat.zero_le _, Nat.zero_le _⟩ ?_
    exact z_retE hx hb hlk hr hQ dX5_keyAt_19 hS u (⟨rfl, hE, hT, hO⟩) (hP)
  · exfalso; omega
set_option maxHeartbeats 4000000 in
set_option maxRecDepth 100000 in
theorem m_X5_keyAt_n (l : Launch) (g : zG) (o h b im a d bb : Nat) (fr : Int) (kk : Int) (g_kk : -2147483648 ≤ kk ∧ kk < 2147483648) (rf : kk < 0) : zS l yX5_keyAt wsX5_keyAt ({ frames := 0, cells := 0, slots := 0, locals := 0 }) g [.ref o, .int (iI kk)] [(o, .inr (5, [.ref h, .ref b, .ref im, .ref a, .ref d, .ref bb, .int (iI fr)]))] (-1000000002) := by
  refine z_entS (cc := cX5_keyAt) (nL := 2) (ret := (some .int)) (own := RX5) (by decide) rfl rfl (Nat.le_of_ble_eq_true rfl) ?_
  intro p e s m below meth c Q ls C hlk hr hQ hP hK hl
  have hx := C.1
  have hb := C.2.1
  have hl : lv_has ls 2 [(0, .ref o), (1, .int (iI kk))] := hl
  refine lv_iload_n hx hb dX5_keyAt_0 rfl (lv_at hl 1 rfl) ?_
  refine z_if_ge (tgt := 7) hx hb dX5_keyAt_1 (by decide) (by omega) (fun c_1 => ?_) (fun c_1 => ?_)
  · exfalso; omega
  · refine z_ldc C (List.mem_of_getElem? (i := 1) rfl) (-1000000002) (by decide +kernel) dX5_keyAt_4 ?_
    exact z_retS hx hb hlk hr hQ dX5_keyAt_6 (rfl)
set_option maxRecDepth 20000 in
theorem in_m_X5_places_X5 : ∀ w ∈ u_ws RX5 TX5 7, w ∈ wsX5_places := zmem_of _ [122, 123, 124, 125, 126, 127, 128] (by decide +kernel)
set_option maxHeartbeats 4000000 in
set_option maxRecDepth 100000 in
theorem m_X5_places (l : Launch) (g : zG) (o h b im a d bb : Nat) (fr : Int) (hn hs : Nat) (fl re : Int) (NU SZ : Int → Int) (aw af ao ds df de bc bo : Nat) (WA FD ST FI EN CE OR : Int → Int) (un rk he kn al : Int) (key : Int) (hfr : fr = 0 ∨ (fr = 1 ∧ fOK (pf NU SZ fl) re FD ST EN CE OR un rk he kn al)) (f1 : 0 ≤ fl ∧ fl ≤ 99999) (f2 : 1 ≤ re ∧ re ≤ 5) (z1 : ∀ q, 0 ≤ q → q < 5 → 0 ≤ SZ q ∧ SZ q ≤ 128) (a1 : 64 ≤ key ∧ key ≤ 383) : zE l yX5_places wsX5_places ({ frames := 5, cells := 0, slots := 0, locals := 118 }) g [.ref o, .int (iI key)] [(o, .inr (5, [.ref h, .ref b, .ref im, .ref a, .ref d, .ref bb, .int (iI fr)])), (h, .inr (4, [.ref hn, .ref hs, .int (iI fl), .int (iI re)])), zI g hn 640 NU, zI g hs 5 SZ, (a, .inr (3, [.ref aw, .ref af, .ref ao])), zI g aw 8 WA, zI g af 80 FD, (d, .inr (1, [.ref ds, .ref df, .ref de, .int (iI un)])), zI g ds 385 ST, zI g df 384 FI, zI g de 320 EN, (bb, .inr (0, [.ref bc, .ref bo, .int (iI rk), .int (iI he), .int (iI kn), .int (iI al)])), zI g bc 124 CE, zI g bo 124 OR] (S := ((Int → Int) × (Int → Int) × (Int → Int) × (Int → Int))) (fun r u => (r = stt (pf NU SZ fl) re (key + 1) - stt (pf NU SZ fl) re key) ∧ cOK (pf NU SZ fl) re u.2.2.1 u.2.2.2) (fun u => [(o, .inr (5, [.ref h, .ref b, .ref im, .ref a, .ref d, .ref bb, .int (iI 1)])), (h, .inr (4, [.ref hn, .ref hs, .int (iI fl), .int (iI re)])), zI g hn 640 NU, zI g hs 5 SZ, (a, .inr (3, [.ref aw, .ref af, .ref ao])), zI g aw 8 (u.1), zI g af 80 (pf NU SZ fl), (d, .inr (1, [.ref ds, .ref df, .ref de, .int (iI (un_ (pf NU SZ fl) re))])), zI g ds 385 (stt (pf NU SZ fl) re), zI g df 384 (u.2.1), zI g de 320 (u.2.2.1), (bb, .inr (0, [.ref bc, .ref bo, .int (iI (nt_ (pf NU SZ fl) re)), .int (iI (he_ (pf NU SZ fl) re)), .int (iI (ku_ (pf NU SZ fl) re)), .int (iI (al_ (pf NU SZ fl) re))])), zI g bc 124 (V_ (pf NU SZ fl) re), zI g bo 124 (u.2.2.2)]) := by
  refine z_entE (cc := cX5_places) (nL := 2) (ret := (some .int)) (own := RX5) (by decide) rfl rfl (Nat.le_of_ble_eq_true rfl) ?_
  intro p e s m below meth c Q ls A C hlk hr hQ hP hK hD hA hS hl
  have hx := C.1
  have hb := C.2.1
  have hl : lv_has ls 2 [(0, .ref o), (1, .int (iI key))] := hl
  obtain ⟨H, hHe⟩ : ∃ H, H = s.heap := ⟨_, rfl⟩
  obtain ⟨locs, hLe⟩ : ∃ q : List Loc, q = [] := ⟨_, rfl⟩
  have hP : zP g [(o, .inr (5, [.ref h, .ref b, .ref im, .ref a, .ref d, .ref bb, .int (iI fr)])), (h, .inr (4, [.ref hn, .ref hs, .int (iI fl), .int (iI re)])), zI g hn 640 NU, zI g hs 5 SZ, (a, .inr (3, [.ref aw, .ref af, .ref ao])), zI g aw 8 WA, zI g af 80 FD, (d, .inr (1, [.ref ds, .ref df, .ref de, .int (iI un)])), zI g ds 385 ST, zI g df 384 FI, zI g de 320 EN, (bb, .inr (0, [.ref bc, .ref bo, .int (iI rk), .int (iI he), .int (iI kn), .int (iI al)])), zI g bc 124 CE, zI g bo 124 OR] H := by rw [hHe]; exact hP
  have hS : va_S A s.heap H locs := by rw [hHe, hLe]; exact hS
  suffices hgo : W p l e ({ frames := 5, cells := 0, slots := 0, locals := 118 }) s m ([.ref o, .int (iI key)] : List Value).toArray below meth c H locs 0 0 Q (F0 m 0 ls []) by rw [hHe, hLe] at hgo; exact hgo
  clear hHe hLe
  refine lv_iload_n hx hb dX5_places_0 rfl (lv_at hl 1 rfl) ?_
  refine lv_bipush (v := iI 64) hx hb dX5_places_1 (by decide +kernel) ?_
  refine lv_sipush (v := iI 383) hx hb dX5_places_3 (by decide +kernel) ?_
  refine z_cSS (As := [.int (iI key), .int (iI 64), .int (iI 383)]) (rest := []) C (m_X5_isWithin (l := l) (g := g) (v := key) (lo := 64) (hi := 383) (g_v := by omega) (g_lo := by omega) (g_hi := by omega)) (cwS 3 C.2.2.2.2 gX5_places_X5_isWithin rfl rfl rfl (by decide +kernel) ⟨Nat.le_of_ble_eq_true rfl, Nat.le_of_ble_eq_true rfl⟩) hK hP [] rfl rfl hl.1 rfl (Nat.le_of_ble_eq_true rfl) dX5_places_6 ⟨Nat.zero_le _, Nat.zero_le _⟩ ?_
  refine z_ifb_ne (tgt := 15) hx hb dX5_places_9 (by decide) (fun c_1 => ?_) (fun c_1 => ?_)
  · refine lv_aload_n hx hb dX5_places_15 rfl (lv_at hl 0 rfl) ?_
    refine z_cV (As := []) (rest := []) C (m_X5_refresh (l := l) (g := g) (o := o) (h := h) (b := b) (im := im) (a := a) (d := d) (bb := bb) (fr := fr) (hn := hn) (hs := hs) (fl := fl) (re := re) (NU := NU) (SZ := SZ) (aw := aw) (af := af) (ao := ao) (ds := ds) (df := df) (de := de) (bc := bc) (bo := bo) (WA := WA) (FD := FD) (ST := ST) (FI := FI) (EN := EN) (CE := CE) (OR := OR) (un := un) (rk := rk) (he := he) (kn := kn) (al := al) (hfr := hfr) (f1 := by omega) (f2 := by omega) (z1 := z1)) (cwV 0 C.2.2.2.2 gX5_places_X5_refresh rfl rfl rfl (by decide +kernel) ⟨Nat.le_of_ble_eq_true rfl, Nat.le_of_ble_eq_true rfl⟩) hK hP hD hS hA [0, 1, 2, 3, 4, 5, 6, 7, 8, 9, 10, 11, 12, 13] (by decide) rfl (fun _ => rfl) 0 rfl rfl rfl hl.1 rfl (Nat.le_of_ble_eq_true rfl) dX5_places_16 ⟨Nat.zero_le _, Nat.zero_le _⟩ (fun u H locs hu hP hD hS => ?_)
    have hP : zP g [(o, .inr (5, [.ref h, .ref b, .ref im, .ref a, .ref d, .ref bb, .int (iI 1)])), (h, .inr (4, [.ref hn, .ref hs, .int (iI fl), .int (iI re)])), zI g hn 640 NU, zI g hs 5 SZ, (a, .inr (3, [.ref aw, .ref af, .ref ao])), zI g aw 8 (u.1), zI g af 80 (pf NU SZ fl), (d, .inr (1, [.ref ds, .ref df, .ref de, .int (iI (un_ (pf NU SZ fl) re))])), zI g ds 385 (stt (pf NU SZ fl) re), zI g df 384 (u.2.1), zI g de 320 (u.2.2.1), (bb, .inr (0, [.ref bc, .ref bo, .int (iI (nt_ (pf NU SZ fl) re)), .int (iI (he_ (pf NU SZ fl) re)), .int (iI (ku_ (pf NU SZ fl) re)), .int (iI (al_ (pf NU SZ fl) re))])), zI g bc 124 (V_ (pf NU SZ fl) re), zI g bo 124 (u.2.2.2)] H := hP
    have hD : va_D A [(o, .inr (5, [.ref h, .ref b, .ref im, .ref a, .ref d, .ref bb, .int (iI 1)])), (h, .inr (4, [.ref hn, .ref hs, .int (iI fl), .int (iI re)])), zI g hn 640 NU, zI g hs 5 SZ, (a, .inr (3, [.ref aw, .ref af, .ref ao])), zI g aw 8 (u.1), zI g af 80 (pf NU SZ fl), (d, .inr (1, [.ref ds, .ref df, .ref de, .int (iI (un_ (pf NU SZ fl) re))])), zI g ds 385 (stt (pf NU SZ fl) re), zI g df 384 (u.2.1), zI g de 320 (u.2.2.1), (bb, .inr (0, [.ref bc, .ref bo, .int (iI (nt_ (pf NU SZ fl) re)), .int (iI (he_ (pf NU SZ fl) re)), .int (iI (ku_ (pf NU SZ fl) re)), .int (iI (al_ (pf NU SZ fl) re))])), zI g bc 124 (V_ (pf NU SZ fl) re), zI g bo 124 (u.2.2.2)] := hD
    have hnt := nt_rg (pf NU SZ fl) re
    obtain ⟨hE, hT, hO⟩ := hu
    refine lv_aload_n hx hb dX5_places_19 rfl (lv_at hl 0 rfl) ?_
    refine z_get (v := .ref d) (Cn := RX5) (T := TX5) (N := 7) (ci := 5) C in_m_X5_places_X5 hK hP 0 rfl rfl 4 (by decide) (List.mem_of_getElem? (i := 2) rfl) rfl dX5_places_20 ?_
    refine lv_iload_n hx hb dX5_places_23 rfl (lv_at hl 1 rfl) ?_
    refine z_cS (As := [.int (iI key)]) (rest := []) C (m_X1_placesOf (l := l) (g := g) (d := d) (ds := ds) (df := df) (de := de) (un := un_ (pf NU SZ fl) re) (ST := stt (pf NU SZ fl) re) (key := key) (k1 := by omega) (k2 := by omega)) (cwV 1 C.2.2.2.2 gX5_places_X1_placesOf rfl rfl rfl (by decide +kernel) ⟨Nat.le_of_ble_eq_true rfl, Nat.le_of_ble_eq_true rfl⟩) hK hP [7, 8] rfl 7 rfl rfl rfl hl.1 rfl (Nat.le_of_ble_eq_true rfl) dX5_places_24 ⟨Nat.zero_le _, Nat.zero_le _⟩ ?_
    exact z_retE hx hb hlk hr hQ dX5_places_27 hS u (⟨rfl, hE, hT, hO⟩) (hP)
  · exfalso; omega
set_option maxHeartbeats 4000000 in
set_option maxRecDepth 100000 in
theorem m_X5_places_n (l : Launch) (g : zG) (o h b im a d bb : Nat) (fr : Int) (key : Int) (g_key : -2147483648 ≤ key ∧ key < 2147483648) (rf : ¬ (64 ≤ key ∧ key ≤ 383)) : zS l yX5_places wsX5_places ({ frames := 1, cells := 0, slots := 0, locals := 22 }) g [.ref o, .int (iI key)] [(o, .inr (5, [.ref h, .ref b, .ref im, .ref a, .ref d, .ref bb, .int (iI fr)]))] (-1000000002) := by
  refine z_entS (cc := cX5_places) (nL := 2) (ret := (some .int)) (own := RX5) (by decide) rfl rfl (Nat.le_of_ble_eq_true rfl) ?_
  intro p e s m below meth c Q ls C hlk hr hQ hP hK hl
  have hx := C.1
  have hb := C.2.1
  have hl : lv_has ls 2 [(0, .ref o), (1, .int (iI key))] := hl
  refine lv_iload_n hx hb dX5_places_0 rfl (lv_at hl 1 rfl) ?_
  refine lv_bipush (v := iI 64) hx hb dX5_places_1 (by decide +kernel) ?_
  refine lv_sipush (v := iI 383) hx hb dX5_places_3 (by decide +kernel) ?_
  refine z_cSS (As := [.int (iI key), .int (iI 64), .int (iI 383)]) (rest := []) C (m_X5_isWithin (l := l) (g := g) (v := key) (lo := 64) (hi := 383) (g_v := by omega) (g_lo := by omega) (g_hi := by omega)) (cwS 3 C.2.2.2.2 gX5_places_X5_isWithin rfl rfl rfl (by decide +kernel) ⟨Nat.le_of_ble_eq_true rfl, Nat.le_of_ble_eq_true rfl⟩) hK hP [] rfl rfl hl.1 rfl (Nat.le_of_ble_eq_true rfl) dX5_places_6 ⟨Nat.zero_le _, Nat.zero_le _⟩ ?_
  refine z_ifb_ne (tgt := 15) hx hb dX5_places_9 (by decide) (fun c_1 => ?_) (fun c_1 => ?_)
  · exfalso; omega
  · refine z_ldc C (List.mem_of_getElem? (i := 1) rfl) (-1000000002) (by decide +kernel) dX5_places_12 ?_
    exact z_retS hx hb hlk hr hQ dX5_places_14 (rfl)
set_option maxRecDepth 20000 in
theorem in_m_X5_place_X5 : ∀ w ∈ u_ws RX5 TX5 7, w ∈ wsX5_place := zmem_of _ [122, 123, 124, 125, 126, 127, 128] (by decide +kernel)
set_option maxHeartbeats 4000000 in
set_option maxRecDepth 100000 in
theorem m_X5_place (l : Launch) (g : zG) (o h b im a d bb : Nat) (fr : Int) (hn hs : Nat) (fl re : Int) (NU SZ : Int → Int) (aw af ao ds df de bc bo : Nat) (WA FD ST FI EN CE OR : Int → Int) (un rk he kn al : Int) (key ix : Int) (hfr : fr = 0 ∨ (fr = 1 ∧ fOK (pf NU SZ fl) re FD ST EN CE OR un rk he kn al)) (f1 : 0 ≤ fl ∧ fl ≤ 99999) (f2 : 1 ≤ re ∧ re ≤ 5) (z1 : ∀ q, 0 ≤ q → q < 5 → 0 ≤ SZ q ∧ SZ q ≤ 128) (a1 : 64 ≤ key ∧ key ≤ 383) (a2 : 0 ≤ ix ∧ ix < 2147483648) : zE l yX5_place wsX5_place ({ frames := 5, cells := 0, slots := 0, locals := 118 }) g [.ref o, .int (iI key), .int (iI ix)] [(o, .inr (5, [.ref h, .ref b, .ref im, .ref a, .ref d, .ref bb, .int (iI fr)])), (h, .inr (4, [.ref hn, .ref hs, .int (iI fl), .int (iI re)])), zI g hn 640 NU, zI g hs 5 SZ, (a, .inr (3, [.ref aw, .ref af, .ref ao])), zI g aw 8 WA, zI g af 80 FD, (d, .inr (1, [.ref ds, .ref df, .ref de, .int (iI un)])), zI g ds 385 ST, zI g df 384 FI, zI g de 320 EN, (bb, .inr (0, [.ref bc, .ref bo, .int (iI rk), .int (iI he), .int (iI kn), .int (iI al)])), zI g bc 124 CE, zI g bo 124 OR] (S := ((Int → Int) × (Int → Int) × (Int → Int) × (Int → Int))) (fun r u => (r = if ix < stt (pf NU SZ fl) re (key + 1) - stt (pf NU SZ fl) re key then u.2.2.1 (stt (pf NU SZ fl) re key + ix) else -1) ∧ cOK (pf NU SZ fl) re u.2.2.1 u.2.2.2) (fun u => [(o, .inr (5, [.ref h, .ref b, .ref im, .ref a, .ref d, .ref bb, .int (iI 1)])), (h, .inr (4, [.ref hn, .ref hs, .int (iI fl), .int (iI re)])), zI g hn 640 NU, zI g hs 5 SZ, (a, .inr (3, [.ref aw, .ref af, .ref ao])), zI g aw 8 (u.1), zI g af 80 (pf NU SZ fl), (d, .inr (1, [.ref ds, .ref df, .ref de, .int (iI (un_ (pf NU SZ fl) re))])), zI g ds 385 (stt (pf NU SZ fl) re), zI g df 384 (u.2.1), zI g de 320 (u.2.2.1), (bb, .inr (0, [.ref bc, .ref bo, .int (iI (nt_ (pf NU SZ fl) re)), .int (iI (he_ (pf NU SZ fl) re)), .int (iI (ku_ (pf NU SZ fl) re)), .int (iI (al_ (pf NU SZ fl) re))])), zI g bc 124 (V_ (pf NU SZ fl) re), zI g bo 124 (u.2.2.2)]) := by
  refine z_entE (cc := cX5_place) (nL := 3) (ret := (some .int)) (own := RX5) (by decide) rfl rfl (Nat.le_of_ble_eq_true rfl) ?_
  intro p e s m below meth c Q ls A C hlk hr hQ hP hK hD hA hS hl
  have hx := C.1
  have hb := C.2.1
  have hl : lv_has ls 3 [(0, .ref o), (1, .int (iI key)), (2, .int (iI ix))] := hl
  obtain ⟨H, hHe⟩ : ∃ H, H = s.heap := ⟨_, rfl⟩
  obtain ⟨locs, hLe⟩ : ∃ q : List Loc, q = [] := ⟨_, rfl⟩
  have hP : zP g [(o, .inr (5, [.ref h, .ref b, .ref im, .ref a, .ref d, .ref bb, .int (iI fr)])), (h, .inr (4, [.ref hn, .ref hs, .int (iI fl), .int (iI re)])), zI g hn 640 NU, zI g hs 5 SZ, (a, .inr (3, [.ref aw, .ref af, .ref ao])), zI g aw 8 WA, zI g af 80 FD, (d, .inr (1, [.ref ds, .ref df, .ref de, .int (iI un)])), zI g ds 385 ST, zI g df 384 FI, zI g de 320 EN, (bb, .inr (0, [.ref bc, .ref bo, .int (iI rk), .int (iI he), .int (iI kn), .int (iI al)])), zI g bc 124 CE, zI g bo 124 OR] H := by rw [hHe]; exact hP
  have hS : va_S A s.heap H locs := by rw [hHe, hLe]; exact hS
  suffices hgo : W p l e ({ frames := 5, cells := 0, slots := 0, locals := 118 }) s m ([.ref o, .int (iI key), .int (iI ix)] : List Value).toArray below meth c H locs 0 0 Q (F0 m 0 ls []) by rw [hHe, hLe] at hgo; exact hgo
  clear hHe hLe
  refine lv_iload_n hx hb dX5_place_0 rfl (lv_at hl 1 rfl) ?_
  refine lv_bipush (v := iI 64) hx hb dX5_place_1 (by decide +kernel) ?_
  refine lv_sipush (v := iI 383) hx hb dX5_place_3 (by decide +kernel) ?_
  refine z_cSS (As := [.int (iI key), .int (iI 64), .int (iI 383)]) (rest := []) C (m_X5_isWithin (l := l) (g := g) (v := key) (lo := 64) (hi := 383) (g_v := by omega) (g_lo := by omega) (g_hi := by omega)) (cwS 3 C.2.2.2.2 gX5_place_X5_isWithin rfl rfl rfl (by decide +kernel) ⟨Nat.le_of_ble_eq_true rfl, Nat.le_of_ble_eq_true rfl⟩) hK hP [] rfl rfl hl.1 rfl (Nat.le_of_ble_eq_true rfl) dX5_place_6 ⟨Nat.zero_le _, Nat.zero_le _⟩ ?_
  refine z_ifb_eq (tgt := 16) hx hb dX5_place_9 (by decide) (fun c_1 => ?_) (fun c_1 => ?_)
  · exfalso; omega
  · refine lv_iload_n hx hb dX5_place_12 rfl (lv_at hl 2 rfl) ?_
    refine z_if_ge (tgt := 19) hx hb dX5_place_13 (by decide) (by omega) (fun c_2 => ?_) (fun c_2 => ?_)
    · refine lv_aload_n hx hb dX5_place_19 rfl (lv_at hl 0 rfl) ?_
      refine z_cV (As := []) (rest := []) C (m_X5_refresh (l := l) (g := g) (o := o) (h := h) (b := b) (im := im) (a := a) (d := d) (bb := bb) (fr := fr) (hn := hn) (hs := hs) (fl := fl) (re := re) (NU := NU) (SZ := SZ) (aw := aw) (af := af) (ao := ao) (ds := ds) (df := df) (de := de) (bc := bc) (bo := bo) (WA := WA) (FD := FD) (ST := ST) (FI := FI) (EN := EN) (CE := CE) (OR := OR) (un := un) (rk := rk) (he := he) (kn := kn) (al := al) (hfr := hfr) (f1 := by omega) (f2 := by omega) (z1 := z1)) (cwV 0 C.2.2.2.2 gX5_place_X5_refresh rfl rfl rfl (by decide +kernel) ⟨Nat.le_of_ble_eq_true rfl, Nat.le_of_ble_eq_true rfl⟩) hK hP hD hS hA [0, 1, 2, 3, 4, 5, 6, 7, 8, 9, 10, 11, 12, 13] (by decide) rfl (fun _ => rfl) 0 rfl rfl rfl hl.1 rfl (Nat.le_of_ble_eq_true rfl) dX5_place_20 ⟨Nat.zero_le _, Nat.zero_le _⟩ (fun u H locs hu hP hD hS => ?_)
      have hP : zP g [(o, .inr (5, [.ref h, .ref b, .ref im, .ref a, .ref d, .ref bb, .int (iI 1)])), (h, .inr (4, [.ref hn, .ref hs, .int (iI fl), .int (iI re)])), zI g hn 640 NU, zI g hs 5 SZ, (a, .inr (3, [.ref aw, .ref af, .ref ao])), zI g aw 8 (u.1), zI g af 80 (pf NU SZ fl), (d, .inr (1, [.ref ds, .ref df, .ref de, .int (iI (un_ (pf NU SZ fl) re))])), zI g ds 385 (stt (pf NU SZ fl) re), zI g df 384 (u.2.1), zI g de 320 (u.2.2.1), (bb, .inr (0, [.ref bc, .ref bo, .int (iI (nt_ (pf NU SZ fl) re)), .int (iI (he_ (pf NU SZ fl) re)), .int (iI (ku_ (pf NU SZ fl) re)), .int (iI (al_ (pf NU SZ fl) re))])), zI g bc 124 (V_ (pf NU SZ fl) re), zI g bo 124 (u.2.2.2)] H := hP
      have hD : va_D A [(o, .inr (5, [.ref h, .ref b, .ref im, .ref a, .ref d, .ref bb, .int (iI 1)])), (h, .inr (4, [.ref hn, .ref hs, .int (iI fl), .int (iI re)])), zI g hn 640 NU, zI g hs 5 SZ, (a, .inr (3, [.ref aw, .ref af, .ref ao])), zI g aw 8 (u.1), zI g af 80 (pf NU SZ fl), (d, .inr (1, [.ref ds, .ref df, .ref de, .int (iI (un_ (pf NU SZ fl) re))])), zI g ds 385 (stt (pf NU SZ fl) re), zI g df 384 (u.2.1), zI g de 320 (u.2.2.1), (bb, .inr (0, [.ref bc, .ref bo, .int (iI (nt_ (pf NU SZ fl) re)), .int (iI (he_ (pf NU SZ fl) re)), .int (iI (ku_ (pf NU SZ fl) re)), .int (iI (al_ (pf NU SZ fl) re))])), zI g bc 124 (V_ (pf NU SZ fl) re), zI g bo 124 (u.2.2.2)] := hD
      have hnt := nt_rg (pf NU SZ fl) re
      obtain ⟨hE, hT, hO⟩ := hu
      refine lv_aload_n hx hb dX5_place_23 rfl (lv_at hl 0 rfl) ?_
      refine z_get (v := .ref d) (Cn := RX5) (T := TX5) (N := 7) (ci := 5) C in_m_X5_place_X5 hK hP 0 rfl rfl 4 (by decide) (List.mem_of_getElem? (i := 2) rfl) rfl dX5_place_24 ?_
      refine lv_iload_n hx hb dX5_place_27 rfl (lv_at hl 1 rfl) ?_
      refine lv_iload_n hx hb dX5_place_28 rfl (lv_at hl 2 rfl) ?_
      refine z_cS (As := [.int (iI key), .int (iI ix)]) (rest := []) C (m_X1_placeOf (l := l) (g := g) (d := d) (ds := ds) (df := df) (de := de) (un := un_ (pf NU SZ fl) re) (ST := stt (pf NU SZ fl) re) (EN := u.2.2.1) (key := key) (ix := ix) (k1 := by omega) (k2 := by omega) (x1 := by omega) (x2 := by omega) (s1 := (stt_rg (by omega) (by omega) hT).1) (s2 := (stt_rg (by omega) (by omega) hT).1) (s3 := (stt_rg (by omega) (by omega) hT).2) (s4 := (stt_rg (by omega) (by omega) hT).2)) (cwV 2 C.2.2.2.2 gX5_place_X1_placeOf rfl rfl rfl (by decide +kernel) ⟨Nat.le_of_ble_eq_true rfl, Nat.le_of_ble_eq_true rfl⟩) hK hP [7, 8, 10] rfl 7 rfl rfl rfl hl.1 rfl (Nat.le_of_ble_eq_true rfl) dX5_place_29 ⟨Nat.zero_le _, Nat.zero_le _⟩ ?_
      exact z_retE hx hb hlk hr hQ dX5_place_32 hS u (⟨rfl, hE, hT, hO⟩) (hP)
    · exfalso; omega
set_option maxHeartbeats 4000000 in
set_option maxRecDepth 100000 in
theorem m_X5_place_n (l : Launch) (g : zG) (o h b im a d bb : Nat) (fr : Int) (key ix : Int) (g_key : -2147483648 ≤ key ∧ key < 2147483648) (g_ix : -2147483648 ≤ ix ∧ ix < 2147483648) (rf : ¬ ((64 ≤ key ∧ key ≤ 383) ∧ 0 ≤ ix)) : zS l yX5_place wsX5_place ({ frames := 1, cells := 0, slots := 0, locals := 22 }) g [.ref o, .int (iI key), .int (iI ix)] [(o, .inr (5, [.ref h, .ref b, .ref im, .ref a, .ref d, .ref bb, .int (iI fr)]))] (-1000000002) := by
  refine z_entS (cc := cX5_place) (nL := 3) (ret := (some .int)) (own := RX5) (by decide) rfl rfl (Nat.le_of_ble_eq_true rfl) ?_
  intro p e s m below meth c Q ls C hlk hr hQ hP hK hl
  have hx := C.1
  have hb := C.2.1
  have hl : lv_has ls 3 [(0, .ref o), (1, .int (iI key)), (2, .int (iI ix))] := hl
  refine lv_iload_n hx hb dX5_place_0 rfl (lv_at hl 1 rfl) ?_
  refine lv_bipush (v := iI 64) hx hb dX5_place_1 (by decide +kernel) ?_
  refine lv_sipush (v := iI 383) hx hb dX5_place_3 (by decide +kernel) ?_
  refine z_cSS (As := [.int (iI key), .int (iI 64), .int (iI 383)]) (rest := []) C (m_X5_isWithin (l := l) (g := g) (v := key) (lo := 64) (hi := 383) (g_v := by omega) (g_lo := by omega) (g_hi := by omega)) (cwS 3 C.2.2.2.2 gX5_place_X5_isWithin rfl rfl rfl (by decide +kernel) ⟨Nat.le_of_ble_eq_true rfl, Nat.le_of_ble_eq_true rfl⟩) hK hP [] rfl rfl hl.1 rfl (Nat.le_of_ble_eq_true rfl) dX5_place_6 ⟨Nat.zero_le _, Nat.zero_le _⟩ ?_
  refine z_ifb_eq (tgt := 16) hx hb dX5_place_9 (by decide) (fun c_1 => ?_) (fun c_1 => ?_)
  · refine z_ldc C (List.mem_of_getElem? (i := 1) rfl) (-1000000002) (by decide +kernel) dX5_place_16 ?_
    exact z_retS hx hb hlk hr hQ dX5_place_18 (rfl)
  · refine lv_iload_n hx hb dX5_place_12 rfl (lv_at hl 2 rfl) ?_
    refine z_if_ge (tgt := 19) hx hb dX5_place_13 (by decide) (by omega) (fun c_2 => ?_) (fun c_2 => ?_)
    · exfalso; omega
    · refine z_ldc C (List.mem_of_getElem? (i := 1) rfl) (-1000000002) (by decide +kernel) dX5_place_16 ?_
      exact z_retS hx hb hlk hr hQ dX5_place_18 (rfl)
set_option maxRecDepth 20000 in
theorem in_m_X5_votes_X5 : ∀ w ∈ u_ws RX5 TX5 7, w ∈ wsX5_votes := zmem_of _ [129, 130, 131, 132, 133, 134, 135] (by decide +kernel)
set_option maxHeartbeats 4000000 in
set_option maxRecDepth 100000 in
theorem m_X5_votes (l : Launch) (g : zG) (o h b im a d bb : Nat) (fr : Int) (hn hs : Nat) (fl re : Int) (NU SZ : Int → Int) (aw af ao ds df de bc bo : Nat) (WA FD ST FI EN CE OR : Int → Int) (un rk he kn al : Int) (pi_ q_ : Int) (hfr : fr = 0 ∨ (fr = 1 ∧ fOK (pf NU SZ fl) re FD ST EN CE OR un rk he kn al)) (f1 : 0 ≤ fl ∧ fl ≤ 99999) (f2 : 1 ≤ re ∧ re ≤ 5) (z1 : ∀ q, 0 ≤ q → q < 5 → 0 ≤ SZ q ∧ SZ q ≤ 128) (a1 : 0 ≤ pi_ ∧ pi_ ≤ 3) (a2 : -15 ≤ q_ ∧ q_ ≤ 15) : zE l yX5_votes wsX5_votes ({ frames := 5, cells := 0, slots := 0, locals := 118 }) g [.ref o, .int (iI pi_), .int (iI q_)] [(o, .inr (5, [.ref h, .ref b, .ref im, .ref a, .ref d, .ref bb, .int (iI fr)])), (h, .inr (4, [.ref hn, .ref hs, .int (iI fl), .int (iI re)])), zI g hn 640 NU, zI g hs 5 SZ, (a, .inr (3, [.ref aw, .ref af, .ref ao])), zI g aw 8 WA, zI g af 80 FD, (d, .inr (1, [.ref ds, .ref df, .ref de, .int (iI un)])), zI g ds 385 ST, zI g df 384 FI, zI g de 320 EN, (bb, .inr (0, [.ref bc, .ref bo, .int (iI rk), .int (iI he), .int (iI kn), .int (iI al)])), zI g bc 124 CE, zI g bo 124 OR] (S := ((Int → Int) × (Int → Int) × (Int → Int) × (Int → Int))) (fun r u => (r = V_ (pf NU SZ fl) re (pi_ * 31 + q_ + 15)) ∧ cOK (pf NU SZ fl) re u.2.2.1 u.2.2.2) (fun u => [(o, .inr (5, [.ref h, .ref b, .ref im, .ref a, .ref d, .ref bb, .int (iI 1)])), (h, .inr (4, [.ref hn, .ref hs, .int (iI fl), .int (iI re)])), zI g hn 640 NU, zI g hs 5 SZ, (a, .inr (3, [.ref aw, .ref af, .ref ao])), zI g aw 8 (u.1), zI g af 80 (pf NU SZ fl), (d, .inr (1, [.ref ds, .ref df, .ref de, .int (iI (un_ (pf NU SZ fl) re))])), zI g ds 385 (stt (pf NU SZ fl) re), zI g df 384 (u.2.1), zI g de 320 (u.2.2.1), (bb, .inr (0, [.ref bc, .ref bo, .int (iI (nt_ (pf NU SZ fl) re)), .int (iI (he_ (pf NU SZ fl) re)), .int (iI (ku_ (pf NU SZ fl) re)), .int (iI (al_ (pf NU SZ fl) re))])), zI g bc 124 (V_ (pf NU SZ fl) re), zI g bo 124 (u.2.2.2)]) := by
  refine z_entE (cc := cX5_votes) (nL := 3) (ret := (some .int)) (own := RX5) (by decide) rfl rfl (Nat.le_of_ble_eq_true rfl) ?_
  intro p e s m below meth c Q ls A C hlk hr hQ hP hK hD hA hS hl
  have hx := C.1
  have hb := C.2.1
  have hl : lv_has ls 3 [(0, .ref o), (1, .int (iI pi_)), (2, .int (iI q_))] := hl
  obtain ⟨H, hHe⟩ : ∃ H, H = s.heap := ⟨_, rfl⟩
  obtain ⟨locs, hLe⟩ : ∃ q : List Loc, q = [] := ⟨_, rfl⟩
  have hP : zP g [(o, .inr (5, [.ref h, .ref b, .ref im, .ref a, .ref d, .ref bb, .int (iI fr)])), (h, .inr (4, [.ref hn, .ref hs, .int (iI fl), .int (iI re)])), zI g hn 640 NU, zI g hs 5 SZ, (a, .inr (3, [.ref aw, .ref af, .ref ao])), zI g aw 8 WA, zI g af 80 FD, (d, .inr (1, [.ref ds, .ref df, .ref de, .int (iI un)])), zI g ds 385 ST, zI g df 384 FI, zI g de 320 EN, (bb, .inr (0, [.ref bc, .ref bo, .int (iI rk), .int (iI he), .int (iI kn), .int (iI al)])), zI g bc 124 CE, zI g bo 124 OR] H := by rw [hHe]; exact hP
  have hS : va_S A s.heap H locs := by rw [hHe, hLe]; exact hS
  suffices hgo : W p l e ({ frames := 5, cells := 0, slots := 0, locals := 118 }) s m ([.ref o, .int (iI pi_), .int (iI q_)] : List Value).toArray below meth c H locs 0 0 Q (F0 m 0 ls []) by rw [hHe, hLe] at hgo; exact hgo
  clear hHe hLe
  refine lv_iload_n hx hb dX5_votes_0 rfl (lv_at hl 1 rfl) ?_
  refine z_cSS (As := [.int (iI pi_)]) (rest := []) C (m_X5_isPiece (l := l) (g := g) (v := pi_) (g_v := by omega)) (cwS 1 C.2.2.2.2 gX5_votes_X5_isPiece rfl rfl rfl (by decide +kernel) ⟨Nat.le_of_ble_eq_true rfl, Nat.le_of_ble_eq_true rfl⟩) hK hP [] rfl rfl hl.1 rfl (Nat.le_of_ble_eq_true rfl) dX5_votes_1 ⟨Nat.zero_le _, Nat.zero_le _⟩ ?_
  refine z_ifb_ne (tgt := 10) hx hb dX5_votes_4 (by decide) (fun c_1 => ?_) (fun c_1 => ?_)
  · refine lv_iload_n hx hb dX5_votes_10 rfl (lv_at hl 2 rfl) ?_
    refine lv_bipush (v := iI (-15)) hx hb dX5_votes_11 (by decide +kernel) ?_
    refine lv_bipush (v := iI 15) hx hb dX5_votes_13 (by decide +kernel) ?_
    refine z_cSS (As := [.int (iI q_), .int (iI (-15)), .int (iI 15)]) (rest := []) C (m_X5_isWithin (l := l) (g := g) (v := q_) (lo := -15) (hi := 15) (g_v := by omega) (g_lo := by omega) (g_hi := by omega)) (cwS 3 C.2.2.2.2 gX5_votes_X5_isWithin rfl rfl rfl (by decide +kernel) ⟨Nat.le_of_ble_eq_true rfl, Nat.le_of_ble_eq_true rfl⟩) hK hP [] rfl rfl hl.1 rfl (Nat.le_of_ble_eq_true rfl) dX5_votes_15 ⟨Nat.zero_le _, Nat.zero_le _⟩ ?_
    refine z_ifb_ne (tgt := 24) hx hb dX5_votes_18 (by decide) (fun c_2 => ?_) (fun c_2 => ?_)
    · refine lv_aload_n hx hb dX5_votes_24 rfl (lv_at hl 0 rfl) ?_
      refine z_cV (As := []) (rest := []) C (m_X5_refresh (l := l) (g := g) (o := o) (h := h) (b := b) (im := im) (a := a) (d := d) (bb := bb) (fr := fr) (hn := hn) (hs := hs) (fl := fl) (re := re) (NU := NU) (SZ := SZ) (aw := aw) (af := af) (ao := ao) (ds := ds) (df := df) (de := de) (bc := bc) (bo := bo) (WA := WA) (FD := FD) (ST := ST) (FI := FI) (EN := EN) (CE := CE) (OR := OR) (un := un) (rk := rk) (he := he) (kn := kn) (al := al) (hfr := hfr) (f1 := by omega) (f2 := by omega) (z1 := z1)) (cwV 0 C.2.2.2.2 gX5_votes_X5_refresh rfl rfl rfl (by decide +kernel) ⟨Nat.le_of_ble_eq_true rfl, Nat.le_of_ble_eq_true rfl⟩) hK hP hD hS hA [0, 1, 2, 3, 4, 5, 6, 7, 8, 9, 10, 11, 12, 13] (by decide) rfl (fun _ => rfl) 0 rfl rfl rfl hl.1 rfl (Nat.le_of_ble_eq_true rfl) dX5_votes_25 ⟨Nat.zero_le _, Nat.zero_le _⟩ (fun u H locs hu hP hD hS => ?_)
      have hP : zP g [(o, .inr (5, [.ref h, .ref b, .ref im, .ref a, .ref d, .ref bb, .int (iI 1)])), (h, .inr (4, [.ref hn, .ref hs, .int (iI fl), .int (iI re)])), zI g hn 640 NU, zI g hs 5 SZ, (a, .inr (3, [.ref aw, .ref af, .ref ao])), zI g aw 8 (u.1), zI g af 80 (pf NU SZ fl), (d, .inr (1, [.ref ds, .ref df, .ref de, .int (iI (un_ (pf NU SZ fl) re))])), zI g ds 385 (stt (pf NU SZ fl) re), zI g df 384 (u.2.1), zI g de 320 (u.2.2.1), (bb, .inr (0, [.ref bc, .ref bo, .int (iI (nt_ (pf NU SZ fl) re)), .int (iI (he_ (pf NU SZ fl) re)), .int (iI (ku_ (pf NU SZ fl) re)), .int (iI (al_ (pf NU SZ fl) re))])), zI g bc 124 (V_ (pf NU SZ fl) re), zI g bo 124 (u.2.2.2)] H := hP
      have hD : va_D A [(o, .inr (5, [.ref h, .ref b, .ref im, .ref a, .ref d, .ref bb, .int (iI 1)])), (h, .inr (4, [.ref hn, .ref hs, .int (iI fl), .int (iI re)])), zI g hn 640 NU, zI g hs 5 SZ, (a, .inr (3, [.ref aw, .ref af, .ref ao])), zI g aw 8 (u.1), zI g af 80 (pf NU SZ fl), (d, .inr (1, [.ref ds, .ref df, .ref de, .int (iI (un_ (pf NU SZ fl) re))])), zI g ds 385 (stt (pf NU SZ fl) re), zI g df 384 (u.2.1), zI g de 320 (u.2.2.1), (bb, .inr (0, [.ref bc, .ref bo, .int (iI (nt_ (pf NU SZ fl) re)), .int (iI (he_ (pf NU SZ fl) re)), .int (iI (ku_ (pf NU SZ fl) re)), .int (iI (al_ (pf NU SZ fl) re))])), zI g bc 124 (V_ (pf NU SZ fl) re), zI g bo 124 (u.2.2.2)] := hD
      have hnt := nt_rg (pf NU SZ fl) re
      obtain ⟨hE, hT, hO⟩ := hu
      refine lv_aload_n hx hb dX5_votes_28 rfl (lv_at hl 0 rfl) ?_
      refine z_get (v := .ref bb) (Cn := RX5) (T := TX5) (N := 7) (ci := 5) C in_m_X5_votes_X5 hK hP 0 rfl rfl 5 (by decide) (List.mem_of_getElem? (i := 3) rfl) rfl dX5_votes_29 ?_
      refine lv_iload_n hx hb dX5_votes_32 rfl (lv_at hl 1 rfl) ?_
      refine lv_iload_n hx hb dX5_votes_33 rfl (lv_at hl 2 rfl) ?_
      refine z_cS (As := [.int (iI pi_), .int (iI q_)]) (rest := []) C (m_X0_votesFor (l := l) (g := g) (bb := bb) (bc := bc) (bo := bo) (rk := nt_ (pf NU SZ fl) re) (he := he_ (pf NU SZ fl) re) (kn := ku_ (pf NU SZ fl) re) (al := al_ (pf NU SZ fl) re) (CE := V_ (pf NU SZ fl) re) (pi_ := pi_) (of_ := q_) (p1 := by omega) (p2 := by omega) (o1 := by omega) (o2 := by omega)) (cwV 2 C.2.2.2.2 gX5_votes_X0_votesFor rfl rfl rfl (by decide +kernel) ⟨Nat.le_of_ble_eq_true rfl, Nat.le_of_ble_eq_true rfl⟩) hK hP [11, 12] rfl 11 rfl rfl rfl hl.1 rfl (Nat.le_of_ble_eq_true rfl) dX5_votes_34 ⟨Nat.zero_le _, Nat.zero_le _⟩ ?_
      exact z_retE hx hb hlk hr hQ dX5_votes_37 hS u (⟨rfl, hE, hT, hO⟩) (hP)
    · exfalso; omega
  · exfalso; omega
set_option maxHeartbeats 4000000 in
set_option maxRecDepth 100000 in
theorem m_X5_votes_n (l : Launch) (g : zG) (o h b im a d bb : Nat) (fr : Int) (pi_ q_ : Int) (g_pi_ : -2147483648 ≤ pi_ ∧ pi_ < 2147483648) (g_q_ : -2147483648 ≤ q_ ∧ q_ < 2147483648) (rf : ¬ ((0 ≤ pi_ ∧ pi_ ≤ 3) ∧ (-15 ≤ q_ ∧ q_ ≤ 15))) : zS l yX5_votes wsX5_votes ({ frames := 2, cells := 0, slots := 0, locals := 42 }) g [.ref o, .int (iI pi_), .int (iI q_)] [(o, .inr (5, [.ref h, .ref b, .ref im, .ref a, .ref d, .ref bb, .int (iI fr)]))] (if ¬ (0 ≤ pi_ ∧ pi_ ≤ 3) then -1000000001 else -1000000002) := by
  refine z_entS (cc := cX5_votes) (nL := 3) (ret := (some .int)) (own := RX5) (by decide) rfl rfl (Nat.le_of_ble_eq_true rfl) ?_
  intro p e s m below meth c Q ls C hlk hr hQ hP hK hl
  have hx := C.1
  have hb := C.2.1
  have hl : lv_has ls 3 [(0, .ref o), (1, .int (iI pi_)), (2, .int (iI q_))] := hl
  refine lv_iload_n hx hb dX5_votes_0 rfl (lv_at hl 1 rfl) ?_
  refine z_cSS (As := [.int (iI pi_)]) (rest := []) C (m_X5_isPiece (l := l) (g := g) (v := pi_) (g_v := by omega)) (cwS 1 C.2.2.2.2 gX5_votes_X5_isPiece rfl rfl rfl (by decide +kernel) ⟨Nat.le_of_ble_eq_true rfl, Nat.le_of_ble_eq_true rfl⟩) hK hP [] rfl rfl hl.1 rfl (Nat.le_of_ble_eq_true rfl) dX5_votes_1 ⟨Nat.zero_le _, Nat.zero_le _⟩ ?_
  refine z_ifb_ne (tgt := 10) hx hb dX5_votes_4 (by decide) (fun c1 => ?_) (fun c1 => ?_)
  · refine lv_iload_n hx hb dX5_votes_10 rfl (lv_at hl 2 rfl) ?_
    refine lv_bipush (v := iI (-15)) hx hb dX5_votes_11 (by decide +kernel) ?_
    refine lv_bipush (v := iI 15) hx hb dX5_votes_13 (by decide +kernel) ?_
    refine z_cSS (As := [.int (iI q_), .int (iI (-15)), .int (iI 15)]) (rest := []) C (m_X5_isWithin (l := l) (g := g) (v := q_) (lo := -15) (hi := 15) (g_v := by omega) (g_lo := by omega) (g_hi := by omega)) (cwS 3 C.2.2.2.2 gX5_votes_X5_isWithin rfl rfl rfl (by decide +kernel) ⟨Nat.le_of_ble_eq_true rfl, Nat.le_of_ble_eq_true rfl⟩) hK hP [] rfl rfl hl.1 rfl (Nat.le_of_ble_eq_true rfl) dX5_votes_15 ⟨Nat.zero_le _, Nat.zero_le _⟩ ?_
    refine z_ifb_ne (tgt := 24) hx hb dX5_votes_18 (by decide) (fun c_1 => ?_) (fun c_1 => ?_)
    · exfalso; omega
    · refine z_ldc C (List.mem_of_getElem? (i := 2) rfl) (-1000000002) (by decide +kernel) dX5_votes_21 ?_
      exact z_retS hx hb hlk hr hQ dX5_votes_23 ((if_neg (fun z => z c1)).symm)
  · refine z_ldc C (List.mem_of_getElem? (i := 1) rfl) (-1000000001) (by decide +kernel) dX5_votes_7 ?_
    exact z_retS hx hb hlk hr hQ dX5_votes_9 ((if_pos c1).symm)
set_option maxRecDepth 20000 in
theorem in_m_X5_rank_X5 : ∀ w ∈ u_ws RX5 TX5 7, w ∈ wsX5_rank := zmem_of _ [137, 138, 139, 140, 141, 142, 143] (by decide +kernel)
set_option maxHeartbeats 4000000 in
set_option maxRecDepth 100000 in
theorem m_X5_rank (l : Launch) (g : zG) (o h b im a d bb : Nat) (fr : Int) (hn hs : Nat) (fl re : Int) (NU SZ : Int → Int) (aw af ao ds df de bc bo : Nat) (WA FD ST FI EN CE OR : Int → Int) (un rk he kn al : Int) (k wh : Int) (hfr : fr = 0 ∨ (fr = 1 ∧ fOK (pf NU SZ fl) re FD ST EN CE OR un rk he kn al)) (f1 : 0 ≤ fl ∧ fl ≤ 99999) (f2 : 1 ≤ re ∧ re ≤ 5) (z1 : ∀ q, 0 ≤ q → q < 5 → 0 ≤ SZ q ∧ SZ q ≤ 128) (a1 : 0 ≤ k ∧ k < 2147483648) (a2 : 0 ≤ wh ∧ wh ≤ 2) : zE l yX5_rank wsX5_rank ({ frames := 5, cells := 0, slots := 0, locals := 118 }) g [.ref o, .int (iI k), .int (iI wh)] [(o, .inr (5, [.ref h, .ref b, .ref im, .ref a, .ref d, .ref bb, .int (iI fr)])), (h, .inr (4, [.ref hn, .ref hs, .int (iI fl), .int (iI re)])), zI g hn 640 NU, zI g hs 5 SZ, (a, .inr (3, [.ref aw, .ref af, .ref ao])), zI g aw 8 WA, zI g af 80 FD, (d, .inr (1, [.ref ds, .ref df, .ref de, .int (iI un)])), zI g ds 385 ST, zI g df 384 FI, zI g de 320 EN, (bb, .inr (0, [.ref bc, .ref bo, .int (iI rk), .int (iI he), .int (iI kn), .int (iI al)])), zI g bc 124 CE, zI g bo 124 OR] (S := ((Int → Int) × (Int → Int) × (Int → Int) × (Int → Int))) (fun r u => (r = kq k wh (nt_ (pf NU SZ fl) re) (V_ (pf NU SZ fl) re) u.2.2.2) ∧ cOK (pf NU SZ fl) re u.2.2.1 u.2.2.2) (fun u => [(o, .inr (5, [.ref h, .ref b, .ref im, .ref a, .ref d, .ref bb, .int (iI 1)])), (h, .inr (4, [.ref hn, .ref hs, .int (iI fl), .int (iI re)])), zI g hn 640 NU, zI g hs 5 SZ, (a, .inr (3, [.ref aw, .ref af, .ref ao])), zI g aw 8 (u.1), zI g af 80 (pf NU SZ fl), (d, .inr (1, [.ref ds, .ref df, .ref de, .int (iI (un_ (pf NU SZ fl) re))])), zI g ds 385 (stt (pf NU SZ fl) re), zI g df 384 (u.2.1), zI g de 320 (u.2.2.1), (bb, .inr (0, [.ref bc, .ref bo, .int (iI (nt_ (pf NU SZ fl) re)), .int (iI (he_ (pf NU SZ fl) re)), .int (iI (ku_ (pf NU SZ fl) re)), .int (iI (al_ (pf NU SZ fl) re))])), zI g bc 124 (V_ (pf NU SZ fl) re), zI g bo 124 (u.2.2.2)]) := by
  refine z_entE (cc := cX5_rank) (nL := 3) (ret := (some .int)) (own := RX5) (by decide) rfl rfl (Nat.le_of_ble_eq_true rfl) ?_
  intro p e s m below meth c Q ls A C hlk hr hQ hP hK hD hA hS hl
  have hx := C.1
  have hb := C.2.1
  have hl : lv_has ls 3 [(0, .ref o), (1, .int (iI k)), (2, .int (iI wh))] := hl
  obtain ⟨H, hHe⟩ : ∃ H, H = s.heap := ⟨_, rfl⟩
  obtain ⟨locs, hLe⟩ : ∃ q : List Loc, q = [] := ⟨_, rfl⟩
  have hP : zP g [(o, .inr (5, [.ref h, .ref b, .ref im, .ref a, .ref d, .ref bb, .int (iI fr)])), (h, .inr (4, [.ref hn, .ref hs, .int (iI fl), .int (iI re)])), zI g hn 640 NU, zI g hs 5 SZ, (a, .inr (3, [.ref aw, .ref af, .ref ao])), zI g aw 8 WA, zI g af 80 FD, (d, .inr (1, [.ref ds, .ref df, .ref de, .int (iI un)])), zI g ds 385 ST, zI g df 384 FI, zI g de 320 EN, (bb, .inr (0, [.ref bc, .ref bo, .int (iI rk), .int (iI he), .int (iI kn), .int (iI al)])), zI g bc 124 CE, zI g bo 124 OR] H := by rw [hHe]; exact hP
  have hS : va_S A s.heap H locs := by rw [hHe, hLe]; exact hS
  suffices hgo : W p l e ({ frames := 5, cells := 0, slots := 0, locals := 118 }) s m ([.ref o, .int (iI k), .int (iI wh)] : List Value).toArray below meth c H locs 0 0 Q (F0 m 0 ls []) by rw [hHe, hLe] at hgo; exact hgo
  clear hHe hLe
  refine lv_iload_n hx hb dX5_rank_0 rfl (lv_at hl 1 rfl) ?_
  refine z_if_lt (tgt := 13) hx hb dX5_rank_1 (by decide) (by omega) (fun c_1 => ?_) (fun c_1 => ?_)
  · exfalso; omega
  · refine lv_iload_n hx hb dX5_rank_4 rfl (lv_at hl 2 rfl) ?_
    refine lv_iconst (v := iI 0) hx hb dX5_rank_5 rfl ?_
    refine lv_iconst (v := iI 2) hx hb dX5_rank_6 rfl ?_
    refine z_cSS (As := [.int (iI wh), .int (iI 0), .int (iI 2)]) (rest := []) C (m_X5_isWithin (l := l) (g := g) (v := wh) (lo := 0) (hi := 2) (g_v := by omega) (g_lo := by omega) (g_hi := by omega)) (cwS 3 C.2.2.2.2 gX5_rank_X5_isWithin rfl rfl rfl (by decide +kernel) ⟨Nat.le_of_ble_eq_true rfl, Nat.le_of_ble_eq_true rfl⟩) hK hP [] rfl rfl hl.1 rfl (Nat.le_of_ble_eq_true rfl) dX5_rank_7 ⟨Nat.zero_le _, Nat.zero_le _⟩ ?_
    refine z_ifb_ne (tgt := 16) hx hb dX5_rank_10 (by decide) (fun c_2 => ?_) (fun c_2 => ?_)
    · refine lv_aload_n hx hb dX5_rank_16 rfl (lv_at hl 0 rfl) ?_
      refine z_cV (As := []) (rest := []) C (m_X5_refresh (l := l) (g := g) (o := o) (h := h) (b := b) (im := im) (a := a) (d := d) (bb := bb) (fr := fr) (hn := hn) (hs := hs) (fl := fl) (re := re) (NU := NU) (SZ := SZ) (aw := aw) (af := af) (ao := ao) (ds := ds) (df := df) (de := de) (bc := bc) (bo := bo) (WA := WA) (FD := FD) (ST := ST) (FI := FI) (EN := EN) (CE := CE) (OR := OR) (un := un) (rk := rk) (he := he) (kn := kn) (al := al) (hfr := hfr) (f1 := by omega) (f2 := by omega) (z1 := z1)) (cwV 0 C.2.2.2.2 gX5_rank_X5_refresh rfl rfl rfl (by decide +kernel) ⟨Nat.le_of_ble_eq_true rfl, Nat.le_of_ble_eq_true rfl⟩) hK hP hD hS hA [0, 1, 2, 3, 4, 5, 6, 7, 8, 9, 10, 11, 12, 13] (by decide) rfl (fun _ => rfl) 0 rfl rfl rfl hl.1 rfl (Nat.le_of_ble_eq_true rfl) dX5_rank_17 ⟨Nat.zero_le _, Nat.zero_le _⟩ (fun u H locs hu hP hD hS => ?_)
      have hP : zP g [(o, .inr (5, [.ref h, .ref b, .ref im, .ref a, .ref d, .ref bb, .int (iI 1)])), (h, .inr (4, [.ref hn, .ref hs, .int (iI fl), .int (iI re)])), zI g hn 640 NU, zI g hs 5 SZ, (a, .inr (3, [.ref aw, .ref af, .ref ao])), zI g aw 8 (u.1), zI g af 80 (pf NU SZ fl), (d, .inr (1, [.ref ds, .ref df, .ref de, .int (iI (un_ (pf NU SZ fl) re))])), zI g ds 385 (stt (pf NU SZ fl) re), zI g df 384 (u.2.1), zI g de 320 (u.2.2.1), (bb, .inr (0, [.ref bc, .ref bo, .int (iI (nt_ (pf NU SZ fl) re)), .int (iI (he_ (pf NU SZ fl) re)), .int (iI (ku_ (pf NU SZ fl) re)), .int (iI (al_ (pf NU SZ fl) re))])), zI g bc 124 (V_ (pf NU SZ fl) re), zI g bo 124 (u.2.2.2)] H := hP
      have hD : va_D A [(o, .inr (5, [.ref h, .ref b, .ref im, .ref a, .ref d, .ref bb, .int (iI 1)])), (h, .inr (4, [.ref hn, .ref hs, .int (iI fl), .int (iI re)])), zI g hn 640 NU, zI g hs 5 SZ, (a, .inr (3, [.ref aw, .ref af, .ref ao])), zI g aw 8 (u.1), zI g af 80 (pf NU SZ fl), (d, .inr (1, [.ref ds, .ref df, .ref de, .int (iI (un_ (pf NU SZ fl) re))])), zI g ds 385 (stt (pf NU SZ fl) re), zI g df 384 (u.2.1), zI g de 320 (u.2.2.1), (bb, .inr (0, [.ref bc, .ref bo, .int (iI (nt_ (pf NU SZ fl) re)), .int (iI (he_ (pf NU SZ fl) re)), .int (iI (ku_ (pf NU SZ fl) re)), .int (iI (al_ (pf NU SZ fl) re))])), zI g bc 124 (V_ (pf NU SZ fl) re), zI g bo 124 (u.2.2.2)] := hD
      have hnt := nt_rg (pf NU SZ fl) re
      obtain ⟨hE, hT, hO⟩ := hu
      refine lv_iload_n hx hb dX5_rank_20 rfl (lv_at hl 1 rfl) ?_
      refine lv_aload_n hx hb dX5_rank_21 rfl (lv_at hl 0 rfl) ?_
      refine z_get (v := .ref bb) (Cn := RX5) (T := TX5) (N := 7) (ci := 5) C in_m_X5_rank_X5 hK hP 0 rfl rfl 5 (by decide) (List.mem_of_getElem? (i := 2) rfl) rfl dX5_rank_22 ?_
      refine z_cS (As := []) (rest := [.int (iI k)]) C (m_X0_ranked (l := l) (g := g) (bb := bb) (bc := bc) (bo := bo) (rk := nt_ (pf NU SZ fl) re) (he := he_ (pf NU SZ fl) re) (kn := ku_ (pf NU SZ fl) re) (al := al_ (pf NU SZ fl) re) ) (cwV 0 C.2.2.2.2 gX5_rank_X0_ranked rfl rfl rfl (by decide +kernel) ⟨Nat.le_of_ble_eq_true rfl, Nat.le_of_ble_eq_true rfl⟩) hK hP [11] rfl 11 rfl rfl rfl hl.1 rfl (Nat.le_of_ble_eq_true rfl) dX5_rank_25 ⟨Nat.zero_le _, Nat.zero_le _⟩ ?_
      refine z_icmp_lt (tgt := 33) hx hb dX5_rank_28 (by decide) (by omega) (by omega) (fun hc => ?_) (fun hc => ?_)
      · refine lv_iload_n hx hb dX5_rank_33 rfl (lv_at hl 2 rfl) ?_
        by_cases t_0 : wh = 0
        · subst t_0
          refine lv_lookup (off := 26) (tgt := 60) hx hb dX5_rank_34 (by decide +kernel) (by decide +kernel) (by decide) ?_
          refine lv_aload_n hx hb dX5_rank_60 rfl (lv_at hl 0 rfl) ?_
          refine z_get (v := .ref bb) (Cn := RX5) (T := TX5) (N := 7) (ci := 5) C in_m_X5_rank_X5 hK hP 0 rfl rfl 5 (by decide) (List.mem_of_getElem? (i := 2) rfl) rfl dX5_rank_61 ?_
          refine lv_iload_n hx hb dX5_rank_64 rfl (lv_at hl 1 rfl) ?_
          refine z_cS (As := [.int (iI k)]) (rest := []) C (m_X0_pieceOf (l := l) (g := g) (bb := bb) (bc := bc) (bo := bo) (rk := nt_ (pf NU SZ fl) re) (he := he_ (pf NU SZ fl) re) (kn := ku_ (pf NU SZ fl) re) (al := al_ (pf NU SZ fl) re) (OR := u.2.2.2) (k := k) (k1 := by omega) (k2 := by omega) (n1 := by omega) (n2 := by omega) (ho := (fun i g1 g2 => by have := hO.1 i g1 g2; omega))) (cwV 1 C.2.2.2.2 gX5_rank_X0_pieceOf rfl rfl rfl (by decide +kernel) ⟨Nat.le_of_ble_eq_true rfl, Nat.le_of_ble_eq_true rfl⟩) hK hP [11, 13] rfl 11 rfl rfl rfl hl.1 rfl (Nat.le_of_ble_eq_true rfl) dX5_rank_65 ⟨Nat.zero_le _, Nat.zero_le _⟩ ?_
          refine z_top (b := u.2.2.2 k / 31) (if_pos hc) ?_
          exact z_retE hx hb hlk hr hQ dX5_rank_68 hS u (⟨by unfold kq; rw [if_pos hc, if_pos rfl], hE, hT, hO⟩) (hP)
        by_cases t_1 : wh = 1
        · subst t_1
          refine lv_lookup (off := 35) (tgt := 69) hx hb dX5_rank_34 (by decide +kernel) (by decide +kernel) (by decide) ?_
          refine lv_aload_n hx hb dX5_rank_69 rfl (lv_at hl 0 rfl) ?_
          refine z_get (v := .ref bb) (Cn := RX5) (T := TX5) (N := 7) (ci := 5) C in_m_X5_rank_X5 hK hP 0 rfl rfl 5 (by decide) (List.mem_of_getElem? (i := 2) rfl) rfl dX5_rank_70 ?_
          refine lv_iload_n hx hb dX5_rank_73 rfl (lv_at hl 1 rfl) ?_
          refine z_cS (As := [.int (iI k)]) (rest := []) C (m_X0_offsetOf (l := l) (g := g) (bb := bb) (bc := bc) (bo := bo) (rk := nt_ (pf NU SZ fl) re) (he := he_ (pf NU SZ fl) re) (kn := ku_ (pf NU SZ fl) re) (al := al_ (pf NU SZ fl) re) (OR := u.2.2.2) (k := k) (k1 := by omega) (k2 := by omega) (n1 := by omega) (n2 := by omega) (ho := (fun i g1 g2 => by have := hO.1 i g1 g2; omega))) (cwV 1 C.2.2.2.2 gX5_rank_X0_offsetOf rfl rfl rfl (by decide +kernel) ⟨Nat.le_of_ble_eq_true rfl, Nat.le_of_ble_eq_true rfl⟩) hK hP [11, 13] rfl 11 rfl rfl rfl hl.1 rfl (Nat.le_of_ble_eq_true rfl) dX5_rank_74 ⟨Nat.zero_le _, Nat.zero_le _⟩ ?_
          refine z_top (b := u.2.2.2 k % 31 - 15) (if_pos hc) ?_
          refine lv_bipush (v := iI 100) hx hb dX5_rank_77 (by decide +kernel) ?_
          refine z_iadd hx hb dX5_rank_79 ?_
          exact z_retE hx hb hlk hr hQ dX5_rank_80 hS u (⟨by unfold kq; rw [if_pos hc, if_neg (by omega), if_pos rfl], hE, hT, hO⟩) (hP)
        obtain t_2 : wh = 2 := by omega
        subst t_2
        refine lv_lookup (off := 47) (tgt := 81) hx hb dX5_rank_34 (by decide +kernel) (by decide +kernel) (by decide) ?_
        refine lv_aload_n hx hb dX5_rank_81 rfl (lv_at hl 0 rfl) ?_
        refine z_get (v := .ref bb) (Cn := RX5) (T := TX5) (N := 7) (ci := 5) C in_m_X5_rank_X5 hK hP 0 rfl rfl 5 (by decide) (List.mem_of_getElem? (i := 2) rfl) rfl dX5_rank_82 ?_
        refine lv_iload_n hx hb dX5_rank_85 rfl (lv_at hl 1 rfl) ?_
        refine z_cS (As := [.int (iI k)]) (rest := []) C (m_X0_countOf (l := l) (g := g) (bb := bb) (bc := bc) (bo := bo) (rk := nt_ (pf NU SZ fl) re) (he := he_ (pf NU SZ fl) re) (kn := ku_ (pf NU SZ fl) re) (al := al_ (pf NU SZ fl) re) (CE := V_ (pf NU SZ fl) re) (OR := u.2.2.2) (k := k) (k1 := by omega) (k2 := by omega) (n1 := by omega) (n2 := by omega) (ho := (fun i g1 g2 => by have := hO.1 i g1 g2; omega))) (cwV 1 C.2.2.2.2 gX5_rank_X0_countOf rfl rfl rfl (by decide +kernel) ⟨Nat.le_of_ble_eq_true rfl, Nat.le_of_ble_eq_true rfl⟩) hK hP [11, 12, 13] rfl 11 rfl rfl rfl hl.1 rfl (Nat.le_of_ble_eq_true rfl) dX5_rank_86 ⟨Nat.zero_le _, Nat.zero_le _⟩ ?_
        refine z_top (b := (V_ (pf NU SZ fl) re) (u.2.2.2 k)) (if_pos hc) ?_
        exact z_retE hx hb hlk hr hQ dX5_rank_89 hS u (⟨by unfold kq; rw [if_pos hc, if_neg (by omega), if_neg (by omega)], hE, hT, hO⟩) (hP)
      · refine lv_iconst (v := iI (-1)) hx hb dX5_rank_31 rfl ?_
        exact z_retE hx hb hlk hr hQ dX5_rank_32 hS u (⟨by unfold kq; rw [if_neg (by omega)], hE, hT, hO⟩) (hP)
    · exfalso; omega
set_option maxHeartbeats 4000000 in
set_option maxRecDepth 100000 in
theorem m_X5_rank_n (l : Launch) (g : zG) (o h b im a d bb : Nat) (fr : Int) (k wh : Int) (g_k : -2147483648 ≤ k ∧ k < 2147483648) (g_wh : -2147483648 ≤ wh ∧ wh < 2147483648) (rf : ¬ (0 ≤ k ∧ (0 ≤ wh ∧ wh ≤ 2))) : zS l yX5_rank wsX5_rank ({ frames := 1, cells := 0, slots := 0, locals := 22 }) g [.ref o, .int (iI k), .int (iI wh)] [(o, .inr (5, [.ref h, .ref b, .ref im, .ref a, .ref d, .ref bb, .int (iI fr)]))] (-1000000002) := by
  refine z_entS (cc := cX5_rank) (nL := 3) (ret := (some .int)) (own := RX5) (by decide) rfl rfl (Nat.le_of_ble_eq_true rfl) ?_
  intro p e s m below meth c Q ls C hlk hr hQ hP hK hl
  have hx := C.1
  have hb := C.2.1
  have hl : lv_has ls 3 [(0, .ref o), (1, .int (iI k)), (2, .int (iI wh))] := hl
  refine lv_iload_n hx hb dX5_rank_0 rfl (lv_at hl 1 rfl) ?_
  refine z_if_lt (tgt := 13) hx hb dX5_rank_1 (by decide) (by omega) (fun c_1 => ?_) (fun c_1 => ?_)
  · refine z_ldc C (List.mem_of_getElem? (i := 1) rfl) (-1000000002) (by decide +kernel) dX5_rank_13 ?_
    exact z_retS hx hb hlk hr hQ dX5_rank_15 (rfl)
  · refine lv_iload_n hx hb dX5_rank_4 rfl (lv_at hl 2 rfl) ?_
    refine lv_iconst (v := iI 0) hx hb dX5_rank_5 rfl ?_
    refine lv_iconst (v := iI 2) hx hb dX5_rank_6 rfl ?_
    refine z_cSS (As := [.int (iI wh), .int (iI 0), .int (iI 2)]) (rest := []) C (m_X5_isWithin (l := l) (g := g) (v := wh) (lo := 0) (hi := 2) (g_v := by omega) (g_lo := by omega) (g_hi := by omega)) (cwS 3 C.2.2.2.2 gX5_rank_X5_isWithin rfl rfl rfl (by decide +kernel) ⟨Nat.le_of_ble_eq_true rfl, Nat.le_of_ble_eq_true rfl⟩) hK hP [] rfl rfl hl.1 rfl (Nat.le_of_ble_eq_true rfl) dX5_rank_7 ⟨Nat.zero_le _, Nat.zero_le _⟩ ?_
    refine z_ifb_ne (tgt := 16) hx hb dX5_rank_10 (by decide) (fun c_2 => ?_) (fun c_2 => ?_)
    · exfalso; omega
    · refine z_ldc C (List.mem_of_getElem? (i := 1) rfl) (-1000000002) (by decide +kernel) dX5_rank_13 ?_
      exact z_retS hx hb hlk hr hQ dX5_rank_15 (rfl)
