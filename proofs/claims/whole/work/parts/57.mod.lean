set_option maxHeartbeats 4000000 in
set_option maxRecDepth 100000 in
theorem m_X6_share (l : Launch) (g : zG) (q qn qp qi qk qt qw qv qr : Nat) (ac : Int) (N TU : Int → Int) (pi_ w k : Int) (zN : okN N) (a1 : (0 ≤ pi_ ∧ pi_ ≤ 4) ∧ (0 ≤ w ∧ w ≤ N (2 + pi_) / 8 - 1)) (a2 : 0 ≤ k ∧ k ≤ 7) : zE l yX6_share wsX6_share ({ frames := 2, cells := 0, slots := 0, locals := 48 }) g [.ref q, .int (iI pi_), .int (iI w), .int (iI k)] [(q, .inr (6, [.ref qn, .ref qp, .int (iI ac), .ref qi, .ref qk, .ref qt, .ref qw, .ref qv, .ref qr])), zI g qn 647 N, zI g qt 8 TU] (S := Unit) (fun r _ => r = sh (wv (fun i => N (7 + (pi_ * 128 + (w * 8 + i))))) k) (fun _ => [(q, .inr (6, [.ref qn, .ref qp, .int (iI ac), .ref qi, .ref qk, .ref qt, .ref qw, .ref qv, .ref qr])), zI g qn 647 N, zI g qt 8 (wv (fun i => N (7 + (pi_ * 128 + (w * 8 + i)))))]) := by
  refine z_entE (cc := cX6_share) (nL := 4) (ret := (some .int)) (own := RX6) (by decide) rfl rfl (Nat.le_of_ble_eq_true rfl) ?_
  intro p e s m below meth c Q ls A C hlk hr hQ hP hK hD hA hS hl
  have hx := C.1
  have hb := C.2.1
  have hl : lv_has ls 4 [(0, .ref q), (1, .int (iI pi_)), (2, .int (iI w)), (3, .int (iI k))] := hl
  obtain ⟨H, hHe⟩ : ∃ H, H = s.heap := ⟨_, rfl⟩
  obtain ⟨locs, hLe⟩ : ∃ q : List Loc, q = [] := ⟨_, rfl⟩
  have hP : zP g [(q, .inr (6, [.ref qn, .ref qp, .int (iI ac), .ref qi, .ref qk, .ref qt, .ref qw, .ref qv, .ref qr])), zI g qn 647 N, zI g qt 8 TU] H := by rw [hHe]; exact hP
  have hS : va_S A s.heap H locs := by rw [hHe, hLe]; exact hS
  suffices hgo : W p l e ({ frames := 2, cells := 0, slots := 0, locals := 48 }) s m ([.ref q, .int (iI pi_), .int (iI w), .int (iI k)] : List Value).toArray below meth c H locs 0 0 Q (F0 m 0 ls []) by rw [hHe, hLe] at hgo; exact hgo
  clear hHe hLe
  have hz1 := zN.2.2.1 pi_ (by omega) (by omega)
  refine lv_iload_n hx hb dX6_share_0 rfl (lv_at hl 1 rfl) ?_
  refine z_cSS (As := [.int (iI pi_)]) (rest := []) C (m_X6_isRow (l := l) (g := g) (v := pi_) (g_v := by omega)) (cwS 1 C.2.2.2.2 gX6_share_X6_isRow rfl rfl rfl (by decide +kernel) ⟨Nat.le_of_ble_eq_true rfl, Nat.le_of_ble_eq_true rfl⟩) hK hP [] rfl rfl hl.1 rfl (Nat.le_of_ble_eq_true rfl) dX6_share_1 ⟨Nat.zero_le _, Nat.zero_le _⟩ ?_
  refine z_ifb_eq (tgt := 16) hx hb dX6_share_4 (by decide) (fun c_1 => ?_) (fun c_1 => ?_)
  · exfalso; omega
  · refine lv_aload_n hx hb dX6_share_7 rfl (lv_at hl 0 rfl) ?_
    refine lv_iload_n hx hb dX6_share_8 rfl (lv_at hl 1 rfl) ?_
    refine lv_iload_n hx hb dX6_share_9 rfl (lv_at hl 2 rfl) ?_
    refine z_cS (As := [.int (iI pi_), .int (iI w)]) (rest := []) C (m_X6_isWindow (l := l) (g := g) (q := q) (qn := qn) (qp := qp) (qi := qi) (qk := qk) (qt := qt) (qw := qw) (qv := qv) (qr := qr) (ac := ac) (N := N) (pi_ := pi_) (w := w) (h1 := by omega) (h2 := by omega) (g_w := by omega) (z1 := hz1)) (cwV 2 C.2.2.2.2 gX6_share_X6_isWindow rfl rfl rfl (by decide +kernel) ⟨Nat.le_of_ble_eq_true rfl, Nat.le_of_ble_eq_true rfl⟩) hK hP [0, 1] rfl 0 rfl rfl rfl hl.1 rfl (Nat.le_of_ble_eq_true rfl) dX6_share_10 ⟨Nat.zero_le _, Nat.zero_le _⟩ ?_
    refine z_ifb_ne (tgt := 19) hx hb dX6_share_13 (by decide) (fun c_2 => ?_) (fun c_2 => ?_)
    · refine lv_iload_n hx hb dX6_share_19 rfl (lv_at hl 3 rfl) ?_
      refine lv_iconst (v := iI 0) hx hb dX6_share_20 rfl ?_
      refine lv_bipush (v := iI 7) hx hb dX6_share_21 (by decide +kernel) ?_
      refine z_cSS (As := [.int (iI k), .int (iI 0), .int (iI 7)]) (rest := []) C (m_X6_in (l := l) (g := g) (v := k) (lo := 0) (hi := 7) (g_v := by omega) (g_lo := by omega) (g_hi := by omega)) (cwS 3 C.2.2.2.2 gX6_share_X6_in rfl rfl rfl (by decide +kernel) ⟨Nat.le_of_ble_eq_true rfl, Nat.le_of_ble_eq_true rfl⟩) hK hP [] rfl rfl hl.1 rfl (Nat.le_of_ble_eq_true rfl) dX6_share_23 ⟨Nat.zero_le _, Nat.zero_le _⟩ ?_
      refine z_ifb_ne (tgt := 32) hx hb dX6_share_26 (by decide) (fun c_3 => ?_) (fun c_3 => ?_)
      · refine lv_aload_n hx hb dX6_share_32 rfl (lv_at hl 0 rfl) ?_
        refine lv_iload_n hx hb dX6_share_33 rfl (lv_at hl 1 rfl) ?_
        refine lv_iload_n hx hb dX6_share_34 rfl (lv_at hl 2 rfl) ?_
        refine z_cV (As := [.int (iI pi_), .int (iI w)]) (rest := []) C (m_X6_turns (l := l) (g := g) (q := q) (qn := qn) (qp := qp) (qi := qi) (qk := qk) (qt := qt) (qw := qw) (qv := qv) (qr := qr) (ac := ac) (N := N) (TU := TU) (pi_ := pi_) (wi := w) (h1 := by omega) (h2 := by omega) (w1 := by omega)) (cwV 2 C.2.2.2.2 gX6_share_X6_turns rfl rfl rfl (by decide +kernel) ⟨Nat.le_of_ble_eq_true rfl, Nat.le_of_ble_eq_true rfl⟩) hK hP hD hS hA [0, 1, 2] (by decide) rfl (fun _ => rfl) 0 rfl rfl rfl hl.1 rfl (Nat.le_of_ble_eq_true rfl) dX6_share_35 ⟨Nat.zero_le _, Nat.zero_le _⟩ (fun u_4 H locs hq_5 hP hD hS => ?_)
        have hP : zP g [(q, .inr (6, [.ref qn, .ref qp, .int (iI ac), .ref qi, .ref qk, .ref qt, .ref qw, .ref qv, .ref qr])), zI g qn 647 N, zI g qt 8 (wv (fun i => N (7 + (pi_ * 128 + (w * 8 + i)))))] H := hP
        have hD : va_D A [(q, .inr (6, [.ref qn, .ref qp, .int (iI ac), .ref qi, .ref qk, .ref qt, .ref qw, .ref qv, .ref qr])), zI g qn 647 N, zI g qt 8 (wv (fun i => N (7 + (pi_ * 128 + (w * 8 + i)))))] := hD
        refine lv_aload_n hx hb dX6_share_38 rfl (lv_at hl 0 rfl) ?_
        refine lv_iload_n hx hb dX6_share_39 rfl (lv_at hl 3 rfl) ?_
        refine z_cS (As := [.int (iI k)]) (rest := []) C (m_X6_shareOf (l := l) (g := g) (q := q) (qn := qn) (qp := qp) (qi := qi) (qk := qk) (qt := qt) (qw := qw) (qv := qv) (qr := qr) (ac := ac) (TU := wv (fun i => N (7 + (pi_ * 128 + (w * 8 + i))))) (k := k) (h1 := by omega) (h2 := by omega)) (cwV 1 C.2.2.2.2 gX6_share_X6_shareOf rfl rfl rfl (by decide +kernel) ⟨Nat.le_of_ble_eq_true rfl, Nat.le_of_ble_eq_true rfl⟩) hK hP [0, 2] rfl 0 rfl rfl rfl hl.1 rfl (Nat.le_of_ble_eq_true rfl) dX6_share_40 ⟨Nat.zero_le _, Nat.zero_le _⟩ ?_
        have hsr := sh_rg (wv (fun i => N (7 + (pi_ * 128 + (w * 8 + i))))) k
        exact z_retE hx hb hlk hr hQ dX6_share_43 hS () (rfl) (hP)
      · exfalso; omega
    · exfalso; omega
set_option maxHeartbeats 4000000 in
set_option maxRecDepth 100000 in
theorem m_X6_share_n (l : Launch) (g : zG) (q qn qp qi qk qt qw qv qr : Nat) (ac : Int) (N : Int → Int) (pi_ w k : Int) (zN : okN N) (g_pi_ : -2147483648 ≤ pi_ ∧ pi_ < 2147483648) (g_w : -2147483648 ≤ w ∧ w < 2147483648) (g_k : -2147483648 ≤ k ∧ k < 2147483648) (rf : ¬ (((0 ≤ pi_ ∧ pi_ ≤ 4) ∧ (0 ≤ w ∧ w ≤ N (2 + pi_) / 8 - 1)) ∧ 0 ≤ k ∧ k ≤ 7)) : zS l yX6_share wsX6_share ({ frames := 2, cells := 0, slots := 0, locals := 44 }) g [.ref q, .int (iI pi_), .int (iI w), .int (iI k)] [(q, .inr (6, [.ref qn, .ref qp, .int (iI ac), .ref qi, .ref qk, .ref qt, .ref qw, .ref qv, .ref qr])), zI g qn 647 N] (if ¬ ((0 ≤ pi_ ∧ pi_ ≤ 4) ∧ (0 ≤ w ∧ w ≤ N (2 + pi_) / 8 - 1)) then -1000000001 else -1000000002) := by
  refine z_entS (cc := cX6_share) (nL := 4) (ret := (some .int)) (own := RX6) (by decide) rfl rfl (Nat.le_of_ble_eq_true rfl) ?_
  intro p e s m below meth c Q ls C hlk hr hQ hP hK hl
  have hx := C.1
  have hb := C.2.1
  have hl : lv_has ls 4 [(0, .ref q), (1, .int (iI pi_)), (2, .int (iI w)), (3, .int (iI k))] := hl
  refine lv_iload_n hx hb dX6_share_0 rfl (lv_at hl 1 rfl) ?_
  refine z_cSS (As := [.int (iI pi_)]) (rest := []) C (m_X6_isRow (l := l) (g := g) (v := pi_) (g_v := by omega)) (cwS 1 C.2.2.2.2 gX6_share_X6_isRow rfl rfl rfl (by decide +kernel) ⟨Nat.le_of_ble_eq_true rfl, Nat.le_of_ble_eq_true rfl⟩) hK hP [] rfl rfl hl.1 rfl (Nat.le_of_ble_eq_true rfl) dX6_share_1 ⟨Nat.zero_le _, Nat.zero_le _⟩ ?_
  refine z_ifb_eq (tgt := 16) hx hb dX6_share_4 (by decide) (fun c1 => ?_) (fun c1 => ?_)
  · refine z_ldc C (List.mem_of_getElem? (i := 1) rfl) (-1000000001) (by decide +kernel) dX6_share_16 ?_
    exact z_retS hx hb hlk hr hQ dX6_share_18 ((if_pos (fun z => c1 z.1)).symm)
  · have hz1 := zN.2.2.1 pi_ (by omega) (by omega)
    refine lv_aload_n hx hb dX6_share_7 rfl (lv_at hl 0 rfl) ?_
    refine lv_iload_n hx hb dX6_share_8 rfl (lv_at hl 1 rfl) ?_
    refine lv_iload_n hx hb dX6_share_9 rfl (lv_at hl 2 rfl) ?_
    refine z_cS (As := [.int (iI pi_), .int (iI w)]) (rest := []) C (m_X6_isWindow (l := l) (g := g) (q := q) (qn := qn) (qp := qp) (qi := qi) (qk := qk) (qt := qt) (qw := qw) (qv := qv) (qr := qr) (ac := ac) (N := N) (pi_ := pi_) (w := w) (h1 := by omega) (h2 := by omega) (g_w := by omega) (z1 := hz1)) (cwV 2 C.2.2.2.2 gX6_share_X6_isWindow rfl rfl rfl (by decide +kernel) ⟨Nat.le_of_ble_eq_true rfl, Nat.le_of_ble_eq_true rfl⟩) hK hP [0, 1] rfl 0 rfl rfl rfl hl.1 rfl (Nat.le_of_ble_eq_true rfl) dX6_share_10 ⟨Nat.zero_le _, Nat.zero_le _⟩ ?_
    refine z_ifb_ne (tgt := 19) hx hb dX6_share_13 (by decide) (fun c2 => ?_) (fun c2 => ?_)
    · refine lv_iload_n hx hb dX6_share_19 rfl (lv_at hl 3 rfl) ?_
      refine lv_iconst (v := iI 0) hx hb dX6_share_20 rfl ?_
      refine lv_bipush (v := iI 7) hx hb dX6_share_21 (by decide +kernel) ?_
      refine z_cSS (As := [.int (iI k), .int (iI 0), .int (iI 7)]) (rest := []) C (m_X6_in (l := l) (g := g) (v := k) (lo := 0) (hi := 7) (g_v := by omega) (g_lo := by omega) (g_hi := by omega)) (cwS 3 C.2.2.2.2 gX6_share_X6_in rfl rfl rfl (by decide +kernel) ⟨Nat.le_of_ble_eq_true rfl, Nat.le_of_ble_eq_true rfl⟩) hK hP [] rfl rfl hl.1 rfl (Nat.le_of_ble_eq_true rfl) dX6_share_23 ⟨Nat.zero_le _, Nat.zero_le _⟩ ?_
      refine z_ifb_ne (tgt := 32) hx hb dX6_share_26 (by decide) (fun c_1 => ?_) (fun c_1 => ?_)
      · exact absurd ⟨⟨c1, c2⟩, c_1⟩ rf
      · refine z_ldc C (List.mem_of_getElem? (i := 2) rfl) (-1000000002) (by decide +kernel) dX6_share_29 ?_
        exact z_retS hx hb hlk hr hQ dX6_share_31 ((if_neg (fun z => z ⟨c1, c2⟩)).symm)
    · refine z_ldc C (List.mem_of_getElem? (i := 1) rfl) (-1000000001) (by decide +kernel) dX6_share_16 ?_
      exact z_retS hx hb hlk hr hQ dX6_share_18 ((if_pos (fun z => c2 z.2)).symm)
set_option maxHeartbeats 4000000 in
set_option maxRecDepth 100000 in
theorem m_X6_peak (l : Launch) (g : zG) (q qn qp qi qk qt qw qv qr : Nat) (ac : Int) (N TU : Int → Int) (pi_ w : Int) (zN : okN N) (a1 : (0 ≤ pi_ ∧ pi_ ≤ 4) ∧ (0 ≤ w ∧ w ≤ N (2 + pi_) / 8 - 1)) : zE l yX6_peak wsX6_peak ({ frames := 3, cells := 0, slots := 0, locals := 72 }) g [.ref q, .int (iI pi_), .int (iI w)] [(q, .inr (6, [.ref qn, .ref qp, .int (iI ac), .ref qi, .ref qk, .ref qt, .ref qw, .ref qv, .ref qr])), zI g qn 647 N, zI g qt 8 TU] (S := Unit) (fun r _ => r = FDn N (pi_ * 16 + w)) (fun _ => [(q, .inr (6, [.ref qn, .ref qp, .int (iI ac), .ref qi, .ref qk, .ref qt, .ref qw, .ref qv, .ref qr])), zI g qn 647 N, zI g qt 8 (wv (fun i => N (7 + (pi_ * 128 + (w * 8 + i)))))]) := by
  refine z_entE (cc := cX6_peak) (nL := 3) (ret := (some .int)) (own := RX6) (by decide) rfl rfl (Nat.le_of_ble_eq_true rfl) ?_
  intro p e s m below meth c Q ls A C hlk hr hQ hP hK hD hA hS hl
  have hx := C.1
  have hb := C.2.1
  have hl : lv_has ls 3 [(0, .ref q), (1, .int (iI pi_)), (2, .int (iI w))] := hl
  obtain ⟨H, hHe⟩ : ∃ H, H = s.heap := ⟨_, rfl⟩
  obtain ⟨locs, hLe⟩ : ∃ q : List Loc, q = [] := ⟨_, rfl⟩
  have hP : zP g [(q, .inr (6, [.ref qn, .ref qp, .int (iI ac), .ref qi, .ref qk, .ref qt, .ref qw, .ref qv, .ref qr])), zI g qn 647 N, zI g qt 8 TU] H := by rw [hHe]; exact hP
  have hS : va_S A s.heap H locs := by rw [hHe, hLe]; exact hS
  suffices hgo : W p l e ({ frames := 3, cells := 0, slots := 0, locals := 72 }) s m ([.ref q, .int (iI pi_), .int (iI w)] : List Value).toArray below meth c H locs 0 0 Q (F0 m 0 ls []) by rw [hHe, hLe] at hgo; exact hgo
  clear hHe hLe
  have hz1 := zN.2.2.1 pi_ (by omega) (by omega)
  refine lv_iload_n hx hb dX6_peak_0 rfl (lv_at hl 1 rfl) ?_
  refine z_cSS (As := [.int (iI pi_)]) (rest := []) C (m_X6_isRow (l := l) (g := g) (v := pi_) (g_v := by omega)) (cwS 1 C.2.2.2.2 gX6_peak_X6_isRow rfl rfl rfl (by decide +kernel) ⟨Nat.le_of_ble_eq_true rfl, Nat.le_of_ble_eq_true rfl⟩) hK hP [] rfl rfl hl.1 rfl (Nat.le_of_ble_eq_true rfl) dX6_peak_1 ⟨Nat.zero_le _, Nat.zero_le _⟩ ?_
  refine z_ifb_eq (tgt := 25) hx hb dX6_peak_4 (by decide) (fun c_1 => ?_) (fun c_1 => ?_)
  · exfalso; omega
  · refine lv_aload_n hx hb dX6_peak_7 rfl (lv_at hl 0 rfl) ?_
    refine lv_iload_n hx hb dX6_peak_8 rfl (lv_at hl 1 rfl) ?_
    refine lv_iload_n hx hb dX6_peak_9 rfl (lv_at hl 2 rfl) ?_
    refine z_cS (As := [.int (iI pi_), .int (iI w)]) (rest := []) C (m_X6_isWindow (l := l) (g := g) (q := q) (qn := qn) (qp := qp) (qi := qi) (qk := qk) (qt := qt) (qw := qw) (qv := qv) (qr := qr) (ac := ac) (N := N) (pi_ := pi_) (w := w) (h1 := by omega) (h2 := by omega) (g_w := by omega) (z1 := hz1)) (cwV 2 C.2.2.2.2 gX6_peak_X6_isWindow rfl rfl rfl (by decide +kernel) ⟨Nat.le_of_ble_eq_true rfl, Nat.le_of_ble_eq_true rfl⟩) hK hP [0, 1] rfl 0 rfl rfl rfl hl.1 rfl (Nat.le_of_ble_eq_true rfl) dX6_peak_10 ⟨Nat.zero_le _, Nat.zero_le _⟩ ?_
    refine z_ifb_eq (tgt := 25) hx hb dX6_peak_13 (by decide) (fun c_2 => ?_) (fun c_2 => ?_)
    · exfalso; omega
    · refine lv_aload_n hx hb dX6_peak_16 rfl (lv_at hl 0 rfl) ?_
      refine lv_iload_n hx hb dX6_peak_17 rfl (lv_at hl 1 rfl) ?_
      refine lv_iload_n hx hb dX6_peak_18 rfl (lv_at hl 2 rfl) ?_
      refine z_cE (As := [.int (iI pi_), .int (iI w)]) (rest := []) C (m_X6_peakOf (l := l) (g := g) (q := q) (qn := qn) (qp := qp) (qi := qi) (qk := qk) (qt := qt) (qw := qw) (qv := qv) (qr := qr) (ac := ac) (N := N) (TU := TU) (pi_ := pi_) (wi := w) (h1 := by omega) (h2 := by omega) (w1 := by omega) (f1 := zN.1)) (cwV 2 C.2.2.2.2 gX6_peak_X6_peakOf rfl rfl rfl (by decide +kernel) ⟨Nat.le_of_ble_eq_true rfl, Nat.le_of_ble_eq_true rfl⟩) hK hP hD hS hA [0, 1, 2] (by decide) rfl (fun _ => rfl) 0 rfl rfl rfl hl.1 rfl (Nat.le_of_ble_eq_true rfl) dX6_peak_19 ⟨Nat.zero_le _, Nat.zero_le _⟩ (fun r_5 u_3 H locs hq_4 hP hD hS => ?_)
      have hq_4 : r_5 = pk8 (fun i => N (7 + (pi_ * 128 + (w * 8 + i)))) (N 0) := hq_4
      subst hq_4
      have hP : zP g [(q, .inr (6, [.ref qn, .ref qp, .int (iI ac), .ref qi, .ref qk, .ref qt, .ref qw, .ref qv, .ref qr])), zI g qn 647 N, zI g qt 8 (wv (fun i => N (7 + (pi_ * 128 + (w * 8 + i)))))] H := hP
      have hD : va_D A [(q, .inr (6, [.ref qn, .ref qp, .int (iI ac), .ref qi, .ref qk, .ref qt, .ref qw, .ref qv, .ref qr])), zI g qn 647 N, zI g qt 8 (wv (fun i => N (7 + (pi_ * 128 + (w * 8 + i)))))] := hD
      refine lv_goto (tgt := 27) hx hb dX6_peak_22 (by decide) ?_
      exact z_retE hx hb hlk hr hQ dX6_peak_27 hS () ((FDn_in (by omega) (by omega) (by omega)).symm) (hP)
set_option maxHeartbeats 4000000 in
set_option maxRecDepth 100000 in
theorem m_X6_peak_n (l : Launch) (g : zG) (q qn qp qi qk qt qw qv qr : Nat) (ac : Int) (N : Int → Int) (pi_ w : Int) (zN : okN N) (g_pi_ : -2147483648 ≤ pi_ ∧ pi_ < 2147483648) (g_w : -2147483648 ≤ w ∧ w < 2147483648) (rf : ¬ ((0 ≤ pi_ ∧ pi_ ≤ 4) ∧ (0 ≤ w ∧ w ≤ N (2 + pi_) / 8 - 1))) : zS l yX6_peak wsX6_peak ({ frames := 2, cells := 0, slots := 0, locals := 44 }) g [.ref q, .int (iI pi_), .int (iI w)] [(q, .inr (6, [.ref qn, .ref qp, .int (iI ac), .ref qi, .ref qk, .ref qt, .ref qw, .ref qv, .ref qr])), zI g qn 647 N] (-1000000001) := by
  refine z_entS (cc := cX6_peak) (nL := 3) (ret := (some .int)) (own := RX6) (by decide) rfl rfl (Nat.le_of_ble_eq_true rfl) ?_
  intro p e s m below meth c Q ls C hlk hr hQ hP hK hl
  have hx := C.1
  have hb := C.2.1
  have hl : lv_has ls 3 [(0, .ref q), (1, .int (iI pi_)), (2, .int (iI w))] := hl
  refine lv_iload_n hx hb dX6_peak_0 rfl (lv_at hl 1 rfl) ?_
  refine z_cSS (As := [.int (iI pi_)]) (rest := []) C (m_X6_isRow (l := l) (g := g) (v := pi_) (g_v := by omega)) (cwS 1 C.2.2.2.2 gX6_peak_X6_isRow rfl rfl rfl (by decide +kernel) ⟨Nat.le_of_ble_eq_true rfl, Nat.le_of_ble_eq_true rfl⟩) hK hP [] rfl rfl hl.1 rfl (Nat.le_of_ble_eq_true rfl) dX6_peak_1 ⟨Nat.zero_le _, Nat.zero_le _⟩ ?_
  refine z_ifb_eq (tgt := 25) hx hb dX6_peak_4 (by decide) (fun c1 => ?_) (fun c1 => ?_)
  · refine z_ldc C (List.mem_of_getElem? (i := 1) rfl) (-1000000001) (by decide +kernel) dX6_peak_25 ?_
    exact z_retS hx hb hlk hr hQ dX6_peak_27 (rfl)
  · have hz1 := zN.2.2.1 pi_ (by omega) (by omega)
    refine lv_aload_n hx hb dX6_peak_7 rfl (lv_at hl 0 rfl) ?_
    refine lv_iload_n hx hb dX6_peak_8 rfl (lv_at hl 1 rfl) ?_
    refine lv_iload_n hx hb dX6_peak_9 rfl (lv_at hl 2 rfl) ?_
    refine z_cS (As := [.int (iI pi_), .int (iI w)]) (rest := []) C (m_X6_isWindow (l := l) (g := g) (q := q) (qn := qn) (qp := qp) (qi := qi) (qk := qk) (qt := qt) (qw := qw) (qv := qv) (qr := qr) (ac := ac) (N := N) (pi_ := pi_) (w := w) (h1 := by omega) (h2 := by omega) (g_w := by omega) (z1 := hz1)) (cwV 2 C.2.2.2.2 gX6_peak_X6_isWindow rfl rfl rfl (by decide +kernel) ⟨Nat.le_of_ble_eq_true rfl, Nat.le_of_ble_eq_true rfl⟩) hK hP [0, 1] rfl 0 rfl rfl rfl hl.1 rfl (Nat.le_of_ble_eq_true rfl) dX6_peak_10 ⟨Nat.zero_le _, Nat.zero_le _⟩ ?_
    refine z_ifb_eq (tgt := 25) hx hb dX6_peak_13 (by decide) (fun c_1 => ?_) (fun c_1 => ?_)
    · refine z_ldc C (List.mem_of_getElem? (i := 1) rfl) (-1000000001) (by decide +kernel) dX6_peak_25 ?_
      exact z_retS hx hb hlk hr hQ dX6_peak_27 (rfl)
    · exact absurd ⟨c1, c_1⟩ rf
set_option maxHeartbeats 4000000 in
set_option maxRecDepth 100000 in
theorem m_X6_key (l : Launch) (g : zG) (q qn qp qi qk qt qw qv qr : Nat) (ac : Int) (N TU PK : Int → Int) (pi_ v w : Int) (zN : okN N) (a1 : (0 ≤ pi_ ∧ pi_ ≤ 4) ∧ (0 ≤ v ∧ v ≤ N (2 + pi_) / 8 - 1)) (a2 : (0 ≤ pi_ ∧ pi_ ≤ 4) ∧ (0 ≤ w ∧ w ≤ N (2 + pi_) / 8 - 1)) : zE l yX6_key wsX6_key ({ frames := 4, cells := 0, slots := 0, locals := 94 }) g [.ref q, .int (iI pi_), .int (iI v), .int (iI w)] [(q, .inr (6, [.ref qn, .ref qp, .int (iI ac), .ref qi, .ref qk, .ref qt, .ref qw, .ref qv, .ref qr])), zI g qn 647 N, zI g qt 8 TU, zI g qw 80 PK] (S := ((Int → Int) × (Int → Int))) (fun r _ => r = kyf (FDn N) (N 1) pi_ v w) (fun u => [(q, .inr (6, [.ref qn, .ref qp, .int (iI ac), .ref qi, .ref qk, .ref qt, .ref qw, .ref qv, .ref qr])), zI g qn 647 N, zI g qt 8 (u.1), zI g qw 80 (u.2)]) := by
  refine z_entE (cc := cX6_key) (nL := 4) (ret := (some .int)) (own := RX6) (by decide) rfl rfl (Nat.le_of_ble_eq_true rfl) ?_
  intro p e s m below meth c Q ls A C hlk hr hQ hP hK hD hA hS hl
  have hx := C.1
  have hb := C.2.1
  have hl : lv_has ls 4 [(0, .ref q), (1, .int (iI pi_)), (2, .int (iI v)), (3, .int (iI w))] := hl
  obtain ⟨H, hHe⟩ : ∃ H, H = s.heap := ⟨_, rfl⟩
  obtain ⟨locs, hLe⟩ : ∃ q : List Loc, q = [] := ⟨_, rfl⟩
  have hP : zP g [(q, .inr (6, [.ref qn, .ref qp, .int (iI ac), .ref qi, .ref qk, .ref qt, .ref qw, .ref qv, .ref qr])), zI g qn 647 N, zI g qt 8 TU, zI g qw 80 PK] H := by rw [hHe]; exact hP
  have hS : va_S A s.heap H locs := by rw [hHe, hLe]; exact hS
  suffices hgo : W p l e ({ frames := 4, cells := 0, slots := 0, locals := 94 }) s m ([.ref q, .int (iI pi_), .int (iI v), .int (iI w)] : List Value).toArray below meth c H locs 0 0 Q (F0 m 0 ls []) by rw [hHe, hLe] at hgo; exact hgo
  clear hHe hLe
  have hz1 := zN.2.2.1 pi_ (by omega) (by omega)
  refine lv_iload_n hx hb dX6_key_0 rfl (lv_at hl 1 rfl) ?_
  refine z_cSS (As := [.int (iI pi_)]) (rest := []) C (m_X6_isRow (l := l) (g := g) (v := pi_) (g_v := by omega)) (cwS 1 C.2.2.2.2 gX6_key_X6_isRow rfl rfl rfl (by decide +kernel) ⟨Nat.le_of_ble_eq_true rfl, Nat.le_of_ble_eq_true rfl⟩) hK hP [] rfl rfl hl.1 rfl (Nat.le_of_ble_eq_true rfl) dX6_key_1 ⟨Nat.zero_le _, Nat.zero_le _⟩ ?_
  refine z_ifb_eq (tgt := 25) hx hb dX6_key_4 (by decide) (fun c_1 => ?_) (fun c_1 => ?_)
  · exfalso; omega
  · refine lv_aload_n hx hb dX6_key_7 rfl (lv_at hl 0 rfl) ?_
    refine lv_iload_n hx hb dX6_key_8 rfl (lv_at hl 1 rfl) ?_
    refine lv_iload_n hx hb dX6_key_9 rfl (lv_at hl 2 rfl) ?_
    refine z_cS (As := [.int (iI pi_), .int (iI v)]) (rest := []) C (m_X6_isWindow (l := l) (g := g) (q := q) (qn := qn) (qp := qp) (qi := qi) (qk := qk) (qt := qt) (qw := qw) (qv := qv) (qr := qr) (ac := ac) (N := N) (pi_ := pi_) (w := v) (h1 := by omega) (h2 := by omega) (g_w := by omega) (z1 := hz1)) (cwV 2 C.2.2.2.2 gX6_key_X6_isWindow rfl rfl rfl (by decide +kernel) ⟨Nat.le_of_ble_eq_true rfl, Nat.le_of_ble_eq_true rfl⟩) hK hP [0, 1] rfl 0 rfl rfl rfl hl.1 rfl (Nat.le_of_ble_eq_true rfl) dX6_key_10 ⟨Nat.zero_le _, Nat.zero_le _⟩ ?_
    refine z_ifb_eq (tgt := 25) hx hb dX6_key_13 (by decide) (fun c_2 => ?_) (fun c_2 => ?_)
    · exfalso; omega
    · refine lv_aload_n hx hb dX6_key_16 rfl (lv_at hl 0 rfl) ?_
      refine lv_iload_n hx hb dX6_key_17 rfl (lv_at hl 1 rfl) ?_
      refine lv_iload_n hx hb dX6_key_18 rfl (lv_at hl 3 rfl) ?_
      refine z_cS (As := [.int (iI pi_), .int (iI w)]) (rest := []) C (m_X6_isWindow (l := l) (g := g) (q := q) (qn := qn) (qp := qp) (qi := qi) (qk := qk) (qt := qt) (qw := qw) (qv := qv) (qr := qr) (ac := ac) (N := N) (pi_ := pi_) (w := w) (h1 := by omega) (h2 := by omega) (g_w := by omega) (z1 := hz1)) (cwV 2 C.2.2.2.2 gX6_key_X6_isWindow rfl rfl rfl (by decide +kernel) ⟨Nat.le_of_ble_eq_true rfl, Nat.le_of_ble_eq_true rfl⟩) hK hP [0, 1] rfl 0 rfl rfl rfl hl.1 rfl (Nat.le_of_ble_eq_true rfl) dX6_key_19 ⟨Nat.zero_le _, Nat.zero_le _⟩ ?_
      refine z_ifb_ne (tgt := 28) hx hb dX6_key_22 (by decide) (fun c_3 => ?_) (fun c_3 => ?_)
      · refine lv_aload_n hx hb dX6_key_28 rfl (lv_at hl 0 rfl) ?_
        refine z_cV (As := []) (rest := []) C (m_X6_findsPeaks (l := l) (g := g) (q := q) (qn := qn) (qp := qp) (qi := qi) (qk := qk) (qt := qt) (qw := qw) (qv := qv) (qr := qr) (ac := ac) (N := N) (TU := TU) (PK := PK) (zN := zN)) (cwV 0 C.2.2.2.2 gX6_key_X6_findsPeaks rfl rfl rfl (by decide +kernel) ⟨Nat.le_of_ble_eq_true rfl, Nat.le_of_ble_eq_true rfl⟩) hK hP hD hS hA [0, 1, 2, 3] (by decide) rfl (fun _ => rfl) 0 rfl rfl rfl hl.1 rfl (Nat.le_of_ble_eq_true rfl) dX6_key_29 ⟨Nat.zero_le _, Nat.zero_le _⟩ (fun t_ H locs hpk hP hD hS => ?_)
        have hP : zP g [(q, .inr (6, [.ref qn, .ref qp, .int (iI ac), .ref qi, .ref qk, .ref qt, .ref qw, .ref qv, .ref qr])), zI g qn 647 N, zI g qt 8 (t_.1), zI g qw 80 (t_.2)] H := hP
        have hD : va_D A [(q, .inr (6, [.ref qn, .ref qp, .int (iI ac), .ref qi, .ref qk, .ref qt, .ref qw, .ref qv, .ref qr])), zI g qn 647 N, zI g qt 8 (t_.1), zI g qw 80 (t_.2)] := hD
        refine lv_aload_n hx hb dX6_key_32 rfl (lv_at hl 0 rfl) ?_
        refine lv_iload_n hx hb dX6_key_33 rfl (lv_at hl 1 rfl) ?_
        refine lv_iload_n hx hb dX6_key_34 rfl (lv_at hl 2 rfl) ?_
        refine lv_iload_n hx hb dX6_key_35 rfl (lv_at hl 3 rfl) ?_
        refine z_cS (As := [.int (iI pi_), .int (iI v), .int (iI w)]) (rest := []) C (m_X6_keyOf (l := l) (g := g) (q := q) (qn := qn) (qp := qp) (qi := qi) (qk := qk) (qt := qt) (qw := qw) (qv := qv) (qr := qr) (ac := ac) (N := N) (PK := t_.2) (pi_ := pi_) (v := v) (w := w) (zN := zN) (hpk := hpk) (h1 := by omega) (h2 := by omega) (v1 := by omega) (v2 := by omega)) (cwV 3 C.2.2.2.2 gX6_key_X6_keyOf rfl rfl rfl (by decide +kernel) ⟨Nat.le_of_ble_eq_true rfl, Nat.le_of_ble_eq_true rfl⟩) hK hP [0, 1, 3] rfl 0 rfl rfl rfl hl.1 rfl (Nat.le_of_ble_eq_true rfl) dX6_key_36 ⟨Nat.zero_le _, Nat.zero_le _⟩ ?_
        exact z_retE hx hb hlk hr hQ dX6_key_39 hS t_ (rfl) (hP)
      · exfalso; omega
set_option maxHeartbeats 4000000 in
set_option maxRecDepth 100000 in
theorem m_X6_key_n (l : Launch) (g : zG) (q qn qp qi qk qt qw qv qr : Nat) (ac : Int) (N : Int → Int) (pi_ v w : Int) (zN : okN N) (g_pi_ : -2147483648 ≤ pi_ ∧ pi_ < 2147483648) (g_v : -2147483648 ≤ v ∧ v < 2147483648) (g_w : -2147483648 ≤ w ∧ w < 2147483648) (rf : ¬ (((0 ≤ pi_ ∧ pi_ ≤ 4) ∧ (0 ≤ v ∧ v ≤ N (2 + pi_) / 8 - 1)) ∧ (0 ≤ pi_ ∧ pi_ ≤ 4) ∧ (0 ≤ w ∧ w ≤ N (2 + pi_) / 8 - 1))) : zS l yX6_key wsX6_key ({ frames := 2, cells := 0, slots := 0, locals := 44 }) g [.ref q, .int (iI pi_), .int (iI v), .int (iI w)] [(q, .inr (6, [.ref qn, .ref qp, .int (iI ac), .ref qi, .ref qk, .ref qt, .ref qw, .ref qv, .ref qr])), zI g qn 647 N] (-1000000001) := by
  refine z_entS (cc := cX6_key) (nL := 4) (ret := (some .int)) (own := RX6) (by decide) rfl rfl (Nat.le_of_ble_eq_true rfl) ?_
  intro p e s m below meth c Q ls C hlk hr hQ hP hK hl
  have hx := C.1
  have hb := C.2.1
  have hl : lv_has ls 4 [(0, .ref q), (1, .int (iI pi_)), (2, .int (iI v)), (3, .int (iI w))] := hl
  refine lv_iload_n hx hb dX6_key_0 rfl (lv_at hl 1 rfl) ?_
  refine z_cSS (As := [.int (iI pi_)]) (rest := []) C (m_X6_isRow (l := l) (g := g) (v := pi_) (g_v := by omega)) (cwS 1 C.2.2.2.2 gX6_key_X6_isRow rfl rfl rfl (by decide +kernel) ⟨Nat.le_of_ble_eq_true rfl, Nat.le_of_ble_eq_true rfl⟩) hK hP [] rfl rfl hl.1 rfl (Nat.le_of_ble_eq_true rfl) dX6_key_1 ⟨Nat.zero_le _, Nat.zero_le _⟩ ?_
  refine z_ifb_eq (tgt := 25) hx hb dX6_key_4 (by decide) (fun c1 => ?_) (fun c1 => ?_)
  · refine z_ldc C (List.mem_of_getElem? (i := 1) rfl) (-1000000001) (by decide +kernel) dX6_key_25 ?_
    exact z_retS hx hb hlk hr hQ dX6_key_27 (rfl)
  · have hz1 := zN.2.2.1 pi_ (by omega) (by omega)
    refine lv_aload_n hx hb dX6_key_7 rfl (lv_at hl 0 rfl) ?_
    refine lv_iload_n hx hb dX6_key_8 rfl (lv_at hl 1 rfl) ?_
    refine lv_iload_n hx hb dX6_key_9 rfl (lv_at hl 2 rfl) ?_
    refine z_cS (As := [.int (iI pi_), .int (iI v)]) (rest := []) C (m_X6_isWindow (l := l) (g := g) (q := q) (qn := qn) (qp := qp) (qi := qi) (qk := qk) (qt := qt) (qw := qw) (qv := qv) (qr := qr) (ac := ac) (N := N) (pi_ := pi_) (w := v) (h1 := by omega) (h2 := by omega) (g_w := by omega) (z1 := hz1)) (cwV 2 C.2.2.2.2 gX6_key_X6_isWindow rfl rfl rfl (by decide +kernel) ⟨Nat.le_of_ble_eq_true rfl, Nat.le_of_ble_eq_true rfl⟩) hK hP [0, 1] rfl 0 rfl rfl rfl hl.1 rfl (Nat.le_of_ble_eq_true rfl) dX6_key_10 ⟨Nat.zero_le _, Nat.zero_le _⟩ ?_
    refine z_ifb_eq (tgt := 25) hx hb dX6_key_13 (by decide) (fun c2 => ?_) (fun c2 => ?_)
    · refine z_ldc C (List.mem_of_getElem? (i := 1) rfl) (-1000000001) (by decide +kernel) dX6_key_25 ?_
      exact z_retS hx hb hlk hr hQ dX6_key_27 (rfl)
    · refine lv_aload_n hx hb dX6_key_16 rfl (lv_at hl 0 rfl) ?_
      refine lv_iload_n hx hb dX6_key_17 rfl (lv_at hl 1 rfl) ?_
      refine lv_iload_n hx hb dX6_key_18 rfl (lv_at hl 3 rfl) ?_
      refine z_cS (As := [.int (iI pi_), .int (iI w)]) (rest := []) C (m_X6_isWindow (l := l) (g := g) (q := q) (qn := qn) (qp := qp) (qi := qi) (qk := qk) (qt := qt) (qw := qw) (qv := qv) (qr := qr) (ac := ac) (N := N) (pi_ := pi_) (w := w) (h1 := by omega) (h2 := by omega) (g_w := by omega) (z1 := hz1)) (cwV 2 C.2.2.2.2 gX6_key_X6_isWindow rfl rfl rfl (by decide +kernel) ⟨Nat.le_of_ble_eq_true rfl, Nat.le_of_ble_eq_true rfl⟩) hK hP [0, 1] rfl 0 rfl rfl rfl hl.1 rfl (Nat.le_of_ble_eq_true rfl) dX6_key_19 ⟨Nat.zero_le _, Nat.zero_le _⟩ ?_
      refine z_ifb_ne (tgt := 28) hx hb dX6_key_22 (by decide) (fun c_1 => ?_) (fun c_1 => ?_)
      · exact absurd ⟨⟨c1, c2⟩, ⟨c1, c_1⟩⟩ rf
      · refine z_ldc C (List.mem_of_getElem? (i := 1) rfl) (-1000000001) (by decide +kernel) dX6_key_25 ?_
        exact z_retS hx hb hlk hr hQ dX6_key_27 (rfl)
set_option maxHeartbeats 4000000 in
set_option maxRecDepth 100000 in
theorem m_X6_keyAt (l : Launch) (g : zG) (q qn qp qi qk qt qw qv qr : Nat) (ac : Int) (N TU PK : Int → Int) (kk : Int) (zN : okN N) (a1 : 0 ≤ kk ∧ kk < 2147483648) : zE l yX6_keyAt wsX6_keyAt ({ frames := 5, cells := 0, slots := 0, locals := 115 }) g [.ref q, .int (iI kk)] [(q, .inr (6, [.ref qn, .ref qp, .int (iI ac), .ref qi, .ref qk, .ref qt, .ref qw, .ref qv, .ref qr])), zI g qn 647 N, zI g qt 8 TU, zI g qw 80 PK] (S := ((Int → Int) × (Int → Int))) (fun r _ => r = kr (fun x => cnt (FDn N) (N 1) x 64) 384 64 kk) (fun u => [(q, .inr (6, [.ref qn, .ref qp, .int (iI ac), .ref qi, .ref qk, .ref qt, .ref qw, .ref qv, .ref qr])), zI g qn 647 N, zI g qt 8 (u.1), zI g qw 80 (u.2)]) := by
  refine z_entE (cc := cX6_keyAt) (nL := 4) (ret := (some .int)) (own := RX6) (by decide) rfl rfl (Nat.le_of_ble_eq_true rfl) ?_
  intro p e s m below meth c Q ls A C hlk hr hQ hP hK hD hA hS hl
  have hx := C.1
  have hb := C.2.1
  have hl : lv_has ls 4 [(0, .ref q), (1, .int (iI kk))] := hl
  obtain ⟨H, hHe⟩ : ∃ H, H = s.heap := ⟨_, rfl⟩
  obtain ⟨locs, hLe⟩ : ∃ q : List Loc, q = [] := ⟨_, rfl⟩
  have hP : zP g [(q, .inr (6, [.ref qn, .ref qp, .int (iI ac), .ref qi, .ref qk, .ref qt, .ref qw, .ref qv, .ref qr])), zI g qn 647 N, zI g qt 8 TU, zI g qw 80 PK] H := by rw [hHe]; exact hP
  have hS : va_S A s.heap H locs := by rw [hHe, hLe]; exact hS
  suffices hgo : W p l e ({ frames := 5, cells := 0, slots := 0, locals := 115 }) s m ([.ref q, .int (iI kk)] : List Value).toArray below meth c H locs 0 0 Q (F0 m 0 ls []) by rw [hHe, hLe] at hgo; exact hgo
  clear hHe hLe
  refine lv_iload_n hx hb dX6_keyAt_0 rfl (lv_at hl 1 rfl) ?_
  refine z_if_ge (tgt := 7) hx hb dX6_keyAt_1 (by decide) (by omega) (fun c_1 => ?_) (fun c_1 => ?_)
  · refine lv_aload_n hx hb dX6_keyAt_7 rfl (lv_at hl 0 rfl) ?_
    refine z_cV (As := []) (rest := []) C (m_X6_findsPeaks (l := l) (g := g) (q := q) (qn := qn) (qp := qp) (qi := qi) (qk := qk) (qt := qt) (qw := qw) (qv := qv) (qr := qr) (ac := ac) (N := N) (TU := TU) (PK := PK) (zN := zN)) (cwV 0 C.2.2.2.2 gX6_keyAt_X6_findsPeaks rfl rfl rfl (by decide +kernel) ⟨Nat.le_of_ble_eq_true rfl, Nat.le_of_ble_eq_true rfl⟩) hK hP hD hS hA [0, 1, 2, 3] (by decide) rfl (fun _ => rfl) 0 rfl rfl rfl hl.1 rfl (Nat.le_of_ble_eq_true rfl) dX6_keyAt_8 ⟨Nat.zero_le _, Nat.zero_le _⟩ (fun t_ H locs hpk hP hD hS => ?_)
    have hP : zP g [(q, .inr (6, [.ref qn, .ref qp, .int (iI ac), .ref qi, .ref qk, .ref qt, .ref qw, .ref qv, .ref qr])), zI g qn 647 N, zI g qt 8 (t_.1), zI g qw 80 (t_.2)] H := hP
    have hD : va_D A [(q, .inr (6, [.ref qn, .ref qp, .int (iI ac), .ref qi, .ref qk, .ref qt, .ref qw, .ref qv, .ref qr])), zI g qn 647 N, zI g qt 8 (t_.1), zI g qw 80 (t_.2)] := hD
    refine lv_iload_n hx hb dX6_keyAt_11 rfl (lv_at hl 1 rfl) ?_
    refine lv_istore_n (lv' := [(2, .int (iI kk)), (0, .ref q), (1, .int (iI kk))]) hx hb dX6_keyAt_12 rfl hl (by decide) rfl (fun ls hl => ?_)
    refine lv_bipush (v := iI 64) hx hb dX6_keyAt_13 (by decide +kernel) ?_
    refine lv_istore_n (lv' := [(3, .int (iI 64)), (2, .int (iI kk)), (0, .ref q), (1, .int (iI kk))]) hx hb dX6_keyAt_15 rfl hl (by decide) rfl (fun ls hl => ?_)
    have L16 : ∀ (n : Nat) (key : Int) (lf : Int), (i1 : 64 ≤ key) → (i2 : key ≤ 384) → (i3 : 0 ≤ lf) → (i4 : lf < 2147483648) → (i5 : kr (fun x => cnt (FDn N) (N 1) x 64) 384 key lf = kr (fun x => cnt (FDn N) (N 1) x 64) 384 64 kk) → (hms : 384 - key < (n : Int)) → ∀ (H : Heap) (locs : List Loc) (ls : Array Slot), lv_has ls 4 [(0, .ref q), (2, .int (iI lf)), (3, .int (iI key))] → zP g [(q, .inr (6, [.ref qn, .ref qp, .int (iI ac), .ref qi, .ref qk, .ref qt, .ref qw, .ref qv, .ref qr])), zI g qn 647 N, zI g qt 8 (t_.1), zI g qw 80 (t_.2)] H → va_D A [(q, .inr (6, [.ref qn, .ref qp, .int (iI ac), .ref qi, .ref qk, .ref qt, .ref qw, .ref qv, .ref qr])), zI g qn 647 N, zI g qt 8 (t_.1), zI g qw 80 (t_.2)] → va_S A s.heap H locs → W p l e ({ frames := 5, cells := 0, slots := 0, locals := 115 }) s m ([.ref q, .int (iI kk)] : List Value).toArray below meth c H locs 0 0 Q (F0 m 16 ls []) := by
      clear hP hD hS hl
      intro n
      induction n with
      | zero =>
        intro key lf i1 i2 i3 i4 i5 hms H locs ls hl hP hD hS
        exfalso; omega
      | succ n ih16 =>
        intro key lf i1 i2 i3 i4 i5 hms H locs ls hl hP hD hS
        refine lv_iload_n hx hb dX6_keyAt_16 rfl (lv_at hl 2 rfl) ?_
        refine lv_sipush (v := iI 384) hx hb dX6_keyAt_17 (by decide +kernel) ?_
        refine z_icmp_ge (tgt := 46) hx hb dX6_keyAt_20 (by decide) (by omega) (by omega) (fun c_2 => ?_) (fun c_2 => ?_)
        · refine lv_iconst (v := iI (-1)) hx hb dX6_keyAt_46 rfl ?_
          exact z_retE hx hb hlk hr hQ dX6_keyAt_47 hS t_ (by rw [← i5]; exact (kr_e _ lf (by omega)).symm) (hP)
        · refine lv_aload_n hx hb dX6_keyAt_23 rfl (lv_at hl 0 rfl) ?_
          refine lv_iload_n hx hb dX6_keyAt_24 rfl (lv_at hl 2 rfl) ?_
          refine z_cS (As := [.int (iI key)]) (rest := []) C (m_X6_placesOf (l := l) (g := g) (q := q) (qn := qn) (qp := qp) (qi := qi) (qk := qk) (qt := qt) (qw := qw) (qv := qv) (qr := qr) (ac := ac) (N := N) (PK := t_.2) (key := key) (zN := zN) (hpk := hpk) (k1 := by omega)) (cwV 1 C.2.2.2.2 gX6_keyAt_X6_placesOf rfl rfl rfl (by decide +kernel) ⟨Nat.le_of_ble_eq_true rfl, Nat.le_of_ble_eq_true rfl⟩) hK hP [0, 1, 3] rfl 0 rfl rfl rfl hl.1 rfl (Nat.le_of_ble_eq_true rfl) dX6_keyAt_25 ⟨Nat.zero_le _, Nat.zero_le _⟩ ?_
          have hcr := cnt_rg (FDn N) (N 1) key (J := 64) (by omega)
          refine z_if_le (tgt := 40) hx hb dX6_keyAt_28 (by decide) (by omega) (fun hc => ?_) (fun hc => ?_)
          · refine z_iinc (b := key + 1) (lv' := [(3, .int (iI (key + 1))), (0, .ref q), (2, .int (iI lf))]) hx hb dX6_keyAt_40 hl (k := 2) rfl (rfl) (by decide) rfl (fun ls hl => ?_)
            refine lv_goto (tgt := 16) hx hb dX6_keyAt_43 (by decide) ?_
            exact ih16 (key + 1) lf (by omega) (by omega) (by omega) (by omega) ((kr_n (f := (fun x => cnt (FDn N) (N 1) x 64)) (e := 384) (k := key) lf (by omega) hc).trans i5) (by omega) H locs ls (lv_sub hl [1, 2, 0] rfl) (hP) (hD) hS
          · refine lv_iload_n hx hb dX6_keyAt_31 rfl (lv_at hl 1 rfl) ?_
            refine z_if_ne (tgt := 37) hx hb dX6_keyAt_32 (by decide) (by omega) (fun hz9 => ?_) (fun hz9 => ?_)
            · refine z_iinc (b := lf - 1) (lv' := [(2, .int (iI (lf - 1))), (0, .ref q), (3, .int (iI key))]) hx hb dX6_keyAt_37 hl (k := 1) rfl (by omega) (by decide) rfl (fun ls hl => ?_)
              refine z_iinc (b := key + 1) (lv' := [(3, .int (iI (key + 1))), (2, .int (iI (lf - 1))), (0, .ref q)]) hx hb dX6_keyAt_40 hl (k := 2) rfl (rfl) (by decide) rfl (fun ls hl => ?_)
              refine lv_goto (tgt := 16) hx hb dX6_keyAt_43 (by decide) ?_
              exact ih16 (key + 1) (lf - 1) (by omega) (by omega) (by omega) (by omega) ((kr_y (f := (fun x => cnt (FDn N) (N 1) x 64)) (e := 384) (k := key) (by omega) hc hz9).trans i5) (by omega) H locs ls (lv_sub hl [2, 1, 0] rfl) (hP) (hD) hS
            · refine lv_iload_n hx hb dX6_keyAt_35 rfl (lv_at hl 2 rfl) ?_
              exact z_retE hx hb hlk hr hQ dX6_keyAt_36 hS t_ (by rw [← i5, hz9]; exact (kr_y0 (f := (fun x => cnt (FDn N) (N 1) x 64)) (e := 384) (k := key) (by omega) hc).symm) (hP)
    exact L16 (321) 64 kk (by omega) (by omega) (by omega) (by omega) (rfl) (by omega) H locs ls (lv_sub hl [2, 1, 0] rfl) (hP) (hD) hS
  · exfalso; omega
set_option maxHeartbeats 4000000 in
set_option maxRecDepth 100000 in
theorem m_X6_keyAt_n (l : Launch) (g : zG) (q qn qp qi qk qt qw qv qr : Nat) (ac : Int) (kk : Int) (g_kk : -2147483648 ≤ kk ∧ kk < 2147483648) (rf : kk < 0) : zS l yX6_keyAt wsX6_keyAt ({ frames := 0, cells := 0, slots := 0, locals := 0 }) g [.ref q, .int (iI kk)] [(q, .inr (6, [.ref qn, .ref qp, .int (iI ac), .ref qi, .ref qk, .ref qt, .ref qw, .ref qv, .ref qr]))] (-1000000002) := by
  refine z_entS (cc := cX6_keyAt) (nL := 4) (ret := (some .int)) (own := RX6) (by decide) rfl rfl (Nat.le_of_ble_eq_true rfl) ?_
  intro p e s m below meth c Q ls C hlk hr hQ hP hK hl
  have hx := C.1
  have hb := C.2.1
  have hl : lv_has ls 4 [(0, .ref q), (1, .int (iI kk))] := hl
  refine lv_iload_n hx hb dX6_keyAt_0 rfl (lv_at hl 1 rfl) ?_
  refine z_if_ge (tgt := 7) hx hb dX6_keyAt_1 (by decide) (by omega) (fun c_1 => ?_) (fun c_1 => ?_)
  · exfalso; omega
  · refine z_ldc C (List.mem_of_getElem? (i := 1) rfl) (-1000000002) (by decide +kernel) dX6_keyAt_4 ?_
    exact z_retS hx hb hlk hr hQ dX6_keyAt_6 (rfl)
set_option maxHeartbeats 4000000 in
set_option maxRecDepth 100000 in
theorem m_X6_places (l : Launch) (g : zG) (q qn qp qi qk qt qw qv qr : Nat) (ac : Int) (N TU PK : Int → Int) (key : Int) (zN : okN N) (a1 : 64 ≤ key ∧ key ≤ 383) : zE l yX6_places wsX6_places ({ frames := 5, cells := 0, slots := 0, locals := 115 }) g [.ref q, .int (iI key)] [(q, .inr (6, [.ref qn, .ref qp, .int (iI ac), .ref qi, .ref qk, .ref qt, .ref qw, .ref qv, .ref qr])), zI g qn 647 N, zI g qt 8 TU, zI g qw 80 PK] (S := ((Int → Int) × (Int → Int))) (fun r _ => r = cnt (FDn N) (N 1) key 64) (fun u => [(q, .inr (6, [.ref qn, .ref qp, .int (iI ac), .ref qi, .ref qk, .ref qt, .ref qw, .ref qv, .ref qr])), zI g qn 647 N, zI g qt 8 (u.1), zI g qw 80 (u.2)]) := by
  refine z_entE (cc := cX6_places) (nL := 2) (ret := (some .int)) (own := RX6) (by decide) rfl rfl (Nat.le_of_ble_eq_true rfl) ?_
  intro p e s m below meth c Q ls A C hlk hr hQ hP hK hD hA hS hl
  have hx := C.1
  have hb := C.2.1
  have hl : lv_has ls 2 [(0, .ref q), (1, .int (iI key))] := hl
  obtain ⟨H, hHe⟩ : ∃ H, H = s.heap := ⟨_, rfl⟩
  obtain ⟨locs, hLe⟩ : ∃ q : List Loc, q = [] := ⟨_, rfl⟩
  have hP : zP g [(q, .inr (6, [.ref qn, .ref qp, .int (iI ac), .ref qi, .ref qk, .ref qt, .ref qw, .ref qv, .ref qr])), zI g qn 647 N, zI g qt 8 TU, zI g qw 80 PK] H := by rw [hHe]; exact hP
  have hS : va_S A s.heap H locs := by rw [hHe, hLe]; exact hS
  suffices hgo : W p l e ({ frames := 5, cells := 0, slots := 0, locals := 115 }) s m ([.ref q, .int (iI key)] : List Value).toArray below meth c H locs 0 0 Q (F0 m 0 ls []) by rw [hHe, hLe] at hgo; exact hgo
  clear hHe hLe
  refine lv_iload_n hx hb dX6_places_0 rfl (lv_at hl 1 rfl) ?_
  refine lv_bipush (v := iI 64) hx hb dX6_places_1 (by decide +kernel) ?_
  refine lv_sipush (v := iI 383) hx hb dX6_places_3 (by decide +kernel) ?_
  refine z_cSS (As := [.int (iI key), .int (iI 64), .int (iI 383)]) (rest := []) C (m_X6_in (l := l) (g := g) (v := key) (lo := 64) (hi := 383) (g_v := by omega) (g_lo := by omega) (g_hi := by omega)) (cwS 3 C.2.2.2.2 gX6_places_X6_in rfl rfl rfl (by decide +kernel) ⟨Nat.le_of_ble_eq_true rfl, Nat.le_of_ble_eq_true rfl⟩) hK hP [] rfl rfl hl.1 rfl (Nat.le_of_ble_eq_true rfl) dX6_places_6 ⟨Nat.zero_le _, Nat.zero_le _⟩ ?_
  refine z_ifb_ne (tgt := 15) hx hb dX6_places_9 (by decide) (fun c_1 => ?_) (fun c_1 => ?_)
  · refine lv_aload_n hx hb dX6_places_15 rfl (lv_at hl 0 rfl) ?_
    refine z_cV (As := []) (rest := []) C (m_X6_findsPeaks (l := l) (g := g) (q := q) (qn := qn) (qp := qp) (qi := qi) (qk := qk) (qt := qt) (qw := qw) (qv := qv) (qr := qr) (ac := ac) (N := N) (TU := TU) (PK := PK) (zN := zN)) (cwV 0 C.2.2.2.2 gX6_places_X6_findsPeaks rfl rfl rfl (by decide +kernel) ⟨Nat.le_of_ble_eq_true rfl, Nat.le_of_ble_eq_true rfl⟩) hK hP hD hS hA [0, 1, 2, 3] (by decide) rfl (fun _ => rfl) 0 rfl rfl rfl hl.1 rfl (Nat.le_of_ble_eq_true rfl) dX6_places_16 ⟨Nat.zero_le _, Nat.zero_le _⟩ (fun t_ H locs hpk hP hD hS => ?_)
    have hP : zP g [(q, .inr (6, [.ref qn, .ref qp, .int (iI ac), .ref qi, .ref qk, .ref qt, .ref qw, .ref qv, .ref qr])), zI g qn 647 N, zI g qt 8 (t_.1), zI g qw 80 (t_.2)] H := hP
    have hD : va_D A [(q, .inr (6, [.ref qn, .ref qp, .int (iI ac), .ref qi, .ref qk, .ref qt, .ref qw, .ref qv, .ref qr])), zI g qn 647 N, zI g qt 8 (t_.1), zI g qw 80 (t_.2)] := hD
    refine lv_aload_n hx hb dX6_places_19 rfl (lv_at hl 0 rfl) ?_
    refine lv_iload_n hx hb dX6_places_20 rfl (lv_at hl 1 rfl) ?_
    refine z_cS (As := [.int (iI key)]) (rest := []) C (m_X6_placesOf (l := l) (g := g) (q := q) (qn := qn) (qp := qp) (qi := qi) (qk := qk) (qt := qt) (qw := qw) (qv := qv) (qr := qr) (ac := ac) (N := N) (PK := t_.2) (key := key) (zN := zN) (hpk := hpk) (k1 := by omega)) (cwV 1 C.2.2.2.2 gX6_places_X6_placesOf rfl rfl rfl (by decide +kernel) ⟨Nat.le_of_ble_eq_true rfl, Nat.le_of_ble_eq_true rfl⟩) hK hP [0, 1, 3] rfl 0 rfl rfl rfl hl.1 rfl (Nat.le_of_ble_eq_true rfl) dX6_places_21 ⟨Nat.zero_le _, Nat.zero_le _⟩ ?_
    have hcr := cnt_rg (FDn N) (N 1) key (J := 64) (by omega)
    exact z_retE hx hb hlk hr hQ dX6_places_24 hS t_ (rfl) (hP)
  · exfalso; omega
set_option maxHeartbeats 4000000 in
set_option maxRecDepth 100000 in
theorem m_X6_places_n (l : Launch) (g : zG) (q qn qp qi qk qt qw qv qr : Nat) (ac : Int) (key : Int) (g_key : -2147483648 ≤ key ∧ key < 2147483648) (rf : ¬ (64 ≤ key ∧ key ≤ 383)) : zS l yX6_places wsX6_places ({ frames := 1, cells := 0, slots := 0, locals := 22 }) g [.ref q, .int (iI key)] [(q, .inr (6, [.ref qn, .ref qp, .int (iI ac), .ref qi, .ref qk, .ref qt, .ref qw, .ref qv, .ref qr]))] (-1000000002) := by
  refine z_entS (cc := cX6_places) (nL := 2) (ret := (some .int)) (own := RX6) (by decide) rfl rfl (Nat.le_of_ble_eq_true rfl) ?_
  intro p e s m below meth c Q ls C hlk hr hQ hP hK hl
  have hx := C.1
  have hb := C.2.1
  have hl : lv_has ls 2 [(0, .ref q), (1, .int (iI key))] := hl
  refine lv_iload_n hx hb dX6_places_0 rfl (lv_at hl 1 rfl) ?_
  refine lv_bipush (v := iI 64) hx hb dX6_places_1 (by decide +kernel) ?_
  refine lv_sipush (v := iI 383) hx hb dX6_places_3 (by decide +kernel) ?_
  refine z_cSS (As := [.int (iI key), .int (iI 64), .int (iI 383)]) (rest := []) C (m_X6_in (l := l) (g := g) (v := key) (lo := 64) (hi := 383) (g_v := by omega) (g_lo := by omega) (g_hi := by omega)) (cwS 3 C.2.2.2.2 gX6_places_X6_in rfl rfl rfl (by decide +kernel) ⟨Nat.le_of_ble_eq_true rfl, Nat.le_of_ble_eq_true rfl⟩) hK hP [] rfl rfl hl.1 rfl (Nat.le_of_ble_eq_true rfl) dX6_places_6 ⟨Nat.zero_le _, Nat.zero_le _⟩ ?_
  refine z_ifb_ne (tgt := 15) hx hb dX6_places_9 (by decide) (fun c_1 => ?_) (fun c_1 => ?_)
  · exfalso; omega
  · refine z_ldc C (List.mem_of_getElem? (i := 1) rfl) (-1000000002) (by decide +kernel) dX6_places_12 ?_
    exact z_retS hx hb hlk hr hQ dX6_places_14 (rfl)
set_option maxHeartbeats 4000000 in
set_option maxRecDepth 100000 in
theorem m_X6_place (l : Launch) (g : zG) (q qn qp qi qk qt qw qv qr : Nat) (ac : Int) (N TU PK : Int → Int) (EN : Int → Int) (key ix : Int) (zN : okN N) (a1 : 64 ≤ key ∧ key ≤ 383) (a2 : 0 ≤ ix ∧ ix < 2147483648) (hE : enOK (FDn N) (N 1) EN) : zE l yX6_place wsX6_place ({ frames := 4, cells := 0, slots := 0, locals := 94 }) g [.ref q, .int (iI key), .int (iI ix)] [(q, .inr (6, [.ref qn, .ref qp, .int (iI ac), .ref qi, .ref qk, .ref qt, .ref qw, .ref qv, .ref qr])), zI g qn 647 N, zI g qt 8 TU, zI g qw 80 PK] (S := ((Int → Int) × (Int → Int))) (fun r _ => r = if ix < stt (FDn N) (N 1) (key + 1) - stt (FDn N) (N 1) key then EN (stt (FDn N) (N 1) key + ix) else -1) (fun u => [(q, .inr (6, [.ref qn, .ref qp, .int (iI ac), .ref qi, .ref qk, .ref qt, .ref qw, .ref qv, .ref qr])), zI g qn 647 N, zI g qt 8 (u.1), zI g qw 80 (u.2)]) := by
  refine z_entE (cc := cX6_place) (nL := 5) (ret := (some .int)) (own := RX6) (by decide) rfl rfl (Nat.le_of_ble_eq_true rfl) ?_
  intro p e s m below meth c Q ls A C hlk hr hQ hP hK hD hA hS hl
  have hx := C.1
  have hb := C.2.1
  have hl : lv_has ls 5 [(0, .ref q), (1, .int (iI key)), (2, .int (iI ix))] := hl
  obtain ⟨H, hHe⟩ : ∃ H, H = s.heap := ⟨_, rfl⟩
  obtain ⟨locs, hLe⟩ : ∃ q : List Loc, q = [] := ⟨_, rfl⟩
  have hP : zP g [(q, .inr (6, [.ref qn, .ref qp, .int (iI ac), .ref qi, .ref qk, .ref qt, .ref qw, .ref qv, .ref qr])), zI g qn 647 N, zI g qt 8 TU, zI g qw 80 PK] H := by rw [hHe]; exact hP
  have hS : va_S A s.heap H locs := by rw [hHe, hLe]; exact hS
  suffices hgo : W p l e ({ frames := 4, cells := 0, slots := 0, locals := 94 }) s m ([.ref q, .int (iI key), .int (iI ix)] : List Value).toArray below meth c H locs 0 0 Q (F0 m 0 ls []) by rw [hHe, hLe] at hgo; exact hgo
  clear hHe hLe
  refine lv_iload_n hx hb dX6_place_0 rfl (lv_at hl 1 rfl) ?_
  refine lv_bipush (v := iI 64) hx hb dX6_place_1 (by decide +kernel) ?_
  refine lv_sipush (v := iI 383) hx hb dX6_place_3 (by decide +kernel) ?_
  refine z_cSS (As := [.int (iI key), .int (iI 64), .int (iI 383)]) (rest := []) C (m_X6_in (l := l) (g := g) (v := key) (lo := 64) (hi := 383) (g_v := by omega) (g_lo := by omega) (g_hi := by omega)) (cwS 3 C.2.2.2.2 gX6_place_X6_in rfl rfl rfl (by decide +kernel) ⟨Nat.le_of_ble_eq_true rfl, Nat.le_of_ble_eq_true rfl⟩) hK hP [] rfl rfl hl.1 rfl (Nat.le_of_ble_eq_true rfl) dX6_place_6 ⟨Nat.zero_le _, Nat.zero_le _⟩ ?_
  refine z_ifb_eq (tgt := 16) hx hb dX6_place_9 (by decide) (fun c_1 => ?_) (fun c_1 => ?_)
  · exfalso; omega
  · refine lv_iload_n hx hb dX6_place_12 rfl (lv_at hl 2 rfl) ?_
    refine z_if_ge (tgt := 19) hx hb dX6_place_13 (by decide) (by omega) (fun c_2 => ?_) (fun c_2 => ?_)
    · refine lv_aload_n hx hb dX6_place_19 rfl (lv_at hl 0 rfl) ?_
      refine z_cV (As := []) (rest := []) C (m_X6_findsPeaks (l := l) (g := g) (q := q) (qn := qn) (qp := qp) (qi := qi) (qk := qk) (qt := qt) (qw := qw) (qv := qv) (qr := qr) (ac := ac) (N := N) (TU := TU) (PK := PK) (zN := zN)) (cwV 0 C.2.2.2.2 gX6_place_X6_findsPeaks rfl rfl rfl (by decide +kernel) ⟨Nat.le_of_ble_eq_true rfl, Nat.le_of_ble_eq_true rfl⟩) hK hP hD hS hA [0, 1, 2, 3] (by decide) rfl (fun _ => rfl) 0 rfl rfl rfl hl.1 rfl (Nat.le_of_ble_eq_true rfl) dX6_place_20 ⟨Nat.zero_le _, Nat.zero_le _⟩ (fun t_ H locs hpk hP hD hS => ?_)
      have hP : zP g [(q, .inr (6, [.ref qn, .ref qp, .int (iI ac), .ref qi, .ref qk, .ref qt, .ref qw, .ref qv, .ref qr])), zI g qn 647 N, zI g qt 8 (t_.1), zI g qw 80 (t_.2)] H := hP
      have hD : va_D A [(q, .inr (6, [.ref qn, .ref qp, .int (iI ac), .ref qi, .ref qk, .ref qt, .ref qw, .ref qv, .ref qr])), zI g qn 647 N, zI g qt 8 (t_.1), zI g qw 80 (t_.2)] := hD
      refine lv_iload_n hx hb dX6_place_23 rfl (lv_at hl 2 rfl) ?_
      refine lv_istore_n (lv' := [(3, .int (iI ix)), (0, .ref q), (1, .int (iI key)), (2, .int (iI ix))]) hx hb dX6_place_24 rfl hl (by decide) rfl (fun ls hl => ?_)
      refine lv_iconst (v := iI 0) hx hb dX6_place_25 rfl ?_
      refine lv_istore (lv' := [(4, .int (iI 0)), (3, .int (iI ix)), (0, .ref q), (1, .int (iI key)), (2, .int (iI ix))]) hx hb dX6_place_26 hl (by decide) rfl (fun ls hl => ?_)
      have L28 : ∀ (n : Nat) (k : Int), (i1 : 0 ≤ k) → (i2 : k ≤ 64) → (i3 : cnt (FDn N) (N 1) key (k) ≤ ix) → (hms : 64 - k < (n : Int)) → ∀ (H : Heap) (locs : List Loc) (ls : Array Slot), lv_has ls 5 [(0, .ref q), (1, .int (iI key)), (3, .int (iI (ix - cnt (FDn N) (N 1) key (k)))), (4, .int (iI k))] → zP g [(q, .inr (6, [.ref qn, .ref qp, .int (iI ac), .ref qi, .ref qk, .ref qt, .ref qw, .ref qv, .ref qr])), zI g qn 647 N, zI g qt 8 (t_.1), zI g qw 80 (t_.2)] H → va_D A [(q, .inr (6, [.ref qn, .ref qp, .int (iI ac), .ref qi, .ref qk, .ref qt, .ref qw, .ref qv, .ref qr])), zI g qn 647 N, zI g qt 8 (t_.1), zI g qw 80 (t_.2)] → va_S A s.heap H locs → W p l e ({ frames := 4, cells := 0, slots := 0, locals := 94 }) s m ([.ref q, .int (iI key), .int (iI ix)] : List Value).toArray below meth c H locs 0 0 Q (F0 m 28 ls []) := by
        clear hP hD hS hl
        intro n
        induction n with
        | zero =>
          intro k i1 i2 i3 hms H locs ls hl hP hD hS
          exfalso; omega
        | succ n ih28 =>
          intro k i1 i2 i3 hms H locs ls hl hP hD hS
          have hc0 := cnt_rg (FDn N) (N 1) key i1
          have hcs := cnt_s1 (FDn N) (N 1) key i1
          have hss := stt_s (FDn N) (N 1) (k := key) (by omega)
          refine lv_iload hx hb dX6_place_28 (lv_at hl 3 rfl) ?_
          refine lv_bipush (v := iI 64) hx hb dX6_place_30 (by decide +kernel) ?_
          refine z_icmp_ge (tgt := 82) hx hb dX6_place_32 (by decide) (by omega) (by omega) (fun c_3 => ?_) (fun c_3 => ?_)
          · refine lv_iconst (v := iI (-1)) hx hb dX6_place_82 rfl ?_
            exact z_retE hx hb hlk hr hQ dX6_place_83 hS t_ (by rw [if_neg (by rw [hss]; rw [show k = 64 by omega] at i3; omega)]) (hP)
          · refine lv_aload_n hx hb dX6_place_35 rfl (lv_at hl 0 rfl) ?_
            refine lv_iload hx hb dX6_place_36 (lv_at hl 3 rfl) ?_
            refine lv_bipush (v := iI 16) hx hb dX6_place_38 (by decide +kernel) ?_
            refine z_idivN hx hb dX6_place_40 (by omega) (by omega) (by omega) (by omega) ?_
            refine lv_iload_n hx hb dX6_place_41 rfl (lv_at hl 1 rfl) ?_
            refine lv_iload hx hb dX6_place_42 (lv_at hl 3 rfl) ?_
            refine lv_bipush (v := iI 16) hx hb dX6_place_44 (by decide +kernel) ?_
            refine z_iremN hx hb dX6_place_46 (by omega) (by omega) (by omega) (by omega) ?_
            refine z_cS (As := [.int (iI (k / 16)), .int (iI key), .int (iI (k % 16))]) (rest := []) C (m_X6_stands (l := l) (g := g) (q := q) (qn := qn) (qp := qp) (qi := qi) (qk := qk) (qt := qt) (qw := qw) (qv := qv) (qr := qr) (ac := ac) (N := N) (PK := t_.2) (pi_ := k / 16) (key := key) (v := k % 16) (zN := zN) (hpk := hpk) (h1 := by omega) (h2 := by omega) (v1 := by omega) (k1 := by omega)) (cwV 3 C.2.2.2.2 gX6_place_X6_stands rfl rfl rfl (by decide +kernel) ⟨Nat.le_of_ble_eq_true rfl, Nat.le_of_ble_eq_true rfl⟩) hK hP [0, 1, 3] rfl 0 rfl rfl rfl hl.1 rfl (Nat.le_of_ble_eq_true rfl) dX6_place_47 ⟨Nat.zero_le _, Nat.zero_le _⟩ ?_
            refine z_ifb_eq (tgt := 76) hx hb dX6_place_50 (by decide) (fun hs => ?_) (fun hs => ?_)
            · refine z_iinc (b := k + 1) (lv' := [(4, .int (iI (k + 1))), (0, .ref q), (1, .int (iI key)), (3, .int (iI (ix - cnt (FDn N) (N 1) key (k))))]) hx hb dX6_place_76 hl (k := 3) rfl (rfl) (by decide) rfl (fun ls hl => ?_)
              refine lv_goto (tgt := 28) hx hb dX6_place_79 (by decide) ?_
              have hl := lv_chg hl 3 (b := ix - cnt (FDn N) (N 1) key ((k + 1))) rfl (by rw [hcs, bI_f hs]; omega)
              have hl : lv_has ls 5 [(4, .int (iI (k + 1))), (0, .ref q), (1, .int (iI key)), (3, .int (iI (ix - cnt (FDn N) (N 1) key ((k + 1)))))] := hl
              exact ih28 (k + 1) (by omega) (by omega) (by rw [hcs, bI_f hs]; omega) (by omega) H locs ls (lv_sub hl [1, 2, 3, 0] rfl) (hP) (hD) hS
            · refine lv_iload_n hx hb dX6_place_53 rfl (lv_at hl 2 rfl) ?_
              refine z_if_ne (tgt := 73) hx hb dX6_place_54 (by decide) (by omega) (fun hz9 => ?_) (fun hz9 => ?_)
              · refine z_iinc (b := ix - cnt (FDn N) (N 1) key (k) - 1) (lv' := [(3, .int (iI (ix - cnt (FDn N) (N 1) key (k) - 1))), (0, .ref q), (1, .int (iI key)), (4, .int (iI k))]) hx hb dX6_place_73 hl (k := 2) rfl (by omega) (by decide) rfl (fun ls hl => ?_)
                refine z_iinc (b := k + 1) (lv' := [(4, .int (iI (k + 1))), (3, .int (iI (ix - cnt (FDn N) (N 1) key (k) - 1))), (0, .ref q), (1, .int (iI key))]) hx hb dX6_place_76 hl (k := 3) rfl (rfl) (by decide) rfl (fun ls hl => ?_)
                refine lv_goto (tgt := 28) hx hb dX6_place_79 (by decide) ?_
                have hl := lv_chg hl 1 (b := ix - cnt (FDn N) (N 1) key ((k + 1))) rfl (by rw [hcs, bI_t hs]; omega)
                have hl : lv_has ls 5 [(4, .int (iI (k + 1))), (3, .int (iI (ix - cnt (FDn N) (N 1) key ((k + 1))))), (0, .ref q), (1, .int (iI key))] := hl
                exact ih28 (k + 1) (by omega) (by omega) (by rw [hcs, bI_t hs]; omega) (by omega) H locs ls (lv_sub hl [2, 3, 1, 0] rfl) (hP) (hD) hS
              · refine lv_sipush (v := iI 1000) hx hb dX6_place_57 (by decide +kernel) ?_
                refine lv_iload hx hb dX6_place_60 (lv_at hl 3 rfl) ?_
                refine lv_bipush (v := iI 16) hx hb dX6_place_62 (by decide +kernel) ?_
                refine z_idivN hx hb dX6_place_64 (by omega) (by omega) (by omega) (by omega) ?_
                refine z_imul hx hb dX6_place_65 ?_
                refine lv_iload hx hb dX6_place_66 (lv_at hl 3 rfl) ?_
                refine lv_bipush (v := iI 16) hx hb dX6_place_68 (by decide +kernel) ?_
                refine z_iremN hx hb dX6_place_70 (by omega) (by omega) (by omega) (by omega) ?_
                refine z_iadd hx hb dX6_place_71 ?_
                exact z_retE hx hb hlk hr hQ dX6_place_72 hS t_ (by
          have hlt := cnt_lt i1 (show k < 64 by omega) hs
          rw [if_pos (by rw [hss]; omega), show ix = cnt (FDn N) (N 1) key (k) by omega]
          exact (hE key k (by omega) (by omega) i1 (by omega) hs).symm) (hP)
      have hl := lv_chg hl 1 (b := ix - cnt (FDn N) (N 1) key (0)) rfl (by rw [cnt_0]; omega)
      have hl : lv_has ls 5 [(4, .int (iI 0)), (3, .int (iI (ix - cnt (FDn N) (N 1) key (0)))), (0, .ref q), (1, .int (iI key)), (2, .int (iI ix))] := hl
      exact L28 (65) 0 (by omega) (by omega) (by rw [cnt_0]; omega) (by omega) H locs ls (lv_sub hl [2, 3, 1, 0] rfl) (hP) (hD) hS
    · exfalso; omega
set_option maxHeartbeats 4000000 in
set_option maxRecDepth 100000 in
theorem m_X6_place_n (l : Launch) (g : zG) (q qn qp qi qk qt qw qv qr : Nat) (ac : Int) (key ix : Int) (g_key : -2147483648 ≤ key ∧ key < 2147483648) (g_ix : -2147483648 ≤ ix ∧ ix < 2147483648) (rf : ¬ ((64 ≤ key ∧ key ≤ 383) ∧ 0 ≤ ix)) : zS l yX6_place wsX6_place ({ frames := 1, cells := 0, slots := 0, locals := 22 }) g [.ref q, .int (iI key), .int (iI ix)] [(q, .inr (6, [.ref qn, .ref qp, .int (iI ac), .ref qi, .ref qk, .ref qt, .ref qw, .ref qv, .ref qr]))] (-1000000002) := by
  refine z_entS (cc := cX6_place) (nL := 5) (ret := (some .int)) (own := RX6) (by decide) rfl rfl (Nat.le_of_ble_eq_true rfl) ?_
  intro p e s m below meth c Q ls C hlk hr hQ hP hK hl
  have hx := C.1
  have hb := C.2.1
  have hl : lv_has ls 5 [(0, .ref q), (1, .int (iI key)), (2, .int (iI ix))] := hl
  refine lv_iload_n hx hb dX6_place_0 rfl (lv_at hl 1 rfl) ?_
  refine lv_bipush (v := iI 64) hx hb dX6_place_1 (by decide +kernel) ?_
  refine lv_sipush (v := iI 383) hx hb dX6_place_3 (by decide +kernel) ?_
  refine z_cSS (As := [.int (iI key), .int (iI 64), .int (iI 383)]) (rest := []) C (m_X6_in (l := l) (g := g) (v := key) (lo := 64) (hi := 383) (g_v := by omega) (g_lo := by omega) (g_hi := by omega)) (cwS 3 C.2.2.2.2 gX6_place_X6_in rfl rfl rfl (by decide +kernel) ⟨Nat.le_of_ble_eq_true rfl, Nat.le_of_ble_eq_true rfl⟩) hK hP [] rfl rfl hl.1 rfl (Nat.le_of_ble_eq_true rfl) dX6_place_6 ⟨Nat.zero_le _, Nat.zero_le _⟩ ?_
  refine z_ifb_eq (tgt := 16) hx hb dX6_place_9 (by decide) (fun c_1 => ?_) (fun c_1 => ?_)
  · refine z_ldc C (List.mem_of_getElem? (i := 1) rfl) (-1000000002) (by decide +kernel) dX6_place_16 ?_
    exact z_retS hx hb hlk hr hQ dX6_place_18 (rfl)
  · refine lv_iload_n hx hb dX6_place_12 rfl (lv_at hl 2 rfl) ?_
    refine z_if_ge (tgt := 19) hx hb dX6_place_13 (by decide) (by omega) (fun c_2 => ?_) (fun c_2 => ?_)
    · exfalso; omega
    · refine z_ldc C (List.mem_of_getElem? (i := 1) rfl) (-1000000002) (by decide +kernel) dX6_place_16 ?_
      exact z_retS hx hb hlk hr hQ dX6_place_18 (rfl)
set_option maxRecDepth 20000 in
theorem in_m_X6_votes_X6 : ∀ w ∈ u_ws RX6 TX6 9, w ∈ wsX6_votes := zmem_of _ [52, 53, 54, 55, 56, 57, 58, 59, 60] (by decide +kernel)
set_option maxHeartbeats 4000000 in
set_option maxRecDepth 100000 in
theorem m_X6_votes (l : Launch) (g : zG) (q qn qp qi qk qt qw qv qr : Nat) (ac : Int) (N TU PK VO RK : Int → Int) (pi_ q_ : Int) (zN : okN N) (a1 : 0 ≤ pi_ ∧ pi_ ≤ 3) (a2 : -15 ≤ q_ ∧ q_ ≤ 15) : zE l yX6_votes wsX6_votes ({ frames := 5, cells := 0, slots := 0, locals := 120 }) g [.ref q, .int (iI pi_), .int (iI q_)] [(q, .inr (6, [.ref qn, .ref qp, .int (iI ac), .ref qi, .ref qk, .ref qt, .ref qw, .ref qv, .ref qr])), zI g qn 647 N, zI g qt 8 TU, zI g qw 80 PK, zI g qv 124 VO, zB g qr 124 RK] (S := ((Int → Int) × (Int → Int))) (fun r _ => r = V_ (FDn N) (N 1) (pi_ * 31 + q_ + 15)) (fun u => [(q, .inr (6, [.ref qn, .ref qp, .int (iI ac), .ref qi, .ref qk, .ref qt, .ref qw, .ref qv, .ref qr])), zI g qn 647 N, zI g qt 8 (u.1), zI g qw 80 (u.2), zI g qv 124 (V_ (FDn N) (N 1)), zB g qr 124 (fun _ => 0)]) := by
  refine z_entE (cc := cX6_votes) (nL := 3) (ret := (some .int)) (own := RX6) (by decide) rfl rfl (Nat.le_of_ble_eq_true rfl) ?_
  intro p e s m below meth c Q ls A C hlk hr hQ hP hK hD hA hS hl
  have hx := C.1
  have hb := C.2.1
  have hl : lv_has ls 3 [(0, .ref q), (1, .int (iI pi_)), (2, .int (iI q_))] := hl
  obtain ⟨H, hHe⟩ : ∃ H, H = s.heap := ⟨_, rfl⟩
  obtain ⟨locs, hLe⟩ : ∃ q : List Loc, q = [] := ⟨_, rfl⟩
  have hP : zP g [(q, .inr (6, [.ref qn, .ref qp, .int (iI ac), .ref qi, .ref qk, .ref qt, .ref qw, .ref qv, .ref qr])), zI g qn 647 N, zI g qt 8 TU, zI g qw 80 PK, zI g qv 124 VO, zB g qr 124 RK] H := by rw [hHe]; exact hP
  have hS : va_S A s.heap H locs := by rw [hHe, hLe]; exact hS
  suffices hgo : W p l e ({ frames := 5, cells := 0, slots := 0, locals := 120 }) s m ([.ref q, .int (iI pi_), .int (iI q_)] : List Value).toArray below meth c H locs 0 0 Q (F0 m 0 ls []) by rw [hHe, hLe] at hgo; exact hgo
  clear hHe hLe
  refine lv_iload_n hx hb dX6_votes_0 rfl (lv_at hl 1 rfl) ?_
  refine lv_iconst (v := iI 0) hx hb dX6_votes_1 rfl ?_
  refine lv_iconst (v := iI 3) hx hb dX6_votes_2 rfl ?_
  refine z_cSS (As := [.int (iI pi_), .int (iI 0), .int (iI 3)]) (rest := []) C (m_X6_in (l := l) (g := g) (v := pi_) (lo := 0) (hi := 3) (g_v := by omega) (g_lo := by omega) (g_hi := by omega)) (cwS 3 C.2.2.2.2 gX6_votes_X6_in rfl rfl rfl (by decide +kernel) ⟨Nat.le_of_ble_eq_true rfl, Nat.le_of_ble_eq_true rfl⟩) hK hP [] rfl rfl hl.1 rfl (Nat.le_of_ble_eq_true rfl) dX6_votes_3 ⟨Nat.zero_le _, Nat.zero_le _⟩ ?_
  refine z_ifb_ne (tgt := 12) hx hb dX6_votes_6 (by decide) (fun c_1 => ?_) (fun c_1 => ?_)
  · refine lv_iload_n hx hb dX6_votes_12 rfl (lv_at hl 2 rfl) ?_
    refine lv_bipush (v := iI (-15)) hx hb dX6_votes_13 (by decide +kernel) ?_
    refine lv_bipush (v := iI 15) hx hb dX6_votes_15 (by decide +kernel) ?_
    refine z_cSS (As := [.int (iI q_), .int (iI (-15)), .int (iI 15)]) (rest := []) C (m_X6_in (l := l) (g := g) (v := q_) (lo := -15) (hi := 15) (g_v := by omega) (g_lo := by omega) (g_hi := by omega)) (cwS 3 C.2.2.2.2 gX6_votes_X6_in rfl rfl rfl (by decide +kernel) ⟨Nat.le_of_ble_eq_true rfl, Nat.le_of_ble_eq_true rfl⟩) hK hP [] rfl rfl hl.1 rfl (Nat.le_of_ble_eq_true rfl) dX6_votes_17 ⟨Nat.zero_le _, Nat.zero_le _⟩ ?_
    refine z_ifb_ne (tgt := 26) hx hb dX6_votes_20 (by decide) (fun c_2 => ?_) (fun c_2 => ?_)
    · refine lv_aload_n hx hb dX6_votes_26 rfl (lv_at hl 0 rfl) ?_
      refine z_cV (As := []) (rest := []) C (m_X6_counts (l := l) (g := g) (q := q) (qn := qn) (qp := qp) (qi := qi) (qk := qk) (qt := qt) (qw := qw) (qv := qv) (qr := qr) (ac := ac) (N := N) (TU := TU) (PK := PK) (VO := VO) (RK := RK) (zN := zN)) (cwV 0 C.2.2.2.2 gX6_votes_X6_counts rfl rfl rfl (by decide +kernel) ⟨Nat.le_of_ble_eq_true rfl, Nat.le_of_ble_eq_true rfl⟩) hK hP hD hS hA [0, 1, 2, 3, 4, 5] (by decide) rfl (fun _ => rfl) 0 rfl rfl rfl hl.1 rfl (Nat.le_of_ble_eq_true rfl) dX6_votes_27 ⟨Nat.zero_le _, Nat.zero_le _⟩ (fun t_ H locs hpk hP hD hS => ?_)
      have hP : zP g [(q, .inr (6, [.ref qn, .ref qp, .int (iI ac), .ref qi, .ref qk, .ref qt, .ref qw, .ref qv, .ref qr])), zI g qn 647 N, zI g qt 8 (t_.1), zI g qw 80 (t_.2), zI g qv 124 (V_ (FDn N) (N 1)), zB g qr 124 (fun _ => 0)] H := hP
      have hD : va_D A [(q, .inr (6, [.ref qn, .ref qp, .int (iI ac), .ref qi, .ref qk, .ref qt, .ref qw, .ref qv, .ref qr])), zI g qn 647 N, zI g qt 8 (t_.1), zI g qw 80 (t_.2), zI g qv 124 (V_ (FDn N) (N 1)), zB g qr 124 (fun _ => 0)] := hD
      have hnt := nt_rg (FDn N) (N 1)
      have hVr := V_rg (FDn N) (N 1)
      refine lv_aload_n hx hb dX6_votes_30 rfl (lv_at hl 0 rfl) ?_
      refine z_get (v := .ref qv) (Cn := RX6) (T := TX6) (N := 9) (ci := 6) C in_m_X6_votes_X6 hK hP 0 rfl rfl 7 (by decide) (List.mem_of_getElem? (i := 3) rfl) rfl dX6_votes_31 ?_
      refine lv_bipush (v := iI 31) hx hb dX6_votes_34 (by decide +kernel) ?_
      refine lv_iload_n hx hb dX6_votes_36 rfl (lv_at hl 1 rfl) ?_
      refine z_imul hx hb dX6_votes_37 ?_
      refine lv_iload_n hx hb dX6_votes_38 rfl (lv_at hl 2 rfl) ?_
      refine z_iadd hx hb dX6_votes_39 ?_
      refine lv_bipush (v := iI 15) hx hb dX6_votes_40 (by decide +kernel) ?_
      refine z_iadd hx hb dX6_votes_42 ?_
      refine z_iald hx hb hK hP 4 rfl (by omega) (by omega) (Nat.le_of_ble_eq_true rfl) dX6_votes_43 ?_
      exact z_retE hx hb hlk hr hQ dX6_votes_44 hS t_ (by rw [show 31 * pi_ + q_ + 15 = pi_ * 31 + q_ + 15 by omega]) (hP)
    · exfalso; omega
  · exfalso; omega
set_option maxHeartbeats 4000000 in
set_option maxRecDepth 100000 in
theorem m_X6_votes_n (l : Launch) (g : zG) (q qn qp qi qk qt qw qv qr : Nat) (ac : Int) (pi_ q_ : Int) (g_pi_ : -2147483648 ≤ pi_ ∧ pi_ < 2147483648) (g_q_ : -2147483648 ≤ q_ ∧ q_ < 2147483648) (rf : ¬ ((0 ≤ pi_ ∧ pi_ ≤ 3) ∧ (-15 ≤ q_ ∧ q_ ≤ 15))) : zS l yX6_votes wsX6_votes ({ frames := 1, cells := 0, slots := 0, locals := 22 }) g [.ref q, .int (iI pi_), .int (iI q_)] [(q, .inr (6, [.ref qn, .ref qp, .int (iI ac), .ref qi, .ref qk, .ref qt, .ref qw, .ref qv, .ref qr]))] (if ¬ (0 ≤ pi_ ∧ pi_ ≤ 3) then -1000000001 else -1000000002) := by
  refine z_entS (cc := cX6_votes) (nL := 3) (ret := (some .int)) (own := RX6) (by decide) rfl rfl (Nat.le_of_ble_eq_true rfl) ?_
  intro p e s m below meth c Q ls C hlk hr hQ hP hK hl
  have hx := C.1
  have hb := C.2.1
  have hl : lv_has ls 3 [(0, .ref q), (1, .int (iI pi_)), (2, .int (iI q_))] := hl
  refine lv_iload_n hx hb dX6_votes_0 rfl (lv_at hl 1 rfl) ?_
  refine lv_iconst (v := iI 0) hx hb dX6_votes_1 rfl ?_
  refine lv_iconst (v := iI 3) hx hb dX6_votes_2 rfl ?_
  refine z_cSS (As := [.int (iI pi_), .int (iI 0), .int (iI 3)]) (rest := []) C (m_X6_in (l := l) (g := g) (v := pi_) (lo := 0) (hi := 3) (g_v := by omega) (g_lo := by omega) (g_hi := by omega)) (cwS 3 C.2.2.2.2 gX6_votes_X6_in rfl rfl rfl (by decide +kernel) ⟨Nat.le_of_ble_eq_true rfl, Nat.le_of_ble_eq_true rfl⟩) hK hP [] rfl rfl hl.1 rfl (Nat.le_of_ble_eq_true rfl) dX6_votes_3 ⟨Nat.zero_le _, Nat.zero_le _⟩ ?_
  refine z_ifb_ne (tgt := 12) hx hb dX6_votes_6 (by decide) (fun c1 => ?_) (fun c1 => ?_)
  · refine lv_iload_n hx hb dX6_votes_12 rfl (lv_at hl 2 rfl) ?_
    refine lv_bipush (v := iI (-15)) hx hb dX6_votes_13 (by decide +kernel) ?_
    refine lv_bipush (v := iI 15) hx hb dX6_votes_15 (by decide +kernel) ?_
    refine z_cSS (As := [.int (iI q_), .int (iI (-15)), .int (iI 15)]) (rest := []) C (m_X6_in (l := l) (g := g) (v := q_) (lo := -15) (hi := 15) (g_v := by omega) (g_lo := by omega) (g_hi := by omega)) (cwS 3 C.2.2.2.2 gX6_votes_X6_in rfl rfl rfl (by decide +kernel) ⟨Nat.le_of_ble_eq_true rfl, Nat.le_of_ble_eq_true rfl⟩) hK hP [] rfl rfl hl.1 rfl (Nat.le_of_ble_eq_true rfl) dX6_votes_17 ⟨Nat.zero_le _, Nat.zero_le _⟩ ?_
    refine z_ifb_ne (tgt := 26) hx hb dX6_votes_20 (by decide) (fun c_1 => ?_) (fun c_1 => ?_)
    · exfalso; omega
    · refine z_ldc C (List.mem_of_getElem? (i := 2) rfl) (-1000000002) (by decide +kernel) dX6_votes_23 ?_
      exact z_retS hx hb hlk hr hQ dX6_votes_25 ((if_neg (fun z => z c1)).symm)
  · refine z_ldc C (List.mem_of_getElem? (i := 1) rfl) (-1000000001) (by decide +kernel) dX6_votes_9 ?_
    exact z_retS hx hb hlk hr hQ dX6_votes_11 ((if_pos c1).symm)
set_option maxRecDepth 20000 in
theorem in_m_X6_rank_X6 : ∀ w ∈ u_ws RX6 TX6 9, w ∈ wsX6_rank := zmem_of _ [55, 56, 57, 58, 59, 60, 61, 62, 63] (by decide +kernel)
set_option maxHeartbeats 4000000 in
set_option maxRecDepth 100000 in
theorem m_X6_rank (l : Launch) (g : zG) (q qn qp qi qk qt qw qv qr : Nat) (ac : Int) (N TU PK VO RK : Int → Int) (O : Int → Int) (k wh : Int) (zN : okN N) (a1 : 0 ≤ k ∧ k < 2147483648) (a2 : 0 ≤ wh ∧ wh ≤ 2) (hO : okO (V_ (FDn N) (N 1)) O (nt_ (FDn N) (N 1)) 124) : zE l yX6_rank wsX6_rank ({ frames := 5, cells := 0, slots := 0, locals := 120 }) g [.ref q, .int (iI k), .int (iI wh)] [(q, .inr (6, [.ref qn, .ref qp, .int (iI ac), .ref qi, .ref qk, .ref qt, .ref qw, .ref qv, .ref qr])), zI g qn 647 N, zI g qt 8 TU, zI g qw 80 PK, zI g qv 124 VO, zB g qr 124 RK] (S := ((Int → Int) × (Int → Int) × (Int → Int))) (fun r _ => r = kq k wh (nt_ (FDn N) (N 1)) (V_ (FDn N) (N 1)) O) (fun u => [(q, .inr (6, [.ref qn, .ref qp, .int (iI ac), .ref qi, .ref qk, .ref qt, .ref qw, .ref qv, .ref qr])), zI g qn 647 N, zI g qt 8 (u.1), zI g qw 80 (u.2.1), zI g qv 124 (V_ (FDn N) (N 1)), zB g qr 124 (u.2.2)]) := by
  refine z_entE (cc := cX6_rank) (nL := 5) (ret := (some .int)) (own := RX6) (by decide) rfl rfl (Nat.le_of_ble_eq_true rfl) ?_
  intro p e s m below meth c Q ls A C hlk hr hQ hP hK hD hA hS hl
  have hx := C.1
  have hb := C.2.1
  have hl : lv_has ls 5 [(0, .ref q), (1, .int (iI k)), (2, .int (iI wh))] := hl
  obtain ⟨H, hHe⟩ : ∃ H, H = s.heap := ⟨_, rfl⟩
  obtain ⟨locs, hLe⟩ : ∃ q : List Loc, q = [] := ⟨_, rfl⟩
  have hP : zP g [(q, .inr (6, [.ref qn, .ref qp, .int (iI ac), .ref qi, .ref qk, .ref qt, .ref qw, .ref qv, .ref qr])), zI g qn 647 N, zI g qt 8 TU, zI g qw 80 PK, zI g qv 124 VO, zB g qr 124 RK] H := by rw [hHe]; exact hP
  have hS : va_S A s.heap H locs := by rw [hHe, hLe]; exact hS
  suffices hgo : W p l e ({ frames := 5, cells := 0, slots := 0, locals := 120 }) s m ([.ref q, .int (iI k), .int (iI wh)] : List Value).toArray below meth c H locs 0 0 Q (F0 m 0 ls []) by rw [hHe, hLe] at hgo; exact hgo
  clear hHe hLe
  refine lv_iload_n hx hb dX6_rank_0 rfl (lv_at hl 1 rfl) ?_
  refine z_if_lt (tgt := 13) hx hb dX6_rank_1 (by decide) (by omega) (fun c_1 => ?_) (fun c_1 => ?_)
  · exfalso; omega
  · refine lv_iload_n hx hb dX6_rank_4 rfl (lv_at hl 2 rfl) ?_
    refine lv_iconst (v := iI 0) hx hb dX6_rank_5 rfl ?_
    refine lv_iconst (v := iI 2) hx hb dX6_rank_6 rfl ?_
    refine z_cSS (As := [.int (iI wh), .int (iI 0), .int (iI 2)]) (rest := []) C (m_X6_in (l := l) (g := g) (v := wh) (lo := 0) (hi := 2) (g_v := by omega) (g_lo := by omega) (g_hi := by omega)) (cwS 3 C.2.2.2.2 gX6_rank_X6_in rfl rfl rfl (by decide +kernel) ⟨Nat.le_of_ble_eq_true rfl, Nat.le_of_ble_eq_true rfl⟩) hK hP [] rfl rfl hl.1 rfl (Nat.le_of_ble_eq_true rfl) dX6_rank_7 ⟨Nat.zero_le _, Nat.zero_le _⟩ ?_
    refine z_ifb_ne (tgt := 16) hx hb dX6_rank_10 (by decide) (fun c_2 => ?_) (fun c_2 => ?_)
    · refine lv_aload_n hx hb dX6_rank_16 rfl (lv_at hl 0 rfl) ?_
      refine z_cV (As := []) (rest := []) C (m_X6_counts (l := l) (g := g) (q := q) (qn := qn) (qp := qp) (qi := qi) (qk := qk) (qt := qt) (qw := qw) (qv := qv) (qr := qr) (ac := ac) (N := N) (TU := TU) (PK := PK) (VO := VO) (RK := RK) (zN := zN)) (cwV 0 C.2.2.2.2 gX6_rank_X6_counts rfl rfl rfl (by decide +kernel) ⟨Nat.le_of_ble_eq_true rfl, Nat.le_of_ble_eq_true rfl⟩) hK hP hD hS hA [0, 1, 2, 3, 4, 5] (by decide) rfl (fun _ => rfl) 0 rfl rfl rfl hl.1 rfl (Nat.le_of_ble_eq_true rfl) dX6_rank_17 ⟨Nat.zero_le _, Nat.zero_le _⟩ (fun t_ H locs hpk hP hD hS => ?_)
      have hP : zP g [(q, .inr (6, [.ref qn, .ref qp, .int (iI ac), .ref qi, .ref qk, .ref qt, .ref qw, .ref qv, .ref qr])), zI g qn 647 N, zI g qt 8 (t_.1), zI g qw 80 (t_.2), zI g qv 124 (V_ (FDn N) (N 1)), zB g qr 124 (fun _ => 0)] H := hP
      have hD : va_D A [(q, .inr (6, [.ref qn, .ref qp, .int (iI ac), .ref qi, .ref qk, .ref qt, .ref qw, .ref qv, .ref qr])), zI g qn 647 N, zI g qt 8 (t_.1), zI g qw 80 (t_.2), zI g qv 124 (V_ (FDn N) (N 1)), zB g qr 124 (fun _ => 0)] := hD
      have hnt := nt_rg (FDn N) (N 1)
      have hVr := V_rg (FDn N) (N 1)
      refine lv_aload_n hx hb dX6_rank_20 rfl (lv_at hl 0 rfl) ?_
      refine lv_iconst (v := iI (-1)) hx hb dX6_rank_21 rfl ?_
      refine z_cS (As := [.int (iI (-1))]) (rest := []) C (m_X6_best (l := l) (g := g) (q := q) (qn := qn) (qp := qp) (qi := qi) (qk := qk) (qt := qt) (qw := qw) (qv := qv) (qr := qr) (ac := ac) (VO := V_ (FDn N) (N 1)) (RK := fun _ => 0) (wo := -1) (hV := hVr) (hR := fun j g1 g2 => Or.inl rfl) (o1 := by omega)) (cwV 1 C.2.2.2.2 gX6_rank_X6_best rfl rfl rfl (by decide +kernel) ⟨Nat.le_of_ble_eq_true rfl, Nat.le_of_ble_eq_true rfl⟩) hK hP [0, 4, 5] rfl 0 rfl rfl rfl hl.1 rfl (Nat.le_of_ble_eq_true rfl) dX6_rank_22 ⟨Nat.zero_le _, Nat.zero_le _⟩ ?_
      have hbz := bz_rg (V_ (FDn N) (N 1)) (fun _ => 0) (-1) (k := 124) (by omega)
      refine z_top (b := if 0 < nt_ (FDn N) (N 1) then O 0 else -1) (bz_rank hO (Int.le_refl 0) hnt.1 (fun d g1 g2 => ⟨fun _ i a1 a2 => by omega, fun _ => rfl⟩)) ?_
      refine lv_istore_n (lv' := [(3, .int (iI (if 0 < nt_ (FDn N) (N 1) then O 0 else -1))), (0, .ref q), (1, .int (iI k)), (2, .int (iI wh))]) hx hb dX6_rank_25 rfl hl (by decide) rfl (fun ls hl => ?_)
      refine lv_iconst (v := iI 0) hx hb dX6_rank_26 rfl ?_
      refine lv_istore (lv' := [(4, .int (iI 0)), (3, .int (iI (if 0 < nt_ (FDn N) (N 1) then O 0 else -1))), (0, .ref q), (1, .int (iI k)), (2, .int (iI wh))]) hx hb dX6_rank_27 hl (by decide) rfl (fun ls hl => ?_)
      have L29 : ∀ (n : Nat) (j_ : Int) (RK : Int → Int), (i1 : 0 ≤ j_) → (i2 : j_ ≤ nt_ (FDn N) (N 1)) → (i3 : j_ ≤ k) → (hR : ∀ d, 0 ≤ d → d < 124 → (RK d = 0 ↔ ∀ i, 0 ≤ i → i < j_ → O i ≠ d)) → (hR1 : ∀ d, 0 ≤ d → d < 124 → RK d = 0 ∨ RK d = 1) → (hms : nt_ (FDn N) (N 1) - j_ < (n : Int)) → ∀ (H : Heap) (locs : List Loc) (ls : Array Slot), lv_has ls 5 [(0, .ref q), (1, .int (iI k)), (2, .int (iI wh)), (3, .int (iI (if j_ < nt_ (FDn N) (N 1) then O j_ else -1))), (4, .int (iI j_))] → zP g [(q, .inr (6, [.ref qn, .ref qp, .int (iI ac), .ref qi, .ref qk, .ref qt, .ref qw, .ref qv, .ref qr])), zI g qn 647 N, zI g qt 8 (t_.1), zI g qw 80 (t_.2), zI g qv 124 (V_ (FDn N) (N 1)), zB g qr 124 RK] H → va_D A [(q, .inr (6, [.ref qn, .ref qp, .int (iI ac), .ref qi, .ref qk, .ref qt, .ref qw, .ref qv, .ref qr])), zI g qn 647 N, zI g qt 8 (t_.1), zI g qw 80 (t_.2), zI g qv 124 (V_ (FDn N) (N 1)), zB g qr 124 RK] → va_S A s.heap H locs → W p l e ({ frames := 5, cells := 0, slots := 0, locals := 120 }) s m ([.ref q, .int (iI k), .int (iI wh)] : List Value).toArray below meth c H locs 0 0 Q (F0 m 29 ls []) := by
        clear hP hD hS hl
        intro n
        induction n with
        | zero =>
          intro j_ RK i1 i2 i3 hR hR1 hms H locs ls hl hP hD hS
          exfalso; omega
        | succ n ih29 =>
          intro j_ RK i1 i2 i3 hR hR1 hms H locs ls hl hP hD hS
          refine lv_iload hx hb dX6_rank_29 (lv_at hl 4 rfl) ?_
          refine lv_iload_n hx hb dX6_rank_31 rfl (lv_at hl 1 rfl) ?_
          refine z_icmp_ge (tgt := 59) hx hb dX6_rank_32 (by decide) (by omega) (by omega) (fun c_3 => ?_) (fun c_3 => ?_)
          · by_cases hn1 : j_ < nt_ (FDn N) (N 1)
            · have hOj := hO.1 j_ i1 hn1
              have hVj := hVr (O j_)
              have eit : (if j_ < nt_ (FDn N) (N 1) then O j_ else -1) = O j_ := if_pos hn1
              have hl := lv_chg hl 3 (b := O j_) rfl (eit)
              have hl : lv_has ls 5 [(0, .ref q), (1, .int (iI k)), (2, .int (iI wh)), (3, .int (iI (O j_))), (4, .int (iI j_))] := hl
              refine lv_iload_n hx hb dX6_rank_59 rfl (lv_at hl 3 rfl) ?_
              refine lv_iconst (v := iI (-1)) hx hb dX6_rank_60 rfl ?_
              refine z_icmp_ne (tgt := 66) hx hb dX6_rank_61 (by decide) (by omega) (by omega) (fun c_4 => ?_) (fun c_4 => ?_)
              · refine lv_iload_n hx hb dX6_rank_66 rfl (lv_at hl 2 rfl) ?_
                refine z_if_ne (tgt := 77) hx hb dX6_rank_67 (by decide) (by omega) (fun cw => ?_) (fun cw => ?_)
                · refine lv_iload_n hx hb dX6_rank_77 rfl (lv_at hl 2 rfl) ?_
                  refine lv_iconst (v := iI 1) hx hb dX6_rank_78 rfl ?_
                  refine z_icmp_ne (tgt := 95) hx hb dX6_rank_79 (by decide) (by omega) (by omega) (fun cv => ?_) (fun cv => ?_)
                  · refine lv_aload_n hx hb dX6_rank_95 rfl (lv_at hl 0 rfl) ?_
                    refine z_get (v := .ref qv) (Cn := RX6) (T := TX6) (N := 9) (ci := 6) C in_m_X6_rank_X6 hK hP 0 rfl rfl 7 (by decide) (List.mem_of_getElem? (i := 3) rfl) rfl dX6_rank_96 ?_
                    refine lv_iload_n hx hb dX6_rank_99 rfl (lv_at hl 3 rfl) ?_
                    refine z_iald hx hb hK hP 4 rfl (by omega) (by omega) (Nat.le_of_ble_eq_true rfl) dX6_rank_100 ?_
                    exact z_retE hx hb hlk hr hQ dX6_rank_101 hS (t_.1, t_.2, RK) (by rw [show k = j_ by omega]; unfold kq; rw [if_pos hn1, if_neg cw, if_neg cv]) (hP)
                  · refine lv_iload_n hx hb dX6_rank_82 rfl (lv_at hl 3 rfl) ?_
                    refine lv_bipush (v := iI 31) hx hb dX6_rank_83 (by decide +kernel) ?_
                    refine z_iremN hx hb dX6_rank_85 (by omega) (by omega) (by omega) (by omega) ?_
                    refine lv_bipush (v := iI 15) hx hb dX6_rank_86 (by decide +kernel) ?_
                    refine z_isub hx hb dX6_rank_88 ?_
                    refine lv_bipush (v := iI 100) hx hb dX6_rank_89 (by decide +kernel) ?_
                    refine z_iadd hx hb dX6_rank_91 ?_
                    refine lv_goto (tgt := 101) hx hb dX6_rank_92 (by decide) ?_
                    exact z_retE hx hb hlk hr hQ dX6_rank_101 hS (t_.1, t_.2, RK) (by rw [show k = j_ by omega]; unfold kq; rw [if_pos hn1, if_neg cw, if_pos cv]) (hP)
                · refine lv_iload_n hx hb dX6_rank_70 rfl (lv_at hl 3 rfl) ?_
                  refine lv_bipush (v := iI 31) hx hb dX6_rank_71 (by decide +kernel) ?_
                  refine z_idivN hx hb dX6_rank_73 (by omega) (by omega) (by omega) (by omega) ?_
                  refine lv_goto (tgt := 101) hx hb dX6_rank_74 (by decide) ?_
                  exact z_retE hx hb hlk hr hQ dX6_rank_101 hS (t_.1, t_.2, RK) (by rw [show k = j_ by omega]; unfold kq; rw [if_pos hn1, if_pos cw]) (hP)
              · exfalso; omega
            · have eit : (if j_ < nt_ (FDn N) (N 1) then O j_ else -1) = -1 := if_neg hn1
              have hl := lv_chg hl 3 (b := -1) rfl (eit)
              have hl : lv_has ls 5 [(0, .ref q), (1, .int (iI k)), (2, .int (iI wh)), (3, .int (iI (-1))), (4, .int (iI j_))] := hl
              refine lv_iload_n hx hb dX6_rank_59 rfl (lv_at hl 3 rfl) ?_
              refine lv_iconst (v := iI (-1)) hx hb dX6_rank_60 rfl ?_
              refine z_icmp_ne (tgt := 66) hx hb dX6_rank_61 (by decide) (by omega) (by omega) (fun c_5 => ?_) (fun c_5 => ?_)
              · exfalso; omega
              · refine lv_iconst (v := iI (-1)) hx hb dX6_rank_64 rfl ?_
                exact z_retE hx hb hlk hr hQ dX6_rank_65 hS (t_.1, t_.2, RK) (by unfold kq; rw [if_neg (by omega)]) (hP)
          · refine lv_iload_n hx hb dX6_rank_35 rfl (lv_at hl 3 rfl) ?_
            refine lv_iconst (v := iI (-1)) hx hb dX6_rank_36 rfl ?_
            by_cases hn0 : j_ < nt_ (FDn N) (N 1)
            · have hOj := hO.1 j_ i1 hn0
              have hVj := hVr (O j_)
              have eit : (if j_ < nt_ (FDn N) (N 1) then O j_ else -1) = O j_ := if_pos hn0
              refine z_icmp_eq (tgt := 59) hx hb dX6_rank_37 (by decide) (by rw [eit]; omega) (by omega) (fun c_9 => ?_) (fun c_9 => ?_)
              · exact absurd c_9 (by omega)
              · have hl := lv_chg hl 3 (b := O j_) rfl (eit)
                have hl : lv_has ls 5 [(0, .ref q), (1, .int (iI k)), (2, .int (iI wh)), (3, .int (iI (O j_))), (4, .int (iI j_))] := hl
                refine lv_aload_n hx hb dX6_rank_40 rfl (lv_at hl 0 rfl) ?_
                refine z_get (v := .ref qr) (Cn := RX6) (T := TX6) (N := 9) (ci := 6) C in_m_X6_rank_X6 hK hP 0 rfl rfl 8 (by decide) (List.mem_of_getElem? (i := 2) rfl) rfl dX6_rank_41 ?_
                refine lv_iload_n hx hb dX6_rank_44 rfl (lv_at hl 3 rfl) ?_
                refine lv_iconst (v := iI 1) hx hb dX6_rank_45 rfl ?_
                refine z_bast hx hb hK hP hD hS 5 rfl (by omega) (by omega) (Nat.le_of_ble_eq_true rfl) (by omega) dX6_rank_46 (fun H locs hP hD hS => ?_)
                have hP : zP g [(q, .inr (6, [.ref qn, .ref qp, .int (iI ac), .ref qi, .ref qk, .ref qt, .ref qw, .ref qv, .ref qr])), zI g qn 647 N, zI g qt 8 (t_.1), zI g qw 80 (t_.2), zI g qv 124 (V_ (FDn N) (N 1)), zB g qr 124 (ups RK (O j_) 1)] H := hP
                have hD : va_D A [(q, .inr (6, [.ref qn, .ref qp, .int (iI ac), .ref qi, .ref qk, .ref qt, .ref qw, .ref qv, .ref qr])), zI g qn 647 N, zI g qt 8 (t_.1), zI g qw 80 (t_.2), zI g qv 124 (V_ (FDn N) (N 1)), zB g qr 124 (ups RK (O j_) 1)] := hD
                refine lv_aload_n hx hb dX6_rank_47 rfl (lv_at hl 0 rfl) ?_
                refine lv_iconst (v := iI (-1)) hx hb dX6_rank_48 rfl ?_
                refine z_cS (As := [.int (iI (-1))]) (rest := []) C (m_X6_best (l := l) (g := g) (q := q) (qn := qn) (qp := qp) (qi := qi) (qk := qk) (qt := qt) (qw := qw) (qv := qv) (qr := qr) (ac := ac) (VO := V_ (FDn N) (N 1)) (RK := ups RK (O j_) 1) (wo := -1) (hV := hVr) (hR := fun d g1 g2 => by by_cases hd : d = O j_; (· rw [hd, ups_s]; exact Or.inr rfl); (· rw [ups_n _ _ hd]; exact hR1 d g1 g2)) (o1 := by omega)) (cwV 1 C.2.2.2.2 gX6_rank_X6_best rfl rfl rfl (by decide +kernel) ⟨Nat.le_of_ble_eq_true rfl, Nat.le_of_ble_eq_true rfl⟩) hK hP [0, 4, 5] rfl 0 rfl rfl rfl hl.1 rfl (Nat.le_of_ble_eq_true rfl) dX6_rank_49 ⟨Nat.zero_le _, Nat.zero_le _⟩ ?_
                have hbz := bz_rg (V_ (FDn N) (N 1)) (ups RK (O j_) 1) (-1) (k := 124) (by omega)
                refine z_top (b := if j_ + 1 < nt_ (FDn N) (N 1) then O (j_ + 1) else -1) (bz_rank hO (by omega) (by omega) (fun d g1 g2 => by by_cases hd : d = O j_; (· rw [hd, ups_s]; exact ⟨fun z => absurd z (by omega), fun z => absurd rfl (z j_ (by omega) (by omega))⟩); (· rw [ups_n _ _ hd, hR d g1 g2]; exact ⟨fun z i a1 a2 => by (by_cases hi : i = j_); (· rw [hi]; exact fun y => hd y.symm); (· exact z i a1 (by omega)), fun z i a1 a2 => z i a1 (by omega)⟩))) ?_
                refine lv_istore_n (lv' := [(3, .int (iI (if j_ + 1 < nt_ (FDn N) (N 1) then O (j_ + 1) else -1))), (0, .ref q), (1, .int (iI k)), (2, .int (iI wh)), (4, .int (iI j_))]) hx hb dX6_rank_52 rfl hl (by decide) rfl (fun ls hl => ?_)
                refine z_iinc (b := j_ + 1) (lv' := [(4, .int (iI (j_ + 1))), (3, .int (iI (if j_ + 1 < nt_ (FDn N) (N 1) then O (j_ + 1) else -1))), (0, .ref q), (1, .int (iI k)), (2, .int (iI wh))]) hx hb dX6_rank_53 hl (k := 4) rfl (rfl) (by decide) rfl (fun ls hl => ?_)
                refine lv_goto (tgt := 29) hx hb dX6_rank_56 (by decide) ?_
                have hl := lv_chg hl 1 (b := if (j_ + 1) < nt_ (FDn N) (N 1) then O (j_ + 1) else -1) rfl (by omega)
                have hl : lv_has ls 5 [(4, .int (iI (j_ + 1))), (3, .int (iI (if (j_ + 1) < nt_ (FDn N) (N 1) then O (j_ + 1) else -1))), (0, .ref q), (1, .int (iI k)), (2, .int (iI wh))] := hl
                exact ih29 (j_ + 1) (ups RK (O j_) 1) (by omega) (by omega) (by omega) (fun d g1 g2 => by by_cases hd : d = O j_; (· rw [hd, ups_s]; exact ⟨fun z => absurd z (by omega), fun z => absurd rfl (z j_ (by omega) (by omega))⟩); (· rw [ups_n _ _ hd, hR d g1 g2]; exact ⟨fun z i a1 a2 => by (by_cases hi : i = j_); (· rw [hi]; exact fun y => hd y.symm); (· exact z i a1 (by omega)), fun z i a1 a2 => z i a1 (by omega)⟩)) (fun d g1 g2 => by by_cases hd : d = O j_; (· rw [hd, ups_s]; exact Or.inr rfl); (· rw [ups_n _ _ hd]; exact hR1 d g1 g2)) (by omega) H locs ls (lv_sub hl [2, 3, 4, 1, 0] rfl) (hP) (hD) hS
            · have eit : (if j_ < nt_ (FDn N) (N 1) then O j_ else -1) = -1 := if_neg hn0
              refine z_icmp_eq (tgt := 59) hx hb dX6_rank_37 (by decide) (by rw [eit]; omega) (by omega) (fun c_9 => ?_) (fun c_9 => ?_)
              · by_cases hn1 : j_ < nt_ (FDn N) (N 1)
                · have hOj := hO.1 j_ i1 hn1
                  have hVj := hVr (O j_)
                  have eit : (if j_ < nt_ (FDn N) (N 1) then O j_ else -1) = O j_ := if_pos hn1
                  have hl := lv_chg hl 3 (b := O j_) rfl (eit)
                  have hl : lv_has ls 5 [(0, .ref q), (1, .int (iI k)), (2, .int (iI wh)), (3, .int (iI (O j_))), (4, .int (iI j_))] := hl
                  refine lv_iload_n hx hb dX6_rank_59 rfl (lv_at hl 3 rfl) ?_
                  refine lv_iconst (v := iI (-1)) hx hb dX6_rank_60 rfl ?_
                  refine z_icmp_ne (tgt := 66) hx hb dX6_rank_61 (by decide) (by omega) (by omega) (fun c_6 => ?_) (fun c_6 => ?_)
                  · refine lv_iload_n hx hb dX6_rank_66 rfl (lv_at hl 2 rfl) ?_
                    refine z_if_ne (tgt := 77) hx hb dX6_rank_67 (by decide) (by omega) (fun cw => ?_) (fun cw => ?_)
                    · refine lv_iload_n hx hb dX6_rank_77 rfl (lv_at hl 2 rfl) ?_
                      refine lv_iconst (v := iI 1) hx hb dX6_rank_78 rfl ?_
                      refine z_icmp_ne (tgt := 95) hx hb dX6_rank_79 (by decide) (by omega) (by omega) (fun cv => ?_) (fun cv => ?_)
                      · refine lv_aload_n hx hb dX6_rank_95 rfl (lv_at hl 0 rfl) ?_
                        refine z_get (v := .ref qv) (Cn := RX6) (T := TX6) (N := 9) (ci := 6) C in_m_X6_rank_X6 hK hP 0 rfl rfl 7 (by decide) (List.mem_of_getElem? (i := 3) rfl) rfl dX6_rank_96 ?_
                        refine lv_iload_n hx hb dX6_rank_99 rfl (lv_at hl 3 rfl) ?_
                        refine z_iald hx hb hK hP 4 rfl (by omega) (by omega) (Nat.le_of_ble_eq_true rfl) dX6_rank_100 ?_
                        exact z_retE hx hb hlk hr hQ dX6_rank_101 hS (t_.1, t_.2, RK) (by rw [show k = j_ by omega]; unfold kq; rw [if_pos hn1, if_neg cw, if_neg cv]) (hP)
                      · refine lv_iload_n hx hb dX6_rank_82 rfl (lv_at hl 3 rfl) ?_
                        refine lv_bipush (v := iI 31) hx hb dX6_rank_83 (by decide +kernel) ?_
                        refine z_iremN hx hb dX6_rank_85 (by omega) (by omega) (by omega) (by omega) ?_
                        refine lv_bipush (v := iI 15) hx hb dX6_rank_86 (by decide +kernel) ?_
                        refine z_isub hx hb dX6_rank_88 ?_
                        refine lv_bipush (v := iI 100) hx hb dX6_rank_89 (by decide +kernel) ?_
                        refine z_iadd hx hb dX6_rank_91 ?_
                        refine lv_goto (tgt := 101) hx hb dX6_rank_92 (by decide) ?_
                        exact z_retE hx hb hlk hr hQ dX6_rank_101 hS (t_.1, t_.2, RK) (by rw [show k = j_ by omega]; unfold kq; rw [if_pos hn1, if_neg cw, if_pos cv]) (hP)
                    · refine lv_iload_n hx hb dX6_rank_70 rfl (lv_at hl 3 rfl) ?_
                      refine lv_bipush (v := iI 31) hx hb dX6_rank_71 (by decide +kernel) ?_
                      refine z_idivN hx hb dX6_rank_73 (by omega) (by omega) (by omega) (by omega) ?_
                      refine lv_goto (tgt := 101) hx hb dX6_rank_74 (by decide) ?_
                      exact z_retE hx hb hlk hr hQ dX6_rank_101 hS (t_.1, t_.2, RK) (by rw [show k = j_ by omega]; unfold kq; rw [if_pos hn1, if_pos cw]) (hP)
                  · exfalso; omega
                · have eit : (if j_ < nt_ (FDn N) (N 1) then O j_ else -1) = -1 := if_neg hn1
                  have hl := lv_chg hl 3 (b := -1) rfl (eit)
                  have hl : lv_has ls 5 [(0, .ref q), (1, .int (iI k)), (2, .int (iI wh)), (3, .int (iI (-1))), (4, .int (iI j_))] := hl
                  refine lv_iload_n hx hb dX6_rank_59 rfl (lv_at hl 3 rfl) ?_
                  refine lv_iconst (v := iI (-1)) hx hb dX6_rank_60 rfl ?_
                  refine z_icmp_ne (tgt := 66) hx hb dX6_rank_61 (by decide) (by omega) (by omega) (fun c_7 => ?_) (fun c_7 => ?_)
                  · exfalso; omega
                  · refine lv_iconst (v := iI (-1)) hx hb dX6_rank_64 rfl ?_
                    exact z_retE hx hb hlk hr hQ dX6_rank_65 hS (t_.1, t_.2, RK) (by unfold kq; rw [if_neg (by omega)]) (hP)
              · exact absurd eit c_9
      exact L29 (125) 0 (fun _ => 0) (by omega) (by omega) (by omega) (fun d g1 g2 => ⟨fun _ i a1 a2 => by omega, fun _ => rfl⟩) (fun d _ _ => Or.inl rfl) (by omega) H locs ls (lv_sub hl [2, 3, 4, 1, 0] rfl) (hP) (hD) hS
    · exfalso; omega
set_option maxHeartbeats 4000000 in
set_option maxRecDepth 100000 in
theorem m_X6_rank_n (l : Launch) (g : zG) (q qn qp qi qk qt qw qv qr : Nat) (ac : Int) (k wh : Int) (g_k : -2147483648 ≤ k ∧ k < 2147483648) (g_wh : -2147483648 ≤ wh ∧ wh < 2147483648) (rf : ¬ (0 ≤ k ∧ (0 ≤ wh ∧ wh ≤ 2))) : zS l yX6_rank wsX6_rank ({ frames := 1, cells := 0, slots := 0, locals := 22 }) g [.ref q, .int (iI k), .int (iI wh)] [(q, .inr (6, [.ref qn, .ref qp, .int (iI ac), .ref qi, .ref qk, .ref qt, .ref qw, .ref qv, .ref qr]))] (-1000000002) := by
  refine z_entS (cc := cX6_rank) (nL := 5) (ret := (some .int)) (own := RX6) (by decide) rfl rfl (Nat.le_of_ble_eq_true rfl) ?_
  intro p e s m below meth c Q ls C hlk hr hQ hP hK hl
  have hx := C.1
  have hb := C.2.1
  have hl : lv_has ls 5 [(0, .ref q), (1, .int (iI k)), (2, .int (iI wh))] := hl
  refine lv_iload_n hx hb dX6_rank_0 rfl (lv_at hl 1 rfl) ?_
  refine z_if_lt (tgt := 13) hx hb dX6_rank_1 (by decide) (by omega) (fun c_1 => ?_) (fun c_1 => ?_)
  · refine z_ldc C (List.mem_of_getElem? (i := 1) rfl) (-1000000002) (by decide +kernel) dX6_rank_13 ?_
    exact z_retS hx hb hlk hr hQ dX6_rank_15 (rfl)
  · refine lv_iload_n hx hb dX6_rank_4 rfl (lv_at hl 2 rfl) ?_
    refine lv_iconst (v := iI 0) hx hb dX6_rank_5 rfl ?_
    refine lv_iconst (v := iI 2) hx hb dX6_rank_6 rfl ?_
    refine z_cSS (As := [.int (iI wh), .int (iI 0), .int (iI 2)]) (rest := []) C (m_X6_in (l := l) (g := g) (v := wh) (lo := 0) (hi := 2) (g_v := by omega) (g_lo := by omega) (g_hi := by omega)) (cwS 3 C.2.2.2.2 gX6_rank_X6_in rfl rfl rfl (by decide +kernel) ⟨Nat.le_of_ble_eq_true rfl, Nat.le_of_ble_eq_true rfl⟩) hK hP [] rfl rfl hl.1 rfl (Nat.le_of_ble_eq_true rfl) dX6_rank_7 ⟨Nat.zero_le _, Nat.zero_le _⟩ ?_
    refine z_ifb_ne (tgt := 16) hx hb dX6_rank_10 (by decide) (fun c_2 => ?_) (fun c_2 => ?_)
    · exfalso; omega
    · refine z_ldc C (List.mem_of_getElem? (i := 1) rfl) (-1000000002) (by decide +kernel) dX6_rank_13 ?_
      exact z_retS hx hb hlk hr hQ dX6_rank_15 (rfl)
