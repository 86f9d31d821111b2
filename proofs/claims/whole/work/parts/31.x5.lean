set_option maxHeartbeats 4000000 in
set_option maxRecDepth 100000 in
theorem m_X5_isWithin (l : Launch) (g : zG) (v lo hi : Int) (g_v : -2147483648 ≤ v ∧ v < 2147483648) (g_lo : -2147483648 ≤ lo ∧ lo < 2147483648) (g_hi : -2147483648 ≤ hi ∧ hi < 2147483648) : zS l yX5_isWithin wsX5_isWithin ({ frames := 0, cells := 0, slots := 0, locals := 0 }) g [.int (iI v), .int (iI lo), .int (iI hi)] [] (bI (lo ≤ v ∧ v ≤ hi)) := by
  refine z_entS (cc := cX5_isWithin) (nL := 3) (ret := (some .boolean)) (own := RX5) (by decide) rfl rfl (Nat.le_of_ble_eq_true rfl) ?_
  intro p e s m below meth c Q ls C hlk hr hQ hP hK hl
  have hx := C.1
  have hb := C.2.1
  have hl : lv_has ls 3 [(0, .int (iI v)), (1, .int (iI lo)), (2, .int (iI hi))] := hl
  refine lv_iload_n hx hb dX5_isWithin_0 rfl (lv_at hl 0 rfl) ?_
  refine lv_iload_n hx hb dX5_isWithin_1 rfl (lv_at hl 1 rfl) ?_
  refine z_icmp_lt (tgt := 14) hx hb dX5_isWithin_2 (by decide) (by omega) (by omega) (fun c_1 => ?_) (fun c_1 => ?_)
  · refine lv_iconst (v := iI 0) hx hb dX5_isWithin_14 rfl ?_
    exact z_retSb hx hb hlk hr hQ dX5_isWithin_15 (by omega) ((bI_f (by omega)).symm)
  · refine lv_iload_n hx hb dX5_isWithin_5 rfl (lv_at hl 0 rfl) ?_
    refine lv_iload_n hx hb dX5_isWithin_6 rfl (lv_at hl 2 rfl) ?_
    refine z_icmp_gt (tgt := 14) hx hb dX5_isWithin_7 (by decide) (by omega) (by omega) (fun c_2 => ?_) (fun c_2 => ?_)
    · refine lv_iconst (v := iI 0) hx hb dX5_isWithin_14 rfl ?_
      exact z_retSb hx hb hlk hr hQ dX5_isWithin_15 (by omega) ((bI_f (by omega)).symm)
    · refine lv_iconst (v := iI 1) hx hb dX5_isWithin_10 rfl ?_
      refine lv_goto (tgt := 15) hx hb dX5_isWithin_11 (by decide) ?_
      exact z_retSb hx hb hlk hr hQ dX5_isWithin_15 (by omega) ((bI_t (by omega)).symm)
set_option maxHeartbeats 4000000 in
set_option maxRecDepth 100000 in
theorem m_X5_isPiece (l : Launch) (g : zG) (v : Int) (g_v : -2147483648 ≤ v ∧ v < 2147483648) : zS l yX5_isPiece wsX5_isPiece ({ frames := 1, cells := 0, slots := 0, locals := 22 }) g [.int (iI v)] [] (bI (0 ≤ v ∧ v ≤ 3)) := by
  refine z_entS (cc := cX5_isPiece) (nL := 1) (ret := (some .boolean)) (own := RX5) (by decide) rfl rfl (Nat.le_of_ble_eq_true rfl) ?_
  intro p e s m below meth c Q ls C hlk hr hQ hP hK hl
  have hx := C.1
  have hb := C.2.1
  have hl : lv_has ls 1 [(0, .int (iI v))] := hl
  refine lv_iload_n hx hb dX5_isPiece_0 rfl (lv_at hl 0 rfl) ?_
  refine lv_iconst (v := iI 0) hx hb dX5_isPiece_1 rfl ?_
  refine lv_iconst (v := iI 3) hx hb dX5_isPiece_2 rfl ?_
  refine z_cSS (As := [.int (iI v), .int (iI 0), .int (iI 3)]) (rest := []) C (m_X5_isWithin (l := l) (g := g) (v := v) (lo := 0) (hi := 3) (g_v := by omega) (g_lo := by omega) (g_hi := by omega)) (cwS 3 C.2.2.2.2 gX5_isPiece_X5_isWithin rfl rfl rfl (by decide +kernel) ⟨Nat.le_of_ble_eq_true rfl, Nat.le_of_ble_eq_true rfl⟩) hK hP [] rfl rfl hl.1 rfl (Nat.le_of_ble_eq_true rfl) dX5_isPiece_3 ⟨Nat.zero_le _, Nat.zero_le _⟩ ?_
  exact z_retSb hx hb hlk hr hQ dX5_isPiece_6 (bI_01 _) (rfl)
set_option maxHeartbeats 4000000 in
set_option maxRecDepth 100000 in
theorem m_X5_isRow (l : Launch) (g : zG) (v : Int) (g_v : -2147483648 ≤ v ∧ v < 2147483648) : zS l yX5_isRow wsX5_isRow ({ frames := 1, cells := 0, slots := 0, locals := 22 }) g [.int (iI v)] [] (bI (0 ≤ v ∧ v ≤ 4)) := by
  refine z_entS (cc := cX5_isRow) (nL := 1) (ret := (some .boolean)) (own := RX5) (by decide) rfl rfl (Nat.le_of_ble_eq_true rfl) ?_
  intro p e s m below meth c Q ls C hlk hr hQ hP hK hl
  have hx := C.1
  have hb := C.2.1
  have hl : lv_has ls 1 [(0, .int (iI v))] := hl
  refine lv_iload_n hx hb dX5_isRow_0 rfl (lv_at hl 0 rfl) ?_
  refine lv_iconst (v := iI 0) hx hb dX5_isRow_1 rfl ?_
  refine lv_iconst (v := iI 4) hx hb dX5_isRow_2 rfl ?_
  refine z_cSS (As := [.int (iI v), .int (iI 0), .int (iI 4)]) (rest := []) C (m_X5_isWithin (l := l) (g := g) (v := v) (lo := 0) (hi := 4) (g_v := by omega) (g_lo := by omega) (g_hi := by omega)) (cwS 3 C.2.2.2.2 gX5_isRow_X5_isWithin rfl rfl rfl (by decide +kernel) ⟨Nat.le_of_ble_eq_true rfl, Nat.le_of_ble_eq_true rfl⟩) hK hP [] rfl rfl hl.1 rfl (Nat.le_of_ble_eq_true rfl) dX5_isRow_3 ⟨Nat.zero_le _, Nat.zero_le _⟩ ?_
  exact z_retSb hx hb hlk hr hQ dX5_isRow_6 (bI_01 _) (rfl)
set_option maxHeartbeats 4000000 in
set_option maxRecDepth 100000 in
theorem m_X5_lotAfter (l : Launch) (g : zG) (v : Int) (h1 : 0 ≤ v) (h2 : v < 2147483648) : zS l yX5_lotAfter wsX5_lotAfter ({ frames := 0, cells := 0, slots := 0, locals := 0 }) g [.int (iI v)] [] (v * 16807 % 2147483647) := by
  refine z_entS (cc := cX5_lotAfter) (nL := 1) (ret := (some .int)) (own := RX5) (by decide) rfl rfl (Nat.le_of_ble_eq_true rfl) ?_
  intro p e s m below meth c Q ls C hlk hr hQ hP hK hl
  have hx := C.1
  have hb := C.2.1
  have hl : lv_has ls 1 [(0, .int (iI v))] := hl
  refine lv_iload_n hx hb dX5_lotAfter_0 rfl (lv_at hl 0 rfl) ?_
  refine z_i2l hx hb dX5_lotAfter_1 (by omega) (by omega) ?_
  refine z_ldc2 C (List.mem_of_getElem? (i := 1) rfl) (16807) (by decide +kernel) dX5_lotAfter_2 ?_
  refine z_lmul hx hb dX5_lotAfter_5 ?_
  refine z_ldc2 C (List.mem_of_getElem? (i := 2) rfl) (2147483647) (by decide +kernel) dX5_lotAfter_6 ?_
  refine z_lremN hx hb dX5_lotAfter_9 (by omega) (by omega) (by omega) (by omega) ?_
  refine z_l2i hx hb dX5_lotAfter_10 ?_
  exact z_retS hx hb hlk hr hQ dX5_lotAfter_11 (rfl)
set_option maxRecDepth 20000 in
theorem in_m_X5_isWindow_X5 : ∀ w ∈ u_ws RX5 TX5 7, w ∈ wsX5_isWindow := zmem_of _ [15, 16, 17, 18, 19, 20, 21] (by decide +kernel)
set_option maxHeartbeats 4000000 in
set_option maxRecDepth 100000 in
theorem m_X5_isWindow (l : Launch) (g : zG) (o h b im a d bb : Nat) (fr : Int) (hn hs : Nat) (fl re : Int) (SZ : Int → Int) (pi_ w : Int) (g_pi_ : -2147483648 ≤ pi_ ∧ pi_ < 2147483648) (g_w : -2147483648 ≤ w ∧ w < 2147483648) (z1 : ∀ q, 0 ≤ q → q < 5 → 0 ≤ SZ q ∧ SZ q ≤ 128) : zS l yX5_isWindow wsX5_isWindow ({ frames := 2, cells := 0, slots := 0, locals := 42 }) g [.ref o, .int (iI pi_), .int (iI w)] [(o, .inr (5, [.ref h, .ref b, .ref im, .ref a, .ref d, .ref bb, .int (iI fr)])), (h, .inr (4, [.ref hn, .ref hs, .int (iI fl), .int (iI re)])), zI g hs 5 SZ] (bI ((0 ≤ pi_ ∧ pi_ ≤ 4) ∧ (0 ≤ w ∧ w ≤ SZ pi_ / 8 - 1))) := by
  refine z_entS (cc := cX5_isWindow) (nL := 3) (ret := (some .boolean)) (own := RX5) (by decide) rfl rfl (Nat.le_of_ble_eq_true rfl) ?_
  intro p e s m below meth c Q ls C hlk hr hQ hP hK hl
  have hx := C.1
  have hb := C.2.1
  have hl : lv_has ls 3 [(0, .ref o), (1, .int (iI pi_)), (2, .int (iI w))] := hl
  refine lv_iload_n hx hb dX5_isWindow_0 rfl (lv_at hl 1 rfl) ?_
  refine z_cSS (As := [.int (iI pi_)]) (rest := []) C (m_X5_isRow (l := l) (g := g) (v := pi_) (g_v := by omega)) (cwS 1 C.2.2.2.2 gX5_isWindow_X5_isRow rfl rfl rfl (by decide +kernel) ⟨Nat.le_of_ble_eq_true rfl, Nat.le_of_ble_eq_true rfl⟩) hK hP [] rfl rfl hl.1 rfl (Nat.le_of_ble_eq_true rfl) dX5_isWindow_1 ⟨Nat.zero_le _, Nat.zero_le _⟩ ?_
  refine z_ifb_eq (tgt := 29) hx hb dX5_isWindow_4 (by decide) (fun c_1 => ?_) (fun c_1 => ?_)
  · refine lv_iconst (v := iI 0) hx hb dX5_isWindow_29 rfl ?_
    exact z_retSb hx hb hlk hr hQ dX5_isWindow_30 (by omega) ((bI_f (by omega)).symm)
  · have hz1 := z1 pi_ (by omega) (by omega)
    refine lv_iload_n hx hb dX5_isWindow_7 rfl (lv_at hl 2 rfl) ?_
    refine lv_iconst (v := iI 0) hx hb dX5_isWindow_8 rfl ?_
    refine lv_aload_n hx hb dX5_isWindow_9 rfl (lv_at hl 0 rfl) ?_
    refine z_get (v := .ref h) (Cn := RX5) (T := TX5) (N := 7) (ci := 5) C in_m_X5_isWindow_X5 hK hP 0 rfl rfl 0 (by decide) (List.mem_of_getElem? (i := 1) rfl) rfl dX5_isWindow_10 ?_
    refine lv_iload_n hx hb dX5_isWindow_13 rfl (lv_at hl 1 rfl) ?_
    refine z_cS (As := [.int (iI pi_)]) (rest := [.int (iI 0), .int (iI w)]) C (m_X4_windowsOf (l := l) (g := g) (h := h) (hn := hn) (hs := hs) (fl := fl) (re := re) (SZ := SZ) (row := pi_) (h1 := by omega) (h2 := by omega) (h3 := by omega) (h4 := by omega)) (cwV 1 C.2.2.2.2 gX5_isWindow_X4_windowsOf rfl rfl rfl (by decide +kernel) ⟨Nat.le_of_ble_eq_true rfl, Nat.le_of_ble_eq_true rfl⟩) hK hP [1, 2] rfl 1 rfl rfl rfl hl.1 rfl (Nat.le_of_ble_eq_true rfl) dX5_isWindow_14 ⟨Nat.zero_le _, Nat.zero_le _⟩ ?_
    refine lv_iconst (v := iI 1) hx hb dX5_isWindow_17 rfl ?_
    refine z_isub hx hb dX5_isWindow_18 ?_
    refine z_cSS (As := [.int (iI w), .int (iI 0), .int (iI ((SZ pi_ / 8) - 1))]) (rest := []) C (m_X5_isWithin (l := l) (g := g) (v := w) (lo := 0) (hi := (SZ pi_ / 8) - 1) (g_v := by omega) (g_lo := by omega) (g_hi := by omega)) (cwS 3 C.2.2.2.2 gX5_isWindow_X5_isWithin rfl rfl rfl (by decide +kernel) ⟨Nat.le_of_ble_eq_true rfl, Nat.le_of_ble_eq_true rfl⟩) hK hP [] rfl rfl hl.1 rfl (Nat.le_of_ble_eq_true rfl) dX5_isWindow_19 ⟨Nat.zero_le _, Nat.zero_le _⟩ ?_
    refine z_ifb_eq (tgt := 29) hx hb dX5_isWindow_22 (by decide) (fun c_2 => ?_) (fun c_2 => ?_)
    · refine lv_iconst (v := iI 0) hx hb dX5_isWindow_29 rfl ?_
      exact z_retSb hx hb hlk hr hQ dX5_isWindow_30 (by omega) ((bI_f (by omega)).symm)
    · refine lv_iconst (v := iI 1) hx hb dX5_isWindow_25 rfl ?_
      refine lv_goto (tgt := 30) hx hb dX5_isWindow_26 (by decide) ?_
      exact z_retSb hx hb hlk hr hQ dX5_isWindow_30 (by omega) ((bI_t (by omega)).symm)
