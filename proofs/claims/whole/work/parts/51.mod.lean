set_option maxHeartbeats 4000000 in
set_option maxRecDepth 100000 in
theorem m_X6_in (l : Launch) (g : zG) (v lo hi : Int) (g_v : -2147483648 ≤ v ∧ v < 2147483648) (g_lo : -2147483648 ≤ lo ∧ lo < 2147483648) (g_hi : -2147483648 ≤ hi ∧ hi < 2147483648) : zS l yX6_in wsX6_in ({ frames := 0, cells := 0, slots := 0, locals := 0 }) g [.int (iI v), .int (iI lo), .int (iI hi)] [] (bI (lo ≤ v ∧ v ≤ hi)) := by
  refine z_entS (cc := cX6_in) (nL := 3) (ret := (some .boolean)) (own := RX6) (by decide) rfl rfl (Nat.le_of_ble_eq_true rfl) ?_
  intro p e s m below meth c Q ls C hlk hr hQ hP hK hl
  have hx := C.1
  have hb := C.2.1
  have hl : lv_has ls 3 [(0, .int (iI v)), (1, .int (iI lo)), (2, .int (iI hi))] := hl
  refine lv_iload_n hx hb dX6_in_0 rfl (lv_at hl 0 rfl) ?_
  refine lv_iload_n hx hb dX6_in_1 rfl (lv_at hl 1 rfl) ?_
  refine z_icmp_lt (tgt := 14) hx hb dX6_in_2 (by decide) (by omega) (by omega) (fun c_1 => ?_) (fun c_1 => ?_)
  · refine lv_iconst (v := iI 0) hx hb dX6_in_14 rfl ?_
    exact z_retSb hx hb hlk hr hQ dX6_in_15 (by omega) ((bI_f (by omega)).symm)
  · refine lv_iload_n hx hb dX6_in_5 rfl (lv_at hl 0 rfl) ?_
    refine lv_iload_n hx hb dX6_in_6 rfl (lv_at hl 2 rfl) ?_
    refine z_icmp_gt (tgt := 14) hx hb dX6_in_7 (by decide) (by omega) (by omega) (fun c_2 => ?_) (fun c_2 => ?_)
    · refine lv_iconst (v := iI 0) hx hb dX6_in_14 rfl ?_
      exact z_retSb hx hb hlk hr hQ dX6_in_15 (by omega) ((bI_f (by omega)).symm)
    · refine lv_iconst (v := iI 1) hx hb dX6_in_10 rfl ?_
      refine lv_goto (tgt := 15) hx hb dX6_in_11 (by decide) ?_
      exact z_retSb hx hb hlk hr hQ dX6_in_15 (by omega) ((bI_t (by omega)).symm)
set_option maxHeartbeats 4000000 in
set_option maxRecDepth 100000 in
theorem m_X6_isRow (l : Launch) (g : zG) (v : Int) (g_v : -2147483648 ≤ v ∧ v < 2147483648) : zS l yX6_isRow wsX6_isRow ({ frames := 1, cells := 0, slots := 0, locals := 22 }) g [.int (iI v)] [] (bI (0 ≤ v ∧ v ≤ 4)) := by
  refine z_entS (cc := cX6_isRow) (nL := 1) (ret := (some .boolean)) (own := RX6) (by decide) rfl rfl (Nat.le_of_ble_eq_true rfl) ?_
  intro p e s m below meth c Q ls C hlk hr hQ hP hK hl
  have hx := C.1
  have hb := C.2.1
  have hl : lv_has ls 1 [(0, .int (iI v))] := hl
  refine lv_iload_n hx hb dX6_isRow_0 rfl (lv_at hl 0 rfl) ?_
  refine lv_iconst (v := iI 0) hx hb dX6_isRow_1 rfl ?_
  refine lv_iconst (v := iI 4) hx hb dX6_isRow_2 rfl ?_
  refine z_cSS (As := [.int (iI v), .int (iI 0), .int (iI 4)]) (rest := []) C (m_X6_in (l := l) (g := g) (v := v) (lo := 0) (hi := 4) (g_v := by omega) (g_lo := by omega) (g_hi := by omega)) (cwS 3 C.2.2.2.2 gX6_isRow_X6_in rfl rfl rfl (by decide +kernel) ⟨Nat.le_of_ble_eq_true rfl, Nat.le_of_ble_eq_true rfl⟩) hK hP [] rfl rfl hl.1 rfl (Nat.le_of_ble_eq_true rfl) dX6_isRow_3 ⟨Nat.zero_le _, Nat.zero_le _⟩ ?_
  exact z_retSb hx hb hlk hr hQ dX6_isRow_6 (bI_01 _) (rfl)
set_option maxRecDepth 20000 in
theorem in_m_X6_windows_X6 : ∀ w ∈ u_ws RX6 TX6 9, w ∈ wsX6_windows := zmem_of _ [2, 3, 4, 5, 6, 7, 8, 9, 10] (by decide +kernel)
set_option maxHeartbeats 4000000 in
set_option maxRecDepth 100000 in
theorem m_X6_windows (l : Launch) (g : zG) (q qn qp qi qk qt qw qv qr : Nat) (ac : Int) (N : Int → Int) (pi_ : Int) (h1 : 0 ≤ pi_) (h2 : pi_ < 5) (z1 : 0 ≤ N (2 + pi_) ∧ N (2 + pi_) ≤ 128) : zS l yX6_windows wsX6_windows ({ frames := 0, cells := 0, slots := 0, locals := 0 }) g [.ref q, .int (iI pi_)] [(q, .inr (6, [.ref qn, .ref qp, .int (iI ac), .ref qi, .ref qk, .ref qt, .ref qw, .ref qv, .ref qr])), zI g qn 647 N] (N (2 + pi_) / 8) := by
  refine z_entS (cc := cX6_windows) (nL := 2) (ret := (some .int)) (own := RX6) (by decide) rfl rfl (Nat.le_of_ble_eq_true rfl) ?_
  intro p e s m below meth c Q ls C hlk hr hQ hP hK hl
  have hx := C.1
  have hb := C.2.1
  have hl : lv_has ls 2 [(0, .ref q), (1, .int (iI pi_))] := hl
  refine lv_aload_n hx hb dX6_windows_0 rfl (lv_at hl 0 rfl) ?_
  refine z_get (v := .ref qn) (Cn := RX6) (T := TX6) (N := 9) (ci := 6) C in_m_X6_windows_X6 hK hP 0 rfl rfl 0 (by decide) (List.mem_of_getElem? (i := 1) rfl) rfl dX6_windows_1 ?_
  refine lv_iconst (v := iI 2) hx hb dX6_windows_4 rfl ?_
  refine lv_iload_n hx hb dX6_windows_5 rfl (lv_at hl 1 rfl) ?_
  refine z_iadd hx hb dX6_windows_6 ?_
  refine z_iald hx hb hK hP 1 rfl (by omega) (by omega) (Nat.le_of_ble_eq_true rfl) dX6_windows_7 ?_
  refine lv_bipush (v := iI 8) hx hb dX6_windows_8 (by decide +kernel) ?_
  refine z_idivN hx hb dX6_windows_10 (by omega) (by omega) (by omega) (by omega) ?_
  exact z_retS hx hb hlk hr hQ dX6_windows_11 (rfl)
set_option maxHeartbeats 4000000 in
set_option maxRecDepth 100000 in
theorem m_X6_isWindow (l : Launch) (g : zG) (q qn qp qi qk qt qw qv qr : Nat) (ac : Int) (N : Int → Int) (pi_ w : Int) (h1 : 0 ≤ pi_) (h2 : pi_ < 5) (g_w : -2147483648 ≤ w ∧ w < 2147483648) (z1 : 0 ≤ N (2 + pi_) ∧ N (2 + pi_) ≤ 128) : zS l yX6_isWindow wsX6_isWindow ({ frames := 1, cells := 0, slots := 0, locals := 22 }) g [.ref q, .int (iI pi_), .int (iI w)] [(q, .inr (6, [.ref qn, .ref qp, .int (iI ac), .ref qi, .ref qk, .ref qt, .ref qw, .ref qv, .ref qr])), zI g qn 647 N] (bI (0 ≤ w ∧ w ≤ N (2 + pi_) / 8 - 1)) := by
  refine z_entS (cc := cX6_isWindow) (nL := 3) (ret := (some .boolean)) (own := RX6) (by decide) rfl rfl (Nat.le_of_ble_eq_true rfl) ?_
  intro p e s m below meth c Q ls C hlk hr hQ hP hK hl
  have hx := C.1
  have hb := C.2.1
  have hl : lv_has ls 3 [(0, .ref q), (1, .int (iI pi_)), (2, .int (iI w))] := hl
  refine lv_iload_n hx hb dX6_isWindow_0 rfl (lv_at hl 2 rfl) ?_
  refine lv_iconst (v := iI 0) hx hb dX6_isWindow_1 rfl ?_
  refine lv_aload_n hx hb dX6_isWindow_2 rfl (lv_at hl 0 rfl) ?_
  refine lv_iload_n hx hb dX6_isWindow_3 rfl (lv_at hl 1 rfl) ?_
  refine z_cS (As := [.int (iI pi_)]) (rest := [.int (iI 0), .int (iI w)]) C (m_X6_windows (l := l) (g := g) (q := q) (qn := qn) (qp := qp) (qi := qi) (qk := qk) (qt := qt) (qw := qw) (qv := qv) (qr := qr) (ac := ac) (N := N) (pi_ := pi_) (h1 := by omega) (h2 := by omega) (z1 := by omega)) (cwV 1 C.2.2.2.2 gX6_isWindow_X6_windows rfl rfl rfl (by decide +kernel) ⟨Nat.le_of_ble_eq_true rfl, Nat.le_of_ble_eq_true rfl⟩) hK hP [0, 1] rfl 0 rfl rfl rfl hl.1 rfl (Nat.le_of_ble_eq_true rfl) dX6_isWindow_4 ⟨Nat.zero_le _, Nat.zero_le _⟩ ?_
  refine lv_iconst (v := iI 1) hx hb dX6_isWindow_7 rfl ?_
  refine z_isub hx hb dX6_isWindow_8 ?_
  refine z_cSS (As := [.int (iI w), .int (iI 0), .int (iI ((N (2 + pi_) / 8) - 1))]) (rest := []) C (m_X6_in (l := l) (g := g) (v := w) (lo := 0) (hi := (N (2 + pi_) / 8) - 1) (g_v := by omega) (g_lo := by omega) (g_hi := by omega)) (cwS 3 C.2.2.2.2 gX6_isWindow_X6_in rfl rfl rfl (by decide +kernel) ⟨Nat.le_of_ble_eq_true rfl, Nat.le_of_ble_eq_true rfl⟩) hK hP [] rfl rfl hl.1 rfl (Nat.le_of_ble_eq_true rfl) dX6_isWindow_9 ⟨Nat.zero_le _, Nat.zero_le _⟩ ?_
  exact z_retSb hx hb hlk hr hQ dX6_isWindow_12 (bI_01 _) (rfl)
set_option maxRecDepth 20000 in
theorem in_m_X6_of_X6 : ∀ w ∈ u_ws RX6 TX6 9, w ∈ wsX6_of := zmem_of _ [2, 3, 4, 5, 6, 7, 8, 9, 10] (by decide +kernel)
set_option maxHeartbeats 4000000 in
set_option maxRecDepth 100000 in
theorem m_X6_of (l : Launch) (g : zG) (q qn qp qi qk qt qw qv qr : Nat) (ac : Int) (N : Int → Int) (pi_ ix : Int) (h1 : 0 ≤ pi_) (h2 : pi_ < 5) (x1 : 0 ≤ ix ∧ ix < 128) : zS l yX6_of wsX6_of ({ frames := 0, cells := 0, slots := 0, locals := 0 }) g [.ref q, .int (iI pi_), .int (iI ix)] [(q, .inr (6, [.ref qn, .ref qp, .int (iI ac), .ref qi, .ref qk, .ref qt, .ref qw, .ref qv, .ref qr])), zI g qn 647 N] (N (7 + 128 * pi_ + ix)) := by
  refine z_entS (cc := cX6_of) (nL := 3) (ret := (some .int)) (own := RX6) (by decide) rfl rfl (Nat.le_of_ble_eq_true rfl) ?_
  intro p e s m below meth c Q ls C hlk hr hQ hP hK hl
  have hx := C.1
  have hb := C.2.1
  have hl : lv_has ls 3 [(0, .ref q), (1, .int (iI pi_)), (2, .int (iI ix))] := hl
  refine lv_aload_n hx hb dX6_of_0 rfl (lv_at hl 0 rfl) ?_
  refine z_get (v := .ref qn) (Cn := RX6) (T := TX6) (N := 9) (ci := 6) C in_m_X6_of_X6 hK hP 0 rfl rfl 0 (by decide) (List.mem_of_getElem? (i := 1) rfl) rfl dX6_of_1 ?_
  refine lv_bipush (v := iI 7) hx hb dX6_of_4 (by decide +kernel) ?_
  refine lv_sipush (v := iI 128) hx hb dX6_of_6 (by decide +kernel) ?_
  refine lv_iload_n hx hb dX6_of_9 rfl (lv_at hl 1 rfl) ?_
  refine z_imul hx hb dX6_of_10 ?_
  refine z_iadd hx hb dX6_of_11 ?_
  refine lv_iload_n hx hb dX6_of_12 rfl (lv_at hl 2 rfl) ?_
  refine z_iadd hx hb dX6_of_13 ?_
  refine z_iald hx hb hK hP 1 rfl (by omega) (by omega) (Nat.le_of_ble_eq_true rfl) dX6_of_14 ?_
  exact z_retS hx hb hlk hr hQ dX6_of_15 (rfl)
set_option maxRecDepth 20000 in
theorem in_m_X6_put_X6 : ∀ w ∈ u_ws RX6 TX6 9, w ∈ wsX6_put := zmem_of _ [2, 3, 4, 5, 6, 7, 8, 9, 10] (by decide +kernel)
set_option maxHeartbeats 4000000 in
set_option maxRecDepth 100000 in
theorem m_X6_put (l : Launch) (g : zG) (q qn qp qi qk qt qw qv qr : Nat) (ac : Int) (N : Int → Int) (pi_ ix v : Int) (h1 : 0 ≤ pi_) (h2 : pi_ < 5) (x1 : 0 ≤ ix ∧ ix < 128) : zV l yX6_put wsX6_put ({ frames := 0, cells := 0, slots := 0, locals := 0 }) g [.ref q, .int (iI pi_), .int (iI ix), .int (iI v)] [(q, .inr (6, [.ref qn, .ref qp, .int (iI ac), .ref qi, .ref qk, .ref qt, .ref qw, .ref qv, .ref qr])), zI g qn 647 N] (S := Unit) (fun _ => True) (fun _ => [(q, .inr (6, [.ref qn, .ref qp, .int (iI ac), .ref qi, .ref qk, .ref qt, .ref qw, .ref qv, .ref qr])), zI g qn 647 (ups N (7 + 128 * pi_ + ix) v)]) := by
  refine z_entV (cc := cX6_put) (nL := 4) (ret := none) (own := RX6) (by decide) rfl rfl (Nat.le_of_ble_eq_true rfl) ?_
  intro p e s m below meth c Q ls A C hlk hr hQ hP hK hD hA hS hl
  have hx := C.1
  have hb := C.2.1
  have hl : lv_has ls 4 [(0, .ref q), (1, .int (iI pi_)), (2, .int (iI ix)), (3, .int (iI v))] := hl
  obtain ⟨H, hHe⟩ : ∃ H, H = s.heap := ⟨_, rfl⟩
  obtain ⟨locs, hLe⟩ : ∃ q : List Loc, q = [] := ⟨_, rfl⟩
  have hP : zP g [(q, .inr (6, [.ref qn, .ref qp, .int (iI ac), .ref qi, .ref qk, .ref qt, .ref qw, .ref qv, .ref qr])), zI g qn 647 N] H := by rw [hHe]; exact hP
  have hS : va_S A s.heap H locs := by rw [hHe, hLe]; exact hS
  suffices hgo : W p l e ({ frames := 0, cells := 0, slots := 0, locals := 0 }) s m ([.ref q, .int (iI pi_), .int (iI ix), .int (iI v)] : List Value).toArray below meth c H locs 0 0 Q (F0 m 0 ls []) by rw [hHe, hLe] at hgo; exact hgo
  clear hHe hLe
  refine lv_aload_n hx hb dX6_put_0 rfl (lv_at hl 0 rfl) ?_
  refine z_get (v := .ref qn) (Cn := RX6) (T := TX6) (N := 9) (ci := 6) C in_m_X6_put_X6 hK hP 0 rfl rfl 0 (by decide) (List.mem_of_getElem? (i := 1) rfl) rfl dX6_put_1 ?_
  refine lv_bipush (v := iI 7) hx hb dX6_put_4 (by decide +kernel) ?_
  refine lv_sipush (v := iI 128) hx hb dX6_put_6 (by decide +kernel) ?_
  refine lv_iload_n hx hb dX6_put_9 rfl (lv_at hl 1 rfl) ?_
  refine z_imul hx hb dX6_put_10 ?_
  refine z_iadd hx hb dX6_put_11 ?_
  refine lv_iload_n hx hb dX6_put_12 rfl (lv_at hl 2 rfl) ?_
  refine z_iadd hx hb dX6_put_13 ?_
  refine lv_iload_n hx hb dX6_put_14 rfl (lv_at hl 3 rfl) ?_
  refine z_iast hx hb hK hP hD hS 1 rfl (by omega) (by omega) (Nat.le_of_ble_eq_true rfl) dX6_put_15 (fun H locs hP hD hS => ?_)
  have hP : zP g [(q, .inr (6, [.ref qn, .ref qp, .int (iI ac), .ref qi, .ref qk, .ref qt, .ref qw, .ref qv, .ref qr])), zI g qn 647 (ups N ((7 + (128 * pi_)) + ix) v)] H := hP
  have hD : va_D A [(q, .inr (6, [.ref qn, .ref qp, .int (iI ac), .ref qi, .ref qk, .ref qt, .ref qw, .ref qv, .ref qr])), zI g qn 647 (ups N ((7 + (128 * pi_)) + ix) v)] := hD
  exact z_retV hx hb hlk hr hQ dX6_put_16 hS () (trivial) (hP)
set_option maxHeartbeats 4000000 in
set_option maxRecDepth 100000 in
theorem m_X6_drawn (l : Launch) (g : zG) (x_ : Int) (h1 : 0 ≤ x_ ∧ x_ < 2147483648) : zSl l yX6_drawn wsX6_drawn ({ frames := 0, cells := 0, slots := 0, locals := 0 }) g [.long (lI x_)] [] (x_ * 16807 % 2147483647) := by
  refine z_entSl (cc := cX6_drawn) (nL := 2) (ret := (some .long)) (own := RX6) (by decide) rfl rfl (Nat.le_of_ble_eq_true rfl) ?_
  intro p e s m below meth c Q ls C hlk hr hQ hP hK hl
  have hx := C.1
  have hb := C.2.1
  have hl : lv_has ls 2 [(0, .long (lI x_))] := hl
  refine lv_lload_n hx hb dX6_drawn_0 rfl (lv_at hl 0 rfl) ?_
  refine z_ldc2 C (List.mem_of_getElem? (i := 1) rfl) (16807) (by decide +kernel) dX6_drawn_1 ?_
  refine z_lmul hx hb dX6_drawn_4 ?_
  refine z_ldc2 C (List.mem_of_getElem? (i := 2) rfl) (2147483647) (by decide +kernel) dX6_drawn_5 ?_
  refine z_lremN hx hb dX6_drawn_8 (by omega) (by omega) (by omega) (by omega) ?_
  exact z_retSl hx hb hlk hr hQ dX6_drawn_9 (rfl)
set_option maxHeartbeats 4000000 in
set_option maxRecDepth 100000 in
theorem m_X6_bounded (l : Launch) (g : zG) (v : Int) (g_v : -2147483648 ≤ v ∧ v < 2147483648) : zS l yX6_bounded wsX6_bounded ({ frames := 0, cells := 0, slots := 0, locals := 0 }) g [.int (iI v)] [] (cl v) := by
  refine z_entS (cc := cX6_bounded) (nL := 1) (ret := (some .int)) (own := RX6) (by decide) rfl rfl (Nat.le_of_ble_eq_true rfl) ?_
  intro p e s m below meth c Q ls C hlk hr hQ hP hK hl
  have hx := C.1
  have hb := C.2.1
  have hl : lv_has ls 1 [(0, .int (iI v))] := hl
  have hzv : zr v = v := zr_of g_v.1 g_v.2
  refine lv_iload_n hx hb dX6_bounded_0 rfl (lv_at hl 0 rfl) ?_
  refine lv_bipush (v := iI 100) hx hb dX6_bounded_1 (by decide +kernel) ?_
  refine z_icmp_le (tgt := 11) hx hb dX6_bounded_3 (by decide) (by omega) (by omega) (fun c_1 => ?_) (fun c_1 => ?_)
  · refine lv_iload_n hx hb dX6_bounded_11 rfl (lv_at hl 0 rfl) ?_
    refine lv_bipush (v := iI (-100)) hx hb dX6_bounded_12 (by decide +kernel) ?_
    refine z_icmp_ge (tgt := 22) hx hb dX6_bounded_14 (by decide) (by omega) (by omega) (fun c_2 => ?_) (fun c_2 => ?_)
    · refine lv_iload_n hx hb dX6_bounded_22 rfl (lv_at hl 0 rfl) ?_
      exact z_retS hx hb hlk hr hQ dX6_bounded_23 (by unfold cl; rw [hzv, if_neg (by omega), if_neg (by omega)])
    · refine lv_bipush (v := iI (-100)) hx hb dX6_bounded_17 (by decide +kernel) ?_
      refine lv_goto (tgt := 23) hx hb dX6_bounded_19 (by decide) ?_
      exact z_retS hx hb hlk hr hQ dX6_bounded_23 (by unfold cl; rw [hzv, if_neg (by omega), if_pos (by omega)])
  · refine lv_bipush (v := iI 100) hx hb dX6_bounded_6 (by decide +kernel) ?_
    refine lv_goto (tgt := 23) hx hb dX6_bounded_8 (by decide) ?_
    exact z_retS hx hb hlk hr hQ dX6_bounded_23 (by unfold cl; rw [hzv, if_pos (by omega)])
set_option maxHeartbeats 4000000 in
set_option maxRecDepth 100000 in
theorem m_X6_becomes (l : Launch) (g : zG) (q qn qp qi qk qt qw qv qr : Nat) (ac : Int) (N : Int → Int) (pi_ ix v : Int) (h1 : 0 ≤ pi_) (h2 : pi_ < 5) (x1 : 0 ≤ ix ∧ ix < 128) (g_v : -2147483648 ≤ v ∧ v < 2147483648) (n1 : -100 ≤ N (7 + 128 * pi_ + ix) ∧ N (7 + 128 * pi_ + ix) ≤ 100) : zE l yX6_becomes wsX6_becomes ({ frames := 1, cells := 0, slots := 0, locals := 23 }) g [.ref q, .int (iI pi_), .int (iI ix), .int (iI v)] [(q, .inr (6, [.ref qn, .ref qp, .int (iI ac), .ref qi, .ref qk, .ref qt, .ref qw, .ref qv, .ref qr])), zI g qn 647 N] (S := Unit) (fun r _ => r = bI (cl v ≠ N (7 + 128 * pi_ + ix))) (fun _ => [(q, .inr (6, [.ref qn, .ref qp, .int (iI ac), .ref qi, .ref qk, .ref qt, .ref qw, .ref qv, .ref qr])), zI g qn 647 (ups N (7 + 128 * pi_ + ix) (cl v))]) := by
  refine z_entE (cc := cX6_becomes) (nL := 5) (ret := (some .int)) (own := RX6) (by decide) rfl rfl (Nat.le_of_ble_eq_true rfl) ?_
  intro p e s m below meth c Q ls A C hlk hr hQ hP hK hD hA hS hl
  have hx := C.1
  have hb := C.2.1
  have hl : lv_has ls 5 [(0, .ref q), (1, .int (iI pi_)), (2, .int (iI ix)), (3, .int (iI v))] := hl
  obtain ⟨H, hHe⟩ : ∃ H, H = s.heap := ⟨_, rfl⟩
  obtain ⟨locs, hLe⟩ : ∃ q : List Loc, q = [] := ⟨_, rfl⟩
  have hP : zP g [(q, .inr (6, [.ref qn, .ref qp, .int (iI ac), .ref qi, .ref qk, .ref qt, .ref qw, .ref qv, .ref qr])), zI g qn 647 N] H := by rw [hHe]; exact hP
  have hS : va_S A s.heap H locs := by rw [hHe, hLe]; exact hS
  suffices hgo : W p l e ({ frames := 1, cells := 0, slots := 0, locals := 23 }) s m ([.ref q, .int (iI pi_), .int (iI ix), .int (iI v)] : List Value).toArray below meth c H locs 0 0 Q (F0 m 0 ls []) by rw [hHe, hLe] at hgo; exact hgo
  clear hHe hLe
  have hcl := cl_rg v
  refine lv_aload_n hx hb dX6_becomes_0 rfl (lv_at hl 0 rfl) ?_
  refine lv_iload_n hx hb dX6_becomes_1 rfl (lv_at hl 1 rfl) ?_
  refine lv_iload_n hx hb dX6_becomes_2 rfl (lv_at hl 2 rfl) ?_
  refine z_cS (As := [.int (iI pi_), .int (iI ix)]) (rest := []) C (m_X6_of (l := l) (g := g) (q := q) (qn := qn) (qp := qp) (qi := qi) (qk := qk) (qt := qt) (qw := qw) (qv := qv) (qr := qr) (ac := ac) (N := N) (pi_ := pi_) (ix := ix) (h1 := by omega) (h2 := by omega) (x1 := by omega)) (cwV 2 C.2.2.2.2 gX6_becomes_X6_of rfl rfl rfl (by decide +kernel) ⟨Nat.le_of_ble_eq_true rfl, Nat.le_of_ble_eq_true rfl⟩) hK hP [0, 1] rfl 0 rfl rfl rfl hl.1 rfl (Nat.le_of_ble_eq_true rfl) dX6_becomes_3 ⟨Nat.zero_le _, Nat.zero_le _⟩ ?_
  refine lv_istore (lv' := [(4, .int (iI (N (7 + 128 * pi_ + ix)))), (0, .ref q), (1, .int (iI pi_)), (2, .int (iI ix)), (3, .int (iI v))]) hx hb dX6_becomes_6 hl (by decide) rfl (fun ls hl => ?_)
  refine lv_aload_n hx hb dX6_becomes_8 rfl (lv_at hl 1 rfl) ?_
  refine lv_iload_n hx hb dX6_becomes_9 rfl (lv_at hl 2 rfl) ?_
  refine lv_iload_n hx hb dX6_becomes_10 rfl (lv_at hl 3 rfl) ?_
  refine lv_iload_n hx hb dX6_becomes_11 rfl (lv_at hl 4 rfl) ?_
  refine z_cSS (As := [.int (iI v)]) (rest := [.int (iI ix), .int (iI pi_), .ref q]) C (m_X6_bounded (l := l) (g := g) (v := v) (g_v := by omega)) (cwS 1 C.2.2.2.2 gX6_becomes_X6_bounded rfl rfl rfl (by decide +kernel) ⟨Nat.le_of_ble_eq_true rfl, Nat.le_of_ble_eq_true rfl⟩) hK hP [] rfl rfl hl.1 rfl (Nat.le_of_ble_eq_true rfl) dX6_becomes_12 ⟨Nat.zero_le _, Nat.zero_le _⟩ ?_
  refine z_cV (As := [.int (iI pi_), .int (iI ix), .int (iI (cl v))]) (rest := []) C (m_X6_put (l := l) (g := g) (q := q) (qn := qn) (qp := qp) (qi := qi) (qk := qk) (qt := qt) (qw := qw) (qv := qv) (qr := qr) (ac := ac) (N := N) (pi_ := pi_) (ix := ix) (v := cl v) (h1 := by omega) (h2 := by omega) (x1 := by omega)) (cwV 3 C.2.2.2.2 gX6_becomes_X6_put rfl rfl rfl (by decide +kernel) ⟨Nat.le_of_ble_eq_true rfl, Nat.le_of_ble_eq_true rfl⟩) hK hP hD hS hA [0, 1] (by decide) rfl (fun _ => rfl) 0 rfl rfl rfl hl.1 rfl (Nat.le_of_ble_eq_true rfl) dX6_becomes_15 ⟨Nat.zero_le _, Nat.zero_le _⟩ (fun u_1 H locs hq_2 hP hD hS => ?_)
  have hP : zP g [(q, .inr (6, [.ref qn, .ref qp, .int (iI ac), .ref qi, .ref qk, .ref qt, .ref qw, .ref qv, .ref qr])), zI g qn 647 (ups N (7 + 128 * pi_ + ix) (cl v))] H := hP
  have hD : va_D A [(q, .inr (6, [.ref qn, .ref qp, .int (iI ac), .ref qi, .ref qk, .ref qt, .ref qw, .ref qv, .ref qr])), zI g qn 647 (ups N (7 + 128 * pi_ + ix) (cl v))] := hD
  refine lv_aload_n hx hb dX6_becomes_18 rfl (lv_at hl 1 rfl) ?_
  refine lv_iload_n hx hb dX6_becomes_19 rfl (lv_at hl 2 rfl) ?_
  refine lv_iload_n hx hb dX6_becomes_20 rfl (lv_at hl 3 rfl) ?_
  refine z_cS (As := [.int (iI pi_), .int (iI ix)]) (rest := []) C (m_X6_of (l := l) (g := g) (q := q) (qn := qn) (qp := qp) (qi := qi) (qk := qk) (qt := qt) (qw := qw) (qv := qv) (qr := qr) (ac := ac) (N := ups N (7 + 128 * pi_ + ix) (cl v)) (pi_ := pi_) (ix := ix) (h1 := by omega) (h2 := by omega) (x1 := by omega)) (cwV 2 C.2.2.2.2 gX6_becomes_X6_of rfl rfl rfl (by decide +kernel) ⟨Nat.le_of_ble_eq_true rfl, Nat.le_of_ble_eq_true rfl⟩) hK hP [0, 1] rfl 0 rfl rfl rfl hl.1 rfl (Nat.le_of_ble_eq_true rfl) dX6_becomes_21 ⟨Nat.zero_le _, Nat.zero_le _⟩ ?_
  refine z_top (b := cl v) (ups_s _ _ _) ?_
  refine lv_iload hx hb dX6_becomes_24 (lv_at hl 0 rfl) ?_
  refine z_icmp_ne (tgt := 33) hx hb dX6_becomes_26 (by decide) (by omega) (by omega) (fun hc => ?_) (fun hc => ?_)
  · refine lv_iconst (v := iI 1) hx hb dX6_becomes_33 rfl ?_
    exact z_retE hx hb hlk hr hQ dX6_becomes_34 hS () ((bI_t hc).symm) (hP)
  · refine lv_iconst (v := iI 0) hx hb dX6_becomes_29 rfl ?_
    refine lv_goto (tgt := 34) hx hb dX6_becomes_30 (by decide) ?_
    exact z_retE hx hb hlk hr hQ dX6_becomes_34 hS () ((bI_f (fun z => z hc)).symm) (hP)
set_option maxRecDepth 20000 in
theorem in_m_X6_notes_X6 : ∀ w ∈ u_ws RX6 TX6 9, w ∈ wsX6_notes := zmem_of _ [4, 5, 6, 7, 8, 9, 10, 11, 12] (by decide +kernel)
set_option maxHeartbeats 4000000 in
set_option maxRecDepth 100000 in
theorem m_X6_notes (l : Launch) (g : zG) (q qn qp qi qk qt qw qv qr : Nat) (ac : Int) (N P : Int → Int) (a1 : 0 ≤ ac ∧ ac ≤ 8) : zV l yX6_notes wsX6_notes ({ frames := 0, cells := 0, slots := 0, locals := 0 }) g [.ref q] [(q, .inr (6, [.ref qn, .ref qp, .int (iI ac), .ref qi, .ref qk, .ref qt, .ref qw, .ref qv, .ref qr])), zI g qn 647 N, zI g qp 5176 P] (S := Unit) (fun _ => True) (fun _ => [(q, .inr (6, [.ref qn, .ref qp, .int (iI (min (ac + 1) 8)), .ref qi, .ref qk, .ref qt, .ref qw, .ref qv, .ref qr])), zI g qn 647 N, zI g qp 5176 (ntP P N ac)]) := by
  refine z_entV (cc := cX6_notes) (nL := 2) (ret := none) (own := RX6) (by decide) rfl rfl (Nat.le_of_ble_eq_true rfl) ?_
  intro p e s m below meth c Q ls A C hlk hr hQ hP hK hD hA hS hl
  have hx := C.1
  have hb := C.2.1
  have hl : lv_has ls 2 [(0, .ref q)] := hl
  obtain ⟨H, hHe⟩ : ∃ H, H = s.heap := ⟨_, rfl⟩
  obtain ⟨locs, hLe⟩ : ∃ q : List Loc, q = [] := ⟨_, rfl⟩
  have hP : zP g [(q, .inr (6, [.ref qn, .ref qp, .int (iI ac), .ref qi, .ref qk, .ref qt, .ref qw, .ref qv, .ref qr])), zI g qn 647 N, zI g qp 5176 P] H := by rw [hHe]; exact hP
  have hS : va_S A s.heap H locs := by rw [hHe, hLe]; exact hS
  suffices hgo : W p l e ({ frames := 0, cells := 0, slots := 0, locals := 0 }) s m ([.ref q] : List Value).toArray below meth c H locs 0 0 Q (F0 m 0 ls []) by rw [hHe, hLe] at hgo; exact hgo
  clear hHe hLe
  refine lv_aload_n hx hb dX6_notes_0 rfl (lv_at hl 0 rfl) ?_
  refine z_get (v := .int (iI ac)) (Cn := RX6) (T := TX6) (N := 9) (ci := 6) C in_m_X6_notes_X6 hK hP 0 rfl rfl 2 (by decide) (List.mem_of_getElem? (i := 1) rfl) rfl dX6_notes_1 ?_
  refine lv_bipush (v := iI 8) hx hb dX6_notes_4 (by decide +kernel) ?_
  refine z_icmp_ne (tgt := 50) hx hb dX6_notes_6 (by decide) (by omega) (by omega) (fun h8 => ?_) (fun h8 => ?_)
  · refine lv_iconst (v := iI 0) hx hb dX6_notes_50 rfl ?_
    refine lv_istore_n (lv' := [(1, .int (iI 0)), (0, .ref q)]) hx hb dX6_notes_51 rfl hl (by decide) rfl (fun ls hl => ?_)
    have L52 : ∀ (n : Nat) (k : Int) (PP : Int → Int), (k1 : 0 ≤ k) → (k2 : k ≤ 647) → (k3 : ∀ j, 0 ≤ j → j < k → PP (647 * (ac) + j) = N j) → (k4 : ∀ j, (j < 647 * (ac) ∨ 647 * (ac) + k ≤ j) → PP j = P j) → (hms : 647 - k < (n : Int)) → ∀ (H : Heap) (locs : List Loc) (ls : Array Slot), lv_has ls 2 [(0, .ref q), (1, .int (iI k))] → zP g [(q, .inr (6, [.ref qn, .ref qp, .int (iI ac), .ref qi, .ref qk, .ref qt, .ref qw, .ref qv, .ref qr])), zI g qn 647 N, zI g qp 5176 PP] H → va_D A [(q, .inr (6, [.ref qn, .ref qp, .int (iI ac), .ref qi, .ref qk, .ref qt, .ref qw, .ref qv, .ref qr])), zI g qn 647 N, zI g qp 5176 PP] → va_S A s.heap H locs → W p l e ({ frames := 0, cells := 0, slots := 0, locals := 0 }) s m ([.ref q] : List Value).toArray below meth c H locs 0 0 Q (F0 m 52 ls []) := by
      clear hP hD hS hl
      intro n
      induction n with
      | zero =>
        intro k PP k1 k2 k3 k4 hms H locs ls hl hP hD hS
        exfalso; omega
      | succ n ih52 =>
        intro k PP k1 k2 k3 k4 hms H locs ls hl hP hD hS
        refine lv_iload_n hx hb dX6_notes_52 rfl (lv_at hl 1 rfl) ?_
        refine lv_sipush (v := iI 647) hx hb dX6_notes_53 (by decide +kernel) ?_
        refine z_icmp_ge (tgt := 86) hx hb dX6_notes_56 (by decide) (by omega) (by omega) (fun c_1 => ?_) (fun c_1 => ?_)
        · refine lv_aload_n hx hb dX6_notes_86 rfl (lv_at hl 0 rfl) ?_
          refine lv_dup hx hb dX6_notes_87 rfl ?_
          refine z_get (v := .int (iI ac)) (Cn := RX6) (T := TX6) (N := 9) (ci := 6) C in_m_X6_notes_X6 hK hP 0 rfl rfl 2 (by decide) (List.mem_of_getElem? (i := 1) rfl) rfl dX6_notes_88 ?_
          refine lv_iconst (v := iI 1) hx hb dX6_notes_91 rfl ?_
          refine z_iadd hx hb dX6_notes_92 ?_
          refine z_top (b := min (ac + 1) 8) (by omega) ?_
          refine z_put (v := .int (iI (min (ac + 1) 8))) (Cn := RX6) (T := TX6) (N := 9) (ci := 6) C in_m_X6_notes_X6 tyX6 tyX6_ok nmX6 hK hP hD hS 0 rfl rfl 2 (by decide) (List.mem_of_getElem? (i := 1) rfl) rfl rfl rfl (Nat.le_of_ble_eq_true rfl) dX6_notes_93 (fun H locs hP hD hS => ?_)
          have hP : zP g [(q, .inr (6, [.ref qn, .ref qp, .int (iI (min (ac + 1) 8)), .ref qi, .ref qk, .ref qt, .ref qw, .ref qv, .ref qr])), zI g qn 647 N, zI g qp 5176 PP] H := hP
          have hD : va_D A [(q, .inr (6, [.ref qn, .ref qp, .int (iI (min (ac + 1) 8)), .ref qi, .ref qk, .ref qt, .ref qw, .ref qv, .ref qr])), zI g qn 647 N, zI g qp 5176 PP] := hD
          have hP := zP_arr hP 2 (ntP P N ac) rfl (fun j g1 g2 => by simp only [ntP]; rw [if_neg h8]; by_cases hj : 647 * ac ≤ j ∧ j < 647 * ac + 647; (· rw [if_pos hj, ← k3 (j - 647 * ac) (by omega) (by omega)]; congr 1; omega); (· rw [if_neg hj]; exact k4 j (by omega)))
          have hD := zD_set (c1 := (zI g qp 5176 (ntP P N ac)).2) hD 2 rfl
          have hP : zP g [(q, .inr (6, [.ref qn, .ref qp, .int (iI (min (ac + 1) 8)), .ref qi, .ref qk, .ref qt, .ref qw, .ref qv, .ref qr])), zI g qn 647 N, zI g qp 5176 (ntP P N ac)] H := hP
          have hD : va_D A [(q, .inr (6, [.ref qn, .ref qp, .int (iI (min (ac + 1) 8)), .ref qi, .ref qk, .ref qt, .ref qw, .ref qv, .ref qr])), zI g qn 647 N, zI g qp 5176 (ntP P N ac)] := hD
          exact z_retV hx hb hlk hr hQ dX6_notes_96 hS () (trivial) (hP)
        · refine lv_aload_n hx hb dX6_notes_59 rfl (lv_at hl 0 rfl) ?_
          refine z_get (v := .ref qp) (Cn := RX6) (T := TX6) (N := 9) (ci := 6) C in_m_X6_notes_X6 hK hP 0 rfl rfl 1 (by decide) (List.mem_of_getElem? (i := 2) rfl) rfl dX6_notes_60 ?_
          refine lv_sipush (v := iI 647) hx hb dX6_notes_63 (by decide +kernel) ?_
          refine lv_aload_n hx hb dX6_notes_66 rfl (lv_at hl 0 rfl) ?_
          refine z_get (v := .int (iI ac)) (Cn := RX6) (T := TX6) (N := 9) (ci := 6) C in_m_X6_notes_X6 hK hP 0 rfl rfl 2 (by decide) (List.mem_of_getElem? (i := 1) rfl) rfl dX6_notes_67 ?_
          refine z_imul hx hb dX6_notes_70 ?_
          refine lv_iload_n hx hb dX6_notes_71 rfl (lv_at hl 1 rfl) ?_
          refine z_iadd hx hb dX6_notes_72 ?_
          refine lv_aload_n hx hb dX6_notes_73 rfl (lv_at hl 0 rfl) ?_
          refine z_get (v := .ref qn) (Cn := RX6) (T := TX6) (N := 9) (ci := 6) C in_m_X6_notes_X6 hK hP 0 rfl rfl 0 (by decide) (List.mem_of_getElem? (i := 3) rfl) rfl dX6_notes_74 ?_
          refine lv_iload_n hx hb dX6_notes_77 rfl (lv_at hl 1 rfl) ?_
          refine z_iald hx hb hK hP 1 rfl (by omega) (by omega) (Nat.le_of_ble_eq_true rfl) dX6_notes_78 ?_
          refine z_iast hx hb hK hP hD hS 2 rfl (by omega) (by omega) (Nat.le_of_ble_eq_true rfl) dX6_notes_79 (fun H locs hP hD hS => ?_)
          have hP : zP g [(q, .inr (6, [.ref qn, .ref qp, .int (iI ac), .ref qi, .ref qk, .ref qt, .ref qw, .ref qv, .ref qr])), zI g qn 647 N, zI g qp 5176 (ups PP ((647 * ac) + k) (N k))] H := hP
          have hD : va_D A [(q, .inr (6, [.ref qn, .ref qp, .int (iI ac), .ref qi, .ref qk, .ref qt, .ref qw, .ref qv, .ref qr])), zI g qn 647 N, zI g qp 5176 (ups PP ((647 * ac) + k) (N k))] := hD
          refine z_iinc (b := k + 1) (lv' := [(1, .int (iI (k + 1))), (0, .ref q)]) hx hb dX6_notes_80 hl (k := 1) rfl (rfl) (by decide) rfl (fun ls hl => ?_)
          refine lv_goto (tgt := 52) hx hb dX6_notes_83 (by decide) ?_
          exact ih52 (k + 1) (ups PP ((647 * ac) + k) (N k)) (by omega) (by omega) (fun j g1 g2 => by by_cases hj : j = k; (· rw [hj, ups_s]); (· rw [ups_n _ _ (by omega)]; exact k3 j g1 (by omega))) (fun j g1 => by rw [ups_n _ _ (by omega)]; exact k4 j (by omega)) (by omega) H locs ls (lv_sub hl [1, 0] rfl) (hP) (hD) hS
    exact L52 (648) 0 P (by omega) (by omega) (fun j g1 g2 => by omega) (fun j g1 => rfl) (by omega) H locs ls (lv_sub hl [1, 0] rfl) (hP) (hD) hS
  · refine lv_iconst (v := iI 0) hx hb dX6_notes_9 rfl ?_
    refine lv_istore_n (lv' := [(1, .int (iI 0)), (0, .ref q)]) hx hb dX6_notes_10 rfl hl (by decide) rfl (fun ls hl => ?_)
    have L11 : ∀ (n : Nat) (k : Int) (PS : Int → Int), (i1 : 0 ≤ k) → (i2 : k ≤ 4529) → (i3 : ∀ j, 0 ≤ j → j < k → PS j = P (j + 647)) → (i4 : ∀ j, k ≤ j → PS j = P j) → (hms : 4529 - k < (n : Int)) → ∀ (H : Heap) (locs : List Loc) (ls : Array Slot), lv_has ls 2 [(0, .ref q), (1, .int (iI k))] → zP g [(q, .inr (6, [.ref qn, .ref qp, .int (iI ac), .ref qi, .ref qk, .ref qt, .ref qw, .ref qv, .ref qr])), zI g qn 647 N, zI g qp 5176 PS] H → va_D A [(q, .inr (6, [.ref qn, .ref qp, .int (iI ac), .ref qi, .ref qk, .ref qt, .ref qw, .ref qv, .ref qr])), zI g qn 647 N, zI g qp 5176 PS] → va_S A s.heap H locs → W p l e ({ frames := 0, cells := 0, slots := 0, locals := 0 }) s m ([.ref q] : List Value).toArray below meth c H locs 0 0 Q (F0 m 11 ls []) := by
      clear hP hD hS hl
      intro n
      induction n with
      | zero =>
        intro k PS i1 i2 i3 i4 hms H locs ls hl hP hD hS
        exfalso; omega
      | succ n ih11 =>
        intro k PS i1 i2 i3 i4 hms H locs ls hl hP hD hS
        refine lv_iload_n hx hb dX6_notes_11 rfl (lv_at hl 1 rfl) ?_
        refine lv_sipush (v := iI 4529) hx hb dX6_notes_12 (by decide +kernel) ?_
        refine z_icmp_ge (tgt := 40) hx hb dX6_notes_15 (by decide) (by omega) (by omega) (fun c_2 => ?_) (fun c_2 => ?_)
        · obtain ⟨kq, hkq⟩ : ∃ z, z = k := ⟨_, rfl⟩
          refine lv_aload_n hx hb dX6_notes_40 rfl (lv_at hl 0 rfl) ?_
          refine lv_dup hx hb dX6_notes_41 rfl ?_
          refine z_get (v := .int (iI ac)) (Cn := RX6) (T := TX6) (N := 9) (ci := 6) C in_m_X6_notes_X6 hK hP 0 rfl rfl 2 (by decide) (List.mem_of_getElem? (i := 1) rfl) rfl dX6_notes_42 ?_
          refine lv_iconst (v := iI 1) hx hb dX6_notes_45 rfl ?_
          refine z_isub hx hb dX6_notes_46 ?_
          refine z_put (v := .int (iI (ac - 1))) (Cn := RX6) (T := TX6) (N := 9) (ci := 6) C in_m_X6_notes_X6 tyX6 tyX6_ok nmX6 hK hP hD hS 0 rfl rfl 2 (by decide) (List.mem_of_getElem? (i := 1) rfl) rfl rfl rfl (Nat.le_of_ble_eq_true rfl) dX6_notes_47 (fun H locs hP hD hS => ?_)
          have hP : zP g [(q, .inr (6, [.ref qn, .ref qp, .int (iI (ac - 1)), .ref qi, .ref qk, .ref qt, .ref qw, .ref qv, .ref qr])), zI g qn 647 N, zI g qp 5176 PS] H := hP
          have hD : va_D A [(q, .inr (6, [.ref qn, .ref qp, .int (iI (ac - 1)), .ref qi, .ref qk, .ref qt, .ref qw, .ref qv, .ref qr])), zI g qn 647 N, zI g qp 5176 PS] := hD
          refine lv_iconst (v := iI 0) hx hb dX6_notes_50 rfl ?_
          refine lv_istore_n (lv' := [(1, .int (iI 0)), (0, .ref q)]) hx hb dX6_notes_51 rfl hl (by decide) rfl (fun ls hl => ?_)
          have L52 : ∀ (n : Nat) (k : Int) (PP : Int → Int), (k1 : 0 ≤ k) → (k2 : k ≤ 647) → (k3 : ∀ j, 0 ≤ j → j < k → PP (647 * (ac - 1) + j) = N j) → (k4 : ∀ j, (j < 647 * (ac - 1) ∨ 647 * (ac - 1) + k ≤ j) → PP j = PS j) → (hms : 647 - k < (n : Int)) → ∀ (H : Heap) (locs : List Loc) (ls : Array Slot), lv_has ls 2 [(0, .ref q), (1, .int (iI k))] → zP g [(q, .inr (6, [.ref qn, .ref qp, .int (iI (ac - 1)), .ref qi, .ref qk, .ref qt, .ref qw, .ref qv, .ref qr])), zI g qn 647 N, zI g qp 5176 PP] H → va_D A [(q, .inr (6, [.ref qn, .ref qp, .int (iI (ac - 1)), .ref qi, .ref qk, .ref qt, .ref qw, .ref qv, .ref qr])), zI g qn 647 N, zI g qp 5176 PP] → va_S A s.heap H locs → W p l e ({ frames := 0, cells := 0, slots := 0, locals := 0 }) s m ([.ref q] : List Value).toArray below meth c H locs 0 0 Q (F0 m 52 ls []) := by
            clear hP hD hS hl
            intro n
            induction n with
            | zero =>
              intro k PP k1 k2 k3 k4 hms H locs ls hl hP hD hS
              exfalso; omega
            | succ n ih52 =>
              intro k PP k1 k2 k3 k4 hms H locs ls hl hP hD hS
              refine lv_iload_n hx hb dX6_notes_52 rfl (lv_at hl 1 rfl) ?_
              refine lv_sipush (v := iI 647) hx hb dX6_notes_53 (by decide +kernel) ?_
              refine z_icmp_ge (tgt := 86) hx hb dX6_notes_56 (by decide) (by omega) (by omega) (fun c_3 => ?_) (fun c_3 => ?_)
              · refine lv_aload_n hx hb dX6_notes_86 rfl (lv_at hl 0 rfl) ?_
                refine lv_dup hx hb dX6_notes_87 rfl ?_
                refine z_get (v := .int (iI (ac - 1))) (Cn := RX6) (T := TX6) (N := 9) (ci := 6) C in_m_X6_notes_X6 hK hP 0 rfl rfl 2 (by decide) (List.mem_of_getElem? (i := 1) rfl) rfl dX6_notes_88 ?_
                refine lv_iconst (v := iI 1) hx hb dX6_notes_91 rfl ?_
                refine z_iadd hx hb dX6_notes_92 ?_
                refine z_top (b := min (ac + 1) 8) (by omega) ?_
                refine z_put (v := .int (iI (min (ac + 1) 8))) (Cn := RX6) (T := TX6) (N := 9) (ci := 6) C in_m_X6_notes_X6 tyX6 tyX6_ok nmX6 hK hP hD hS 0 rfl rfl 2 (by decide) (List.mem_of_getElem? (i := 1) rfl) rfl rfl rfl (Nat.le_of_ble_eq_true rfl) dX6_notes_93 (fun H locs hP hD hS => ?_)
                have hP : zP g [(q, .inr (6, [.ref qn, .ref qp, .int (iI (min (ac + 1) 8)), .ref qi, .ref qk, .ref qt, .ref qw, .ref qv, .ref qr])), zI g qn 647 N, zI g qp 5176 PP] H := hP
                have hD : va_D A [(q, .inr (6, [.ref qn, .ref qp, .int (iI (min (ac + 1) 8)), .ref qi, .ref qk, .ref qt, .ref qw, .ref qv, .ref qr])), zI g qn 647 N, zI g qp 5176 PP] := hD
                have hP := zP_arr hP 2 (ntP P N ac) rfl (fun j g1 g2 => by simp only [ntP]; rw [if_pos h8]; by_cases hj : j < 4529; (· rw [if_pos hj, k4 j (by omega)]; exact i3 j g1 (by omega)); (· rw [if_neg hj, ← k3 (j - 4529) (by omega) (by omega)]; congr 1; omega))
                have hD := zD_set (c1 := (zI g qp 5176 (ntP P N ac)).2) hD 2 rfl
                have hP : zP g [(q, .inr (6, [.ref qn, .ref qp, .int (iI (min (ac + 1) 8)), .ref qi, .ref qk, .ref qt, .ref qw, .ref qv, .ref qr])), zI g qn 647 N, zI g qp 5176 (ntP P N ac)] H := hP
                have hD : va_D A [(q, .inr (6, [.ref qn, .ref qp, .int (iI (min (ac + 1) 8)), .ref qi, .ref qk, .ref qt, .ref qw, .ref qv, .ref qr])), zI g qn 647 N, zI g qp 5176 (ntP P N ac)] := hD
                exact z_retV hx hb hlk hr hQ dX6_notes_96 hS () (trivial) (hP)
              · refine lv_aload_n hx hb dX6_notes_59 rfl (lv_at hl 0 rfl) ?_
                refine z_get (v := .ref qp) (Cn := RX6) (T := TX6) (N := 9) (ci := 6) C in_m_X6_notes_X6 hK hP 0 rfl rfl 1 (by decide) (List.mem_of_getElem? (i := 2) rfl) rfl dX6_notes_60 ?_
                refine lv_sipush (v := iI 647) hx hb dX6_notes_63 (by decide +kernel) ?_
                refine lv_aload_n hx hb dX6_notes_66 rfl (lv_at hl 0 rfl) ?_
                refine z_get (v := .int (iI (ac - 1))) (Cn := RX6) (T := TX6) (N := 9) (ci := 6) C in_m_X6_notes_X6 hK hP 0 rfl rfl 2 (by decide) (List.mem_of_getElem? (i := 1) rfl) rfl dX6_notes_67 ?_
                refine z_imul hx hb dX6_notes_70 ?_
                refine lv_iload_n hx hb dX6_notes_71 rfl (lv_at hl 1 rfl) ?_
                refine z_iadd hx hb dX6_notes_72 ?_
                refine lv_aload_n hx hb dX6_notes_73 rfl (lv_at hl 0 rfl) ?_
                refine z_get (v := .ref qn) (Cn := RX6) (T := TX6) (N := 9) (ci := 6) C in_m_X6_notes_X6 hK hP 0 rfl rfl 0 (by decide) (List.mem_of_getElem? (i := 3) rfl) rfl dX6_notes_74 ?_
                refine lv_iload_n hx hb dX6_notes_77 rfl (lv_at hl 1 rfl) ?_
                refine z_iald hx hb hK hP 1 rfl (by omega) (by omega) (Nat.le_of_ble_eq_true rfl) dX6_notes_78 ?_
                refine z_iast hx hb hK hP hD hS 2 rfl (by omega) (by omega) (Nat.le_of_ble_eq_true rfl) dX6_notes_79 (fun H locs hP hD hS => ?_)
                have hP : zP g [(q, .inr (6, [.ref qn, .ref qp, .int (iI (ac - 1)), .ref qi, .ref qk, .ref qt, .ref qw, .ref qv, .ref qr])), zI g qn 647 N, zI g qp 5176 (ups PP ((647 * (ac - 1)) + k) (N k))] H := hP
                have hD : va_D A [(q, .inr (6, [.ref qn, .ref qp, .int (iI (ac - 1)), .ref qi, .ref qk, .ref qt, .ref qw, .ref qv, .ref qr])), zI g qn 647 N, zI g qp 5176 (ups PP ((647 * (ac - 1)) + k) (N k))] := hD
                refine z_iinc (b := k + 1) (lv' := [(1, .int (iI (k + 1))), (0, .ref q)]) hx hb dX6_notes_80 hl (k := 1) rfl (rfl) (by decide) rfl (fun ls hl => ?_)
                refine lv_goto (tgt := 52) hx hb dX6_notes_83 (by decide) ?_
                exact ih52 (k + 1) (ups PP ((647 * (ac - 1)) + k) (N k)) (by omega) (by omega) (fun j g1 g2 => by by_cases hj : j = k; (· rw [hj, ups_s]); (· rw [ups_n _ _ (by omega)]; exact k3 j g1 (by omega))) (fun j g1 => by rw [ups_n _ _ (by omega)]; exact k4 j (by omega)) (by omega) H locs ls (lv_sub hl [1, 0] rfl) (hP) (hD) hS
          exact L52 (648) 0 PS (by omega) (by omega) (fun j g1 g2 => by omega) (fun j g1 => rfl) (by omega) H locs ls (lv_sub hl [1, 0] rfl) (hP) (hD) hS
        · refine lv_aload_n hx hb dX6_notes_18 rfl (lv_at hl 0 rfl) ?_
          refine z_get (v := .ref qp) (Cn := RX6) (T := TX6) (N := 9) (ci := 6) C in_m_X6_notes_X6 hK hP 0 rfl rfl 1 (by decide) (List.mem_of_getElem? (i := 2) rfl) rfl dX6_notes_19 ?_
          refine lv_iload_n hx hb dX6_notes_22 rfl (lv_at hl 1 rfl) ?_
          refine lv_aload_n hx hb dX6_notes_23 rfl (lv_at hl 0 rfl) ?_
          refine z_get (v := .ref qp) (Cn := RX6) (T := TX6) (N := 9) (ci := 6) C in_m_X6_notes_X6 hK hP 0 rfl rfl 1 (by decide) (List.mem_of_getElem? (i := 2) rfl) rfl dX6_notes_24 ?_
          refine lv_iload_n hx hb dX6_notes_27 rfl (lv_at hl 1 rfl) ?_
          refine lv_sipush (v := iI 647) hx hb dX6_notes_28 (by decide +kernel) ?_
          refine z_iadd hx hb dX6_notes_31 ?_
          refine z_iald hx hb hK hP 2 rfl (by omega) (by omega) (Nat.le_of_ble_eq_true rfl) dX6_notes_32 ?_
          refine z_iast hx hb hK hP hD hS 2 rfl (by omega) (by omega) (Nat.le_of_ble_eq_true rfl) dX6_notes_33 (fun H locs hP hD hS => ?_)
          have hP : zP g [(q, .inr (6, [.ref qn, .ref qp, .int (iI ac), .ref qi, .ref qk, .ref qt, .ref qw, .ref qv, .ref qr])), zI g qn 647 N, zI g qp 5176 (ups PS k (PS (k + 647)))] H := hP
          have hD : va_D A [(q, .inr (6, [.ref qn, .ref qp, .int (iI ac), .ref qi, .ref qk, .ref qt, .ref qw, .ref qv, .ref qr])), zI g qn 647 N, zI g qp 5176 (ups PS k (PS (k + 647)))] := hD
          refine z_iinc (b := k + 1) (lv' := [(1, .int (iI (k + 1))), (0, .ref q)]) hx hb dX6_notes_34 hl (k := 1) rfl (rfl) (by decide) rfl (fun ls hl => ?_)
          refine lv_goto (tgt := 11) hx hb dX6_notes_37 (by decide) ?_
          exact ih11 (k + 1) (ups PS k (PS (k + 647))) (by omega) (by omega) (fun j g1 g2 => by by_cases hj : j = k; (· rw [hj, ups_s]; exact i4 (k + 647) (by omega)); (· rw [ups_n _ _ hj]; exact i3 j g1 (by omega))) (fun j g1 => by rw [ups_n _ _ (by omega)]; exact i4 j (by omega)) (by omega) H locs ls (lv_sub hl [1, 0] rfl) (hP) (hD) hS
    exact L11 (4530) 0 P (by omega) (by omega) (fun j g1 g2 => by omega) (fun j g1 => rfl) (by omega) H locs ls (lv_sub hl [1, 0] rfl) (hP) (hD) hS
