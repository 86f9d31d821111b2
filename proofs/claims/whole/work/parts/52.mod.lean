set_option maxRecDepth 20000 in
theorem in_m_X6_add_X6 : ∀ w ∈ u_ws RX6 TX6 9, w ∈ wsX6_add := zmem_of _ [22, 23, 24, 25, 26, 27, 28, 29, 30] (by decide +kernel)
set_option maxHeartbeats 4000000 in
set_option maxRecDepth 100000 in
theorem m_X6_add (l : Launch) (g : zG) (q qn qp qi qk qt qw qv qr : Nat) (ac : Int) (N P : Int → Int) (pi_ v : Int) (ac1 : 0 ≤ ac ∧ ac ≤ 8) (zN : okN N) (b1 : 0 ≤ pi_ ∧ pi_ ≤ 4) (b2 : -100 ≤ v ∧ v ≤ 100) (b3 : N (2 + pi_) < 128) : zE l yX6_add wsX6_add ({ frames := 2, cells := 0, slots := 0, locals := 42 }) g [.ref q, .int (iI pi_), .int (iI v)] [(q, .inr (6, [.ref qn, .ref qp, .int (iI ac), .ref qi, .ref qk, .ref qt, .ref qw, .ref qv, .ref qr])), zI g qn 647 N, zI g qp 5176 P] (S := Unit) (fun r _ => r = N (2 + pi_) + 1) (fun _ => [(q, .inr (6, [.ref qn, .ref qp, .int (iI (min (ac + 1) 8)), .ref qi, .ref qk, .ref qt, .ref qw, .ref qv, .ref qr])), zI g qn 647 (sp_add N pi_ v), zI g qp 5176 (ntP P N ac)]) := by
  refine z_entE (cc := cX6_add) (nL := 3) (ret := (some .int)) (own := RX6) (by decide) rfl rfl (Nat.le_of_ble_eq_true rfl) ?_
  intro p e s m below meth c Q ls A C hlk hr hQ hP hK hD hA hS hl
  have hx := C.1
  have hb := C.2.1
  have hl : lv_has ls 3 [(0, .ref q), (1, .int (iI pi_)), (2, .int (iI v))] := hl
  obtain ⟨H, hHe⟩ : ∃ H, H = s.heap := ⟨_, rfl⟩
  obtain ⟨locs, hLe⟩ : ∃ q : List Loc, q = [] := ⟨_, rfl⟩
  have hP : zP g [(q, .inr (6, [.ref qn, .ref qp, .int (iI ac), .ref qi, .ref qk, .ref qt, .ref qw, .ref qv, .ref qr])), zI g qn 647 N, zI g qp 5176 P] H := by rw [hHe]; exact hP
  have hS : va_S A s.heap H locs := by rw [hHe, hLe]; exact hS
  suffices hgo : W p l e ({ frames := 2, cells := 0, slots := 0, locals := 42 }) s m ([.ref q, .int (iI pi_), .int (iI v)] : List Value).toArray below meth c H locs 0 0 Q (F0 m 0 ls []) by rw [hHe, hLe] at hgo; exact hgo
  clear hHe hLe
  refine lv_iload_n hx hb dX6_add_0 rfl (lv_at hl 1 rfl) ?_
  refine z_cSS (As := [.int (iI pi_)]) (rest := []) C (m_X6_isRow (l := l) (g := g) (v := pi_) (g_v := by omega)) (cwS 1 C.2.2.2.2 gX6_add_X6_isRow rfl rfl rfl (by decide +kernel) ⟨Nat.le_of_ble_eq_true rfl, Nat.le_of_ble_eq_true rfl⟩) hK hP [] rfl rfl hl.1 rfl (Nat.le_of_ble_eq_true rfl) dX6_add_1 ⟨Nat.zero_le _, Nat.zero_le _⟩ ?_
  refine z_ifb_ne (tgt := 10) hx hb dX6_add_4 (by decide) (fun c_1 => ?_) (fun c_1 => ?_)
  · refine lv_iload_n hx hb dX6_add_10 rfl (lv_at hl 2 rfl) ?_
    refine lv_bipush (v := iI (-100)) hx hb dX6_add_11 (by decide +kernel) ?_
    refine lv_bipush (v := iI 100) hx hb dX6_add_13 (by decide +kernel) ?_
    refine z_cSS (As := [.int (iI v), .int (iI (-100)), .int (iI 100)]) (rest := []) C (m_X6_in (l := l) (g := g) (v := v) (lo := -100) (hi := 100) (g_v := by omega) (g_lo := by omega) (g_hi := by omega)) (cwS 3 C.2.2.2.2 gX6_add_X6_in rfl rfl rfl (by decide +kernel) ⟨Nat.le_of_ble_eq_true rfl, Nat.le_of_ble_eq_true rfl⟩) hK hP [] rfl rfl hl.1 rfl (Nat.le_of_ble_eq_true rfl) dX6_add_15 ⟨Nat.zero_le _, Nat.zero_le _⟩ ?_
    refine z_ifb_ne (tgt := 24) hx hb dX6_add_18 (by decide) (fun c_2 => ?_) (fun c_2 => ?_)
    · have hz1 := zN.2.2.1 pi_ (by omega) (by omega)
      refine lv_aload_n hx hb dX6_add_24 rfl (lv_at hl 0 rfl) ?_
      refine z_get (v := .ref qn) (Cn := RX6) (T := TX6) (N := 9) (ci := 6) C in_m_X6_add_X6 hK hP 0 rfl rfl 0 (by decide) (List.mem_of_getElem? (i := 3) rfl) rfl dX6_add_25 ?_
      refine lv_iconst (v := iI 2) hx hb dX6_add_28 rfl ?_
      refine lv_iload_n hx hb dX6_add_29 rfl (lv_at hl 1 rfl) ?_
      refine z_iadd hx hb dX6_add_30 ?_
      refine z_iald hx hb hK hP 1 rfl (by omega) (by omega) (Nat.le_of_ble_eq_true rfl) dX6_add_31 ?_
      refine lv_sipush (v := iI 128) hx hb dX6_add_32 (by decide +kernel) ?_
      refine z_icmp_ne (tgt := 41) hx hb dX6_add_35 (by decide) (by omega) (by omega) (fun c_3 => ?_) (fun c_3 => ?_)
      · refine lv_aload_n hx hb dX6_add_41 rfl (lv_at hl 0 rfl) ?_
        refine z_cV (As := []) (rest := []) C (m_X6_notes (l := l) (g := g) (q := q) (qn := qn) (qp := qp) (qi := qi) (qk := qk) (qt := qt) (qw := qw) (qv := qv) (qr := qr) (ac := ac) (N := N) (P := P) (a1 := by omega)) (cwV 0 C.2.2.2.2 gX6_add_X6_notes rfl rfl rfl (by decide +kernel) ⟨Nat.le_of_ble_eq_true rfl, Nat.le_of_ble_eq_true rfl⟩) hK hP hD hS hA [0, 1, 2] (by decide) rfl (fun _ => rfl) 0 rfl rfl rfl hl.1 rfl (Nat.le_of_ble_eq_true rfl) dX6_add_42 ⟨Nat.zero_le _, Nat.zero_le _⟩ (fun u_4 H locs hq_5 hP hD hS => ?_)
        have hP : zP g [(q, .inr (6, [.ref qn, .ref qp, .int (iI (min (ac + 1) 8)), .ref qi, .ref qk, .ref qt, .ref qw, .ref qv, .ref qr])), zI g qn 647 N, zI g qp 5176 (ntP P N ac)] H := hP
        have hD : va_D A [(q, .inr (6, [.ref qn, .ref qp, .int (iI (min (ac + 1) 8)), .ref qi, .ref qk, .ref qt, .ref qw, .ref qv, .ref qr])), zI g qn 647 N, zI g qp 5176 (ntP P N ac)] := hD
        refine lv_aload_n hx hb dX6_add_45 rfl (lv_at hl 0 rfl) ?_
        refine lv_iload_n hx hb dX6_add_46 rfl (lv_at hl 1 rfl) ?_
        refine lv_aload_n hx hb dX6_add_47 rfl (lv_at hl 0 rfl) ?_
        refine z_get (v := .ref qn) (Cn := RX6) (T := TX6) (N := 9) (ci := 6) C in_m_X6_add_X6 hK hP 0 rfl rfl 0 (by decide) (List.mem_of_getElem? (i := 3) rfl) rfl dX6_add_48 ?_
        refine lv_iconst (v := iI 2) hx hb dX6_add_51 rfl ?_
        refine lv_iload_n hx hb dX6_add_52 rfl (lv_at hl 1 rfl) ?_
        refine z_iadd hx hb dX6_add_53 ?_
        refine z_iald hx hb hK hP 1 rfl (by omega) (by omega) (Nat.le_of_ble_eq_true rfl) dX6_add_54 ?_
        refine lv_iload_n hx hb dX6_add_55 rfl (lv_at hl 2 rfl) ?_
        refine z_cV (As := [.int (iI pi_), .int (iI (N (2 + pi_))), .int (iI v)]) (rest := []) C (m_X6_put (l := l) (g := g) (q := q) (qn := qn) (qp := qp) (qi := qi) (qk := qk) (qt := qt) (qw := qw) (qv := qv) (qr := qr) (ac := min (ac + 1) 8) (N := N) (pi_ := pi_) (ix := N (2 + pi_)) (v := v) (h1 := by omega) (h2 := by omega) (x1 := by omega)) (cwV 3 C.2.2.2.2 gX6_add_X6_put rfl rfl rfl (by decide +kernel) ⟨Nat.le_of_ble_eq_true rfl, Nat.le_of_ble_eq_true rfl⟩) hK hP hD hS hA [0, 1] (by decide) rfl (fun _ => rfl) 0 rfl rfl rfl hl.1 rfl (Nat.le_of_ble_eq_true rfl) dX6_add_56 ⟨Nat.zero_le _, Nat.zero_le _⟩ (fun u_6 H locs hq_7 hP hD hS => ?_)
        have hP : zP g [(q, .inr (6, [.ref qn, .ref qp, .int (iI (min (ac + 1) 8)), .ref qi, .ref qk, .ref qt, .ref qw, .ref qv, .ref qr])), zI g qn 647 (ups N (7 + 128 * pi_ + (N (2 + pi_))) v), zI g qp 5176 (ntP P N ac)] H := hP
        have hD : va_D A [(q, .inr (6, [.ref qn, .ref qp, .int (iI (min (ac + 1) 8)), .ref qi, .ref qk, .ref qt, .ref qw, .ref qv, .ref qr])), zI g qn 647 (ups N (7 + 128 * pi_ + (N (2 + pi_))) v), zI g qp 5176 (ntP P N ac)] := hD
        refine lv_aload_n hx hb dX6_add_59 rfl (lv_at hl 0 rfl) ?_
        refine z_get (v := .ref qn) (Cn := RX6) (T := TX6) (N := 9) (ci := 6) C in_m_X6_add_X6 hK hP 0 rfl rfl 0 (by decide) (List.mem_of_getElem? (i := 3) rfl) rfl dX6_add_60 ?_
        refine lv_iconst (v := iI 2) hx hb dX6_add_63 rfl ?_
        refine lv_iload_n hx hb dX6_add_64 rfl (lv_at hl 1 rfl) ?_
        refine z_iadd hx hb dX6_add_65 ?_
        refine lv_dup2_11 hx hb dX6_add_66 rfl rfl ?_
        refine z_iald hx hb hK hP 1 rfl (by omega) (by omega) (Nat.le_of_ble_eq_true rfl) dX6_add_67 ?_
        refine z_top (b := N (2 + pi_)) (ups_n _ _ (by omega)) ?_
        refine lv_iconst (v := iI 1) hx hb dX6_add_68 rfl ?_
        refine z_iadd hx hb dX6_add_69 ?_
        refine z_iast hx hb hK hP hD hS 1 rfl (by omega) (by omega) (Nat.le_of_ble_eq_true rfl) dX6_add_70 (fun H locs hP hD hS => ?_)
        have hP : zP g [(q, .inr (6, [.ref qn, .ref qp, .int (iI (min (ac + 1) 8)), .ref qi, .ref qk, .ref qt, .ref qw, .ref qv, .ref qr])), zI g qn 647 (ups (ups N (7 + 128 * pi_ + (N (2 + pi_))) v) (2 + pi_) ((N (2 + pi_)) + 1)), zI g qp 5176 (ntP P N ac)] H := hP
        have hD : va_D A [(q, .inr (6, [.ref qn, .ref qp, .int (iI (min (ac + 1) 8)), .ref qi, .ref qk, .ref qt, .ref qw, .ref qv, .ref qr])), zI g qn 647 (ups (ups N (7 + 128 * pi_ + (N (2 + pi_))) v) (2 + pi_) ((N (2 + pi_)) + 1)), zI g qp 5176 (ntP P N ac)] := hD
        have hP := zP_arr hP 1 (sp_add N pi_ v) rfl (fun j _ _ => rfl)
        have hD := zD_set (c1 := (zI g qn 647 (sp_add N pi_ v)).2) hD 1 rfl
        have hP : zP g [(q, .inr (6, [.ref qn, .ref qp, .int (iI (min (ac + 1) 8)), .ref qi, .ref qk, .ref qt, .ref qw, .ref qv, .ref qr])), zI g qn 647 (sp_add N pi_ v), zI g qp 5176 (ntP P N ac)] H := hP
        have hD : va_D A [(q, .inr (6, [.ref qn, .ref qp, .int (iI (min (ac + 1) 8)), .ref qi, .ref qk, .ref qt, .ref qw, .ref qv, .ref qr])), zI g qn 647 (sp_add N pi_ v), zI g qp 5176 (ntP P N ac)] := hD
        refine lv_aload_n hx hb dX6_add_71 rfl (lv_at hl 0 rfl) ?_
        refine z_get (v := .ref qn) (Cn := RX6) (T := TX6) (N := 9) (ci := 6) C in_m_X6_add_X6 hK hP 0 rfl rfl 0 (by decide) (List.mem_of_getElem? (i := 3) rfl) rfl dX6_add_72 ?_
        refine lv_iconst (v := iI 2) hx hb dX6_add_75 rfl ?_
        refine lv_iload_n hx hb dX6_add_76 rfl (lv_at hl 1 rfl) ?_
        refine z_iadd hx hb dX6_add_77 ?_
        refine z_iald hx hb hK hP 1 rfl (by omega) (by omega) (Nat.le_of_ble_eq_true rfl) dX6_add_78 ?_
        exact z_retE hx hb hlk hr hQ dX6_add_79 hS () (ups_s _ _ _) (hP)
      · exfalso; omega
    · exfalso; omega
  · exfalso; omega
set_option maxRecDepth 20000 in
theorem in_m_X6_add_n_X6 : ∀ w ∈ u_ws RX6 TX6 9, w ∈ wsX6_add := zmem_of _ [22, 23, 24, 25, 26, 27, 28, 29, 30] (by decide +kernel)
set_option maxHeartbeats 4000000 in
set_option maxRecDepth 100000 in
theorem m_X6_add_n (l : Launch) (g : zG) (q qn qp qi qk qt qw qv qr : Nat) (ac : Int) (N : Int → Int) (pi_ v : Int) (zN : okN N) (g_pi_ : -2147483648 ≤ pi_ ∧ pi_ < 2147483648) (g_v : -2147483648 ≤ v ∧ v < 2147483648) (rf : ¬ ((0 ≤ pi_ ∧ pi_ ≤ 4) ∧ (-100 ≤ v ∧ v ≤ 100) ∧ N (2 + pi_) < 128)) : zS l yX6_add wsX6_add ({ frames := 2, cells := 0, slots := 0, locals := 42 }) g [.ref q, .int (iI pi_), .int (iI v)] [(q, .inr (6, [.ref qn, .ref qp, .int (iI ac), .ref qi, .ref qk, .ref qt, .ref qw, .ref qv, .ref qr])), zI g qn 647 N] (if ¬ (0 ≤ pi_ ∧ pi_ ≤ 4) then -1000000001 else if ¬ (-100 ≤ v ∧ v ≤ 100) then -1000000002 else -1000000004) := by
  refine z_entS (cc := cX6_add) (nL := 3) (ret := (some .int)) (own := RX6) (by decide) rfl rfl (Nat.le_of_ble_eq_true rfl) ?_
  intro p e s m below meth c Q ls C hlk hr hQ hP hK hl
  have hx := C.1
  have hb := C.2.1
  have hl : lv_has ls 3 [(0, .ref q), (1, .int (iI pi_)), (2, .int (iI v))] := hl
  refine lv_iload_n hx hb dX6_add_0 rfl (lv_at hl 1 rfl) ?_
  refine z_cSS (As := [.int (iI pi_)]) (rest := []) C (m_X6_isRow (l := l) (g := g) (v := pi_) (g_v := by omega)) (cwS 1 C.2.2.2.2 gX6_add_X6_isRow rfl rfl rfl (by decide +kernel) ⟨Nat.le_of_ble_eq_true rfl, Nat.le_of_ble_eq_true rfl⟩) hK hP [] rfl rfl hl.1 rfl (Nat.le_of_ble_eq_true rfl) dX6_add_1 ⟨Nat.zero_le _, Nat.zero_le _⟩ ?_
  refine z_ifb_ne (tgt := 10) hx hb dX6_add_4 (by decide) (fun c1 => ?_) (fun c1 => ?_)
  · refine lv_iload_n hx hb dX6_add_10 rfl (lv_at hl 2 rfl) ?_
    refine lv_bipush (v := iI (-100)) hx hb dX6_add_11 (by decide +kernel) ?_
    refine lv_bipush (v := iI 100) hx hb dX6_add_13 (by decide +kernel) ?_
    refine z_cSS (As := [.int (iI v), .int (iI (-100)), .int (iI 100)]) (rest := []) C (m_X6_in (l := l) (g := g) (v := v) (lo := -100) (hi := 100) (g_v := by omega) (g_lo := by omega) (g_hi := by omega)) (cwS 3 C.2.2.2.2 gX6_add_X6_in rfl rfl rfl (by decide +kernel) ⟨Nat.le_of_ble_eq_true rfl, Nat.le_of_ble_eq_true rfl⟩) hK hP [] rfl rfl hl.1 rfl (Nat.le_of_ble_eq_true rfl) dX6_add_15 ⟨Nat.zero_le _, Nat.zero_le _⟩ ?_
    refine z_ifb_ne (tgt := 24) hx hb dX6_add_18 (by decide) (fun c2 => ?_) (fun c2 => ?_)
    · have hz1 := zN.2.2.1 pi_ (by omega) (by omega)
      refine lv_aload_n hx hb dX6_add_24 rfl (lv_at hl 0 rfl) ?_
      refine z_get (v := .ref qn) (Cn := RX6) (T := TX6) (N := 9) (ci := 6) C in_m_X6_add_n_X6 hK hP 0 rfl rfl 0 (by decide) (List.mem_of_getElem? (i := 3) rfl) rfl dX6_add_25 ?_
      refine lv_iconst (v := iI 2) hx hb dX6_add_28 rfl ?_
      refine lv_iload_n hx hb dX6_add_29 rfl (lv_at hl 1 rfl) ?_
      refine z_iadd hx hb dX6_add_30 ?_
      refine z_iald hx hb hK hP 1 rfl (by omega) (by omega) (Nat.le_of_ble_eq_true rfl) dX6_add_31 ?_
      refine lv_sipush (v := iI 128) hx hb dX6_add_32 (by decide +kernel) ?_
      refine z_icmp_ne (tgt := 41) hx hb dX6_add_35 (by decide) (by omega) (by omega) (fun c_1 => ?_) (fun c_1 => ?_)
      · exfalso; omega
      · refine z_ldc C (List.mem_of_getElem? (i := 4) rfl) (-1000000004) (by decide +kernel) dX6_add_38 ?_
        exact z_retS hx hb hlk hr hQ dX6_add_40 (by rw [if_neg (fun z => z c1), if_neg (fun z => z c2)])
    · refine z_ldc C (List.mem_of_getElem? (i := 2) rfl) (-1000000002) (by decide +kernel) dX6_add_21 ?_
      exact z_retS hx hb hlk hr hQ dX6_add_23 (by rw [if_neg (fun z => z c1), if_pos c2])
  · refine z_ldc C (List.mem_of_getElem? (i := 1) rfl) (-1000000001) (by decide +kernel) dX6_add_7 ?_
    exact z_retS hx hb hlk hr hQ dX6_add_9 ((if_pos c1).symm)
set_option maxRecDepth 20000 in
theorem in_m_X6_wipe_X6 : ∀ w ∈ u_ws RX6 TX6 9, w ∈ wsX6_wipe := zmem_of _ [16, 17, 18, 19, 20, 21, 22, 23, 24] (by decide +kernel)
set_option maxHeartbeats 4000000 in
set_option maxRecDepth 100000 in
theorem m_X6_wipe (l : Launch) (g : zG) (q qn qp qi qk qt qw qv qr : Nat) (ac : Int) (N P : Int → Int) (pi_ : Int) (ac1 : 0 ≤ ac ∧ ac ≤ 8) (zN : okN N) (b1 : 0 ≤ pi_ ∧ pi_ ≤ 4) : zE l yX6_wipe wsX6_wipe ({ frames := 2, cells := 0, slots := 0, locals := 42 }) g [.ref q, .int (iI pi_)] [(q, .inr (6, [.ref qn, .ref qp, .int (iI ac), .ref qi, .ref qk, .ref qt, .ref qw, .ref qv, .ref qr])), zI g qn 647 N, zI g qp 5176 P] (S := Unit) (fun r _ => r = N (2 + pi_)) (fun _ => [(q, .inr (6, [.ref qn, .ref qp, .int (iI (min (ac + 1) 8)), .ref qi, .ref qk, .ref qt, .ref qw, .ref qv, .ref qr])), zI g qn 647 (sp_wipe N pi_), zI g qp 5176 (ntP P N ac)]) := by
  refine z_entE (cc := cX6_wipe) (nL := 3) (ret := (some .int)) (own := RX6) (by decide) rfl rfl (Nat.le_of_ble_eq_true rfl) ?_
  intro p e s m below meth c Q ls A C hlk hr hQ hP hK hD hA hS hl
  have hx := C.1
  have hb := C.2.1
  have hl : lv_has ls 3 [(0, .ref q), (1, .int (iI pi_))] := hl
  obtain ⟨H, hHe⟩ : ∃ H, H = s.heap := ⟨_, rfl⟩
  obtain ⟨locs, hLe⟩ : ∃ q : List Loc, q = [] := ⟨_, rfl⟩
  have hP : zP g [(q, .inr (6, [.ref qn, .ref qp, .int (iI ac), .ref qi, .ref qk, .ref qt, .ref qw, .ref qv, .ref qr])), zI g qn 647 N, zI g qp 5176 P] H := by rw [hHe]; exact hP
  have hS : va_S A s.heap H locs := by rw [hHe, hLe]; exact hS
  suffices hgo : W p l e ({ frames := 2, cells := 0, slots := 0, locals := 42 }) s m ([.ref q, .int (iI pi_)] : List Value).toArray below meth c H locs 0 0 Q (F0 m 0 ls []) by rw [hHe, hLe] at hgo; exact hgo
  clear hHe hLe
  refine lv_iload_n hx hb dX6_wipe_0 rfl (lv_at hl 1 rfl) ?_
  refine z_cSS (As := [.int (iI pi_)]) (rest := []) C (m_X6_isRow (l := l) (g := g) (v := pi_) (g_v := by omega)) (cwS 1 C.2.2.2.2 gX6_wipe_X6_isRow rfl rfl rfl (by decide +kernel) ⟨Nat.le_of_ble_eq_true rfl, Nat.le_of_ble_eq_true rfl⟩) hK hP [] rfl rfl hl.1 rfl (Nat.le_of_ble_eq_true rfl) dX6_wipe_1 ⟨Nat.zero_le _, Nat.zero_le _⟩ ?_
  refine z_ifb_ne (tgt := 10) hx hb dX6_wipe_4 (by decide) (fun c_1 => ?_) (fun c_1 => ?_)
  · refine lv_aload_n hx hb dX6_wipe_10 rfl (lv_at hl 0 rfl) ?_
    refine z_cV (As := []) (rest := []) C (m_X6_notes (l := l) (g := g) (q := q) (qn := qn) (qp := qp) (qi := qi) (qk := qk) (qt := qt) (qw := qw) (qv := qv) (qr := qr) (ac := ac) (N := N) (P := P) (a1 := by omega)) (cwV 0 C.2.2.2.2 gX6_wipe_X6_notes rfl rfl rfl (by decide +kernel) ⟨Nat.le_of_ble_eq_true rfl, Nat.le_of_ble_eq_true rfl⟩) hK hP hD hS hA [0, 1, 2] (by decide) rfl (fun _ => rfl) 0 rfl rfl rfl hl.1 rfl (Nat.le_of_ble_eq_true rfl) dX6_wipe_11 ⟨Nat.zero_le _, Nat.zero_le _⟩ (fun u_2 H locs hq_3 hP hD hS => ?_)
    have hP : zP g [(q, .inr (6, [.ref qn, .ref qp, .int (iI (min (ac + 1) 8)), .ref qi, .ref qk, .ref qt, .ref qw, .ref qv, .ref qr])), zI g qn 647 N, zI g qp 5176 (ntP P N ac)] H := hP
    have hD : va_D A [(q, .inr (6, [.ref qn, .ref qp, .int (iI (min (ac + 1) 8)), .ref qi, .ref qk, .ref qt, .ref qw, .ref qv, .ref qr])), zI g qn 647 N, zI g qp 5176 (ntP P N ac)] := hD
    refine lv_aload_n hx hb dX6_wipe_14 rfl (lv_at hl 0 rfl) ?_
    refine z_get (v := .ref qn) (Cn := RX6) (T := TX6) (N := 9) (ci := 6) C in_m_X6_wipe_X6 hK hP 0 rfl rfl 0 (by decide) (List.mem_of_getElem? (i := 2) rfl) rfl dX6_wipe_15 ?_
    refine lv_iconst (v := iI 2) hx hb dX6_wipe_18 rfl ?_
    refine lv_iload_n hx hb dX6_wipe_19 rfl (lv_at hl 1 rfl) ?_
    refine z_iadd hx hb dX6_wipe_20 ?_
    refine z_iald hx hb hK hP 1 rfl (by omega) (by omega) (Nat.le_of_ble_eq_true rfl) dX6_wipe_21 ?_
    refine lv_istore_n (lv' := [(2, .int (iI (N (2 + pi_)))), (0, .ref q), (1, .int (iI pi_))]) hx hb dX6_wipe_22 rfl hl (by decide) rfl (fun ls hl => ?_)
    refine lv_aload_n hx hb dX6_wipe_23 rfl (lv_at hl 1 rfl) ?_
    refine z_get (v := .ref qn) (Cn := RX6) (T := TX6) (N := 9) (ci := 6) C in_m_X6_wipe_X6 hK hP 0 rfl rfl 0 (by decide) (List.mem_of_getElem? (i := 2) rfl) rfl dX6_wipe_24 ?_
    refine lv_iconst (v := iI 2) hx hb dX6_wipe_27 rfl ?_
    refine lv_iload_n hx hb dX6_wipe_28 rfl (lv_at hl 2 rfl) ?_
    refine z_iadd hx hb dX6_wipe_29 ?_
    refine lv_iconst (v := iI 0) hx hb dX6_wipe_30 rfl ?_
    refine z_iast hx hb hK hP hD hS 1 rfl (by omega) (by omega) (Nat.le_of_ble_eq_true rfl) dX6_wipe_31 (fun H locs hP hD hS => ?_)
    have hP : zP g [(q, .inr (6, [.ref qn, .ref qp, .int (iI (min (ac + 1) 8)), .ref qi, .ref qk, .ref qt, .ref qw, .ref qv, .ref qr])), zI g qn 647 (ups N (2 + pi_) 0), zI g qp 5176 (ntP P N ac)] H := hP
    have hD : va_D A [(q, .inr (6, [.ref qn, .ref qp, .int (iI (min (ac + 1) 8)), .ref qi, .ref qk, .ref qt, .ref qw, .ref qv, .ref qr])), zI g qn 647 (ups N (2 + pi_) 0), zI g qp 5176 (ntP P N ac)] := hD
    refine lv_iload_n hx hb dX6_wipe_32 rfl (lv_at hl 0 rfl) ?_
    exact z_retE hx hb hlk hr hQ dX6_wipe_33 hS () (rfl) (hP)
  · exfalso; omega
set_option maxHeartbeats 4000000 in
set_option maxRecDepth 100000 in
theorem m_X6_wipe_n (l : Launch) (g : zG) (q qn qp qi qk qt qw qv qr : Nat) (ac : Int) (N : Int → Int) (pi_ : Int) (zN : okN N) (g_pi_ : -2147483648 ≤ pi_ ∧ pi_ < 2147483648) (rf : ¬ (0 ≤ pi_ ∧ pi_ ≤ 4)) : zS l yX6_wipe wsX6_wipe ({ frames := 2, cells := 0, slots := 0, locals := 42 }) g [.ref q, .int (iI pi_)] [(q, .inr (6, [.ref qn, .ref qp, .int (iI ac), .ref qi, .ref qk, .ref qt, .ref qw, .ref qv, .ref qr])), zI g qn 647 N] (-1000000001) := by
  refine z_entS (cc := cX6_wipe) (nL := 3) (ret := (some .int)) (own := RX6) (by decide) rfl rfl (Nat.le_of_ble_eq_true rfl) ?_
  intro p e s m below meth c Q ls C hlk hr hQ hP hK hl
  have hx := C.1
  have hb := C.2.1
  have hl : lv_has ls 3 [(0, .ref q), (1, .int (iI pi_))] := hl
  refine lv_iload_n hx hb dX6_wipe_0 rfl (lv_at hl 1 rfl) ?_
  refine z_cSS (As := [.int (iI pi_)]) (rest := []) C (m_X6_isRow (l := l) (g := g) (v := pi_) (g_v := by omega)) (cwS 1 C.2.2.2.2 gX6_wipe_X6_isRow rfl rfl rfl (by decide +kernel) ⟨Nat.le_of_ble_eq_true rfl, Nat.le_of_ble_eq_true rfl⟩) hK hP [] rfl rfl hl.1 rfl (Nat.le_of_ble_eq_true rfl) dX6_wipe_1 ⟨Nat.zero_le _, Nat.zero_le _⟩ ?_
  refine z_ifb_ne (tgt := 10) hx hb dX6_wipe_4 (by decide) (fun c_1 => ?_) (fun c_1 => ?_)
  · exfalso; omega
  · refine z_ldc C (List.mem_of_getElem? (i := 1) rfl) (-1000000001) (by decide +kernel) dX6_wipe_7 ?_
    exact z_retS hx hb hlk hr hQ dX6_wipe_9 (rfl)
set_option maxRecDepth 20000 in
theorem in_m_X6_lots_X6 : ∀ w ∈ u_ws RX6 TX6 9, w ∈ wsX6_lots := zmem_of _ [32, 33, 34, 35, 36, 37, 38, 39, 40] (by decide +kernel)
set_option maxHeartbeats 4000000 in
set_option maxRecDepth 100000 in
theorem m_X6_lots (l : Launch) (g : zG) (q qn qp qi qk qt qw qv qr : Nat) (ac : Int) (N P : Int → Int) (pi_ n_ sd : Int) (ac1 : 0 ≤ ac ∧ ac ≤ 8) (zN : okN N) (b1 : (0 ≤ pi_ ∧ pi_ ≤ 4) ∧ (1 ≤ n_ ∧ n_ ≤ 128) ∧ (1 ≤ sd ∧ sd ≤ 999999)) : zE l yX6_lots wsX6_lots ({ frames := 2, cells := 0, slots := 0, locals := 42 }) g [.ref q, .int (iI pi_), .int (iI n_), .int (iI sd)] [(q, .inr (6, [.ref qn, .ref qp, .int (iI ac), .ref qi, .ref qk, .ref qt, .ref qw, .ref qv, .ref qr])), zI g qn 647 N, zI g qp 5176 P] (S := Unit) (fun r _ => r = n_ / 8) (fun _ => [(q, .inr (6, [.ref qn, .ref qp, .int (iI (min (ac + 1) 8)), .ref qi, .ref qk, .ref qt, .ref qw, .ref qv, .ref qr])), zI g qn 647 (sp_lots N pi_ n_ sd), zI g qp 5176 (ntP P N ac)]) := by
  refine z_entE (cc := cX6_lots) (nL := 7) (ret := (some .int)) (own := RX6) (by decide) rfl rfl (Nat.le_of_ble_eq_true rfl) ?_
  intro p e s m below meth c Q ls A C hlk hr hQ hP hK hD hA hS hl
  have hx := C.1
  have hb := C.2.1
  have hl : lv_has ls 7 [(0, .ref q), (1, .int (iI pi_)), (2, .int (iI n_)), (3, .int (iI sd))] := hl
  obtain ⟨H, hHe⟩ : ∃ H, H = s.heap := ⟨_, rfl⟩
  obtain ⟨locs, hLe⟩ : ∃ q : List Loc, q = [] := ⟨_, rfl⟩
  have hP : zP g [(q, .inr (6, [.ref qn, .ref qp, .int (iI ac), .ref qi, .ref qk, .ref qt, .ref qw, .ref qv, .ref qr])), zI g qn 647 N, zI g qp 5176 P] H := by rw [hHe]; exact hP
  have hS : va_S A s.heap H locs := by rw [hHe, hLe]; exact hS
  suffices hgo : W p l e ({ frames := 2, cells := 0, slots := 0, locals := 42 }) s m ([.ref q, .int (iI pi_), .int (iI n_), .int (iI sd)] : List Value).toArray below meth c H locs 0 0 Q (F0 m 0 ls []) by rw [hHe, hLe] at hgo; exact hgo
  clear hHe hLe
  refine lv_iload_n hx hb dX6_lots_0 rfl (lv_at hl 1 rfl) ?_
  refine z_cSS (As := [.int (iI pi_)]) (rest := []) C (m_X6_isRow (l := l) (g := g) (v := pi_) (g_v := by omega)) (cwS 1 C.2.2.2.2 gX6_lots_X6_isRow rfl rfl rfl (by decide +kernel) ⟨Nat.le_of_ble_eq_true rfl, Nat.le_of_ble_eq_true rfl⟩) hK hP [] rfl rfl hl.1 rfl (Nat.le_of_ble_eq_true rfl) dX6_lots_1 ⟨Nat.zero_le _, Nat.zero_le _⟩ ?_
  refine z_ifb_ne (tgt := 10) hx hb dX6_lots_4 (by decide) (fun c_1 => ?_) (fun c_1 => ?_)
  · refine lv_iload_n hx hb dX6_lots_10 rfl (lv_at hl 2 rfl) ?_
    refine lv_iconst (v := iI 1) hx hb dX6_lots_11 rfl ?_
    refine lv_sipush (v := iI 128) hx hb dX6_lots_12 (by decide +kernel) ?_
    refine z_cSS (As := [.int (iI n_), .int (iI 1), .int (iI 128)]) (rest := []) C (m_X6_in (l := l) (g := g) (v := n_) (lo := 1) (hi := 128) (g_v := by omega) (g_lo := by omega) (g_hi := by omega)) (cwS 3 C.2.2.2.2 gX6_lots_X6_in rfl rfl rfl (by decide +kernel) ⟨Nat.le_of_ble_eq_true rfl, Nat.le_of_ble_eq_true rfl⟩) hK hP [] rfl rfl hl.1 rfl (Nat.le_of_ble_eq_true rfl) dX6_lots_15 ⟨Nat.zero_le _, Nat.zero_le _⟩ ?_
    refine z_ifb_eq (tgt := 31) hx hb dX6_lots_18 (by decide) (fun c_2 => ?_) (fun c_2 => ?_)
    · exfalso; omega
    · refine lv_iload_n hx hb dX6_lots_21 rfl (lv_at hl 3 rfl) ?_
      refine lv_iconst (v := iI 1) hx hb dX6_lots_22 rfl ?_
      refine z_ldc C (List.mem_of_getElem? (i := 2) rfl) (999999) (by decide +kernel) dX6_lots_23 ?_
      refine z_cSS (As := [.int (iI sd), .int (iI 1), .int (iI 999999)]) (rest := []) C (m_X6_in (l := l) (g := g) (v := sd) (lo := 1) (hi := 999999) (g_v := by omega) (g_lo := by omega) (g_hi := by omega)) (cwS 3 C.2.2.2.2 gX6_lots_X6_in rfl rfl rfl (by decide +kernel) ⟨Nat.le_of_ble_eq_true rfl, Nat.le_of_ble_eq_true rfl⟩) hK hP [] rfl rfl hl.1 rfl (Nat.le_of_ble_eq_true rfl) dX6_lots_25 ⟨Nat.zero_le _, Nat.zero_le _⟩ ?_
      refine z_ifb_ne (tgt := 34) hx hb dX6_lots_28 (by decide) (fun c_3 => ?_) (fun c_3 => ?_)
      · refine lv_aload_n hx hb dX6_lots_34 rfl (lv_at hl 0 rfl) ?_
        refine z_cV (As := []) (rest := []) C (m_X6_notes (l := l) (g := g) (q := q) (qn := qn) (qp := qp) (qi := qi) (qk := qk) (qt := qt) (qw := qw) (qv := qv) (qr := qr) (ac := ac) (N := N) (P := P) (a1 := by omega)) (cwV 0 C.2.2.2.2 gX6_lots_X6_notes rfl rfl rfl (by decide +kernel) ⟨Nat.le_of_ble_eq_true rfl, Nat.le_of_ble_eq_true rfl⟩) hK hP hD hS hA [0, 1, 2] (by decide) rfl (fun _ => rfl) 0 rfl rfl rfl hl.1 rfl (Nat.le_of_ble_eq_true rfl) dX6_lots_35 ⟨Nat.zero_le _, Nat.zero_le _⟩ (fun u_4 H locs hq_5 hP hD hS => ?_)
        have hP : zP g [(q, .inr (6, [.ref qn, .ref qp, .int (iI (min (ac + 1) 8)), .ref qi, .ref qk, .ref qt, .ref qw, .ref qv, .ref qr])), zI g qn 647 N, zI g qp 5176 (ntP P N ac)] H := hP
        have hD : va_D A [(q, .inr (6, [.ref qn, .ref qp, .int (iI (min (ac + 1) 8)), .ref qi, .ref qk, .ref qt, .ref qw, .ref qv, .ref qr])), zI g qn 647 N, zI g qp 5176 (ntP P N ac)] := hD
        refine lv_iload_n hx hb dX6_lots_38 rfl (lv_at hl 3 rfl) ?_
        refine z_i2l hx hb dX6_lots_39 (by omega) (by omega) ?_
        refine z_topL (b := lx sd 0) ((lx_0 sd).symm) ?_
        refine lv_lstore (lv' := [(4, .long (lI (lx sd 0))), (0, .ref q), (1, .int (iI pi_)), (2, .int (iI n_)), (3, .int (iI sd))]) hx hb dX6_lots_40 hl (by decide) rfl (fun ls hl => ?_)
        refine lv_iconst (v := iI 0) hx hb dX6_lots_42 rfl ?_
        refine lv_istore (lv' := [(6, .int (iI 0)), (4, .long (lI (lx sd 0))), (0, .ref q), (1, .int (iI pi_)), (2, .int (iI n_)), (3, .int (iI sd))]) hx hb dX6_lots_43 hl (by decide) rfl (fun ls hl => ?_)
        have L45 : ∀ (n : Nat) (k : Int) (NV : Int → Int), (i1 : 0 ≤ k) → (i2 : k ≤ n_) → (i3 : ∀ j, NV j = if 7 + 128 * pi_ ≤ j ∧ j < 7 + 128 * pi_ + k then lx sd (j - (7 + 128 * pi_) + 1) % 201 - 100 else N j) → (hms : n_ - k < (n : Int)) → ∀ (H : Heap) (locs : List Loc) (ls : Array Slot), lv_has ls 7 [(0, .ref q), (1, .int (iI pi_)), (2, .int (iI n_)), (4, .long (lI (lx sd k))), (6, .int (iI k))] → zP g [(q, .inr (6, [.ref qn, .ref qp, .int (iI (min (ac + 1) 8)), .ref qi, .ref qk, .ref qt, .ref qw, .ref qv, .ref qr])), zI g qn 647 NV, zI g qp 5176 (ntP P N ac)] H → va_D A [(q, .inr (6, [.ref qn, .ref qp, .int (iI (min (ac + 1) 8)), .ref qi, .ref qk, .ref qt, .ref qw, .ref qv, .ref qr])), zI g qn 647 NV, zI g qp 5176 (ntP P N ac)] → va_S A s.heap H locs → W p l e ({ frames := 2, cells := 0, slots := 0, locals := 42 }) s m ([.ref q, .int (iI pi_), .int (iI n_), .int (iI sd)] : List Value).toArray below meth c H locs 0 0 Q (F0 m 45 ls []) := by
          clear hP hD hS hl
          intro n
          induction n with
          | zero =>
            intro k NV i1 i2 i3 hms H locs ls hl hP hD hS
            exfalso; omega
          | succ n ih45 =>
            intro k NV i1 i2 i3 hms H locs ls hl hP hD hS
            have hlr := lx_rg (sd := sd) (by omega) (by omega) k
            have hlr2 := lx_rg (sd := sd) (by omega) (by omega) (k + 1)
            refine lv_iload hx hb dX6_lots_45 (lv_at hl 4 rfl) ?_
            refine lv_iload_n hx hb dX6_lots_47 rfl (lv_at hl 2 rfl) ?_
            refine z_icmp_ge (tgt := 81) hx hb dX6_lots_48 (by decide) (by omega) (by omega) (fun c_6 => ?_) (fun c_6 => ?_)
            · refine lv_aload_n hx hb dX6_lots_81 rfl (lv_at hl 0 rfl) ?_
              refine z_get (v := .ref qn) (Cn := RX6) (T := TX6) (N := 9) (ci := 6) C in_m_X6_lots_X6 hK hP 0 rfl rfl 0 (by decide) (List.mem_of_getElem? (i := 5) rfl) rfl dX6_lots_82 ?_
              refine lv_iconst (v := iI 2) hx hb dX6_lots_85 rfl ?_
              refine lv_iload_n hx hb dX6_lots_86 rfl (lv_at hl 1 rfl) ?_
              refine z_iadd hx hb dX6_lots_87 ?_
              refine lv_iload_n hx hb dX6_lots_88 rfl (lv_at hl 2 rfl) ?_
              refine z_iast hx hb hK hP hD hS 1 rfl (by omega) (by omega) (Nat.le_of_ble_eq_true rfl) dX6_lots_89 (fun H locs hP hD hS => ?_)
              have hP : zP g [(q, .inr (6, [.ref qn, .ref qp, .int (iI (min (ac + 1) 8)), .ref qi, .ref qk, .ref qt, .ref qw, .ref qv, .ref qr])), zI g qn 647 (ups NV (2 + pi_) n_), zI g qp 5176 (ntP P N ac)] H := hP
              have hD : va_D A [(q, .inr (6, [.ref qn, .ref qp, .int (iI (min (ac + 1) 8)), .ref qi, .ref qk, .ref qt, .ref qw, .ref qv, .ref qr])), zI g qn 647 (ups NV (2 + pi_) n_), zI g qp 5176 (ntP P N ac)] := hD
              have hP := zP_arr hP 1 (sp_lots N pi_ n_ sd) rfl (fun j g1 g2 => by simp only [ups, sp_lots]; rw [i3 j, show k = n_ by omega])
              have hD := zD_set (c1 := (zI g qn 647 (sp_lots N pi_ n_ sd)).2) hD 1 rfl
              have hP : zP g [(q, .inr (6, [.ref qn, .ref qp, .int (iI (min (ac + 1) 8)), .ref qi, .ref qk, .ref qt, .ref qw, .ref qv, .ref qr])), zI g qn 647 (sp_lots N pi_ n_ sd), zI g qp 5176 (ntP P N ac)] H := hP
              have hD : va_D A [(q, .inr (6, [.ref qn, .ref qp, .int (iI (min (ac + 1) 8)), .ref qi, .ref qk, .ref qt, .ref qw, .ref qv, .ref qr])), zI g qn 647 (sp_lots N pi_ n_ sd), zI g qp 5176 (ntP P N ac)] := hD
              refine lv_aload_n hx hb dX6_lots_90 rfl (lv_at hl 0 rfl) ?_
              refine lv_iload_n hx hb dX6_lots_91 rfl (lv_at hl 1 rfl) ?_
              refine z_cS (As := [.int (iI pi_)]) (rest := []) C (m_X6_windows (l := l) (g := g) (q := q) (qn := qn) (qp := qp) (qi := qi) (qk := qk) (qt := qt) (qw := qw) (qv := qv) (qr := qr) (ac := min (ac + 1) 8) (N := sp_lots N pi_ n_ sd) (pi_ := pi_) (h1 := by omega) (h2 := by omega) (z1 := by simp only [sp_lots]; rw [if_pos trivial]; omega)) (cwV 1 C.2.2.2.2 gX6_lots_X6_windows rfl rfl rfl (by decide +kernel) ⟨Nat.le_of_ble_eq_true rfl, Nat.le_of_ble_eq_true rfl⟩) hK hP [0, 1] rfl 0 rfl rfl rfl hl.1 rfl (Nat.le_of_ble_eq_true rfl) dX6_lots_92 ⟨Nat.zero_le _, Nat.zero_le _⟩ ?_
              exact z_retE hx hb hlk hr hQ dX6_lots_95 hS () (by show sp_lots N pi_ n_ sd (2 + pi_) / 8 = _; simp only [sp_lots]; rw [if_pos trivial]) (hP)
            · refine lv_lload hx hb dX6_lots_51 (lv_at hl 3 rfl) ?_
              refine z_cSSl (As := [.long (lI (lx sd k))]) (rest := []) C (m_X6_drawn (l := l) (g := g) (x_ := lx sd k) (h1 := by omega)) (cwS 1 C.2.2.2.2 gX6_lots_X6_drawn rfl rfl rfl (by decide +kernel) ⟨Nat.le_of_ble_eq_true rfl, Nat.le_of_ble_eq_true rfl⟩) hK hP [] rfl rfl hl.1 rfl (Nat.le_of_ble_eq_true rfl) dX6_lots_53 ⟨Nat.zero_le _, Nat.zero_le _⟩ ?_
              refine z_topL (b := lx sd (k + 1)) ((lx_s sd i1).symm) ?_
              refine lv_lstore (lv' := [(4, .long (lI (lx sd (k + 1)))), (0, .ref q), (1, .int (iI pi_)), (2, .int (iI n_)), (6, .int (iI k))]) hx hb dX6_lots_56 hl (by decide) rfl (fun ls hl => ?_)
              refine lv_aload_n hx hb dX6_lots_58 rfl (lv_at hl 1 rfl) ?_
              refine lv_iload_n hx hb dX6_lots_59 rfl (lv_at hl 2 rfl) ?_
              refine lv_iload hx hb dX6_lots_60 (lv_at hl 4 rfl) ?_
              refine lv_lload hx hb dX6_lots_62 (lv_at hl 0 rfl) ?_
              refine z_ldc2 C (List.mem_of_getElem? (i := 4) rfl) (201) (by decide +kernel) dX6_lots_64 ?_
              refine z_lremN hx hb dX6_lots_67 (by omega) (by omega) (by omega) (by omega) ?_
              refine z_l2i hx hb dX6_lots_68 ?_
              refine lv_bipush (v := iI 100) hx hb dX6_lots_69 (by decide +kernel) ?_
              refine z_isub hx hb dX6_lots_71 ?_
              refine z_cV (As := [.int (iI pi_), .int (iI k), .int (iI (((lx sd (k + 1)) % 201) - 100))]) (rest := []) C (m_X6_put (l := l) (g := g) (q := q) (qn := qn) (qp := qp) (qi := qi) (qk := qk) (qt := qt) (qw := qw) (qv := qv) (qr := qr) (ac := min (ac + 1) 8) (N := NV) (pi_ := pi_) (ix := k) (v := ((lx sd (k + 1)) % 201) - 100) (h1 := by omega) (h2 := by omega) (x1 := by omega)) (cwV 3 C.2.2.2.2 gX6_lots_X6_put rfl rfl rfl (by decide +kernel) ⟨Nat.le_of_ble_eq_true rfl, Nat.le_of_ble_eq_true rfl⟩) hK hP hD hS hA [0, 1] (by decide) rfl (fun _ => rfl) 0 rfl rfl rfl hl.1 rfl (Nat.le_of_ble_eq_true rfl) dX6_lots_72 ⟨Nat.zero_le _, Nat.zero_le _⟩ (fun u_7 H locs hq_8 hP hD hS => ?_)
              have hP : zP g [(q, .inr (6, [.ref qn, .ref qp, .int (iI (min (ac + 1) 8)), .ref qi, .ref qk, .ref qt, .ref qw, .ref qv, .ref qr])), zI g qn 647 (ups NV (7 + 128 * pi_ + k) (((lx sd (k + 1)) % 201) - 100)), zI g qp 5176 (ntP P N ac)] H := hP
              have hD : va_D A [(q, .inr (6, [.ref qn, .ref qp, .int (iI (min (ac + 1) 8)), .ref qi, .ref qk, .ref qt, .ref qw, .ref qv, .ref qr])), zI g qn 647 (ups NV (7 + 128 * pi_ + k) (((lx sd (k + 1)) % 201) - 100)), zI g qp 5176 (ntP P N ac)] := hD
              refine z_iinc (b := k + 1) (lv' := [(6, .int (iI (k + 1))), (4, .long (lI (lx sd (k + 1)))), (0, .ref q), (1, .int (iI pi_)), (2, .int (iI n_))]) hx hb dX6_lots_75 hl (k := 4) rfl (rfl) (by decide) rfl (fun ls hl => ?_)
              refine lv_goto (tgt := 45) hx hb dX6_lots_78 (by decide) ?_
              have hP := zP_fld hP 0 rfl 2 (min (ac + 1) 8) rfl (by omega)
              have hD := zD_set (c1 := ((q, .inr (6, [.ref qn, .ref qp, .int (iI (min (ac + 1) 8)), .ref qi, .ref qk, .ref qt, .ref qw, .ref qv, .ref qr]))).2) hD 0 rfl
              have hP : zP g [(q, .inr (6, [.ref qn, .ref qp, .int (iI (min (ac + 1) 8)), .ref qi, .ref qk, .ref qt, .ref qw, .ref qv, .ref qr])), zI g qn 647 (ups NV (7 + 128 * pi_ + k) (((lx sd (k + 1)) % 201) - 100)), zI g qp 5176 (ntP P N ac)] H := hP
              have hD : va_D A [(q, .inr (6, [.ref qn, .ref qp, .int (iI (min (ac + 1) 8)), .ref qi, .ref qk, .ref qt, .ref qw, .ref qv, .ref qr])), zI g qn 647 (ups NV (7 + 128 * pi_ + k) (((lx sd (k + 1)) % 201) - 100)), zI g qp 5176 (ntP P N ac)] := hD
              exact ih45 (k + 1) (ups NV (7 + 128 * pi_ + k) (((lx sd (k + 1)) % 201) - 100)) (by omega) (by omega) (fun j => by by_cases hj : j = 7 + 128 * pi_ + k; (· rw [hj, ups_s, if_pos (by omega), show 7 + 128 * pi_ + k - (7 + 128 * pi_) + 1 = k + 1 by omega]); (· rw [ups_n _ _ hj, i3 j]; (repeat' split) <;> first | rfl | omega)) (by omega) H locs ls (lv_sub hl [2, 3, 4, 1, 0] rfl) (hP) (hD) hS
        exact L45 (129) 0 N (by omega) (by omega) (fun j => by rw [if_neg (by omega)]) (by omega) H locs ls (lv_sub hl [2, 3, 4, 1, 0] rfl) (hP) (hD) hS
      · exfalso; omega
  · exfalso; omega
set_option maxHeartbeats 4000000 in
set_option maxRecDepth 100000 in
theorem m_X6_lots_n (l : Launch) (g : zG) (q qn qp qi qk qt qw qv qr : Nat) (ac : Int) (N : Int → Int) (pi_ n_ sd : Int) (zN : okN N) (g_pi_ : -2147483648 ≤ pi_ ∧ pi_ < 2147483648) (g_n_ : -2147483648 ≤ n_ ∧ n_ < 2147483648) (g_sd : -2147483648 ≤ sd ∧ sd < 2147483648) (rf : ¬ ((0 ≤ pi_ ∧ pi_ ≤ 4) ∧ (1 ≤ n_ ∧ n_ ≤ 128) ∧ (1 ≤ sd ∧ sd ≤ 999999))) : zS l yX6_lots wsX6_lots ({ frames := 2, cells := 0, slots := 0, locals := 42 }) g [.ref q, .int (iI pi_), .int (iI n_), .int (iI sd)] [(q, .inr (6, [.ref qn, .ref qp, .int (iI ac), .ref qi, .ref qk, .ref qt, .ref qw, .ref qv, .ref qr])), zI g qn 647 N] (if ¬ (0 ≤ pi_ ∧ pi_ ≤ 4) then -1000000001 else -1000000002) := by
  refine z_entS (cc := cX6_lots) (nL := 7) (ret := (some .int)) (own := RX6) (by decide) rfl rfl (Nat.le_of_ble_eq_true rfl) ?_
  intro p e s m below meth c Q ls C hlk hr hQ hP hK hl
  have hx := C.1
  have hb := C.2.1
  have hl : lv_has ls 7 [(0, .ref q), (1, .int (iI pi_)), (2, .int (iI n_)), (3, .int (iI sd))] := hl
  refine lv_iload_n hx hb dX6_lots_0 rfl (lv_at hl 1 rfl) ?_
  refine z_cSS (As := [.int (iI pi_)]) (rest := []) C (m_X6_isRow (l := l) (g := g) (v := pi_) (g_v := by omega)) (cwS 1 C.2.2.2.2 gX6_lots_X6_isRow rfl rfl rfl (by decide +kernel) ⟨Nat.le_of_ble_eq_true rfl, Nat.le_of_ble_eq_true rfl⟩) hK hP [] rfl rfl hl.1 rfl (Nat.le_of_ble_eq_true rfl) dX6_lots_1 ⟨Nat.zero_le _, Nat.zero_le _⟩ ?_
  refine z_ifb_ne (tgt := 10) hx hb dX6_lots_4 (by decide) (fun c1 => ?_) (fun c1 => ?_)
  · refine lv_iload_n hx hb dX6_lots_10 rfl (lv_at hl 2 rfl) ?_
    refine lv_iconst (v := iI 1) hx hb dX6_lots_11 rfl ?_
    refine lv_sipush (v := iI 128) hx hb dX6_lots_12 (by decide +kernel) ?_
    refine z_cSS (As := [.int (iI n_), .int (iI 1), .int (iI 128)]) (rest := []) C (m_X6_in (l := l) (g := g) (v := n_) (lo := 1) (hi := 128) (g_v := by omega) (g_lo := by omega) (g_hi := by omega)) (cwS 3 C.2.2.2.2 gX6_lots_X6_in rfl rfl rfl (by decide +kernel) ⟨Nat.le_of_ble_eq_true rfl, Nat.le_of_ble_eq_true rfl⟩) hK hP [] rfl rfl hl.1 rfl (Nat.le_of_ble_eq_true rfl) dX6_lots_15 ⟨Nat.zero_le _, Nat.zero_le _⟩ ?_
    refine z_ifb_eq (tgt := 31) hx hb dX6_lots_18 (by decide) (fun c_1 => ?_) (fun c_1 => ?_)
    · refine z_ldc C (List.mem_of_getElem? (i := 3) rfl) (-1000000002) (by decide +kernel) dX6_lots_31 ?_
      exact z_retS hx hb hlk hr hQ dX6_lots_33 ((if_neg (fun z => z c1)).symm)
    · refine lv_iload_n hx hb dX6_lots_21 rfl (lv_at hl 3 rfl) ?_
      refine lv_iconst (v := iI 1) hx hb dX6_lots_22 rfl ?_
      refine z_ldc C (List.mem_of_getElem? (i := 2) rfl) (999999) (by decide +kernel) dX6_lots_23 ?_
      refine z_cSS (As := [.int (iI sd), .int (iI 1), .int (iI 999999)]) (rest := []) C (m_X6_in (l := l) (g := g) (v := sd) (lo := 1) (hi := 999999) (g_v := by omega) (g_lo := by omega) (g_hi := by omega)) (cwS 3 C.2.2.2.2 gX6_lots_X6_in rfl rfl rfl (by decide +kernel) ⟨Nat.le_of_ble_eq_true rfl, Nat.le_of_ble_eq_true rfl⟩) hK hP [] rfl rfl hl.1 rfl (Nat.le_of_ble_eq_true rfl) dX6_lots_25 ⟨Nat.zero_le _, Nat.zero_le _⟩ ?_
      refine z_ifb_ne (tgt := 34) hx hb dX6_lots_28 (by decide) (fun c_2 => ?_) (fun c_2 => ?_)
      · exfalso; omega
      · refine z_ldc C (List.mem_of_getElem? (i := 3) rfl) (-1000000002) (by decide +kernel) dX6_lots_31 ?_
        exact z_retS hx hb hlk hr hQ dX6_lots_33 ((if_neg (fun z => z c1)).symm)
  · refine z_ldc C (List.mem_of_getElem? (i := 1) rfl) (-1000000001) (by decide +kernel) dX6_lots_7 ?_
    exact z_retS hx hb hlk hr hQ dX6_lots_9 ((if_pos c1).symm)
set_option maxRecDepth 20000 in
theorem in_m_X6_noise_X6 : ∀ w ∈ u_ws RX6 TX6 9, w ∈ wsX6_noise := zmem_of _ [39, 40, 41, 42, 43, 44, 45, 46, 47] (by decide +kernel)
set_option maxHeartbeats 4000000 in
set_option maxRecDepth 100000 in
theorem m_X6_noise (l : Launch) (g : zG) (q qn qp qi qk qt qw qv qr : Nat) (ac : Int) (N P : Int → Int) (pi_ s_ sd : Int) (ac1 : 0 ≤ ac ∧ ac ≤ 8) (zN : okN N) (b1 : (0 ≤ pi_ ∧ pi_ ≤ 4) ∧ (1 ≤ s_ ∧ s_ ≤ 100) ∧ (1 ≤ sd ∧ sd ≤ 999999)) : zE l yX6_noise wsX6_noise ({ frames := 2, cells := 0, slots := 0, locals := 47 }) g [.ref q, .int (iI pi_), .int (iI s_), .int (iI sd)] [(q, .inr (6, [.ref qn, .ref qp, .int (iI ac), .ref qi, .ref qk, .ref qt, .ref qw, .ref qv, .ref qr])), zI g qn 647 N, zI g qp 5176 P] (S := Unit) (fun r _ => r = sumZ (fun x => bI (cl (N (7 + 128 * pi_ + x) + lx sd (x + 1) % (2 * s_ + 1) - s_) ≠ N (7 + 128 * pi_ + x))) (N (2 + pi_))) (fun _ => [(q, .inr (6, [.ref qn, .ref qp, .int (iI (min (ac + 1) 8)), .ref qi, .ref qk, .ref qt, .ref qw, .ref qv, .ref qr])), zI g qn 647 (sp_noise N pi_ s_ sd), zI g qp 5176 (ntP P N ac)]) := by
  refine z_entE (cc := cX6_noise) (nL := 8) (ret := (some .int)) (own := RX6) (by decide) rfl rfl (Nat.le_of_ble_eq_true rfl) ?_
  intro p e s m below meth c Q ls A C hlk hr hQ hP hK hD hA hS hl
  have hx := C.1
  have hb := C.2.1
  have hl : lv_has ls 8 [(0, .ref q), (1, .int (iI pi_)), (2, .int (iI s_)), (3, .int (iI sd))] := hl
  obtain ⟨H, hHe⟩ : ∃ H, H = s.heap := ⟨_, rfl⟩
  obtain ⟨locs, hLe⟩ : ∃ q : List Loc, q = [] := ⟨_, rfl⟩
  have hP : zP g [(q, .inr (6, [.ref qn, .ref qp, .int (iI ac), .ref qi, .ref qk, .ref qt, .ref qw, .ref qv, .ref qr])), zI g qn 647 N, zI g qp 5176 P] H := by rw [hHe]; exact hP
  have hS : va_S A s.heap H locs := by rw [hHe, hLe]; exact hS
  suffices hgo : W p l e ({ frames := 2, cells := 0, slots := 0, locals := 47 }) s m ([.ref q, .int (iI pi_), .int (iI s_), .int (iI sd)] : List Value).toArray below meth c H locs 0 0 Q (F0 m 0 ls []) by rw [hHe, hLe] at hgo; exact hgo
  clear hHe hLe
  refine lv_iload_n hx hb dX6_noise_0 rfl (lv_at hl 1 rfl) ?_
  refine z_cSS (As := [.int (iI pi_)]) (rest := []) C (m_X6_isRow (l := l) (g := g) (v := pi_) (g_v := by omega)) (cwS 1 C.2.2.2.2 gX6_noise_X6_isRow rfl rfl rfl (by decide +kernel) ⟨Nat.le_of_ble_eq_true rfl, Nat.le_of_ble_eq_true rfl⟩) hK hP [] rfl rfl hl.1 rfl (Nat.le_of_ble_eq_true rfl) dX6_noise_1 ⟨Nat.zero_le _, Nat.zero_le _⟩ ?_
  refine z_ifb_ne (tgt := 10) hx hb dX6_noise_4 (by decide) (fun c_1 => ?_) (fun c_1 => ?_)
  · refine lv_iload_n hx hb dX6_noise_10 rfl (lv_at hl 2 rfl) ?_
    refine lv_iconst (v := iI 1) hx hb dX6_noise_11 rfl ?_
    refine lv_bipush (v := iI 100) hx hb dX6_noise_12 (by decide +kernel) ?_
    refine z_cSS (As := [.int (iI s_), .int (iI 1), .int (iI 100)]) (rest := []) C (m_X6_in (l := l) (g := g) (v := s_) (lo := 1) (hi := 100) (g_v := by omega) (g_lo := by omega) (g_hi := by omega)) (cwS 3 C.2.2.2.2 gX6_noise_X6_in rfl rfl rfl (by decide +kernel) ⟨Nat.le_of_ble_eq_true rfl, Nat.le_of_ble_eq_true rfl⟩) hK hP [] rfl rfl hl.1 rfl (Nat.le_of_ble_eq_true rfl) dX6_noise_14 ⟨Nat.zero_le _, Nat.zero_le _⟩ ?_
    refine z_ifb_eq (tgt := 30) hx hb dX6_noise_17 (by decide) (fun c_2 => ?_) (fun c_2 => ?_)
    · exfalso; omega
    · refine lv_iload_n hx hb dX6_noise_20 rfl (lv_at hl 3 rfl) ?_
      refine lv_iconst (v := iI 1) hx hb dX6_noise_21 rfl ?_
      refine z_ldc C (List.mem_of_getElem? (i := 2) rfl) (999999) (by decide +kernel) dX6_noise_22 ?_
      refine z_cSS (As := [.int (iI sd), .int (iI 1), .int (iI 999999)]) (rest := []) C (m_X6_in (l := l) (g := g) (v := sd) (lo := 1) (hi := 999999) (g_v := by omega) (g_lo := by omega) (g_hi := by omega)) (cwS 3 C.2.2.2.2 gX6_noise_X6_in rfl rfl rfl (by decide +kernel) ⟨Nat.le_of_ble_eq_true rfl, Nat.le_of_ble_eq_true rfl⟩) hK hP [] rfl rfl hl.1 rfl (Nat.le_of_ble_eq_true rfl) dX6_noise_24 ⟨Nat.zero_le _, Nat.zero_le _⟩ ?_
      refine z_ifb_ne (tgt := 33) hx hb dX6_noise_27 (by decide) (fun c_3 => ?_) (fun c_3 => ?_)
      · have hz1 := zN.2.2.1 pi_ (by omega) (by omega)
        refine lv_aload_n hx hb dX6_noise_33 rfl (lv_at hl 0 rfl) ?_
        refine z_cV (As := []) (rest := []) C (m_X6_notes (l := l) (g := g) (q := q) (qn := qn) (qp := qp) (qi := qi) (qk := qk) (qt := qt) (qw := qw) (qv := qv) (qr := qr) (ac := ac) (N := N) (P := P) (a1 := by omega)) (cwV 0 C.2.2.2.2 gX6_noise_X6_notes rfl rfl rfl (by decide +kernel) ⟨Nat.le_of_ble_eq_true rfl, Nat.le_of_ble_eq_true rfl⟩) hK hP hD hS hA [0, 1, 2] (by decide) rfl (fun _ => rfl) 0 rfl rfl rfl hl.1 rfl (Nat.le_of_ble_eq_true rfl) dX6_noise_34 ⟨Nat.zero_le _, Nat.zero_le _⟩ (fun u_4 H locs hq_5 hP hD hS => ?_)
        have hP : zP g [(q, .inr (6, [.ref qn, .ref qp, .int (iI (min (ac + 1) 8)), .ref qi, .ref qk, .ref qt, .ref qw, .ref qv, .ref qr])), zI g qn 647 N, zI g qp 5176 (ntP P N ac)] H := hP
        have hD : va_D A [(q, .inr (6, [.ref qn, .ref qp, .int (iI (min (ac + 1) 8)), .ref qi, .ref qk, .ref qt, .ref qw, .ref qv, .ref qr])), zI g qn 647 N, zI g qp 5176 (ntP P N ac)] := hD
        refine lv_iload_n hx hb dX6_noise_37 rfl (lv_at hl 3 rfl) ?_
        refine z_i2l hx hb dX6_noise_38 (by omega) (by omega) ?_
        refine z_topL (b := lx sd 0) ((lx_0 sd).symm) ?_
        refine lv_lstore (lv' := [(4, .long (lI (lx sd 0))), (0, .ref q), (1, .int (iI pi_)), (2, .int (iI s_)), (3, .int (iI sd))]) hx hb dX6_noise_39 hl (by decide) rfl (fun ls hl => ?_)
        refine lv_iconst (v := iI 0) hx hb dX6_noise_41 rfl ?_
        refine lv_istore (lv' := [(6, .int (iI 0)), (4, .long (lI (lx sd 0))), (0, .ref q), (1, .int (iI pi_)), (2, .int (iI s_)), (3, .int (iI sd))]) hx hb dX6_noise_42 hl (by decide) rfl (fun ls hl => ?_)
        refine lv_iconst (v := iI 0) hx hb dX6_noise_44 rfl ?_
        refine lv_istore (lv' := [(7, .int (iI 0)), (6, .int (iI 0)), (4, .long (lI (lx sd 0))), (0, .ref q), (1, .int (iI pi_)), (2, .int (iI s_)), (3, .int (iI sd))]) hx hb dX6_noise_45 hl (by decide) rfl (fun ls hl => ?_)
        have L47 : ∀ (n : Nat) (k : Int) (NV : Int → Int), (i1 : 0 ≤ k) → (i2 : k ≤ N (2 + pi_)) → (i3 : ∀ j, NV j = if 7 + 128 * pi_ ≤ j ∧ j < 7 + 128 * pi_ + k then cl (N j + lx sd (j - (7 + 128 * pi_) + 1) % (2 * s_ + 1) - s_) else N j) → (hms : N (2 + pi_) - k < (n : Int)) → ∀ (H : Heap) (locs : List Loc) (ls : Array Slot), lv_has ls 8 [(0, .ref q), (1, .int (iI pi_)), (2, .int (iI s_)), (4, .long (lI (lx sd k))), (6, .int (iI (sumZ (fun x => bI (cl (N (7 + 128 * pi_ + x) + lx sd (x + 1) % (2 * s_ + 1) - s_) ≠ N (7 + 128 * pi_ + x))) k))), (7, .int (iI k))] → zP g [(q, .inr (6, [.ref qn, .ref qp, .int (iI (min (ac + 1) 8)), .ref qi, .ref qk, .ref qt, .ref qw, .ref qv, .ref qr])), zI g qn 647 NV, zI g qp 5176 (ntP P N ac)] H → va_D A [(q, .inr (6, [.ref qn, .ref qp, .int (iI (min (ac + 1) 8)), .ref qi, .ref qk, .ref qt, .ref qw, .ref qv, .ref qr])), zI g qn 647 NV, zI g qp 5176 (ntP P N ac)] → va_S A s.heap H locs → W p l e ({ frames := 2, cells := 0, slots := 0, locals := 47 }) s m ([.ref q, .int (iI pi_), .int (iI s_), .int (iI sd)] : List Value).toArray below meth c H locs 0 0 Q (F0 m 47 ls []) := by
          clear hP hD hS hl
          intro n
          induction n with
          | zero =>
            intro k NV i1 i2 i3 hms H locs ls hl hP hD hS
            exfalso; omega
          | succ n ih47 =>
            intro k NV i1 i2 i3 hms H locs ls hl hP hD hS
            have hlr := lx_rg (sd := sd) (by omega) (by omega) k
            have hlr2 := lx_rg (sd := sd) (by omega) (by omega) (k + 1)
            have ens : NV (2 + pi_) = N (2 + pi_) := by rw [i3, if_neg (by omega)]
            refine lv_iload hx hb dX6_noise_47 (lv_at hl 5 rfl) ?_
            refine lv_aload_n hx hb dX6_noise_49 rfl (lv_at hl 0 rfl) ?_
            refine z_get (v := .ref qn) (Cn := RX6) (T := TX6) (N := 9) (ci := 6) C in_m_X6_noise_X6 hK hP 0 rfl rfl 0 (by decide) (List.mem_of_getElem? (i := 4) rfl) rfl dX6_noise_50 ?_
            refine lv_iconst (v := iI 2) hx hb dX6_noise_53 rfl ?_
            refine lv_iload_n hx hb dX6_noise_54 rfl (lv_at hl 1 rfl) ?_
            refine z_iadd hx hb dX6_noise_55 ?_
            refine z_iald hx hb hK hP 1 rfl (by omega) (by omega) (Nat.le_of_ble_eq_true rfl) dX6_noise_56 ?_
            refine z_top (b := N (2 + pi_)) (ens) ?_
            refine z_icmp_ge (tgt := 107) hx hb dX6_noise_57 (by decide) (by omega) (by omega) (fun c_6 => ?_) (fun c_6 => ?_)
            · have hP := zP_arr hP 1 (sp_noise N pi_ s_ sd) rfl (fun j g1 g2 => by simp only [sp_noise]; rw [i3 j, show k = N (2 + pi_) by omega])
              have hD := zD_set (c1 := (zI g qn 647 (sp_noise N pi_ s_ sd)).2) hD 1 rfl
              have hP : zP g [(q, .inr (6, [.ref qn, .ref qp, .int (iI (min (ac + 1) 8)), .ref qi, .ref qk, .ref qt, .ref qw, .ref qv, .ref qr])), zI g qn 647 (sp_noise N pi_ s_ sd), zI g qp 5176 (ntP P N ac)] H := hP
              have hD : va_D A [(q, .inr (6, [.ref qn, .ref qp, .int (iI (min (ac + 1) 8)), .ref qi, .ref qk, .ref qt, .ref qw, .ref qv, .ref qr])), zI g qn 647 (sp_noise N pi_ s_ sd), zI g qp 5176 (ntP P N ac)] := hD
              refine lv_iload hx hb dX6_noise_107 (lv_at hl 4 rfl) ?_
              exact z_retE hx hb hlk hr hQ dX6_noise_109 hS () (by rw [show k = N (2 + pi_) by omega]) (hP)
            · have env : NV (7 + 128 * pi_ + k) = N (7 + 128 * pi_ + k) := by rw [i3, if_neg (by omega)]
              have hnr := zN.2.2.2 (7 + 128 * pi_ + k) (by omega) (by omega)
              have hm1 := Int.emod_nonneg (lx sd (k + 1)) (show 2 * s_ + 1 ≠ 0 by omega)
              have hm2 := Int.emod_lt_of_pos (lx sd (k + 1)) (show 0 < 2 * s_ + 1 by omega)
              refine lv_lload hx hb dX6_noise_60 (lv_at hl 3 rfl) ?_
              refine z_cSSl (As := [.long (lI (lx sd k))]) (rest := []) C (m_X6_drawn (l := l) (g := g) (x_ := lx sd k) (h1 := by omega)) (cwS 1 C.2.2.2.2 gX6_noise_X6_drawn rfl rfl rfl (by decide +kernel) ⟨Nat.le_of_ble_eq_true rfl, Nat.le_of_ble_eq_true rfl⟩) hK hP [] rfl rfl hl.1 rfl (Nat.le_of_ble_eq_true rfl) dX6_noise_62 ⟨Nat.zero_le _, Nat.zero_le _⟩ ?_
              refine z_topL (b := lx sd (k + 1)) ((lx_s sd i1).symm) ?_
              refine lv_lstore (lv' := [(4, .long (lI (lx sd (k + 1)))), (0, .ref q), (1, .int (iI pi_)), (2, .int (iI s_)), (6, .int (iI (sumZ (fun x => bI (cl (N (7 + 128 * pi_ + x) + lx sd (x + 1) % (2 * s_ + 1) - s_) ≠ N (7 + 128 * pi_ + x))) k))), (7, .int (iI k))]) hx hb dX6_noise_65 hl (by decide) rfl (fun ls hl => ?_)
              refine lv_iload hx hb dX6_noise_67 (lv_at hl 4 rfl) ?_
              refine lv_aload_n hx hb dX6_noise_69 rfl (lv_at hl 1 rfl) ?_
              refine lv_iload_n hx hb dX6_noise_70 rfl (lv_at hl 2 rfl) ?_
              refine lv_iload hx hb dX6_noise_71 (lv_at hl 5 rfl) ?_
              refine lv_aload_n hx hb dX6_noise_73 rfl (lv_at hl 1 rfl) ?_
              refine lv_iload_n hx hb dX6_noise_74 rfl (lv_at hl 2 rfl) ?_
              refine lv_iload hx hb dX6_noise_75 (lv_at hl 5 rfl) ?_
              refine z_cS (As := [.int (iI pi_), .int (iI k)]) (rest := [.int (iI k), .int (iI pi_), .ref q, .int (iI (sumZ (fun x => bI (cl (N (7 + 128 * pi_ + x) + lx sd (x + 1) % (2 * s_ + 1) - s_) ≠ N (7 + 128 * pi_ + x))) k))]) C (m_X6_of (l := l) (g := g) (q := q) (qn := qn) (qp := qp) (qi := qi) (qk := qk) (qt := qt) (qw := qw) (qv := qv) (qr := qr) (ac := min (ac + 1) 8) (N := NV) (pi_ := pi_) (ix := k) (h1 := by omega) (h2 := by omega) (x1 := by omega)) (cwV 2 C.2.2.2.2 gX6_noise_X6_of rfl rfl rfl (by decide +kernel) ⟨Nat.le_of_ble_eq_true rfl, Nat.le_of_ble_eq_true rfl⟩) hK hP [0, 1] rfl 0 rfl rfl rfl hl.1 rfl (Nat.le_of_ble_eq_true rfl) dX6_noise_77 ⟨Nat.zero_le _, Nat.zero_le _⟩ ?_
              refine lv_lload hx hb dX6_noise_80 (lv_at hl 0 rfl) ?_
              refine z_ldc2 C (List.mem_of_getElem? (i := 5) rfl) (2) (by decide +kernel) dX6_noise_82 ?_
              refine lv_iload_n hx hb dX6_noise_85 rfl (lv_at hl 3 rfl) ?_
              refine z_i2l hx hb dX6_noise_86 (by omega) (by omega) ?_
              refine z_lmul hx hb dX6_noise_87 ?_
              refine lv_lconst (v := lI 1) hx hb dX6_noise_88 (by decide +kernel) ?_
              refine z_ladd hx hb dX6_noise_89 ?_
              refine z_lremN hx hb dX6_noise_90 (by omega) (by omega) (by omega) (by omega) ?_
              refine z_l2i hx hb dX6_noise_91 ?_
              refine z_iadd hx hb dX6_noise_92 ?_
              refine lv_iload_n hx hb dX6_noise_93 rfl (lv_at hl 3 rfl) ?_
              refine z_isub hx hb dX6_noise_94 ?_
              refine z_cE (As := [.int (iI pi_), .int (iI k), .int (iI (((NV (7 + 128 * pi_ + k)) + ((lx sd (k + 1)) % ((2 * s_) + 1))) - s_))]) (rest := [.int (iI (sumZ (fun x => bI (cl (N (7 + 128 * pi_ + x) + lx sd (x + 1) % (2 * s_ + 1) - s_) ≠ N (7 + 128 * pi_ + x))) k))]) C (m_X6_becomes (l := l) (g := g) (q := q) (qn := qn) (qp := qp) (qi := qi) (qk := qk) (qt := qt) (qw := qw) (qv := qv) (qr := qr) (ac := min (ac + 1) 8) (N := NV) (pi_ := pi_) (ix := k) (v := ((NV (7 + 128 * pi_ + k)) + ((lx sd (k + 1)) % ((2 * s_) + 1))) - s_) (h1 := by omega) (h2 := by omega) (x1 := by omega) (g_v := by rw [env]; omega) (n1 := by rw [env]; exact hnr)) (cwV 3 C.2.2.2.2 gX6_noise_X6_becomes rfl rfl rfl (by decide +kernel) ⟨Nat.le_of_ble_eq_true rfl, Nat.le_of_ble_eq_true rfl⟩) hK hP hD hS hA [0, 1] (by decide) rfl (fun _ => rfl) 0 rfl rfl rfl hl.1 rfl (Nat.le_of_ble_eq_true rfl) dX6_noise_95 ⟨Nat.zero_le _, Nat.zero_le _⟩ (fun r_9 u_7 H locs hq_8 hP hD hS => ?_)
              have hq_8 : r_9 = bI (cl (((NV (7 + 128 * pi_ + k)) + ((lx sd (k + 1)) % ((2 * s_) + 1))) - s_) ≠ NV (7 + 128 * pi_ + k)) := hq_8
              subst hq_8
              have hP : zP g [(q, .inr (6, [.ref qn, .ref qp, .int (iI (min (ac + 1) 8)), .ref qi, .ref qk, .ref qt, .ref qw, .ref qv, .ref qr])), zI g qn 647 (ups NV (7 + 128 * pi_ + k) (cl (((NV (7 + 128 * pi_ + k)) + ((lx sd (k + 1)) % ((2 * s_) + 1))) - s_))), zI g qp 5176 (ntP P N ac)] H := hP
              have hD : va_D A [(q, .inr (6, [.ref qn, .ref qp, .int (iI (min (ac + 1) 8)), .ref qi, .ref qk, .ref qt, .ref qw, .ref qv, .ref qr])), zI g qn 647 (ups NV (7 + 128 * pi_ + k) (cl (((NV (7 + 128 * pi_ + k)) + ((lx sd (k + 1)) % ((2 * s_) + 1))) - s_))), zI g qp 5176 (ntP P N ac)] := hD
              refine z_iadd hx hb dX6_noise_98 ?_
              refine lv_istore (lv' := [(6, .int (iI ((sumZ (fun x => bI (cl (N (7 + 128 * pi_ + x) + lx sd (x + 1) % (2 * s_ + 1) - s_) ≠ N (7 + 128 * pi_ + x))) k) + (bI (cl (((NV (7 + 128 * pi_ + k)) + ((lx sd (k + 1)) % ((2 * s_) + 1))) - s_) ≠ NV (7 + 128 * pi_ + k)))))), (4, .long (lI (lx sd (k + 1)))), (0, .ref q), (1, .int (iI pi_)), (2, .int (iI s_)), (7, .int (iI k))]) hx hb dX6_noise_99 hl (by decide) rfl (fun ls hl => ?_)
              refine z_iinc (b := k + 1) (lv' := [(7, .int (iI (k + 1))), (6, .int (iI ((sumZ (fun x => bI (cl (N (7 + 128 * pi_ + x) + lx sd (x + 1) % (2 * s_ + 1) - s_) ≠ N (7 + 128 * pi_ + x))) k) + (bI (cl (((NV (7 + 128 * pi_ + k)) + ((lx sd (k + 1)) % ((2 * s_) + 1))) - s_) ≠ NV (7 + 128 * pi_ + k)))))), (4, .long (lI (lx sd (k + 1)))), (0, .ref q), (1, .int (iI pi_)), (2, .int (iI s_))]) hx hb dX6_noise_101 hl (k := 5) rfl (rfl) (by decide) rfl (fun ls hl => ?_)
              refine lv_goto (tgt := 47) hx hb dX6_noise_104 (by decide) ?_
              have hP := zP_fld hP 0 rfl 2 (min (ac + 1) 8) rfl (by omega)
              have hD := zD_set (c1 := ((q, .inr (6, [.ref qn, .ref qp, .int (iI (min (ac + 1) 8)), .ref qi, .ref qk, .ref qt, .ref qw, .ref qv, .ref qr]))).2) hD 0 rfl
              have hP : zP g [(q, .inr (6, [.ref qn, .ref qp, .int (iI (min (ac + 1) 8)), .ref qi, .ref qk, .ref qt, .ref qw, .ref qv, .ref qr])), zI g qn 647 (ups NV (7 + 128 * pi_ + k) (cl (((NV (7 + 128 * pi_ + k)) + ((lx sd (k + 1)) % ((2 * s_) + 1))) - s_))), zI g qp 5176 (ntP P N ac)] H := hP
              have hD : va_D A [(q, .inr (6, [.ref qn, .ref qp, .int (iI (min (ac + 1) 8)), .ref qi, .ref qk, .ref qt, .ref qw, .ref qv, .ref qr])), zI g qn 647 (ups NV (7 + 128 * pi_ + k) (cl (((NV (7 + 128 * pi_ + k)) + ((lx sd (k + 1)) % ((2 * s_) + 1))) - s_))), zI g qp 5176 (ntP P N ac)] := hD
              have hl := lv_chg hl 1 (b := sumZ (fun x => bI (cl (N (7 + 128 * pi_ + x) + lx sd (x + 1) % (2 * s_ + 1) - s_) ≠ N (7 + 128 * pi_ + x))) (k + 1)) rfl (by rw [sumZ_s _ i1, env])
              have hl : lv_has ls 8 [(7, .int (iI (k + 1))), (6, .int (iI (sumZ (fun x => bI (cl (N (7 + 128 * pi_ + x) + lx sd (x + 1) % (2 * s_ + 1) - s_) ≠ N (7 + 128 * pi_ + x))) (k + 1)))), (4, .long (lI (lx sd (k + 1)))), (0, .ref q), (1, .int (iI pi_)), (2, .int (iI s_))] := hl
              exact ih47 (k + 1) (ups NV (7 + 128 * pi_ + k) (cl (((NV (7 + 128 * pi_ + k)) + ((lx sd (k + 1)) % ((2 * s_) + 1))) - s_))) (by omega) (by omega) (fun j => by by_cases hj : j = 7 + 128 * pi_ + k; (· rw [hj, ups_s, if_pos (by omega), show 7 + 128 * pi_ + k - (7 + 128 * pi_) + 1 = k + 1 by omega, env]); (· rw [ups_n _ _ hj, i3 j]; (repeat' split) <;> first | rfl | omega)) (by omega) H locs ls (lv_sub hl [3, 4, 5, 2, 1, 0] rfl) (hP) (hD) hS
        have hl := lv_chg hl 1 (b := sumZ (fun x => bI (cl (N (7 + 128 * pi_ + x) + lx sd (x + 1) % (2 * s_ + 1) - s_) ≠ N (7 + 128 * pi_ + x))) 0) rfl ((sumZ_0 _).symm)
        have hl : lv_has ls 8 [(7, .int (iI 0)), (6, .int (iI (sumZ (fun x => bI (cl (N (7 + 128 * pi_ + x) + lx sd (x + 1) % (2 * s_ + 1) - s_) ≠ N (7 + 128 * pi_ + x))) 0))), (4, .long (lI (lx sd 0))), (0, .ref q), (1, .int (iI pi_)), (2, .int (iI s_)), (3, .int (iI sd))] := hl
        exact L47 (129) 0 N (by omega) (by omega) (fun j => by rw [if_neg (by omega)]) (by omega) H locs ls (lv_sub hl [3, 4, 5, 2, 1, 0] rfl) (hP) (hD) hS
      · exfalso; omega
  · exfalso; omega
set_option maxHeartbeats 4000000 in
set_option maxRecDepth 100000 in
theorem m_X6_noise_n (l : Launch) (g : zG) (q qn qp qi qk qt qw qv qr : Nat) (ac : Int) (N : Int → Int) (pi_ s_ sd : Int) (zN : okN N) (g_pi_ : -2147483648 ≤ pi_ ∧ pi_ < 2147483648) (g_s_ : -2147483648 ≤ s_ ∧ s_ < 2147483648) (g_sd : -2147483648 ≤ sd ∧ sd < 2147483648) (rf : ¬ ((0 ≤ pi_ ∧ pi_ ≤ 4) ∧ (1 ≤ s_ ∧ s_ ≤ 100) ∧ (1 ≤ sd ∧ sd ≤ 999999))) : zS l yX6_noise wsX6_noise ({ frames := 2, cells := 0, slots := 0, locals := 42 }) g [.ref q, .int (iI pi_), .int (iI s_), .int (iI sd)] [(q, .inr (6, [.ref qn, .ref qp, .int (iI ac), .ref qi, .ref qk, .ref qt, .ref qw, .ref qv, .ref qr])), zI g qn 647 N] (if ¬ (0 ≤ pi_ ∧ pi_ ≤ 4) then -1000000001 else -1000000002) := by
  refine z_entS (cc := cX6_noise) (nL := 8) (ret := (some .int)) (own := RX6) (by decide) rfl rfl (Nat.le_of_ble_eq_true rfl) ?_
  intro p e s m below meth c Q ls C hlk hr hQ hP hK hl
  have hx := C.1
  have hb := C.2.1
  have hl : lv_has ls 8 [(0, .ref q), (1, .int (iI pi_)), (2, .int (iI s_)), (3, .int (iI sd))] := hl
  refine lv_iload_n hx hb dX6_noise_0 rfl (lv_at hl 1 rfl) ?_
  refine z_cSS (As := [.int (iI pi_)]) (rest := []) C (m_X6_isRow (l := l) (g := g) (v := pi_) (g_v := by omega)) (cwS 1 C.2.2.2.2 gX6_noise_X6_isRow rfl rfl rfl (by decide +kernel) ⟨Nat.le_of_ble_eq_true rfl, Nat.le_of_ble_eq_true rfl⟩) hK hP [] rfl rfl hl.1 rfl (Nat.le_of_ble_eq_true rfl) dX6_noise_1 ⟨Nat.zero_le _, Nat.zero_le _⟩ ?_
  refine z_ifb_ne (tgt := 10) hx hb dX6_noise_4 (by decide) (fun c1 => ?_) (fun c1 => ?_)
  · refine lv_iload_n hx hb dX6_noise_10 rfl (lv_at hl 2 rfl) ?_
    refine lv_iconst (v := iI 1) hx hb dX6_noise_11 rfl ?_
    refine lv_bipush (v := iI 100) hx hb dX6_noise_12 (by decide +kernel) ?_
    refine z_cSS (As := [.int (iI s_), .int (iI 1), .int (iI 100)]) (rest := []) C (m_X6_in (l := l) (g := g) (v := s_) (lo := 1) (hi := 100) (g_v := by omega) (g_lo := by omega) (g_hi := by omega)) (cwS 3 C.2.2.2.2 gX6_noise_X6_in rfl rfl rfl (by decide +kernel) ⟨Nat.le_of_ble_eq_true rfl, Nat.le_of_ble_eq_true rfl⟩) hK hP [] rfl rfl hl.1 rfl (Nat.le_of_ble_eq_true rfl) dX6_noise_14 ⟨Nat.zero_le _, Nat.zero_le _⟩ ?_
    refine z_ifb_eq (tgt := 30) hx hb dX6_noise_17 (by decide) (fun c_1 => ?_) (fun c_1 => ?_)
    · refine z_ldc C (List.mem_of_getElem? (i := 3) rfl) (-1000000002) (by decide +kernel) dX6_noise_30 ?_
      exact z_retS hx hb hlk hr hQ dX6_noise_32 ((if_neg (fun z => z c1)).symm)
    · refine lv_iload_n hx hb dX6_noise_20 rfl (lv_at hl 3 rfl) ?_
      refine lv_iconst (v := iI 1) hx hb dX6_noise_21 rfl ?_
      refine z_ldc C (List.mem_of_getElem? (i := 2) rfl) (999999) (by decide +kernel) dX6_noise_22 ?_
      refine z_cSS (As := [.int (iI sd), .int (iI 1), .int (iI 999999)]) (rest := []) C (m_X6_in (l := l) (g := g) (v := sd) (lo := 1) (hi := 999999) (g_v := by omega) (g_lo := by omega) (g_hi := by omega)) (cwS 3 C.2.2.2.2 gX6_noise_X6_in rfl rfl rfl (by decide +kernel) ⟨Nat.le_of_ble_eq_true rfl, Nat.le_of_ble_eq_true rfl⟩) hK hP [] rfl rfl hl.1 rfl (Nat.le_of_ble_eq_true rfl) dX6_noise_24 ⟨Nat.zero_le _, Nat.zero_le _⟩ ?_
      refine z_ifb_ne (tgt := 33) hx hb dX6_noise_27 (by decide) (fun c_2 => ?_) (fun c_2 => ?_)
      · exfalso; omega
      · refine z_ldc C (List.mem_of_getElem? (i := 3) rfl) (-1000000002) (by decide +kernel) dX6_noise_30 ?_
        exact z_retS hx hb hlk hr hQ dX6_noise_32 ((if_neg (fun z => z c1)).symm)
  · refine z_ldc C (List.mem_of_getElem? (i := 1) rfl) (-1000000001) (by decide +kernel) dX6_noise_7 ?_
    exact z_retS hx hb hlk hr hQ dX6_noise_9 ((if_pos c1).symm)
set_option maxRecDepth 20000 in
theorem in_m_X6_louder_X6 : ∀ w ∈ u_ws RX6 TX6 9, w ∈ wsX6_louder := zmem_of _ [32, 33, 34, 35, 36, 37, 38, 39, 40] (by decide +kernel)
set_option maxHeartbeats 4000000 in
set_option maxRecDepth 100000 in
theorem m_X6_louder (l : Launch) (g : zG) (q qn qp qi qk qt qw qv qr : Nat) (ac : Int) (N P : Int → Int) (pi_ a_ b_ : Int) (ac1 : 0 ≤ ac ∧ ac ≤ 8) (zN : okN N) (b1 : (0 ≤ pi_ ∧ pi_ ≤ 4) ∧ (1 ≤ a_ ∧ a_ ≤ 9) ∧ (1 ≤ b_ ∧ b_ ≤ 9)) : zE l yX6_louder wsX6_louder ({ frames := 2, cells := 0, slots := 0, locals := 47 }) g [.ref q, .int (iI pi_), .int (iI a_), .int (iI b_)] [(q, .inr (6, [.ref qn, .ref qp, .int (iI ac), .ref qi, .ref qk, .ref qt, .ref qw, .ref qv, .ref qr])), zI g qn 647 N, zI g qp 5176 P] (S := Unit) (fun r _ => r = sumZ (fun x => bI (cl (zdiv (N (7 + 128 * pi_ + x) * a_) b_) ≠ N (7 + 128 * pi_ + x))) (N (2 + pi_))) (fun _ => [(q, .inr (6, [.ref qn, .ref qp, .int (iI (min (ac + 1) 8)), .ref qi, .ref qk, .ref qt, .ref qw, .ref qv, .ref qr])), zI g qn 647 (sp_loud N pi_ a_ b_), zI g qp 5176 (ntP P N ac)]) := by
  refine z_entE (cc := cX6_louder) (nL := 6) (ret := (some .int)) (own := RX6) (by decide) rfl rfl (Nat.le_of_ble_eq_true rfl) ?_
  intro p e s m below meth c Q ls A C hlk hr hQ hP hK hD hA hS hl
  have hx := C.1
  have hb := C.2.1
  have hl : lv_has ls 6 [(0, .ref q), (1, .int (iI pi_)), (2, .int (iI a_)), (3, .int (iI b_))] := hl
  obtain ⟨H, hHe⟩ : ∃ H, H = s.heap := ⟨_, rfl⟩
  obtain ⟨locs, hLe⟩ : ∃ q : List Loc, q = [] := ⟨_, rfl⟩
  have hP : zP g [(q, .inr (6, [.ref qn, .ref qp, .int (iI ac), .ref qi, .ref qk, .ref qt, .ref qw, .ref qv, .ref qr])), zI g qn 647 N, zI g qp 5176 P] H := by rw [hHe]; exact hP
  have hS : va_S A s.heap H locs := by rw [hHe, hLe]; exact hS
  suffices hgo : W p l e ({ frames := 2, cells := 0, slots := 0, locals := 47 }) s m ([.ref q, .int (iI pi_), .int (iI a_), .int (iI b_)] : List Value).toArray below meth c H locs 0 0 Q (F0 m 0 ls []) by rw [hHe, hLe] at hgo; exact hgo
  clear hHe hLe
  refine lv_iload_n hx hb dX6_louder_0 rfl (lv_at hl 1 rfl) ?_
  refine z_cSS (As := [.int (iI pi_)]) (rest := []) C (m_X6_isRow (l := l) (g := g) (v := pi_) (g_v := by omega)) (cwS 1 C.2.2.2.2 gX6_louder_X6_isRow rfl rfl rfl (by decide +kernel) ⟨Nat.le_of_ble_eq_true rfl, Nat.le_of_ble_eq_true rfl⟩) hK hP [] rfl rfl hl.1 rfl (Nat.le_of_ble_eq_true rfl) dX6_louder_1 ⟨Nat.zero_le _, Nat.zero_le _⟩ ?_
  refine z_ifb_ne (tgt := 10) hx hb dX6_louder_4 (by decide) (fun c_1 => ?_) (fun c_1 => ?_)
  · refine lv_iload_n hx hb dX6_louder_10 rfl (lv_at hl 2 rfl) ?_
    refine lv_iconst (v := iI 1) hx hb dX6_louder_11 rfl ?_
    refine lv_bipush (v := iI 9) hx hb dX6_louder_12 (by decide +kernel) ?_
    refine z_cSS (As := [.int (iI a_), .int (iI 1), .int (iI 9)]) (rest := []) C (m_X6_in (l := l) (g := g) (v := a_) (lo := 1) (hi := 9) (g_v := by omega) (g_lo := by omega) (g_hi := by omega)) (cwS 3 C.2.2.2.2 gX6_louder_X6_in rfl rfl rfl (by decide +kernel) ⟨Nat.le_of_ble_eq_true rfl, Nat.le_of_ble_eq_true rfl⟩) hK hP [] rfl rfl hl.1 rfl (Nat.le_of_ble_eq_true rfl) dX6_louder_14 ⟨Nat.zero_le _, Nat.zero_le _⟩ ?_
    refine z_ifb_eq (tgt := 30) hx hb dX6_louder_17 (by decide) (fun c_2 => ?_) (fun c_2 => ?_)
    · exfalso; omega
    · refine lv_iload_n hx hb dX6_louder_20 rfl (lv_at hl 3 rfl) ?_
      refine lv_iconst (v := iI 1) hx hb dX6_louder_21 rfl ?_
      refine lv_bipush (v := iI 9) hx hb dX6_louder_22 (by decide +kernel) ?_
      refine z_cSS (As := [.int (iI b_), .int (iI 1), .int (iI 9)]) (rest := []) C (m_X6_in (l := l) (g := g) (v := b_) (lo := 1) (hi := 9) (g_v := by omega) (g_lo := by omega) (g_hi := by omega)) (cwS 3 C.2.2.2.2 gX6_louder_X6_in rfl rfl rfl (by decide +kernel) ⟨Nat.le_of_ble_eq_true rfl, Nat.le_of_ble_eq_true rfl⟩) hK hP [] rfl rfl hl.1 rfl (Nat.le_of_ble_eq_true rfl) dX6_louder_24 ⟨Nat.zero_le _, Nat.zero_le _⟩ ?_
      refine z_ifb_ne (tgt := 33) hx hb dX6_louder_27 (by decide) (fun c_3 => ?_) (fun c_3 => ?_)
      · have hz1 := zN.2.2.1 pi_ (by omega) (by omega)
        refine lv_aload_n hx hb dX6_louder_33 rfl (lv_at hl 0 rfl) ?_
        refine z_cV (As := []) (rest := []) C (m_X6_notes (l := l) (g := g) (q := q) (qn := qn) (qp := qp) (qi := qi) (qk := qk) (qt := qt) (qw := qw) (qv := qv) (qr := qr) (ac := ac) (N := N) (P := P) (a1 := by omega)) (cwV 0 C.2.2.2.2 gX6_louder_X6_notes rfl rfl rfl (by decide +kernel) ⟨Nat.le_of_ble_eq_true rfl, Nat.le_of_ble_eq_true rfl⟩) hK hP hD hS hA [0, 1, 2] (by decide) rfl (fun _ => rfl) 0 rfl rfl rfl hl.1 rfl (Nat.le_of_ble_eq_true rfl) dX6_louder_34 ⟨Nat.zero_le _, Nat.zero_le _⟩ (fun u_4 H locs hq_5 hP hD hS => ?_)
        have hP : zP g [(q, .inr (6, [.ref qn, .ref qp, .int (iI (min (ac + 1) 8)), .ref qi, .ref qk, .ref qt, .ref qw, .ref qv, .ref qr])), zI g qn 647 N, zI g qp 5176 (ntP P N ac)] H := hP
        have hD : va_D A [(q, .inr (6, [.ref qn, .ref qp, .int (iI (min (ac + 1) 8)), .ref qi, .ref qk, .ref qt, .ref qw, .ref qv, .ref qr])), zI g qn 647 N, zI g qp 5176 (ntP P N ac)] := hD
        refine lv_iconst (v := iI 0) hx hb dX6_louder_37 rfl ?_
        refine lv_istore (lv' := [(4, .int (iI 0)), (0, .ref q), (1, .int (iI pi_)), (2, .int (iI a_)), (3, .int (iI b_))]) hx hb dX6_louder_38 hl (by decide) rfl (fun ls hl => ?_)
        refine lv_iconst (v := iI 0) hx hb dX6_louder_40 rfl ?_
        refine lv_istore (lv' := [(5, .int (iI 0)), (4, .int (iI 0)), (0, .ref q), (1, .int (iI pi_)), (2, .int (iI a_)), (3, .int (iI b_))]) hx hb dX6_louder_41 hl (by decide) rfl (fun ls hl => ?_)
        have L43 : ∀ (n : Nat) (k : Int) (NV : Int → Int), (i1 : 0 ≤ k) → (i2 : k ≤ N (2 + pi_)) → (i3 : ∀ j, NV j = if 7 + 128 * pi_ ≤ j ∧ j < 7 + 128 * pi_ + k then cl (zdiv (N j * a_) b_) else N j) → (hms : N (2 + pi_) - k < (n : Int)) → ∀ (H : Heap) (locs : List Loc) (ls : Array Slot), lv_has ls 6 [(0, .ref q), (1, .int (iI pi_)), (2, .int (iI a_)), (3, .int (iI b_)), (4, .int (iI (sumZ (fun x => bI (cl (zdiv (N (7 + 128 * pi_ + x) * a_) b_) ≠ N (7 + 128 * pi_ + x))) k))), (5, .int (iI k))] → zP g [(q, .inr (6, [.ref qn, .ref qp, .int (iI (min (ac + 1) 8)), .ref qi, .ref qk, .ref qt, .ref qw, .ref qv, .ref qr])), zI g qn 647 NV, zI g qp 5176 (ntP P N ac)] H → va_D A [(q, .inr (6, [.ref qn, .ref qp, .int (iI (min (ac + 1) 8)), .ref qi, .ref qk, .ref qt, .ref qw, .ref qv, .ref qr])), zI g qn 647 NV, zI g qp 5176 (ntP P N ac)] → va_S A s.heap H locs → W p l e ({ frames := 2, cells := 0, slots := 0, locals := 47 }) s m ([.ref q, .int (iI pi_), .int (iI a_), .int (iI b_)] : List Value).toArray below meth c H locs 0 0 Q (F0 m 43 ls []) := by
          clear hP hD hS hl
          intro n
          induction n with
          | zero =>
            intro k NV i1 i2 i3 hms H locs ls hl hP hD hS
            exfalso; omega
          | succ n ih43 =>
            intro k NV i1 i2 i3 hms H locs ls hl hP hD hS
            have ens : NV (2 + pi_) = N (2 + pi_) := by rw [i3, if_neg (by omega)]
            refine lv_iload hx hb dX6_louder_43 (lv_at hl 5 rfl) ?_
            refine lv_aload_n hx hb dX6_louder_45 rfl (lv_at hl 0 rfl) ?_
            refine z_get (v := .ref qn) (Cn := RX6) (T := TX6) (N := 9) (ci := 6) C in_m_X6_louder_X6 hK hP 0 rfl rfl 0 (by decide) (List.mem_of_getElem? (i := 3) rfl) rfl dX6_louder_46 ?_
            refine lv_iconst (v := iI 2) hx hb dX6_louder_49 rfl ?_
            refine lv_iload_n hx hb dX6_louder_50 rfl (lv_at hl 1 rfl) ?_
            refine z_iadd hx hb dX6_louder_51 ?_
            refine z_iald hx hb hK hP 1 rfl (by omega) (by omega) (Nat.le_of_ble_eq_true rfl) dX6_louder_52 ?_
            refine z_top (b := N (2 + pi_)) (ens) ?_
            refine z_icmp_ge (tgt := 85) hx hb dX6_louder_53 (by decide) (by omega) (by omega) (fun c_6 => ?_) (fun c_6 => ?_)
            · have hP := zP_arr hP 1 (sp_loud N pi_ a_ b_) rfl (fun j g1 g2 => by simp only [sp_loud]; rw [i3 j, show k = N (2 + pi_) by omega])
              have hD := zD_set (c1 := (zI g qn 647 (sp_loud N pi_ a_ b_)).2) hD 1 rfl
              have hP : zP g [(q, .inr (6, [.ref qn, .ref qp, .int (iI (min (ac + 1) 8)), .ref qi, .ref qk, .ref qt, .ref qw, .ref qv, .ref qr])), zI g qn 647 (sp_loud N pi_ a_ b_), zI g qp 5176 (ntP P N ac)] H := hP
              have hD : va_D A [(q, .inr (6, [.ref qn, .ref qp, .int (iI (min (ac + 1) 8)), .ref qi, .ref qk, .ref qt, .ref qw, .ref qv, .ref qr])), zI g qn 647 (sp_loud N pi_ a_ b_), zI g qp 5176 (ntP P N ac)] := hD
              refine lv_iload hx hb dX6_louder_85 (lv_at hl 4 rfl) ?_
              exact z_retE hx hb hlk hr hQ dX6_louder_87 hS () (by rw [show k = N (2 + pi_) by omega]) (hP)
            · have env : NV (7 + 128 * pi_ + k) = N (7 + 128 * pi_ + k) := by rw [i3, if_neg (by omega)]
              have hnr := zN.2.2.2 (7 + 128 * pi_ + k) (by omega) (by omega)
              refine lv_iload hx hb dX6_louder_56 (lv_at hl 4 rfl) ?_
              refine lv_aload_n hx hb dX6_louder_58 rfl (lv_at hl 0 rfl) ?_
              refine lv_iload_n hx hb dX6_louder_59 rfl (lv_at hl 1 rfl) ?_
              refine lv_iload hx hb dX6_louder_60 (lv_at hl 5 rfl) ?_
              refine lv_aload_n hx hb dX6_louder_62 rfl (lv_at hl 0 rfl) ?_
              refine lv_iload_n hx hb dX6_louder_63 rfl (lv_at hl 1 rfl) ?_
              refine lv_iload hx hb dX6_louder_64 (lv_at hl 5 rfl) ?_
              refine z_cS (As := [.int (iI pi_), .int (iI k)]) (rest := [.int (iI k), .int (iI pi_), .ref q, .int (iI (sumZ (fun x => bI (cl (zdiv (N (7 + 128 * pi_ + x) * a_) b_) ≠ N (7 + 128 * pi_ + x))) k))]) C (m_X6_of (l := l) (g := g) (q := q) (qn := qn) (qp := qp) (qi := qi) (qk := qk) (qt := qt) (qw := qw) (qv := qv) (qr := qr) (ac := min (ac + 1) 8) (N := NV) (pi_ := pi_) (ix := k) (h1 := by omega) (h2 := by omega) (x1 := by omega)) (cwV 2 C.2.2.2.2 gX6_louder_X6_of rfl rfl rfl (by decide +kernel) ⟨Nat.le_of_ble_eq_true rfl, Nat.le_of_ble_eq_true rfl⟩) hK hP [0, 1] rfl 0 rfl rfl rfl hl.1 rfl (Nat.le_of_ble_eq_true rfl) dX6_louder_66 ⟨Nat.zero_le _, Nat.zero_le _⟩ ?_
              refine lv_iload_n hx hb dX6_louder_69 rfl (lv_at hl 2 rfl) ?_
              refine z_imul hx hb dX6_louder_70 ?_
              refine lv_iload_n hx hb dX6_louder_71 rfl (lv_at hl 3 rfl) ?_
              refine z_idiv hx hb dX6_louder_72 (by omega) (by omega) ?_
              refine z_cE (As := [.int (iI pi_), .int (iI k), .int (iI (zdiv ((NV (7 + 128 * pi_ + k)) * a_) b_))]) (rest := [.int (iI (sumZ (fun x => bI (cl (zdiv (N (7 + 128 * pi_ + x) * a_) b_) ≠ N (7 + 128 * pi_ + x))) k))]) C (m_X6_becomes (l := l) (g := g) (q := q) (qn := qn) (qp := qp) (qi := qi) (qk := qk) (qt := qt) (qw := qw) (qv := qv) (qr := qr) (ac := min (ac + 1) 8) (N := NV) (pi_ := pi_) (ix := k) (v := zdiv ((NV (7 + 128 * pi_ + k)) * a_) b_) (h1 := by omega) (h2 := by omega) (x1 := by omega) (g_v := zdiv_rg _ _) (n1 := by rw [env]; exact hnr)) (cwV 3 C.2.2.2.2 gX6_louder_X6_becomes rfl rfl rfl (by decide +kernel) ⟨Nat.le_of_ble_eq_true rfl, Nat.le_of_ble_eq_true rfl⟩) hK hP hD hS hA [0, 1] (by decide) rfl (fun _ => rfl) 0 rfl rfl rfl hl.1 rfl (Nat.le_of_ble_eq_true rfl) dX6_louder_73 ⟨Nat.zero_le _, Nat.zero_le _⟩ (fun r_9 u_7 H locs hq_8 hP hD hS => ?_)
              have hq_8 : r_9 = bI (cl (zdiv ((NV (7 + 128 * pi_ + k)) * a_) b_) ≠ NV (7 + 128 * pi_ + k)) := hq_8
              subst hq_8
              have hP : zP g [(q, .inr (6, [.ref qn, .ref qp, .int (iI (min (ac + 1) 8)), .ref qi, .ref qk, .ref qt, .ref qw, .ref qv, .ref qr])), zI g qn 647 (ups NV (7 + 128 * pi_ + k) (cl (zdiv ((NV (7 + 128 * pi_ + k)) * a_) b_))), zI g qp 5176 (ntP P N ac)] H := hP
              have hD : va_D A [(q, .inr (6, [.ref qn, .ref qp, .int (iI (min (ac + 1) 8)), .ref qi, .ref qk, .ref qt, .ref qw, .ref qv, .ref qr])), zI g qn 647 (ups NV (7 + 128 * pi_ + k) (cl (zdiv ((NV (7 + 128 * pi_ + k)) * a_) b_))), zI g qp 5176 (ntP P N ac)] := hD
              refine z_iadd hx hb dX6_louder_76 ?_
              refine lv_istore (lv' := [(4, .int (iI ((sumZ (fun x => bI (cl (zdiv (N (7 + 128 * pi_ + x) * a_) b_) ≠ N (7 + 128 * pi_ + x))) k) + (bI (cl (zdiv ((NV (7 + 128 * pi_ + k)) * a_) b_) ≠ NV (7 + 128 * pi_ + k)))))), (0, .ref q), (1, .int (iI pi_)), (2, .int (iI a_)), (3, .int (iI b_)), (5, .int (iI k))]) hx hb dX6_louder_77 hl (by decide) rfl (fun ls hl => ?_)
              refine z_iinc (b := k + 1) (lv' := [(5, .int (iI (k + 1))), (4, .int (iI ((sumZ (fun x => bI (cl (zdiv (N (7 + 128 * pi_ + x) * a_) b_) ≠ N (7 + 128 * pi_ + x))) k) + (bI (cl (zdiv ((NV (7 + 128 * pi_ + k)) * a_) b_) ≠ NV (7 + 128 * pi_ + k)))))), (0, .ref q), (1, .int (iI pi_)), (2, .int (iI a_)), (3, .int (iI b_))]) hx hb dX6_louder_79 hl (k := 5) rfl (rfl) (by decide) rfl (fun ls hl => ?_)
              refine lv_goto (tgt := 43) hx hb dX6_louder_82 (by decide) ?_
              have hP := zP_fld hP 0 rfl 2 (min (ac + 1) 8) rfl (by omega)
              have hD := zD_set (c1 := ((q, .inr (6, [.ref qn, .ref qp, .int (iI (min (ac + 1) 8)), .ref qi, .ref qk, .ref qt, .ref qw, .ref qv, .ref qr]))).2) hD 0 rfl
              have hP : zP g [(q, .inr (6, [.ref qn, .ref qp, .int (iI (min (ac + 1) 8)), .ref qi, .ref qk, .ref qt, .ref qw, .ref qv, .ref qr])), zI g qn 647 (ups NV (7 + 128 * pi_ + k) (cl (zdiv ((NV (7 + 128 * pi_ + k)) * a_) b_))), zI g qp 5176 (ntP P N ac)] H := hP
              have hD : va_D A [(q, .inr (6, [.ref qn, .ref qp, .int (iI (min (ac + 1) 8)), .ref qi, .ref qk, .ref qt, .ref qw, .ref qv, .ref qr])), zI g qn 647 (ups NV (7 + 128 * pi_ + k) (cl (zdiv ((NV (7 + 128 * pi_ + k)) * a_) b_))), zI g qp 5176 (ntP P N ac)] := hD
              have hl := lv_chg hl 1 (b := sumZ (fun x => bI (cl (zdiv (N (7 + 128 * pi_ + x) * a_) b_) ≠ N (7 + 128 * pi_ + x))) (k + 1)) rfl (by rw [sumZ_s _ i1, env])
              have hl : lv_has ls 6 [(5, .int (iI (k + 1))), (4, .int (iI (sumZ (fun x => bI (cl (zdiv (N (7 + 128 * pi_ + x) * a_) b_) ≠ N (7 + 128 * pi_ + x))) (k + 1)))), (0, .ref q), (1, .int (iI pi_)), (2, .int (iI a_)), (3, .int (iI b_))] := hl
              exact ih43 (k + 1) (ups NV (7 + 128 * pi_ + k) (cl (zdiv ((NV (7 + 128 * pi_ + k)) * a_) b_))) (by omega) (by omega) (fun j => by by_cases hj : j = 7 + 128 * pi_ + k; (· rw [hj, ups_s, if_pos (by omega), env]); (· rw [ups_n _ _ hj, i3 j]; (repeat' split) <;> first | rfl | omega)) (by omega) H locs ls (lv_sub hl [2, 3, 4, 5, 1, 0] rfl) (hP) (hD) hS
        have hl := lv_chg hl 1 (b := sumZ (fun x => bI (cl (zdiv (N (7 + 128 * pi_ + x) * a_) b_) ≠ N (7 + 128 * pi_ + x))) 0) rfl ((sumZ_0 _).symm)
        have hl : lv_has ls 6 [(5, .int (iI 0)), (4, .int (iI (sumZ (fun x => bI (cl (zdiv (N (7 + 128 * pi_ + x) * a_) b_) ≠ N (7 + 128 * pi_ + x))) 0))), (0, .ref q), (1, .int (iI pi_)), (2, .int (iI a_)), (3, .int (iI b_))] := hl
        exact L43 (129) 0 N (by omega) (by omega) (fun j => by rw [if_neg (by omega)]) (by omega) H locs ls (lv_sub hl [2, 3, 4, 5, 1, 0] rfl) (hP) (hD) hS
      · exfalso; omega
  · exfalso; omega
set_option maxHeartbeats 4000000 in
set_option maxRecDepth 100000 in
theorem m_X6_louder_n (l : Launch) (g : zG) (q qn qp qi qk qt qw qv qr : Nat) (ac : Int) (N : Int → Int) (pi_ a_ b_ : Int) (zN : okN N) (g_pi_ : -2147483648 ≤ pi_ ∧ pi_ < 2147483648) (g_a_ : -2147483648 ≤ a_ ∧ a_ < 2147483648) (g_b_ : -2147483648 ≤ b_ ∧ b_ < 2147483648) (rf : ¬ ((0 ≤ pi_ ∧ pi_ ≤ 4) ∧ (1 ≤ a_ ∧ a_ ≤ 9) ∧ (1 ≤ b_ ∧ b_ ≤ 9))) : zS l yX6_louder wsX6_louder ({ frames := 2, cells := 0, slots := 0, locals := 42 }) g [.ref q, .int (iI pi_), .int (iI a_), .int (iI b_)] [(q, .inr (6, [.ref qn, .ref qp, .int (iI ac), .ref qi, .ref qk, .ref qt, .ref qw, .ref qv, .ref qr])), zI g qn 647 N] (if ¬ (0 ≤ pi_ ∧ pi_ ≤ 4) then -1000000001 else -1000000002) := by
  refine z_entS (cc := cX6_louder) (nL := 6) (ret := (some .int)) (own := RX6) (by decide) rfl rfl (Nat.le_of_ble_eq_true rfl) ?_
  intro p e s m below meth c Q ls C hlk hr hQ hP hK hl
  have hx := C.1
  have hb := C.2.1
  have hl : lv_has ls 6 [(0, .ref q), (1, .int (iI pi_)), (2, .int (iI a_)), (3, .int (iI b_))] := hl
  refine lv_iload_n hx hb dX6_louder_0 rfl (lv_at hl 1 rfl) ?_
  refine z_cSS (As := [.int (iI pi_)]) (rest := []) C (m_X6_isRow (l := l) (g := g) (v := pi_) (g_v := by omega)) (cwS 1 C.2.2.2.2 gX6_louder_X6_isRow rfl rfl rfl (by decide +kernel) ⟨Nat.le_of_ble_eq_true rfl, Nat.le_of_ble_eq_true rfl⟩) hK hP [] rfl rfl hl.1 rfl (Nat.le_of_ble_eq_true rfl) dX6_louder_1 ⟨Nat.zero_le _, Nat.zero_le _⟩ ?_
  refine z_ifb_ne (tgt := 10) hx hb dX6_louder_4 (by decide) (fun c1 => ?_) (fun c1 => ?_)
  · refine lv_iload_n hx hb dX6_louder_10 rfl (lv_at hl 2 rfl) ?_
    refine lv_iconst (v := iI 1) hx hb dX6_louder_11 rfl ?_
    refine lv_bipush (v := iI 9) hx hb dX6_louder_12 (by decide +kernel) ?_
    refine z_cSS (As := [.int (iI a_), .int (iI 1), .int (iI 9)]) (rest := []) C (m_X6_in (l := l) (g := g) (v := a_) (lo := 1) (hi := 9) (g_v := by omega) (g_lo := by omega) (g_hi := by omega)) (cwS 3 C.2.2.2.2 gX6_louder_X6_in rfl rfl rfl (by decide +kernel) ⟨Nat.le_of_ble_eq_true rfl, Nat.le_of_ble_eq_true rfl⟩) hK hP [] rfl rfl hl.1 rfl (Nat.le_of_ble_eq_true rfl) dX6_louder_14 ⟨Nat.zero_le _, Nat.zero_le _⟩ ?_
    refine z_ifb_eq (tgt := 30) hx hb dX6_louder_17 (by decide) (fun c_1 => ?_) (fun c_1 => ?_)
    · refine z_ldc C (List.mem_of_getElem? (i := 2) rfl) (-1000000002) (by decide +kernel) dX6_louder_30 ?_
      exact z_retS hx hb hlk hr hQ dX6_louder_32 ((if_neg (fun z => z c1)).symm)
    · refine lv_iload_n hx hb dX6_louder_20 rfl (lv_at hl 3 rfl) ?_
      refine lv_iconst (v := iI 1) hx hb dX6_louder_21 rfl ?_
      refine lv_bipush (v := iI 9) hx hb dX6_louder_22 (by decide +kernel) ?_
      refine z_cSS (As := [.int (iI b_), .int (iI 1), .int (iI 9)]) (rest := []) C (m_X6_in (l := l) (g := g) (v := b_) (lo := 1) (hi := 9) (g_v := by omega) (g_lo := by omega) (g_hi := by omega)) (cwS 3 C.2.2.2.2 gX6_louder_X6_in rfl rfl rfl (by decide +kernel) ⟨Nat.le_of_ble_eq_true rfl, Nat.le_of_ble_eq_true rfl⟩) hK hP [] rfl rfl hl.1 rfl (Nat.le_of_ble_eq_true rfl) dX6_louder_24 ⟨Nat.zero_le _, Nat.zero_le _⟩ ?_
      refine z_ifb_ne (tgt := 33) hx hb dX6_louder_27 (by decide) (fun c_2 => ?_) (fun c_2 => ?_)
      · exfalso; omega
      · refine z_ldc C (List.mem_of_getElem? (i := 2) rfl) (-1000000002) (by decide +kernel) dX6_louder_30 ?_
        exact z_retS hx hb hlk hr hQ dX6_louder_32 ((if_neg (fun z => z c1)).symm)
  · refine z_ldc C (List.mem_of_getElem? (i := 1) rfl) (-1000000001) (by decide +kernel) dX6_louder_7 ?_
    exact z_retS hx hb hlk hr hQ dX6_louder_9 ((if_pos c1).symm)
set_option maxRecDepth 20000 in
theorem in_m_X6_hear_X6 : ∀ w ∈ u_ws RX6 TX6 9, w ∈ wsX6_hear := zmem_of _ [23, 24, 25, 26, 27, 28, 29, 30, 31] (by decide +kernel)
set_option maxHeartbeats 4000000 in
set_option maxRecDepth 100000 in
theorem m_X6_hear (l : Launch) (g : zG) (q qn qp qi qk qt qw qv qr : Nat) (ac : Int) (N P : Int → Int) (pi_ f_ n_ : Int) (ac1 : 0 ≤ ac ∧ ac ≤ 8) (zN : okN N) (b1 : (0 ≤ pi_ ∧ pi_ ≤ 3) ∧ (0 ≤ f_ ∧ f_ ≤ 127) ∧ (1 ≤ n_ ∧ n_ ≤ 128) ∧ f_ < N (2 + pi_)) : zE l yX6_hear wsX6_hear ({ frames := 1, cells := 0, slots := 0, locals := 23 }) g [.ref q, .int (iI pi_), .int (iI f_), .int (iI n_)] [(q, .inr (6, [.ref qn, .ref qp, .int (iI ac), .ref qi, .ref qk, .ref qt, .ref qw, .ref qv, .ref qr])), zI g qn 647 N, zI g qp 5176 P] (S := Unit) (fun r _ => r = min n_ (N (2 + pi_) - f_)) (fun _ => [(q, .inr (6, [.ref qn, .ref qp, .int (iI (min (ac + 1) 8)), .ref qi, .ref qk, .ref qt, .ref qw, .ref qv, .ref qr])), zI g qn 647 (sp_hear N pi_ f_ (min n_ (N (2 + pi_) - f_))), zI g qp 5176 (ntP P N ac)]) := by
  refine z_entE (cc := cX6_hear) (nL := 7) (ret := (some .int)) (own := RX6) (by decide) rfl rfl (Nat.le_of_ble_eq_true rfl) ?_
  intro p e s m below meth c Q ls A C hlk hr hQ hP hK hD hA hS hl
  have hx := C.1
  have hb := C.2.1
  have hl : lv_has ls 7 [(0, .ref q), (1, .int (iI pi_)), (2, .int (iI f_)), (3, .int (iI n_))] := hl
  obtain ⟨H, hHe⟩ : ∃ H, H = s.heap := ⟨_, rfl⟩
  obtain ⟨locs, hLe⟩ : ∃ q : List Loc, q = [] := ⟨_, rfl⟩
  have hP : zP g [(q, .inr (6, [.ref qn, .ref qp, .int (iI ac), .ref qi, .ref qk, .ref qt, .ref qw, .ref qv, .ref qr])), zI g qn 647 N, zI g qp 5176 P] H := by rw [hHe]; exact hP
  have hS : va_S A s.heap H locs := by rw [hHe, hLe]; exact hS
  suffices hgo : W p l e ({ frames := 1, cells := 0, slots := 0, locals := 23 }) s m ([.ref q, .int (iI pi_), .int (iI f_), .int (iI n_)] : List Value).toArray below meth c H locs 0 0 Q (F0 m 0 ls []) by rw [hHe, hLe] at hgo; exact hgo
  clear hHe hLe
  refine lv_iload_n hx hb dX6_hear_0 rfl (lv_at hl 1 rfl) ?_
  refine lv_iconst (v := iI 0) hx hb dX6_hear_1 rfl ?_
  refine lv_iconst (v := iI 3) hx hb dX6_hear_2 rfl ?_
  refine z_cSS (As := [.int (iI pi_), .int (iI 0), .int (iI 3)]) (rest := []) C (m_X6_in (l := l) (g := g) (v := pi_) (lo := 0) (hi := 3) (g_v := by omega) (g_lo := by omega) (g_hi := by omega)) (cwS 3 C.2.2.2.2 gX6_hear_X6_in rfl rfl rfl (by decide +kernel) ⟨Nat.le_of_ble_eq_true rfl, Nat.le_of_ble_eq_true rfl⟩) hK hP [] rfl rfl hl.1 rfl (Nat.le_of_ble_eq_true rfl) dX6_hear_3 ⟨Nat.zero_le _, Nat.zero_le _⟩ ?_
  refine z_ifb_ne (tgt := 12) hx hb dX6_hear_6 (by decide) (fun c_1 => ?_) (fun c_1 => ?_)
  · refine lv_iload_n hx hb dX6_hear_12 rfl (lv_at hl 2 rfl) ?_
    refine lv_iconst (v := iI 0) hx hb dX6_hear_13 rfl ?_
    refine lv_bipush (v := iI 127) hx hb dX6_hear_14 (by decide +kernel) ?_
    refine z_cSS (As := [.int (iI f_), .int (iI 0), .int (iI 127)]) (rest := []) C (m_X6_in (l := l) (g := g) (v := f_) (lo := 0) (hi := 127) (g_v := by omega) (g_lo := by omega) (g_hi := by omega)) (cwS 3 C.2.2.2.2 gX6_hear_X6_in rfl rfl rfl (by decide +kernel) ⟨Nat.le_of_ble_eq_true rfl, Nat.le_of_ble_eq_true rfl⟩) hK hP [] rfl rfl hl.1 rfl (Nat.le_of_ble_eq_true rfl) dX6_hear_16 ⟨Nat.zero_le _, Nat.zero_le _⟩ ?_
    refine z_ifb_eq (tgt := 33) hx hb dX6_hear_19 (by decide) (fun c_2 => ?_) (fun c_2 => ?_)
    · exfalso; omega
    · refine lv_iload_n hx hb dX6_hear_22 rfl (lv_at hl 3 rfl) ?_
      refine lv_iconst (v := iI 1) hx hb dX6_hear_23 rfl ?_
      refine lv_sipush (v := iI 128) hx hb dX6_hear_24 (by decide +kernel) ?_
      refine z_cSS (As := [.int (iI n_), .int (iI 1), .int (iI 128)]) (rest := []) C (m_X6_in (l := l) (g := g) (v := n_) (lo := 1) (hi := 128) (g_v := by omega) (g_lo := by omega) (g_hi := by omega)) (cwS 3 C.2.2.2.2 gX6_hear_X6_in rfl rfl rfl (by decide +kernel) ⟨Nat.le_of_ble_eq_true rfl, Nat.le_of_ble_eq_true rfl⟩) hK hP [] rfl rfl hl.1 rfl (Nat.le_of_ble_eq_true rfl) dX6_hear_27 ⟨Nat.zero_le _, Nat.zero_le _⟩ ?_
      refine z_ifb_ne (tgt := 36) hx hb dX6_hear_30 (by decide) (fun c_3 => ?_) (fun c_3 => ?_)
      · have hz1 := zN.2.2.1 pi_ (by omega) (by omega)
        refine lv_aload_n hx hb dX6_hear_36 rfl (lv_at hl 0 rfl) ?_
        refine z_get (v := .ref qn) (Cn := RX6) (T := TX6) (N := 9) (ci := 6) C in_m_X6_hear_X6 hK hP 0 rfl rfl 0 (by decide) (List.mem_of_getElem? (i := 3) rfl) rfl dX6_hear_37 ?_
        refine lv_iconst (v := iI 2) hx hb dX6_hear_40 rfl ?_
        refine lv_iload_n hx hb dX6_hear_41 rfl (lv_at hl 1 rfl) ?_
        refine z_iadd hx hb dX6_hear_42 ?_
        refine z_iald hx hb hK hP 1 rfl (by omega) (by omega) (Nat.le_of_ble_eq_true rfl) dX6_hear_43 ?_
        refine lv_iload_n hx hb dX6_hear_44 rfl (lv_at hl 2 rfl) ?_
        refine z_isub hx hb dX6_hear_45 ?_
        refine lv_istore (lv' := [(4, .int (iI ((N (2 + pi_)) - f_))), (0, .ref q), (1, .int (iI pi_)), (2, .int (iI f_)), (3, .int (iI n_))]) hx hb dX6_hear_46 hl (by decide) rfl (fun ls hl => ?_)
        refine lv_iload hx hb dX6_hear_48 (lv_at hl 0 rfl) ?_
        refine z_if_gt (tgt := 56) hx hb dX6_hear_50 (by decide) (by omega) (fun c_4 => ?_) (fun c_4 => ?_)
        · refine lv_aload_n hx hb dX6_hear_56 rfl (lv_at hl 1 rfl) ?_
          refine z_cV (As := []) (rest := []) C (m_X6_notes (l := l) (g := g) (q := q) (qn := qn) (qp := qp) (qi := qi) (qk := qk) (qt := qt) (qw := qw) (qv := qv) (qr := qr) (ac := ac) (N := N) (P := P) (a1 := by omega)) (cwV 0 C.2.2.2.2 gX6_hear_X6_notes rfl rfl rfl (by decide +kernel) ⟨Nat.le_of_ble_eq_true rfl, Nat.le_of_ble_eq_true rfl⟩) hK hP hD hS hA [0, 1, 2] (by decide) rfl (fun _ => rfl) 0 rfl rfl rfl hl.1 rfl (Nat.le_of_ble_eq_true rfl) dX6_hear_57 ⟨Nat.zero_le _, Nat.zero_le _⟩ (fun u_5 H locs hq_6 hP hD hS => ?_)
          have hP : zP g [(q, .inr (6, [.ref qn, .ref qp, .int (iI (min (ac + 1) 8)), .ref qi, .ref qk, .ref qt, .ref qw, .ref qv, .ref qr])), zI g qn 647 N, zI g qp 5176 (ntP P N ac)] H := hP
          have hD : va_D A [(q, .inr (6, [.ref qn, .ref qp, .int (iI (min (ac + 1) 8)), .ref qi, .ref qk, .ref qt, .ref qw, .ref qv, .ref qr])), zI g qn 647 N, zI g qp 5176 (ntP P N ac)] := hD
          refine lv_iload_n hx hb dX6_hear_60 rfl (lv_at hl 4 rfl) ?_
          refine lv_iload hx hb dX6_hear_61 (lv_at hl 0 rfl) ?_
          refine z_icmp_ge (tgt := 70) hx hb dX6_hear_63 (by decide) (by omega) (by omega) (fun c_7 => ?_) (fun c_7 => ?_)
          · refine lv_iload hx hb dX6_hear_70 (lv_at hl 0 rfl) ?_
            refine z_top (b := min n_ (N (2 + pi_) - f_)) (by omega) ?_
            refine lv_istore (lv' := [(5, .int (iI (min n_ (N (2 + pi_) - f_)))), (4, .int (iI ((N (2 + pi_)) - f_))), (0, .ref q), (1, .int (iI pi_)), (2, .int (iI f_)), (3, .int (iI n_))]) hx hb dX6_hear_72 hl (by decide) rfl (fun ls hl => ?_)
            refine lv_iconst (v := iI 0) hx hb dX6_hear_74 rfl ?_
            refine lv_istore (lv' := [(6, .int (iI 0)), (5, .int (iI (min n_ (N (2 + pi_) - f_)))), (4, .int (iI ((N (2 + pi_)) - f_))), (0, .ref q), (1, .int (iI pi_)), (2, .int (iI f_)), (3, .int (iI n_))]) hx hb dX6_hear_75 hl (by decide) rfl (fun ls hl => ?_)
            have L77 : ∀ (n : Nat) (k : Int) (NV : Int → Int), (i1 : 0 ≤ k) → (i2 : k ≤ min n_ (N (2 + pi_) - f_)) → (i3 : ∀ j, NV j = if 519 ≤ j ∧ j < 519 + k then N (7 + 128 * pi_ + (f_ + (j - 519))) else N j) → (hms : min n_ (N (2 + pi_) - f_) - k < (n : Int)) → ∀ (H : Heap) (locs : List Loc) (ls : Array Slot), lv_has ls 7 [(0, .ref q), (1, .int (iI pi_)), (2, .int (iI f_)), (5, .int (iI (min n_ (N (2 + pi_) - f_)))), (6, .int (iI k))] → zP g [(q, .inr (6, [.ref qn, .ref qp, .int (iI (min (ac + 1) 8)), .ref qi, .ref qk, .ref qt, .ref qw, .ref qv, .ref qr])), zI g qn 647 NV, zI g qp 5176 (ntP P N ac)] H → va_D A [(q, .inr (6, [.ref qn, .ref qp, .int (iI (min (ac + 1) 8)), .ref qi, .ref qk, .ref qt, .ref qw, .ref qv, .ref qr])), zI g qn 647 NV, zI g qp 5176 (ntP P N ac)] → va_S A s.heap H locs → W p l e ({ frames := 1, cells := 0, slots := 0, locals := 23 }) s m ([.ref q, .int (iI pi_), .int (iI f_), .int (iI n_)] : List Value).toArray below meth c H locs 0 0 Q (F0 m 77 ls []) := by
              clear hP hD hS hl
              intro n
              induction n with
              | zero =>
                intro k NV i1 i2 i3 hms H locs ls hl hP hD hS
                exfalso; omega
              | succ n ih77 =>
                intro k NV i1 i2 i3 hms H locs ls hl hP hD hS
                refine lv_iload hx hb dX6_hear_77 (lv_at hl 4 rfl) ?_
                refine lv_iload hx hb dX6_hear_79 (lv_at hl 3 rfl) ?_
                refine z_icmp_ge (tgt := 106) hx hb dX6_hear_81 (by decide) (by omega) (by omega) (fun c_8 => ?_) (fun c_8 => ?_)
                · refine lv_aload_n hx hb dX6_hear_106 rfl (lv_at hl 0 rfl) ?_
                  refine z_get (v := .ref qn) (Cn := RX6) (T := TX6) (N := 9) (ci := 6) C in_m_X6_hear_X6 hK hP 0 rfl rfl 0 (by decide) (List.mem_of_getElem? (i := 3) rfl) rfl dX6_hear_107 ?_
                  refine lv_bipush (v := iI 6) hx hb dX6_hear_110 (by decide +kernel) ?_
                  refine lv_iload hx hb dX6_hear_112 (lv_at hl 3 rfl) ?_
                  refine z_iast hx hb hK hP hD hS 1 rfl (by omega) (by omega) (Nat.le_of_ble_eq_true rfl) dX6_hear_114 (fun H locs hP hD hS => ?_)
                  have hP : zP g [(q, .inr (6, [.ref qn, .ref qp, .int (iI (min (ac + 1) 8)), .ref qi, .ref qk, .ref qt, .ref qw, .ref qv, .ref qr])), zI g qn 647 (ups NV 6 (min n_ (N (2 + pi_) - f_))), zI g qp 5176 (ntP P N ac)] H := hP
                  have hD : va_D A [(q, .inr (6, [.ref qn, .ref qp, .int (iI (min (ac + 1) 8)), .ref qi, .ref qk, .ref qt, .ref qw, .ref qv, .ref qr])), zI g qn 647 (ups NV 6 (min n_ (N (2 + pi_) - f_))), zI g qp 5176 (ntP P N ac)] := hD
                  have hP := zP_arr hP 1 (sp_hear N pi_ f_ (min n_ (N (2 + pi_) - f_))) rfl (fun j g1 g2 => by simp only [ups, sp_hear]; rw [i3 j, show k = min n_ (N (2 + pi_) - f_) by omega])
                  have hD := zD_set (c1 := (zI g qn 647 (sp_hear N pi_ f_ (min n_ (N (2 + pi_) - f_)))).2) hD 1 rfl
                  have hP : zP g [(q, .inr (6, [.ref qn, .ref qp, .int (iI (min (ac + 1) 8)), .ref qi, .ref qk, .ref qt, .ref qw, .ref qv, .ref qr])), zI g qn 647 (sp_hear N pi_ f_ (min n_ (N (2 + pi_) - f_))), zI g qp 5176 (ntP P N ac)] H := hP
                  have hD : va_D A [(q, .inr (6, [.ref qn, .ref qp, .int (iI (min (ac + 1) 8)), .ref qi, .ref qk, .ref qt, .ref qw, .ref qv, .ref qr])), zI g qn 647 (sp_hear N pi_ f_ (min n_ (N (2 + pi_) - f_))), zI g qp 5176 (ntP P N ac)] := hD
                  refine lv_iload hx hb dX6_hear_115 (lv_at hl 3 rfl) ?_
                  exact z_retE hx hb hlk hr hQ dX6_hear_117 hS () (rfl) (hP)
                · refine lv_aload_n hx hb dX6_hear_84 rfl (lv_at hl 0 rfl) ?_
                  refine lv_iconst (v := iI 4) hx hb dX6_hear_85 rfl ?_
                  refine lv_iload hx hb dX6_hear_86 (lv_at hl 4 rfl) ?_
                  refine lv_aload_n hx hb dX6_hear_88 rfl (lv_at hl 0 rfl) ?_
                  refine lv_iload_n hx hb dX6_hear_89 rfl (lv_at hl 1 rfl) ?_
                  refine lv_iload_n hx hb dX6_hear_90 rfl (lv_at hl 2 rfl) ?_
                  refine lv_iload hx hb dX6_hear_91 (lv_at hl 4 rfl) ?_
                  refine z_iadd hx hb dX6_hear_93 ?_
                  refine z_cS (As := [.int (iI pi_), .int (iI (f_ + k))]) (rest := [.int (iI k), .int (iI 4), .ref q]) C (m_X6_of (l := l) (g := g) (q := q) (qn := qn) (qp := qp) (qi := qi) (qk := qk) (qt := qt) (qw := qw) (qv := qv) (qr := qr) (ac := min (ac + 1) 8) (N := NV) (pi_ := pi_) (ix := f_ + k) (h1 := by omega) (h2 := by omega) (x1 := by omega)) (cwV 2 C.2.2.2.2 gX6_hear_X6_of rfl rfl rfl (by decide +kernel) ⟨Nat.le_of_ble_eq_true rfl, Nat.le_of_ble_eq_true rfl⟩) hK hP [0, 1] rfl 0 rfl rfl rfl hl.1 rfl (Nat.le_of_ble_eq_true rfl) dX6_hear_94 ⟨Nat.zero_le _, Nat.zero_le _⟩ ?_
                  refine z_top (b := N (7 + 128 * pi_ + (f_ + k))) (by rw [i3, if_neg (by omega)]) ?_
                  refine z_cV (As := [.int (iI 4), .int (iI k), .int (iI (N (7 + 128 * pi_ + (f_ + k))))]) (rest := []) C (m_X6_put (l := l) (g := g) (q := q) (qn := qn) (qp := qp) (qi := qi) (qk := qk) (qt := qt) (qw := qw) (qv := qv) (qr := qr) (ac := min (ac + 1) 8) (N := NV) (pi_ := 4) (ix := k) (v := N (7 + 128 * pi_ + (f_ + k))) (h1 := by omega) (h2 := by omega) (x1 := by omega)) (cwV 3 C.2.2.2.2 gX6_hear_X6_put rfl rfl rfl (by decide +kernel) ⟨Nat.le_of_ble_eq_true rfl, Nat.le_of_ble_eq_true rfl⟩) hK hP hD hS hA [0, 1] (by decide) rfl (fun _ => rfl) 0 rfl rfl rfl hl.1 rfl (Nat.le_of_ble_eq_true rfl) dX6_hear_97 ⟨Nat.zero_le _, Nat.zero_le _⟩ (fun u_9 H locs hq_10 hP hD hS => ?_)
                  have hP : zP g [(q, .inr (6, [.ref qn, .ref qp, .int (iI (min (ac + 1) 8)), .ref qi, .ref qk, .ref qt, .ref qw, .ref qv, .ref qr])), zI g qn 647 (ups NV (7 + 128 * 4 + k) (N (7 + 128 * pi_ + (f_ + k)))), zI g qp 5176 (ntP P N ac)] H := hP
                  have hD : va_D A [(q, .inr (6, [.ref qn, .ref qp, .int (iI (min (ac + 1) 8)), .ref qi, .ref qk, .ref qt, .ref qw, .ref qv, .ref qr])), zI g qn 647 (ups NV (7 + 128 * 4 + k) (N (7 + 128 * pi_ + (f_ + k)))), zI g qp 5176 (ntP P N ac)] := hD
                  refine z_iinc (b := k + 1) (lv' := [(6, .int (iI (k + 1))), (0, .ref q), (1, .int (iI pi_)), (2, .int (iI f_)), (5, .int (iI (min n_ (N (2 + pi_) - f_))))]) hx hb dX6_hear_100 hl (k := 4) rfl (rfl) (by decide) rfl (fun ls hl => ?_)
                  refine lv_goto (tgt := 77) hx hb dX6_hear_103 (by decide) ?_
                  have hP := zP_fld hP 0 rfl 2 (min (ac + 1) 8) rfl (by omega)
                  have hD := zD_set (c1 := ((q, .inr (6, [.ref qn, .ref qp, .int (iI (min (ac + 1) 8)), .ref qi, .ref qk, .ref qt, .ref qw, .ref qv, .ref qr]))).2) hD 0 rfl
                  have hP : zP g [(q, .inr (6, [.ref qn, .ref qp, .int (iI (min (ac + 1) 8)), .ref qi, .ref qk, .ref qt, .ref qw, .ref qv, .ref qr])), zI g qn 647 (ups NV (7 + 128 * 4 + k) (N (7 + 128 * pi_ + (f_ + k)))), zI g qp 5176 (ntP P N ac)] H := hP
                  have hD : va_D A [(q, .inr (6, [.ref qn, .ref qp, .int (iI (min (ac + 1) 8)), .ref qi, .ref qk, .ref qt, .ref qw, .ref qv, .ref qr])), zI g qn 647 (ups NV (7 + 128 * 4 + k) (N (7 + 128 * pi_ + (f_ + k)))), zI g qp 5176 (ntP P N ac)] := hD
                  exact ih77 (k + 1) (ups NV (7 + 128 * 4 + k) (N (7 + 128 * pi_ + (f_ + k)))) (by omega) (by omega) (fun j => by by_cases hj : j = 7 + 128 * 4 + k; (· rw [hj, ups_s, if_pos (by omega)]; congr 1; omega); (· rw [ups_n _ _ hj, i3 j]; (repeat' split) <;> first | rfl | omega)) (by omega) H locs ls (lv_sub hl [1, 2, 3, 4, 0] rfl) (hP) (hD) hS
            exact L77 (129) 0 N (by omega) (by omega) (fun j => by rw [if_neg (by omega)]) (by omega) H locs ls (lv_sub hl [3, 4, 5, 1, 0] rfl) (hP) (hD) hS
          · refine lv_iload_n hx hb dX6_hear_66 rfl (lv_at hl 4 rfl) ?_
            refine lv_goto (tgt := 72) hx hb dX6_hear_67 (by decide) ?_
            refine z_top (b := min n_ (N (2 + pi_) - f_)) (by omega) ?_
            refine lv_istore (lv' := [(5, .int (iI (min n_ (N (2 + pi_) - f_)))), (4, .int (iI ((N (2 + pi_)) - f_))), (0, .ref q), (1, .int (iI pi_)), (2, .int (iI f_)), (3, .int (iI n_))]) hx hb dX6_hear_72 hl (by decide) rfl (fun ls hl => ?_)
            refine lv_iconst (v := iI 0) hx hb dX6_hear_74 rfl ?_
            refine lv_istore (lv' := [(6, .int (iI 0)), (5, .int (iI (min n_ (N (2 + pi_) - f_)))), (4, .int (iI ((N (2 + pi_)) - f_))), (0, .ref q), (1, .int (iI pi_)), (2, .int (iI f_)), (3, .int (iI n_))]) hx hb dX6_hear_75 hl (by decide) rfl (fun ls hl => ?_)
            have L77 : ∀ (n : Nat) (k : Int) (NV : Int → Int), (i1 : 0 ≤ k) → (i2 : k ≤ min n_ (N (2 + pi_) - f_)) → (i3 : ∀ j, NV j = if 519 ≤ j ∧ j < 519 + k then N (7 + 128 * pi_ + (f_ + (j - 519))) else N j) → (hms : min n_ (N (2 + pi_) - f_) - k < (n : Int)) → ∀ (H : Heap) (locs : List Loc) (ls : Array Slot), lv_has ls 7 [(0, .ref q), (1, .int (iI pi_)), (2, .int (iI f_)), (5, .int (iI (min n_ (N (2 + pi_) - f_)))), (6, .int (iI k))] → zP g [(q, .inr (6, [.ref qn, .ref qp, .int (iI (min (ac + 1) 8)), .ref qi, .ref qk, .ref qt, .ref qw, .ref qv, .ref qr])), zI g qn 647 NV, zI g qp 5176 (ntP P N ac)] H → va_D A [(q, .inr (6, [.ref qn, .ref qp, .int (iI (min (ac + 1) 8)), .ref qi, .ref qk, .ref qt, .ref qw, .ref qv, .ref qr])), zI g qn 647 NV, zI g qp 5176 (ntP P N ac)] → va_S A s.heap H locs → W p l e ({ frames := 1, cells := 0, slots := 0, locals := 23 }) s m ([.ref q, .int (iI pi_), .int (iI f_), .int (iI n_)] : List Value).toArray below meth c H locs 0 0 Q (F0 m 77 ls []) := by
              clear hP hD hS hl
              intro n
              induction n with
              | zero =>
                intro k NV i1 i2 i3 hms H locs ls hl hP hD hS
                exfalso; omega
              | succ n ih77 =>
                intro k NV i1 i2 i3 hms H locs ls hl hP hD hS
                refine lv_iload hx hb dX6_hear_77 (lv_at hl 4 rfl) ?_
                refine lv_iload hx hb dX6_hear_79 (lv_at hl 3 rfl) ?_
                refine z_icmp_ge (tgt := 106) hx hb dX6_hear_81 (by decide) (by omega) (by omega) (fun c_11 => ?_) (fun c_11 => ?_)
                · refine lv_aload_n hx hb dX6_hear_106 rfl (lv_at hl 0 rfl) ?_
                  refine z_get (v := .ref qn) (Cn := RX6) (T := TX6) (N := 9) (ci := 6) C in_m_X6_hear_X6 hK hP 0 rfl rfl 0 (by decide) (List.mem_of_getElem? (i := 3) rfl) rfl dX6_hear_107 ?_
                  refine lv_bipush (v := iI 6) hx hb dX6_hear_110 (by decide +kernel) ?_
                  refine lv_iload hx hb dX6_hear_112 (lv_at hl 3 rfl) ?_
                  refine z_iast hx hb hK hP hD hS 1 rfl (by omega) (by omega) (Nat.le_of_ble_eq_true rfl) dX6_hear_114 (fun H locs hP hD hS => ?_)
                  have hP : zP g [(q, .inr (6, [.ref qn, .ref qp, .int (iI (min (ac + 1) 8)), .ref qi, .ref qk, .ref qt, .ref qw, .ref qv, .ref qr])), zI g qn 647 (ups NV 6 (min n_ (N (2 + pi_) - f_))), zI g qp 5176 (ntP P N ac)] H := hP
                  have hD : va_D A [(q, .inr (6, [.ref qn, .ref qp, .int (iI (min (ac + 1) 8)), .ref qi, .ref qk, .ref qt, .ref qw, .ref qv, .ref qr])), zI g qn 647 (ups NV 6 (min n_ (N (2 + pi_) - f_))), zI g qp 5176 (ntP P N ac)] := hD
                  have hP := zP_arr hP 1 (sp_hear N pi_ f_ (min n_ (N (2 + pi_) - f_))) rfl (fun j g1 g2 => by simp only [ups, sp_hear]; rw [i3 j, show k = min n_ (N (2 + pi_) - f_) by omega])
                  have hD := zD_set (c1 := (zI g qn 647 (sp_hear N pi_ f_ (min n_ (N (2 + pi_) - f_)))).2) hD 1 rfl
                  have hP : zP g [(q, .inr (6, [.ref qn, .ref qp, .int (iI (min (ac + 1) 8)), .ref qi, .ref qk, .ref qt, .ref qw, .ref qv, .ref qr])), zI g qn 647 (sp_hear N pi_ f_ (min n_ (N (2 + pi_) - f_))), zI g qp 5176 (ntP P N ac)] H := hP
                  have hD : va_D A [(q, .inr (6, [.ref qn, .ref qp, .int (iI (min (ac + 1) 8)), .ref qi, .ref qk, .ref qt, .ref qw, .ref qv, .ref qr])), zI g qn 647 (sp_hear N pi_ f_ (min n_ (N (2 + pi_) - f_))), zI g qp 5176 (ntP P N ac)] := hD
                  refine lv_iload hx hb dX6_hear_115 (lv_at hl 3 rfl) ?_
                  exact z_retE hx hb hlk hr hQ dX6_hear_117 hS () (rfl) (hP)
                · refine lv_aload_n hx hb dX6_hear_84 rfl (lv_at hl 0 rfl) ?_
                  refine lv_iconst (v := iI 4) hx hb dX6_hear_85 rfl ?_
                  refine lv_iload hx hb dX6_hear_86 (lv_at hl 4 rfl) ?_
                  refine lv_aload_n hx hb dX6_hear_88 rfl (lv_at hl 0 rfl) ?_
                  refine lv_iload_n hx hb dX6_hear_89 rfl (lv_at hl 1 rfl) ?_
                  refine lv_iload_n hx hb dX6_hear_90 rfl (lv_at hl 2 rfl) ?_
                  refine lv_iload hx hb dX6_hear_91 (lv_at hl 4 rfl) ?_
                  refine z_iadd hx hb dX6_hear_93 ?_
                  refine z_cS (As := [.int (iI pi_), .int (iI (f_ + k))]) (rest := [.int (iI k), .int (iI 4), .ref q]) C (m_X6_of (l := l) (g := g) (q := q) (qn := qn) (qp := qp) (qi := qi) (qk := qk) (qt := qt) (qw := qw) (qv := qv) (qr := qr) (ac := min (ac + 1) 8) (N := NV) (pi_ := pi_) (ix := f_ + k) (h1 := by omega) (h2 := by omega) (x1 := by omega)) (cwV 2 C.2.2.2.2 gX6_hear_X6_of rfl rfl rfl (by decide +kernel) ⟨Nat.le_of_ble_eq_true rfl, Nat.le_of_ble_eq_true rfl⟩) hK hP [0, 1] rfl 0 rfl rfl rfl hl.1 rfl (Nat.le_of_ble_eq_true rfl) dX6_hear_94 ⟨Nat.zero_le _, Nat.zero_le _⟩ ?_
                  refine z_top (b := N (7 + 128 * pi_ + (f_ + k))) (by rw [i3, if_neg (by omega)]) ?_
                  refine z_cV (As := [.int (iI 4), .int (iI k), .int (iI (N (7 + 128 * pi_ + (f_ + k))))]) (rest := []) C (m_X6_put (l := l) (g := g) (q := q) (qn := qn) (qp := qp) (qi := qi) (qk := qk) (qt := qt) (qw := qw) (qv := qv) (qr := qr) (ac := min (ac + 1) 8) (N := NV) (pi_ := 4) (ix := k) (v := N (7 + 128 * pi_ + (f_ + k))) (h1 := by omega) (h2 := by omega) (x1 := by omega)) (cwV 3 C.2.2.2.2 gX6_hear_X6_put rfl rfl rfl (by decide +kernel) ⟨Nat.le_of_ble_eq_true rfl, Nat.le_of_ble_eq_true rfl⟩) hK hP hD hS hA [0, 1] (by decide) rfl (fun _ => rfl) 0 rfl rfl rfl hl.1 rfl (Nat.le_of_ble_eq_true rfl) dX6_hear_97 ⟨Nat.zero_le _, Nat.zero_le _⟩ (fun u_12 H locs hq_13 hP hD hS => ?_)
                  have hP : zP g [(q, .inr (6, [.ref qn, .ref qp, .int (iI (min (ac + 1) 8)), .ref qi, .ref qk, .ref qt, .ref qw, .ref qv, .ref qr])), zI g qn 647 (ups NV (7 + 128 * 4 + k) (N (7 + 128 * pi_ + (f_ + k)))), zI g qp 5176 (ntP P N ac)] H := hP
                  have hD : va_D A [(q, .inr (6, [.ref qn, .ref qp, .int (iI (min (ac + 1) 8)), .ref qi, .ref qk, .ref qt, .ref qw, .ref qv, .ref qr])), zI g qn 647 (ups NV (7 + 128 * 4 + k) (N (7 + 128 * pi_ + (f_ + k)))), zI g qp 5176 (ntP P N ac)] := hD
                  refine z_iinc (b := k + 1) (lv' := [(6, .int (iI (k + 1))), (0, .ref q), (1, .int (iI pi_)), (2, .int (iI f_)), (5, .int (iI (min n_ (N (2 + pi_) - f_))))]) hx hb dX6_hear_100 hl (k := 4) rfl (rfl) (by decide) rfl (fun ls hl => ?_)
                  refine lv_goto (tgt := 77) hx hb dX6_hear_103 (by decide) ?_
                  have hP := zP_fld hP 0 rfl 2 (min (ac + 1) 8) rfl (by omega)
                  have hD := zD_set (c1 := ((q, .inr (6, [.ref qn, .ref qp, .int (iI (min (ac + 1) 8)), .ref qi, .ref qk, .ref qt, .ref qw, .ref qv, .ref qr]))).2) hD 0 rfl
                  have hP : zP g [(q, .inr (6, [.ref qn, .ref qp, .int (iI (min (ac + 1) 8)), .ref qi, .ref qk, .ref qt, .ref qw, .ref qv, .ref qr])), zI g qn 647 (ups NV (7 + 128 * 4 + k) (N (7 + 128 * pi_ + (f_ + k)))), zI g qp 5176 (ntP P N ac)] H := hP
                  have hD : va_D A [(q, .inr (6, [.ref qn, .ref qp, .int (iI (min (ac + 1) 8)), .ref qi, .ref qk, .ref qt, .ref qw, .ref qv, .ref qr])), zI g qn 647 (ups NV (7 + 128 * 4 + k) (N (7 + 128 * pi_ + (f_ + k)))), zI g qp 5176 (ntP P N ac)] := hD
                  exact ih77 (k + 1) (ups NV (7 + 128 * 4 + k) (N (7 + 128 * pi_ + (f_ + k)))) (by omega) (by omega) (fun j => by by_cases hj : j = 7 + 128 * 4 + k; (· rw [hj, ups_s, if_pos (by omega)]; congr 1; omega); (· rw [ups_n _ _ hj, i3 j]; (repeat' split) <;> first | rfl | omega)) (by omega) H locs ls (lv_sub hl [1, 2, 3, 4, 0] rfl) (hP) (hD) hS
            exact L77 (129) 0 N (by omega) (by omega) (fun j => by rw [if_neg (by omega)]) (by omega) H locs ls (lv_sub hl [3, 4, 5, 1, 0] rfl) (hP) (hD) hS
        · exfalso; omega
      · exfalso; omega
  · exfalso; omega
set_option maxRecDepth 20000 in
theorem in_m_X6_hear_n_X6 : ∀ w ∈ u_ws RX6 TX6 9, w ∈ wsX6_hear := zmem_of _ [23, 24, 25, 26, 27, 28, 29, 30, 31] (by decide +kernel)
set_option maxHeartbeats 4000000 in
set_option maxRecDepth 100000 in
theorem m_X6_hear_n (l : Launch) (g : zG) (q qn qp qi qk qt qw qv qr : Nat) (ac : Int) (N : Int → Int) (pi_ f_ n_ : Int) (zN : okN N) (g_pi_ : -2147483648 ≤ pi_ ∧ pi_ < 2147483648) (g_f_ : -2147483648 ≤ f_ ∧ f_ < 2147483648) (g_n_ : -2147483648 ≤ n_ ∧ n_ < 2147483648) (rf : ¬ ((0 ≤ pi_ ∧ pi_ ≤ 3) ∧ (0 ≤ f_ ∧ f_ ≤ 127) ∧ (1 ≤ n_ ∧ n_ ≤ 128) ∧ f_ < N (2 + pi_))) : zS l yX6_hear wsX6_hear ({ frames := 1, cells := 0, slots := 0, locals := 22 }) g [.ref q, .int (iI pi_), .int (iI f_), .int (iI n_)] [(q, .inr (6, [.ref qn, .ref qp, .int (iI ac), .ref qi, .ref qk, .ref qt, .ref qw, .ref qv, .ref qr])), zI g qn 647 N] (if ¬ (0 ≤ pi_ ∧ pi_ ≤ 3) then -1000000001 else if ¬ ((0 ≤ f_ ∧ f_ ≤ 127) ∧ (1 ≤ n_ ∧ n_ ≤ 128)) then -1000000002 else -1000000003) := by
  refine z_entS (cc := cX6_hear) (nL := 7) (ret := (some .int)) (own := RX6) (by decide) rfl rfl (Nat.le_of_ble_eq_true rfl) ?_
  intro p e s m below meth c Q ls C hlk hr hQ hP hK hl
  have hx := C.1
  have hb := C.2.1
  have hl : lv_has ls 7 [(0, .ref q), (1, .int (iI pi_)), (2, .int (iI f_)), (3, .int (iI n_))] := hl
  refine lv_iload_n hx hb dX6_hear_0 rfl (lv_at hl 1 rfl) ?_
  refine lv_iconst (v := iI 0) hx hb dX6_hear_1 rfl ?_
  refine lv_iconst (v := iI 3) hx hb dX6_hear_2 rfl ?_
  refine z_cSS (As := [.int (iI pi_), .int (iI 0), .int (iI 3)]) (rest := []) C (m_X6_in (l := l) (g := g) (v := pi_) (lo := 0) (hi := 3) (g_v := by omega) (g_lo := by omega) (g_hi := by omega)) (cwS 3 C.2.2.2.2 gX6_hear_X6_in rfl rfl rfl (by decide +kernel) ⟨Nat.le_of_ble_eq_true rfl, Nat.le_of_ble_eq_true rfl⟩) hK hP [] rfl rfl hl.1 rfl (Nat.le_of_ble_eq_true rfl) dX6_hear_3 ⟨Nat.zero_le _, Nat.zero_le _⟩ ?_
  refine z_ifb_ne (tgt := 12) hx hb dX6_hear_6 (by decide) (fun c1 => ?_) (fun c1 => ?_)
  · refine lv_iload_n hx hb dX6_hear_12 rfl (lv_at hl 2 rfl) ?_
    refine lv_iconst (v := iI 0) hx hb dX6_hear_13 rfl ?_
    refine lv_bipush (v := iI 127) hx hb dX6_hear_14 (by decide +kernel) ?_
    refine z_cSS (As := [.int (iI f_), .int (iI 0), .int (iI 127)]) (rest := []) C (m_X6_in (l := l) (g := g) (v := f_) (lo := 0) (hi := 127) (g_v := by omega) (g_lo := by omega) (g_hi := by omega)) (cwS 3 C.2.2.2.2 gX6_hear_X6_in rfl rfl rfl (by decide +kernel) ⟨Nat.le_of_ble_eq_true rfl, Nat.le_of_ble_eq_true rfl⟩) hK hP [] rfl rfl hl.1 rfl (Nat.le_of_ble_eq_true rfl) dX6_hear_16 ⟨Nat.zero_le _, Nat.zero_le _⟩ ?_
    refine z_ifb_eq (tgt := 33) hx hb dX6_hear_19 (by decide) (fun c2 => ?_) (fun c2 => ?_)
    · refine z_ldc C (List.mem_of_getElem? (i := 2) rfl) (-1000000002) (by decide +kernel) dX6_hear_33 ?_
      exact z_retS hx hb hlk hr hQ dX6_hear_35 (by rw [if_neg (fun z => z c1), if_pos (by omega)])
    · refine lv_iload_n hx hb dX6_hear_22 rfl (lv_at hl 3 rfl) ?_
      refine lv_iconst (v := iI 1) hx hb dX6_hear_23 rfl ?_
      refine lv_sipush (v := iI 128) hx hb dX6_hear_24 (by decide +kernel) ?_
      refine z_cSS (As := [.int (iI n_), .int (iI 1), .int (iI 128)]) (rest := []) C (m_X6_in (l := l) (g := g) (v := n_) (lo := 1) (hi := 128) (g_v := by omega) (g_lo := by omega) (g_hi := by omega)) (cwS 3 C.2.2.2.2 gX6_hear_X6_in rfl rfl rfl (by decide +kernel) ⟨Nat.le_of_ble_eq_true rfl, Nat.le_of_ble_eq_true rfl⟩) hK hP [] rfl rfl hl.1 rfl (Nat.le_of_ble_eq_true rfl) dX6_hear_27 ⟨Nat.zero_le _, Nat.zero_le _⟩ ?_
      refine z_ifb_ne (tgt := 36) hx hb dX6_hear_30 (by decide) (fun c3 => ?_) (fun c3 => ?_)
      · have hz1 := zN.2.2.1 pi_ (by omega) (by omega)
        refine lv_aload_n hx hb dX6_hear_36 rfl (lv_at hl 0 rfl) ?_
        refine z_get (v := .ref qn) (Cn := RX6) (T := TX6) (N := 9) (ci := 6) C in_m_X6_hear_n_X6 hK hP 0 rfl rfl 0 (by decide) (List.mem_of_getElem? (i := 3) rfl) rfl dX6_hear_37 ?_
        refine lv_iconst (v := iI 2) hx hb dX6_hear_40 rfl ?_
        refine lv_iload_n hx hb dX6_hear_41 rfl (lv_at hl 1 rfl) ?_
        refine z_iadd hx hb dX6_hear_42 ?_
        refine z_iald hx hb hK hP 1 rfl (by omega) (by omega) (Nat.le_of_ble_eq_true rfl) dX6_hear_43 ?_
        refine lv_iload_n hx hb dX6_hear_44 rfl (lv_at hl 2 rfl) ?_
        refine z_isub hx hb dX6_hear_45 ?_
        refine lv_istore (lv' := [(4, .int (iI ((N (2 + pi_)) - f_))), (0, .ref q), (1, .int (iI pi_)), (2, .int (iI f_)), (3, .int (iI n_))]) hx hb dX6_hear_46 hl (by decide) rfl (fun ls hl => ?_)
        refine lv_iload hx hb dX6_hear_48 (lv_at hl 0 rfl) ?_
        refine z_if_gt (tgt := 56) hx hb dX6_hear_50 (by decide) (by omega) (fun c_1 => ?_) (fun c_1 => ?_)
        · exfalso; omega
        · refine z_ldc C (List.mem_of_getElem? (i := 4) rfl) (-1000000003) (by decide +kernel) dX6_hear_53 ?_
          exact z_retS hx hb hlk hr hQ dX6_hear_55 (by rw [if_neg (fun z => z c1), if_neg (by omega)])
      · refine z_ldc C (List.mem_of_getElem? (i := 2) rfl) (-1000000002) (by decide +kernel) dX6_hear_33 ?_
        exact z_retS hx hb hlk hr hQ dX6_hear_35 (by rw [if_neg (fun z => z c1), if_pos (by omega)])
  · refine z_ldc C (List.mem_of_getElem? (i := 1) rfl) (-1000000001) (by decide +kernel) dX6_hear_9 ?_
    exact z_retS hx hb hlk hr hQ dX6_hear_11 ((if_pos c1).symm)
set_option maxRecDepth 20000 in
theorem in_m_X6_bound_X6 : ∀ w ∈ u_ws RX6 TX6 9, w ∈ wsX6_bound := zmem_of _ [14, 15, 16, 17, 18, 19, 20, 21, 22] (by decide +kernel)
set_option maxHeartbeats 4000000 in
set_option maxRecDepth 100000 in
theorem m_X6_bound (l : Launch) (g : zG) (q qn qp qi qk qt qw qv qr : Nat) (ac : Int) (N P : Int → Int) (wh v : Int) (ac1 : 0 ≤ ac ∧ ac ≤ 8) (zN : okN N) (g_wh : -2147483648 ≤ wh ∧ wh < 2147483648) (g_v : -2147483648 ≤ v ∧ v < 2147483648) (b1 : (wh = 0 ∧ 0 ≤ v ∧ v ≤ 99999) ∨ (wh = 1 ∧ 1 ≤ v ∧ v ≤ 5)) : zE l yX6_bound wsX6_bound ({ frames := 1, cells := 0, slots := 0, locals := 22 }) g [.ref q, .int (iI wh), .int (iI v)] [(q, .inr (6, [.ref qn, .ref qp, .int (iI ac), .ref qi, .ref qk, .ref qt, .ref qw, .ref qv, .ref qr])), zI g qn 647 N, zI g qp 5176 P] (S := Unit) (fun r _ => r = N wh) (fun _ => [(q, .inr (6, [.ref qn, .ref qp, .int (iI (min (ac + 1) 8)), .ref qi, .ref qk, .ref qt, .ref qw, .ref qv, .ref qr])), zI g qn 647 (ups N wh v), zI g qp 5176 (ntP P N ac)]) := by
  refine z_entE (cc := cX6_bound) (nL := 5) (ret := (some .int)) (own := RX6) (by decide) rfl rfl (Nat.le_of_ble_eq_true rfl) ?_
  intro p e s m below meth c Q ls A C hlk hr hQ hP hK hD hA hS hl
  have hx := C.1
  have hb := C.2.1
  have hl : lv_has ls 5 [(0, .ref q), (1, .int (iI wh)), (2, .int (iI v))] := hl
  obtain ⟨H, hHe⟩ : ∃ H, H = s.heap := ⟨_, rfl⟩
  obtain ⟨locs, hLe⟩ : ∃ q : List Loc, q = [] := ⟨_, rfl⟩
  have hP : zP g [(q, .inr (6, [.ref qn, .ref qp, .int (iI ac), .ref qi, .ref qk, .ref qt, .ref qw, .ref qv, .ref qr])), zI g qn 647 N, zI g qp 5176 P] H := by rw [hHe]; exact hP
  have hS : va_S A s.heap H locs := by rw [hHe, hLe]; exact hS
  suffices hgo : W p l e ({ frames := 1, cells := 0, slots := 0, locals := 22 }) s m ([.ref q, .int (iI wh), .int (iI v)] : List Value).toArray below meth c H locs 0 0 Q (F0 m 0 ls []) by rw [hHe, hLe] at hgo; exact hgo
  clear hHe hLe
  refine lv_iload_n hx hb dX6_bound_0 rfl (lv_at hl 1 rfl) ?_
  refine z_if_ne (tgt := 14) hx hb dX6_bound_1 (by decide) (by omega) (fun c_1 => ?_) (fun c_1 => ?_)
  · refine lv_iload_n hx hb dX6_bound_14 rfl (lv_at hl 1 rfl) ?_
    refine lv_iconst (v := iI 1) hx hb dX6_bound_15 rfl ?_
    refine z_icmp_ne (tgt := 32) hx hb dX6_bound_16 (by decide) (by omega) (by omega) (fun c_2 => ?_) (fun c_2 => ?_)
    · refine lv_iconst (v := iI 0) hx hb dX6_bound_32 rfl ?_
      refine lv_istore_n (lv' := [(3, .int (iI 0)), (0, .ref q), (1, .int (iI wh)), (2, .int (iI v))]) hx hb dX6_bound_33 rfl hl (by decide) rfl (fun ls hl => ?_)
      refine lv_iload_n hx hb dX6_bound_34 rfl (lv_at hl 0 rfl) ?_
      refine z_if_ne (tgt := 41) hx hb dX6_bound_35 (by decide) (by omega) (fun c_3 => ?_) (fun c_3 => ?_)
      · exfalso; omega
      · exfalso; omega
    · refine lv_iload_n hx hb dX6_bound_19 rfl (lv_at hl 2 rfl) ?_
      refine lv_iconst (v := iI 1) hx hb dX6_bound_20 rfl ?_
      refine lv_iconst (v := iI 5) hx hb dX6_bound_21 rfl ?_
      refine z_cSS (As := [.int (iI v), .int (iI 1), .int (iI 5)]) (rest := []) C (m_X6_in (l := l) (g := g) (v := v) (lo := 1) (hi := 5) (g_v := by omega) (g_lo := by omega) (g_hi := by omega)) (cwS 3 C.2.2.2.2 gX6_bound_X6_in rfl rfl rfl (by decide +kernel) ⟨Nat.le_of_ble_eq_true rfl, Nat.le_of_ble_eq_true rfl⟩) hK hP [] rfl rfl hl.1 rfl (Nat.le_of_ble_eq_true rfl) dX6_bound_22 ⟨Nat.zero_le _, Nat.zero_le _⟩ ?_
      refine z_ifb_eq (tgt := 32) hx hb dX6_bound_25 (by decide) (fun c_4 => ?_) (fun c_4 => ?_)
      · refine lv_iconst (v := iI 0) hx hb dX6_bound_32 rfl ?_
        refine lv_istore_n (lv' := [(3, .int (iI 0)), (0, .ref q), (1, .int (iI wh)), (2, .int (iI v))]) hx hb dX6_bound_33 rfl hl (by decide) rfl (fun ls hl => ?_)
        refine lv_iload_n hx hb dX6_bound_34 rfl (lv_at hl 0 rfl) ?_
        refine z_if_ne (tgt := 41) hx hb dX6_bound_35 (by decide) (by omega) (fun c_5 => ?_) (fun c_5 => ?_)
        · exfalso; omega
        · exfalso; omega
      · refine lv_iconst (v := iI 1) hx hb dX6_bound_28 rfl ?_
        refine lv_goto (tgt := 33) hx hb dX6_bound_29 (by decide) ?_
        refine lv_istore_n (lv' := [(3, .int (iI 1)), (0, .ref q), (1, .int (iI wh)), (2, .int (iI v))]) hx hb dX6_bound_33 rfl hl (by decide) rfl (fun ls hl => ?_)
        refine lv_iload_n hx hb dX6_bound_34 rfl (lv_at hl 0 rfl) ?_
        refine z_if_ne (tgt := 41) hx hb dX6_bound_35 (by decide) (by omega) (fun c_6 => ?_) (fun c_6 => ?_)
        · refine lv_aload_n hx hb dX6_bound_41 rfl (lv_at hl 1 rfl) ?_
          refine z_cV (As := []) (rest := []) C (m_X6_notes (l := l) (g := g) (q := q) (qn := qn) (qp := qp) (qi := qi) (qk := qk) (qt := qt) (qw := qw) (qv := qv) (qr := qr) (ac := ac) (N := N) (P := P) (a1 := by omega)) (cwV 0 C.2.2.2.2 gX6_bound_X6_notes rfl rfl rfl (by decide +kernel) ⟨Nat.le_of_ble_eq_true rfl, Nat.le_of_ble_eq_true rfl⟩) hK hP hD hS hA [0, 1, 2] (by decide) rfl (fun _ => rfl) 0 rfl rfl rfl hl.1 rfl (Nat.le_of_ble_eq_true rfl) dX6_bound_42 ⟨Nat.zero_le _, Nat.zero_le _⟩ (fun u_7 H locs hq_8 hP hD hS => ?_)
          have hP : zP g [(q, .inr (6, [.ref qn, .ref qp, .int (iI (min (ac + 1) 8)), .ref qi, .ref qk, .ref qt, .ref qw, .ref qv, .ref qr])), zI g qn 647 N, zI g qp 5176 (ntP P N ac)] H := hP
          have hD : va_D A [(q, .inr (6, [.ref qn, .ref qp, .int (iI (min (ac + 1) 8)), .ref qi, .ref qk, .ref qt, .ref qw, .ref qv, .ref qr])), zI g qn 647 N, zI g qp 5176 (ntP P N ac)] := hD
          refine lv_aload_n hx hb dX6_bound_45 rfl (lv_at hl 1 rfl) ?_
          refine z_get (v := .ref qn) (Cn := RX6) (T := TX6) (N := 9) (ci := 6) C in_m_X6_bound_X6 hK hP 0 rfl rfl 0 (by decide) (List.mem_of_getElem? (i := 3) rfl) rfl dX6_bound_46 ?_
          refine lv_iload_n hx hb dX6_bound_49 rfl (lv_at hl 2 rfl) ?_
          refine z_iald hx hb hK hP 1 rfl (by omega) (by omega) (Nat.le_of_ble_eq_true rfl) dX6_bound_50 ?_
          refine lv_istore (lv' := [(4, .int (iI (N wh))), (3, .int (iI 1)), (0, .ref q), (1, .int (iI wh)), (2, .int (iI v))]) hx hb dX6_bound_51 hl (by decide) rfl (fun ls hl => ?_)
          refine lv_aload_n hx hb dX6_bound_53 rfl (lv_at hl 2 rfl) ?_
          refine z_get (v := .ref qn) (Cn := RX6) (T := TX6) (N := 9) (ci := 6) C in_m_X6_bound_X6 hK hP 0 rfl rfl 0 (by decide) (List.mem_of_getElem? (i := 3) rfl) rfl dX6_bound_54 ?_
          refine lv_iload_n hx hb dX6_bound_57 rfl (lv_at hl 3 rfl) ?_
          refine lv_iload_n hx hb dX6_bound_58 rfl (lv_at hl 4 rfl) ?_
          refine z_iast hx hb hK hP hD hS 1 rfl (by omega) (by omega) (Nat.le_of_ble_eq_true rfl) dX6_bound_59 (fun H locs hP hD hS => ?_)
          have hP : zP g [(q, .inr (6, [.ref qn, .ref qp, .int (iI (min (ac + 1) 8)), .ref qi, .ref qk, .ref qt, .ref qw, .ref qv, .ref qr])), zI g qn 647 (ups N wh v), zI g qp 5176 (ntP P N ac)] H := hP
          have hD : va_D A [(q, .inr (6, [.ref qn, .ref qp, .int (iI (min (ac + 1) 8)), .ref qi, .ref qk, .ref qt, .ref qw, .ref qv, .ref qr])), zI g qn 647 (ups N wh v), zI g qp 5176 (ntP P N ac)] := hD
          refine lv_iload hx hb dX6_bound_60 (lv_at hl 0 rfl) ?_
          exact z_retE hx hb hlk hr hQ dX6_bound_62 hS () (rfl) (hP)
        · exfalso; omega
  · refine lv_iload_n hx hb dX6_bound_4 rfl (lv_at hl 2 rfl) ?_
    refine lv_iconst (v := iI 0) hx hb dX6_bound_5 rfl ?_
    refine z_ldc C (List.mem_of_getElem? (i := 1) rfl) (99999) (by decide +kernel) dX6_bound_6 ?_
    refine z_cSS (As := [.int (iI v), .int (iI 0), .int (iI 99999)]) (rest := []) C (m_X6_in (l := l) (g := g) (v := v) (lo := 0) (hi := 99999) (g_v := by omega) (g_lo := by omega) (g_hi := by omega)) (cwS 3 C.2.2.2.2 gX6_bound_X6_in rfl rfl rfl (by decide +kernel) ⟨Nat.le_of_ble_eq_true rfl, Nat.le_of_ble_eq_true rfl⟩) hK hP [] rfl rfl hl.1 rfl (Nat.le_of_ble_eq_true rfl) dX6_bound_8 ⟨Nat.zero_le _, Nat.zero_le _⟩ ?_
    refine z_ifb_ne (tgt := 28) hx hb dX6_bound_11 (by decide) (fun c_9 => ?_) (fun c_9 => ?_)
    · refine lv_iconst (v := iI 1) hx hb dX6_bound_28 rfl ?_
      refine lv_goto (tgt := 33) hx hb dX6_bound_29 (by decide) ?_
      refine lv_istore_n (lv' := [(3, .int (iI 1)), (0, .ref q), (1, .int (iI wh)), (2, .int (iI v))]) hx hb dX6_bound_33 rfl hl (by decide) rfl (fun ls hl => ?_)
      refine lv_iload_n hx hb dX6_bound_34 rfl (lv_at hl 0 rfl) ?_
      refine z_if_ne (tgt := 41) hx hb dX6_bound_35 (by decide) (by omega) (fun c_10 => ?_) (fun c_10 => ?_)
      · refine lv_aload_n hx hb dX6_bound_41 rfl (lv_at hl 1 rfl) ?_
        refine z_cV (As := []) (rest := []) C (m_X6_notes (l := l) (g := g) (q := q) (qn := qn) (qp := qp) (qi := qi) (qk := qk) (qt := qt) (qw := qw) (qv := qv) (qr := qr) (ac := ac) (N := N) (P := P) (a1 := by omega)) (cwV 0 C.2.2.2.2 gX6_bound_X6_notes rfl rfl rfl (by decide +kernel) ⟨Nat.le_of_ble_eq_true rfl, Nat.le_of_ble_eq_true rfl⟩) hK hP hD hS hA [0, 1, 2] (by decide) rfl (fun _ => rfl) 0 rfl rfl rfl hl.1 rfl (Nat.le_of_ble_eq_true rfl) dX6_bound_42 ⟨Nat.zero_le _, Nat.zero_le _⟩ (fun u_11 H locs hq_12 hP hD hS => ?_)
        have hP : zP g [(q, .inr (6, [.ref qn, .ref qp, .int (iI (min (ac + 1) 8)), .ref qi, .ref qk, .ref qt, .ref qw, .ref qv, .ref qr])), zI g qn 647 N, zI g qp 5176 (ntP P N ac)] H := hP
        have hD : va_D A [(q, .inr (6, [.ref qn, .ref qp, .int (iI (min (ac + 1) 8)), .ref qi, .ref qk, .ref qt, .ref qw, .ref qv, .ref qr])), zI g qn 647 N, zI g qp 5176 (ntP P N ac)] := hD
        refine lv_aload_n hx hb dX6_bound_45 rfl (lv_at hl 1 rfl) ?_
        refine z_get (v := .ref qn) (Cn := RX6) (T := TX6) (N := 9) (ci := 6) C in_m_X6_bound_X6 hK hP 0 rfl rfl 0 (by decide) (List.mem_of_getElem? (i := 3) rfl) rfl dX6_bound_46 ?_
        refine lv_iload_n hx hb dX6_bound_49 rfl (lv_at hl 2 rfl) ?_
        refine z_iald hx hb hK hP 1 rfl (by omega) (by omega) (Nat.le_of_ble_eq_true rfl) dX6_bound_50 ?_
        refine lv_istore (lv' := [(4, .int (iI (N wh))), (3, .int (iI 1)), (0, .ref q), (1, .int (iI wh)), (2, .int (iI v))]) hx hb dX6_bound_51 hl (by decide) rfl (fun ls hl => ?_)
        refine lv_aload_n hx hb dX6_bound_53 rfl (lv_at hl 2 rfl) ?_
        refine z_get (v := .ref qn) (Cn := RX6) (T := TX6) (N := 9) (ci := 6) C in_m_X6_bound_X6 hK hP 0 rfl rfl 0 (by decide) (List.mem_of_getElem? (i := 3) rfl) rfl dX6_bound_54 ?_
        refine lv_iload_n hx hb dX6_bound_57 rfl (lv_at hl 3 rfl) ?_
        refine lv_iload_n hx hb dX6_bound_58 rfl (lv_at hl 4 rfl) ?_
        refine z_iast hx hb hK hP hD hS 1 rfl (by omega) (by omega) (Nat.le_of_ble_eq_true rfl) dX6_bound_59 (fun H locs hP hD hS => ?_)
        have hP : zP g [(q, .inr (6, [.ref qn, .ref qp, .int (iI (min (ac + 1) 8)), .ref qi, .ref qk, .ref qt, .ref qw, .ref qv, .ref qr])), zI g qn 647 (ups N wh v), zI g qp 5176 (ntP P N ac)] H := hP
        have hD : va_D A [(q, .inr (6, [.ref qn, .ref qp, .int (iI (min (ac + 1) 8)), .ref qi, .ref qk, .ref qt, .ref qw, .ref qv, .ref qr])), zI g qn 647 (ups N wh v), zI g qp 5176 (ntP P N ac)] := hD
        refine lv_iload hx hb dX6_bound_60 (lv_at hl 0 rfl) ?_
        exact z_retE hx hb hlk hr hQ dX6_bound_62 hS () (rfl) (hP)
      · exfalso; omega
    · refine lv_iload_n hx hb dX6_bound_14 rfl (lv_at hl 1 rfl) ?_
      refine lv_iconst (v := iI 1) hx hb dX6_bound_15 rfl ?_
      refine z_icmp_ne (tgt := 32) hx hb dX6_bound_16 (by decide) (by omega) (by omega) (fun c_13 => ?_) (fun c_13 => ?_)
      · refine lv_iconst (v := iI 0) hx hb dX6_bound_32 rfl ?_
        refine lv_istore_n (lv' := [(3, .int (iI 0)), (0, .ref q), (1, .int (iI wh)), (2, .int (iI v))]) hx hb dX6_bound_33 rfl hl (by decide) rfl (fun ls hl => ?_)
        refine lv_iload_n hx hb dX6_bound_34 rfl (lv_at hl 0 rfl) ?_
        refine z_if_ne (tgt := 41) hx hb dX6_bound_35 (by decide) (by omega) (fun c_14 => ?_) (fun c_14 => ?_)
        · exfalso; omega
        · exfalso; omega
      · refine lv_iload_n hx hb dX6_bound_19 rfl (lv_at hl 2 rfl) ?_
        refine lv_iconst (v := iI 1) hx hb dX6_bound_20 rfl ?_
        refine lv_iconst (v := iI 5) hx hb dX6_bound_21 rfl ?_
        refine z_cSS (As := [.int (iI v), .int (iI 1), .int (iI 5)]) (rest := []) C (m_X6_in (l := l) (g := g) (v := v) (lo := 1) (hi := 5) (g_v := by omega) (g_lo := by omega) (g_hi := by omega)) (cwS 3 C.2.2.2.2 gX6_bound_X6_in rfl rfl rfl (by decide +kernel) ⟨Nat.le_of_ble_eq_true rfl, Nat.le_of_ble_eq_true rfl⟩) hK hP [] rfl rfl hl.1 rfl (Nat.le_of_ble_eq_true rfl) dX6_bound_22 ⟨Nat.zero_le _, Nat.zero_le _⟩ ?_
        refine z_ifb_eq (tgt := 32) hx hb dX6_bound_25 (by decide) (fun c_15 => ?_) (fun c_15 => ?_)
        · refine lv_iconst (v := iI 0) hx hb dX6_bound_32 rfl ?_
          refine lv_istore_n (lv' := [(3, .int (iI 0)), (0, .ref q), (1, .int (iI wh)), (2, .int (iI v))]) hx hb dX6_bound_33 rfl hl (by decide) rfl (fun ls hl => ?_)
          refine lv_iload_n hx hb dX6_bound_34 rfl (lv_at hl 0 rfl) ?_
          refine z_if_ne (tgt := 41) hx hb dX6_bound_35 (by decide) (by omega) (fun c_16 => ?_) (fun c_16 => ?_)
          · exfalso; omega
          · exfalso; omega
        · refine lv_iconst (v := iI 1) hx hb dX6_bound_28 rfl ?_
          refine lv_goto (tgt := 33) hx hb dX6_bound_29 (by decide) ?_
          refine lv_istore_n (lv' := [(3, .int (iI 1)), (0, .ref q), (1, .int (iI wh)), (2, .int (iI v))]) hx hb dX6_bound_33 rfl hl (by decide) rfl (fun ls hl => ?_)
          refine lv_iload_n hx hb dX6_bound_34 rfl (lv_at hl 0 rfl) ?_
          refine z_if_ne (tgt := 41) hx hb dX6_bound_35 (by decide) (by omega) (fun c_17 => ?_) (fun c_17 => ?_)
          · refine lv_aload_n hx hb dX6_bound_41 rfl (lv_at hl 1 rfl) ?_
            refine z_cV (As := []) (rest := []) C (m_X6_notes (l := l) (g := g) (q := q) (qn := qn) (qp := qp) (qi := qi) (qk := qk) (qt := qt) (qw := qw) (qv := qv) (qr := qr) (ac := ac) (N := N) (P := P) (a1 := by omega)) (cwV 0 C.2.2.2.2 gX6_bound_X6_notes rfl rfl rfl (by decide +kernel) ⟨Nat.le_of_ble_eq_true rfl, Nat.le_of_ble_eq_true rfl⟩) hK hP hD hS hA [0, 1, 2] (by decide) rfl (fun _ => rfl) 0 rfl rfl rfl hl.1 rfl (Nat.le_of_ble_eq_true rfl) dX6_bound_42 ⟨Nat.zero_le _, Nat.zero_le _⟩ (fun u_18 H locs hq_19 hP hD hS => ?_)
            have hP : zP g [(q, .inr (6, [.ref qn, .ref qp, .int (iI (min (ac + 1) 8)), .ref qi, .ref qk, .ref qt, .ref qw, .ref qv, .ref qr])), zI g qn 647 N, zI g qp 5176 (ntP P N ac)] H := hP
            have hD : va_D A [(q, .inr (6, [.ref qn, .ref qp, .int (iI (min (ac + 1) 8)), .ref qi, .ref qk, .ref qt, .ref qw, .ref qv, .ref qr])), zI g qn 647 N, zI g qp 5176 (ntP P N ac)] := hD
            refine lv_aload_n hx hb dX6_bound_45 rfl (lv_at hl 1 rfl) ?_
            refine z_get (v := .ref qn) (Cn := RX6) (T := TX6) (N := 9) (ci := 6) C in_m_X6_bound_X6 hK hP 0 rfl rfl 0 (by decide) (List.mem_of_getElem? (i := 3) rfl) rfl dX6_bound_46 ?_
            refine lv_iload_n hx hb dX6_bound_49 rfl (lv_at hl 2 rfl) ?_
            refine z_iald hx hb hK hP 1 rfl (by omega) (by omega) (Nat.le_of_ble_eq_true rfl) dX6_bound_50 ?_
            refine lv_istore (lv' := [(4, .int (iI (N wh))), (3, .int (iI 1)), (0, .ref q), (1, .int (iI wh)), (2, .int (iI v))]) hx hb dX6_bound_51 hl (by decide) rfl (fun ls hl => ?_)
            refine lv_aload_n hx hb dX6_bound_53 rfl (lv_at hl 2 rfl) ?_
            refine z_get (v := .ref qn) (Cn := RX6) (T := TX6) (N := 9) (ci := 6) C in_m_X6_bound_X6 hK hP 0 rfl rfl 0 (by decide) (List.mem_of_getElem? (i := 3) rfl) rfl dX6_bound_54 ?_
            refine lv_iload_n hx hb dX6_bound_57 rfl (lv_at hl 3 rfl) ?_
            refine lv_iload_n hx hb dX6_bound_58 rfl (lv_at hl 4 rfl) ?_
            refine z_iast hx hb hK hP hD hS 1 rfl (by omega) (by omega) (Nat.le_of_ble_eq_true rfl) dX6_bound_59 (fun H locs hP hD hS => ?_)
            have hP : zP g [(q, .inr (6, [.ref qn, .ref qp, .int (iI (min (ac + 1) 8)), .ref qi, .ref qk, .ref qt, .ref qw, .ref qv, .ref qr])), zI g qn 647 (ups N wh v), zI g qp 5176 (ntP P N ac)] H := hP
            have hD : va_D A [(q, .inr (6, [.ref qn, .ref qp, .int (iI (min (ac + 1) 8)), .ref qi, .ref qk, .ref qt, .ref qw, .ref qv, .ref qr])), zI g qn 647 (ups N wh v), zI g qp 5176 (ntP P N ac)] := hD
            refine lv_iload hx hb dX6_bound_60 (lv_at hl 0 rfl) ?_
            exact z_retE hx hb hlk hr hQ dX6_bound_62 hS () (rfl) (hP)
          · exfalso; omega
set_option maxHeartbeats 4000000 in
set_option maxRecDepth 100000 in
theorem m_X6_bound_n (l : Launch) (g : zG) (q qn qp qi qk qt qw qv qr : Nat) (ac : Int) (N : Int → Int) (wh v : Int) (zN : okN N) (g_wh : -2147483648 ≤ wh ∧ wh < 2147483648) (g_v : -2147483648 ≤ v ∧ v < 2147483648) (rf : ¬ ((wh = 0 ∧ 0 ≤ v ∧ v ≤ 99999) ∨ (wh = 1 ∧ 1 ≤ v ∧ v ≤ 5))) : zS l yX6_bound wsX6_bound ({ frames := 1, cells := 0, slots := 0, locals := 22 }) g [.ref q, .int (iI wh), .int (iI v)] [(q, .inr (6, [.ref qn, .ref qp, .int (iI ac), .ref qi, .ref qk, .ref qt, .ref qw, .ref qv, .ref qr])), zI g qn 647 N] (-1000000002) := by
  refine z_entS (cc := cX6_bound) (nL := 5) (ret := (some .int)) (own := RX6) (by decide) rfl rfl (Nat.le_of_ble_eq_true rfl) ?_
  intro p e s m below meth c Q ls C hlk hr hQ hP hK hl
  have hx := C.1
  have hb := C.2.1
  have hl : lv_has ls 5 [(0, .ref q), (1, .int (iI wh)), (2, .int (iI v))] := hl
  refine lv_iload_n hx hb dX6_bound_0 rfl (lv_at hl 1 rfl) ?_
  refine z_if_ne (tgt := 14) hx hb dX6_bound_1 (by decide) (by omega) (fun c_1 => ?_) (fun c_1 => ?_)
  · refine lv_iload_n hx hb dX6_bound_14 rfl (lv_at hl 1 rfl) ?_
    refine lv_iconst (v := iI 1) hx hb dX6_bound_15 rfl ?_
    refine z_icmp_ne (tgt := 32) hx hb dX6_bound_16 (by decide) (by omega) (by omega) (fun c_2 => ?_) (fun c_2 => ?_)
    · refine lv_iconst (v := iI 0) hx hb dX6_bound_32 rfl ?_
      refine lv_istore_n (lv' := [(3, .int (iI 0)), (0, .ref q), (1, .int (iI wh)), (2, .int (iI v))]) hx hb dX6_bound_33 rfl hl (by decide) rfl (fun ls hl => ?_)
      refine lv_iload_n hx hb dX6_bound_34 rfl (lv_at hl 0 rfl) ?_
      refine z_if_ne (tgt := 41) hx hb dX6_bound_35 (by decide) (by omega) (fun c_3 => ?_) (fun c_3 => ?_)
      · exfalso; omega
      · refine z_ldc C (List.mem_of_getElem? (i := 2) rfl) (-1000000002) (by decide +kernel) dX6_bound_38 ?_
        exact z_retS hx hb hlk hr hQ dX6_bound_40 (rfl)
    · refine lv_iload_n hx hb dX6_bound_19 rfl (lv_at hl 2 rfl) ?_
      refine lv_iconst (v := iI 1) hx hb dX6_bound_20 rfl ?_
      refine lv_iconst (v := iI 5) hx hb dX6_bound_21 rfl ?_
      refine z_cSS (As := [.int (iI v), .int (iI 1), .int (iI 5)]) (rest := []) C (m_X6_in (l := l) (g := g) (v := v) (lo := 1) (hi := 5) (g_v := by omega) (g_lo := by omega) (g_hi := by omega)) (cwS 3 C.2.2.2.2 gX6_bound_X6_in rfl rfl rfl (by decide +kernel) ⟨Nat.le_of_ble_eq_true rfl, Nat.le_of_ble_eq_true rfl⟩) hK hP [] rfl rfl hl.1 rfl (Nat.le_of_ble_eq_true rfl) dX6_bound_22 ⟨Nat.zero_le _, Nat.zero_le _⟩ ?_
      refine z_ifb_eq (tgt := 32) hx hb dX6_bound_25 (by decide) (fun c_4 => ?_) (fun c_4 => ?_)
      · refine lv_iconst (v := iI 0) hx hb dX6_bound_32 rfl ?_
        refine lv_istore_n (lv' := [(3, .int (iI 0)), (0, .ref q), (1, .int (iI wh)), (2, .int (iI v))]) hx hb dX6_bound_33 rfl hl (by decide) rfl (fun ls hl => ?_)
        refine lv_iload_n hx hb dX6_bound_34 rfl (lv_at hl 0 rfl) ?_
        refine z_if_ne (tgt := 41) hx hb dX6_bound_35 (by decide) (by omega) (fun c_5 => ?_) (fun c_5 => ?_)
        · exfalso; omega
        · refine z_ldc C (List.mem_of_getElem? (i := 2) rfl) (-1000000002) (by decide +kernel) dX6_bound_38 ?_
          exact z_retS hx hb hlk hr hQ dX6_bound_40 (rfl)
      · refine lv_iconst (v := iI 1) hx hb dX6_bound_28 rfl ?_
        refine lv_goto (tgt := 33) hx hb dX6_bound_29 (by decide) ?_
        refine lv_istore_n (lv' := [(3, .int (iI 1)), (0, .ref q), (1, .int (iI wh)), (2, .int (iI v))]) hx hb dX6_bound_33 rfl hl (by decide) rfl (fun ls hl => ?_)
        refine lv_iload_n hx hb dX6_bound_34 rfl (lv_at hl 0 rfl) ?_
        refine z_if_ne (tgt := 41) hx hb dX6_bound_35 (by decide) (by omega) (fun c_6 => ?_) (fun c_6 => ?_)
        · exfalso; omega
        · exfalso; omega
  · refine lv_iload_n hx hb dX6_bound_4 rfl (lv_at hl 2 rfl) ?_
    refine lv_iconst (v := iI 0) hx hb dX6_bound_5 rfl ?_
    refine z_ldc C (List.mem_of_getElem? (i := 1) rfl) (99999) (by decide +kernel) dX6_bound_6 ?_
    refine z_cSS (As := [.int (iI v), .int (iI 0), .int (iI 99999)]) (rest := []) C (m_X6_in (l := l) (g := g) (v := v) (lo := 0) (hi := 99999) (g_v := by omega) (g_lo := by omega) (g_hi := by omega)) (cwS 3 C.2.2.2.2 gX6_bound_X6_in rfl rfl rfl (by decide +kernel) ⟨Nat.le_of_ble_eq_true rfl, Nat.le_of_ble_eq_true rfl⟩) hK hP [] rfl rfl hl.1 rfl (Nat.le_of_ble_eq_true rfl) dX6_bound_8 ⟨Nat.zero_le _, Nat.zero_le _⟩ ?_
    refine z_ifb_ne (tgt := 28) hx hb dX6_bound_11 (by decide) (fun c_7 => ?_) (fun c_7 => ?_)
    · refine lv_iconst (v := iI 1) hx hb dX6_bound_28 rfl ?_
      refine lv_goto (tgt := 33) hx hb dX6_bound_29 (by decide) ?_
      refine lv_istore_n (lv' := [(3, .int (iI 1)), (0, .ref q), (1, .int (iI wh)), (2, .int (iI v))]) hx hb dX6_bound_33 rfl hl (by decide) rfl (fun ls hl => ?_)
      refine lv_iload_n hx hb dX6_bound_34 rfl (lv_at hl 0 rfl) ?_
      refine z_if_ne (tgt := 41) hx hb dX6_bound_35 (by decide) (by omega) (fun c_8 => ?_) (fun c_8 => ?_)
      · exfalso; omega
      · exfalso; omega
    · refine lv_iload_n hx hb dX6_bound_14 rfl (lv_at hl 1 rfl) ?_
      refine lv_iconst (v := iI 1) hx hb dX6_bound_15 rfl ?_
      refine z_icmp_ne (tgt := 32) hx hb dX6_bound_16 (by decide) (by omega) (by omega) (fun c_9 => ?_) (fun c_9 => ?_)
      · refine lv_iconst (v := iI 0) hx hb dX6_bound_32 rfl ?_
        refine lv_istore_n (lv' := [(3, .int (iI 0)), (0, .ref q), (1, .int (iI wh)), (2, .int (iI v))]) hx hb dX6_bound_33 rfl hl (by decide) rfl (fun ls hl => ?_)
        refine lv_iload_n hx hb dX6_bound_34 rfl (lv_at hl 0 rfl) ?_
        refine z_if_ne (tgt := 41) hx hb dX6_bound_35 (by decide) (by omega) (fun c_10 => ?_) (fun c_10 => ?_)
        · exfalso; omega
        · refine z_ldc C (List.mem_of_getElem? (i := 2) rfl) (-1000000002) (by decide +kernel) dX6_bound_38 ?_
          exact z_retS hx hb hlk hr hQ dX6_bound_40 (rfl)
      · refine lv_iload_n hx hb dX6_bound_19 rfl (lv_at hl 2 rfl) ?_
        refine lv_iconst (v := iI 1) hx hb dX6_bound_20 rfl ?_
        refine lv_iconst (v := iI 5) hx hb dX6_bound_21 rfl ?_
        refine z_cSS (As := [.int (iI v), .int (iI 1), .int (iI 5)]) (rest := []) C (m_X6_in (l := l) (g := g) (v := v) (lo := 1) (hi := 5) (g_v := by omega) (g_lo := by omega) (g_hi := by omega)) (cwS 3 C.2.2.2.2 gX6_bound_X6_in rfl rfl rfl (by decide +kernel) ⟨Nat.le_of_ble_eq_true rfl, Nat.le_of_ble_eq_true rfl⟩) hK hP [] rfl rfl hl.1 rfl (Nat.le_of_ble_eq_true rfl) dX6_bound_22 ⟨Nat.zero_le _, Nat.zero_le _⟩ ?_
        refine z_ifb_eq (tgt := 32) hx hb dX6_bound_25 (by decide) (fun c_11 => ?_) (fun c_11 => ?_)
        · refine lv_iconst (v := iI 0) hx hb dX6_bound_32 rfl ?_
          refine lv_istore_n (lv' := [(3, .int (iI 0)), (0, .ref q), (1, .int (iI wh)), (2, .int (iI v))]) hx hb dX6_bound_33 rfl hl (by decide) rfl (fun ls hl => ?_)
          refine lv_iload_n hx hb dX6_bound_34 rfl (lv_at hl 0 rfl) ?_
          refine z_if_ne (tgt := 41) hx hb dX6_bound_35 (by decide) (by omega) (fun c_12 => ?_) (fun c_12 => ?_)
          · exfalso; omega
          · refine z_ldc C (List.mem_of_getElem? (i := 2) rfl) (-1000000002) (by decide +kernel) dX6_bound_38 ?_
            exact z_retS hx hb hlk hr hQ dX6_bound_40 (rfl)
        · refine lv_iconst (v := iI 1) hx hb dX6_bound_28 rfl ?_
          refine lv_goto (tgt := 33) hx hb dX6_bound_29 (by decide) ?_
          refine lv_istore_n (lv' := [(3, .int (iI 1)), (0, .ref q), (1, .int (iI wh)), (2, .int (iI v))]) hx hb dX6_bound_33 rfl hl (by decide) rfl (fun ls hl => ?_)
          refine lv_iload_n hx hb dX6_bound_34 rfl (lv_at hl 0 rfl) ?_
          refine z_if_ne (tgt := 41) hx hb dX6_bound_35 (by decide) (by omega) (fun c_13 => ?_) (fun c_13 => ?_)
          · exfalso; omega
          · exfalso; omega
set_option maxRecDepth 20000 in
theorem in_m_X6_undo_X6 : ∀ w ∈ u_ws RX6 TX6 9, w ∈ wsX6_undo := zmem_of _ [5, 6, 7, 8, 9, 10, 11, 12, 13] (by decide +kernel)
set_option maxHeartbeats 4000000 in
set_option maxRecDepth 100000 in
theorem m_X6_undo (l : Launch) (g : zG) (q qn qp qi qk qt qw qv qr : Nat) (ac : Int) (N P : Int → Int) (a1 : 0 < ac ∧ ac ≤ 8) : zE l yX6_undo wsX6_undo ({ frames := 0, cells := 0, slots := 0, locals := 0 }) g [.ref q] [(q, .inr (6, [.ref qn, .ref qp, .int (iI ac), .ref qi, .ref qk, .ref qt, .ref qw, .ref qv, .ref qr])), zI g qn 647 N, zI g qp 5176 P] (S := Unit) (fun r _ => r = ac - 1) (fun _ => [(q, .inr (6, [.ref qn, .ref qp, .int (iI (ac - 1)), .ref qi, .ref qk, .ref qt, .ref qw, .ref qv, .ref qr])), zI g qn 647 (fun x => P (647 * (ac - 1) + x)), zI g qp 5176 P]) := by
  refine z_entE (cc := cX6_undo) (nL := 2) (ret := (some .int)) (own := RX6) (by decide) rfl rfl (Nat.le_of_ble_eq_true rfl) ?_
  intro p e s m below meth c Q ls A C hlk hr hQ hP hK hD hA hS hl
  have hx := C.1
  have hb := C.2.1
  have hl : lv_has ls 2 [(0, .ref q)] := hl
  obtain ⟨H, hHe⟩ : ∃ H, H = s.heap := ⟨_, rfl⟩
  obtain ⟨locs, hLe⟩ : ∃ q : List Loc, q = [] := ⟨_, rfl⟩
  have hP : zP g [(q, .inr (6, [.ref qn, .ref qp, .int (iI ac), .ref qi, .ref qk, .ref qt, .ref qw, .ref qv, .ref qr])), zI g qn 647 N, zI g qp 5176 P] H := by rw [hHe]; exact hP
  have hS : va_S A s.heap H locs := by rw [hHe, hLe]; exact hS
  suffices hgo : W p l e ({ frames := 0, cells := 0, slots := 0, locals := 0 }) s m ([.ref q] : List Value).toArray below meth c H locs 0 0 Q (F0 m 0 ls []) by rw [hHe, hLe] at hgo; exact hgo
  clear hHe hLe
  refine lv_aload_n hx hb dX6_undo_0 rfl (lv_at hl 0 rfl) ?_
  refine z_get (v := .int (iI ac)) (Cn := RX6) (T := TX6) (N := 9) (ci := 6) C in_m_X6_undo_X6 hK hP 0 rfl rfl 2 (by decide) (List.mem_of_getElem? (i := 1) rfl) rfl dX6_undo_1 ?_
  refine z_if_ne (tgt := 10) hx hb dX6_undo_4 (by decide) (by omega) (fun c_1 => ?_) (fun c_1 => ?_)
  · refine lv_aload_n hx hb dX6_undo_10 rfl (lv_at hl 0 rfl) ?_
    refine lv_dup hx hb dX6_undo_11 rfl ?_
    refine z_get (v := .int (iI ac)) (Cn := RX6) (T := TX6) (N := 9) (ci := 6) C in_m_X6_undo_X6 hK hP 0 rfl rfl 2 (by decide) (List.mem_of_getElem? (i := 1) rfl) rfl dX6_undo_12 ?_
    refine lv_iconst (v := iI 1) hx hb dX6_undo_15 rfl ?_
    refine z_isub hx hb dX6_undo_16 ?_
    refine z_put (v := .int (iI (ac - 1))) (Cn := RX6) (T := TX6) (N := 9) (ci := 6) C in_m_X6_undo_X6 tyX6 tyX6_ok nmX6 hK hP hD hS 0 rfl rfl 2 (by decide) (List.mem_of_getElem? (i := 1) rfl) rfl rfl rfl (Nat.le_of_ble_eq_true rfl) dX6_undo_17 (fun H locs hP hD hS => ?_)
    have hP : zP g [(q, .inr (6, [.ref qn, .ref qp, .int (iI (ac - 1)), .ref qi, .ref qk, .ref qt, .ref qw, .ref qv, .ref qr])), zI g qn 647 N, zI g qp 5176 P] H := hP
    have hD : va_D A [(q, .inr (6, [.ref qn, .ref qp, .int (iI (ac - 1)), .ref qi, .ref qk, .ref qt, .ref qw, .ref qv, .ref qr])), zI g qn 647 N, zI g qp 5176 P] := hD
    refine lv_iconst (v := iI 0) hx hb dX6_undo_20 rfl ?_
    refine lv_istore_n (lv' := [(1, .int (iI 0)), (0, .ref q)]) hx hb dX6_undo_21 rfl hl (by decide) rfl (fun ls hl => ?_)
    have L22 : ∀ (n : Nat) (k : Int) (NV : Int → Int), (i1 : 0 ≤ k) → (i2 : k ≤ 647) → (i3 : ∀ j, 0 ≤ j → j < k → NV j = P (647 * (ac - 1) + j)) → (hms : 647 - k < (n : Int)) → ∀ (H : Heap) (locs : List Loc) (ls : Array Slot), lv_has ls 2 [(0, .ref q), (1, .int (iI k))] → zP g [(q, .inr (6, [.ref qn, .ref qp, .int (iI (ac - 1)), .ref qi, .ref qk, .ref qt, .ref qw, .ref qv, .ref qr])), zI g qn 647 NV, zI g qp 5176 P] H → va_D A [(q, .inr (6, [.ref qn, .ref qp, .int (iI (ac - 1)), .ref qi, .ref qk, .ref qt, .ref qw, .ref qv, .ref qr])), zI g qn 647 NV, zI g qp 5176 P] → va_S A s.heap H locs → W p l e ({ frames := 0, cells := 0, slots := 0, locals := 0 }) s m ([.ref q] : List Value).toArray below meth c H locs 0 0 Q (F0 m 22 ls []) := by
      clear hP hD hS hl
      intro n
      induction n with
      | zero =>
        intro k NV i1 i2 i3 hms H locs ls hl hP hD hS
        exfalso; omega
      | succ n ih22 =>
        intro k NV i1 i2 i3 hms H locs ls hl hP hD hS
        refine lv_iload_n hx hb dX6_undo_22 rfl (lv_at hl 1 rfl) ?_
        refine lv_sipush (v := iI 647) hx hb dX6_undo_23 (by decide +kernel) ?_
        refine z_icmp_ge (tgt := 56) hx hb dX6_undo_26 (by decide) (by omega) (by omega) (fun c_2 => ?_) (fun c_2 => ?_)
        · have hP := zP_arr hP 1 (fun x => P (647 * (ac - 1) + x)) rfl (fun j g1 g2 => i3 j g1 (by omega))
          have hD := zD_set (c1 := (zI g qn 647 (fun x => P (647 * (ac - 1) + x))).2) hD 1 rfl
          have hP : zP g [(q, .inr (6, [.ref qn, .ref qp, .int (iI (ac - 1)), .ref qi, .ref qk, .ref qt, .ref qw, .ref qv, .ref qr])), zI g qn 647 (fun x => P (647 * (ac - 1) + x)), zI g qp 5176 P] H := hP
          have hD : va_D A [(q, .inr (6, [.ref qn, .ref qp, .int (iI (ac - 1)), .ref qi, .ref qk, .ref qt, .ref qw, .ref qv, .ref qr])), zI g qn 647 (fun x => P (647 * (ac - 1) + x)), zI g qp 5176 P] := hD
          refine lv_aload_n hx hb dX6_undo_56 rfl (lv_at hl 0 rfl) ?_
          refine z_get (v := .int (iI (ac - 1))) (Cn := RX6) (T := TX6) (N := 9) (ci := 6) C in_m_X6_undo_X6 hK hP 0 rfl rfl 2 (by decide) (List.mem_of_getElem? (i := 1) rfl) rfl dX6_undo_57 ?_
          exact z_retE hx hb hlk hr hQ dX6_undo_60 hS () (rfl) (hP)
        · refine lv_aload_n hx hb dX6_undo_29 rfl (lv_at hl 0 rfl) ?_
          refine z_get (v := .ref qn) (Cn := RX6) (T := TX6) (N := 9) (ci := 6) C in_m_X6_undo_X6 hK hP 0 rfl rfl 0 (by decide) (List.mem_of_getElem? (i := 3) rfl) rfl dX6_undo_30 ?_
          refine lv_iload_n hx hb dX6_undo_33 rfl (lv_at hl 1 rfl) ?_
          refine lv_aload_n hx hb dX6_undo_34 rfl (lv_at hl 0 rfl) ?_
          refine z_get (v := .ref qp) (Cn := RX6) (T := TX6) (N := 9) (ci := 6) C in_m_X6_undo_X6 hK hP 0 rfl rfl 1 (by decide) (List.mem_of_getElem? (i := 4) rfl) rfl dX6_undo_35 ?_
          refine lv_sipush (v := iI 647) hx hb dX6_undo_38 (by decide +kernel) ?_
          refine lv_aload_n hx hb dX6_undo_41 rfl (lv_at hl 0 rfl) ?_
          refine z_get (v := .int (iI (ac - 1))) (Cn := RX6) (T := TX6) (N := 9) (ci := 6) C in_m_X6_undo_X6 hK hP 0 rfl rfl 2 (by decide) (List.mem_of_getElem? (i := 1) rfl) rfl dX6_undo_42 ?_
          refine z_imul hx hb dX6_undo_45 ?_
          refine lv_iload_n hx hb dX6_undo_46 rfl (lv_at hl 1 rfl) ?_
          refine z_iadd hx hb dX6_undo_47 ?_
          refine z_iald hx hb hK hP 2 rfl (by omega) (by omega) (Nat.le_of_ble_eq_true rfl) dX6_undo_48 ?_
          refine z_iast hx hb hK hP hD hS 1 rfl (by omega) (by omega) (Nat.le_of_ble_eq_true rfl) dX6_undo_49 (fun H locs hP hD hS => ?_)
          have hP : zP g [(q, .inr (6, [.ref qn, .ref qp, .int (iI (ac - 1)), .ref qi, .ref qk, .ref qt, .ref qw, .ref qv, .ref qr])), zI g qn 647 (ups NV k (P ((647 * (ac - 1)) + k))), zI g qp 5176 P] H := hP
          have hD : va_D A [(q, .inr (6, [.ref qn, .ref qp, .int (iI (ac - 1)), .ref qi, .ref qk, .ref qt, .ref qw, .ref qv, .ref qr])), zI g qn 647 (ups NV k (P ((647 * (ac - 1)) + k))), zI g qp 5176 P] := hD
          refine z_iinc (b := k + 1) (lv' := [(1, .int (iI (k + 1))), (0, .ref q)]) hx hb dX6_undo_50 hl (k := 1) rfl (rfl) (by decide) rfl (fun ls hl => ?_)
          refine lv_goto (tgt := 22) hx hb dX6_undo_53 (by decide) ?_
          exact ih22 (k + 1) (ups NV k (P ((647 * (ac - 1)) + k))) (by omega) (by omega) (fun j g1 g2 => by by_cases hj : j = k; (· rw [hj, ups_s]); (· rw [ups_n _ _ hj]; exact i3 j g1 (by omega))) (by omega) H locs ls (lv_sub hl [1, 0] rfl) (hP) (hD) hS
    exact L22 (648) 0 N (by omega) (by omega) (fun j g1 g2 => by omega) (by omega) H locs ls (lv_sub hl [1, 0] rfl) (hP) (hD) hS
  · exfalso; omega
set_option maxRecDepth 20000 in
theorem in_m_X6_undo_n_X6 : ∀ w ∈ u_ws RX6 TX6 9, w ∈ wsX6_undo := zmem_of _ [5, 6, 7, 8, 9, 10, 11, 12, 13] (by decide +kernel)
set_option maxHeartbeats 4000000 in
set_option maxRecDepth 100000 in
theorem m_X6_undo_n (l : Launch) (g : zG) (q qn qp qi qk qt qw qv qr : Nat) (ac : Int) (a1 : ac = 0) : zS l yX6_undo wsX6_undo ({ frames := 0, cells := 0, slots := 0, locals := 0 }) g [.ref q] [(q, .inr (6, [.ref qn, .ref qp, .int (iI ac), .ref qi, .ref qk, .ref qt, .ref qw, .ref qv, .ref qr]))] (-1000000003) := by
  refine z_entS (cc := cX6_undo) (nL := 2) (ret := (some .int)) (own := RX6) (by decide) rfl rfl (Nat.le_of_ble_eq_true rfl) ?_
  intro p e s m below meth c Q ls C hlk hr hQ hP hK hl
  have hx := C.1
  have hb := C.2.1
  have hl : lv_has ls 2 [(0, .ref q)] := hl
  refine lv_aload_n hx hb dX6_undo_0 rfl (lv_at hl 0 rfl) ?_
  refine z_get (v := .int (iI ac)) (Cn := RX6) (T := TX6) (N := 9) (ci := 6) C in_m_X6_undo_n_X6 hK hP 0 rfl rfl 2 (by decide) (List.mem_of_getElem? (i := 1) rfl) rfl dX6_undo_1 ?_
  refine z_if_ne (tgt := 10) hx hb dX6_undo_4 (by decide) (by omega) (fun c_1 => ?_) (fun c_1 => ?_)
  · exfalso; omega
  · refine z_ldc C (List.mem_of_getElem? (i := 2) rfl) (-1000000003) (by decide +kernel) dX6_undo_7 ?_
    exact z_retS hx hb hlk hr hQ dX6_undo_9 (rfl)
set_option maxRecDepth 20000 in
theorem in_m_X6_keep_X6 : ∀ w ∈ u_ws RX6 TX6 9, w ∈ wsX6_keep := zmem_of _ [10, 11, 12, 13, 14, 15, 16, 17, 18] (by decide +kernel)
set_option maxHeartbeats 4000000 in
set_option maxRecDepth 100000 in
theorem m_X6_keep (l : Launch) (g : zG) (q qn qp qi qk qt qw qv qr : Nat) (ac : Int) (N IQ KP : Int → Int) (i_ : Int) (b1 : 0 ≤ i_ ∧ i_ ≤ 1) : zE l yX6_keep wsX6_keep ({ frames := 1, cells := 0, slots := 0, locals := 22 }) g [.ref q, .int (iI i_)] [(q, .inr (6, [.ref qn, .ref qp, .int (iI ac), .ref qi, .ref qk, .ref qt, .ref qw, .ref qv, .ref qr])), zI g qn 647 N, zI g qi 1294 IQ, zB g qk 2 KP] (S := Unit) (fun r _ => r = 1) (fun _ => [(q, .inr (6, [.ref qn, .ref qp, .int (iI 0), .ref qi, .ref qk, .ref qt, .ref qw, .ref qv, .ref qr])), zI g qn 647 N, zI g qi 1294 (fun x => if 647 * i_ ≤ x ∧ x < 647 * i_ + 647 then N (x - 647 * i_) else IQ x), zB g qk 2 (ups KP i_ 1)]) := by
  refine z_entE (cc := cX6_keep) (nL := 3) (ret := (some .int)) (own := RX6) (by decide) rfl rfl (Nat.le_of_ble_eq_true rfl) ?_
  intro p e s m below meth c Q ls A C hlk hr hQ hP hK hD hA hS hl
  have hx := C.1
  have hb := C.2.1
  have hl : lv_has ls 3 [(0, .ref q), (1, .int (iI i_))] := hl
  obtain ⟨H, hHe⟩ : ∃ H, H = s.heap := ⟨_, rfl⟩
  obtain ⟨locs, hLe⟩ : ∃ q : List Loc, q = [] := ⟨_, rfl⟩
  have hP : zP g [(q, .inr (6, [.ref qn, .ref qp, .int (iI ac), .ref qi, .ref qk, .ref qt, .ref qw, .ref qv, .ref qr])), zI g qn 647 N, zI g qi 1294 IQ, zB g qk 2 KP] H := by rw [hHe]; exact hP
  have hS : va_S A s.heap H locs := by rw [hHe, hLe]; exact hS
  suffices hgo : W p l e ({ frames := 1, cells := 0, slots := 0, locals := 22 }) s m ([.ref q, .int (iI i_)] : List Value).toArray below meth c H locs 0 0 Q (F0 m 0 ls []) by rw [hHe, hLe] at hgo; exact hgo
  clear hHe hLe
  refine lv_iload_n hx hb dX6_keep_0 rfl (lv_at hl 1 rfl) ?_
  refine lv_iconst (v := iI 0) hx hb dX6_keep_1 rfl ?_
  refine lv_iconst (v := iI 1) hx hb dX6_keep_2 rfl ?_
  refine z_cSS (As := [.int (iI i_), .int (iI 0), .int (iI 1)]) (rest := []) C (m_X6_in (l := l) (g := g) (v := i_) (lo := 0) (hi := 1) (g_v := by omega) (g_lo := by omega) (g_hi := by omega)) (cwS 3 C.2.2.2.2 gX6_keep_X6_in rfl rfl rfl (by decide +kernel) ⟨Nat.le_of_ble_eq_true rfl, Nat.le_of_ble_eq_true rfl⟩) hK hP [] rfl rfl hl.1 rfl (Nat.le_of_ble_eq_true rfl) dX6_keep_3 ⟨Nat.zero_le _, Nat.zero_le _⟩ ?_
  refine z_ifb_ne (tgt := 12) hx hb dX6_keep_6 (by decide) (fun c_1 => ?_) (fun c_1 => ?_)
  · refine lv_iconst (v := iI 0) hx hb dX6_keep_12 rfl ?_
    refine lv_istore_n (lv' := [(2, .int (iI 0)), (0, .ref q), (1, .int (iI i_))]) hx hb dX6_keep_13 rfl hl (by decide) rfl (fun ls hl => ?_)
    have L14 : ∀ (n : Nat) (k : Int) (IR : Int → Int), (i1 : 0 ≤ k) → (i2 : k ≤ 647) → (i3 : ∀ j, IR j = if 647 * i_ ≤ j ∧ j < 647 * i_ + k then N (j - 647 * i_) else IQ j) → (hms : 647 - k < (n : Int)) → ∀ (H : Heap) (locs : List Loc) (ls : Array Slot), lv_has ls 3 [(0, .ref q), (1, .int (iI i_)), (2, .int (iI k))] → zP g [(q, .inr (6, [.ref qn, .ref qp, .int (iI ac), .ref qi, .ref qk, .ref qt, .ref qw, .ref qv, .ref qr])), zI g qn 647 N, zI g qi 1294 IR, zB g qk 2 KP] H → va_D A [(q, .inr (6, [.ref qn, .ref qp, .int (iI ac), .ref qi, .ref qk, .ref qt, .ref qw, .ref qv, .ref qr])), zI g qn 647 N, zI g qi 1294 IR, zB g qk 2 KP] → va_S A s.heap H locs → W p l e ({ frames := 1, cells := 0, slots := 0, locals := 22 }) s m ([.ref q, .int (iI i_)] : List Value).toArray below meth c H locs 0 0 Q (F0 m 14 ls []) := by
      clear hP hD hS hl
      intro n
      induction n with
      | zero =>
        intro k IR i1 i2 i3 hms H locs ls hl hP hD hS
        exfalso; omega
      | succ n ih14 =>
        intro k IR i1 i2 i3 hms H locs ls hl hP hD hS
        refine lv_iload_n hx hb dX6_keep_14 rfl (lv_at hl 2 rfl) ?_
        refine lv_sipush (v := iI 647) hx hb dX6_keep_15 (by decide +kernel) ?_
        refine z_icmp_ge (tgt := 45) hx hb dX6_keep_18 (by decide) (by omega) (by omega) (fun c_2 => ?_) (fun c_2 => ?_)
        · have hP := zP_arr hP 2 (fun x => if 647 * i_ ≤ x ∧ x < 647 * i_ + 647 then N (x - 647 * i_) else IQ x) rfl (fun j g1 g2 => by rw [i3 j, show k = 647 by omega])
          have hD := zD_set (c1 := (zI g qi 1294 (fun x => if 647 * i_ ≤ x ∧ x < 647 * i_ + 647 then N (x - 647 * i_) else IQ x)).2) hD 2 rfl
          have hP : zP g [(q, .inr (6, [.ref qn, .ref qp, .int (iI ac), .ref qi, .ref qk, .ref qt, .ref qw, .ref qv, .ref qr])), zI g qn 647 N, zI g qi 1294 (fun x => if 647 * i_ ≤ x ∧ x < 647 * i_ + 647 then N (x - 647 * i_) else IQ x), zB g qk 2 KP] H := hP
          have hD : va_D A [(q, .inr (6, [.ref qn, .ref qp, .int (iI ac), .ref qi, .ref qk, .ref qt, .ref qw, .ref qv, .ref qr])), zI g qn 647 N, zI g qi 1294 (fun x => if 647 * i_ ≤ x ∧ x < 647 * i_ + 647 then N (x - 647 * i_) else IQ x), zB g qk 2 KP] := hD
          refine lv_aload_n hx hb dX6_keep_45 rfl (lv_at hl 0 rfl) ?_
          refine z_get (v := .ref qk) (Cn := RX6) (T := TX6) (N := 9) (ci := 6) C in_m_X6_keep_X6 hK hP 0 rfl rfl 4 (by decide) (List.mem_of_getElem? (i := 4) rfl) rfl dX6_keep_46 ?_
          refine lv_iload_n hx hb dX6_keep_49 rfl (lv_at hl 1 rfl) ?_
          refine lv_iconst (v := iI 1) hx hb dX6_keep_50 rfl ?_
          refine z_bast hx hb hK hP hD hS 3 rfl (by omega) (by omega) (Nat.le_of_ble_eq_true rfl) (by omega) dX6_keep_51 (fun H locs hP hD hS => ?_)
          have hP : zP g [(q, .inr (6, [.ref qn, .ref qp, .int (iI ac), .ref qi, .ref qk, .ref qt, .ref qw, .ref qv, .ref qr])), zI g qn 647 N, zI g qi 1294 (fun x => if 647 * i_ ≤ x ∧ x < 647 * i_ + 647 then N (x - 647 * i_) else IQ x), zB g qk 2 (ups KP i_ 1)] H := hP
          have hD : va_D A [(q, .inr (6, [.ref qn, .ref qp, .int (iI ac), .ref qi, .ref qk, .ref qt, .ref qw, .ref qv, .ref qr])), zI g qn 647 N, zI g qi 1294 (fun x => if 647 * i_ ≤ x ∧ x < 647 * i_ + 647 then N (x - 647 * i_) else IQ x), zB g qk 2 (ups KP i_ 1)] := hD
          refine lv_aload_n hx hb dX6_keep_52 rfl (lv_at hl 0 rfl) ?_
          refine lv_iconst (v := iI 0) hx hb dX6_keep_53 rfl ?_
          refine z_put (v := .int (iI 0)) (Cn := RX6) (T := TX6) (N := 9) (ci := 6) C in_m_X6_keep_X6 tyX6 tyX6_ok nmX6 hK hP hD hS 0 rfl rfl 2 (by decide) (List.mem_of_getElem? (i := 5) rfl) rfl rfl rfl (Nat.le_of_ble_eq_true rfl) dX6_keep_54 (fun H locs hP hD hS => ?_)
          have hP : zP g [(q, .inr (6, [.ref qn, .ref qp, .int (iI 0), .ref qi, .ref qk, .ref qt, .ref qw, .ref qv, .ref qr])), zI g qn 647 N, zI g qi 1294 (fun x => if 647 * i_ ≤ x ∧ x < 647 * i_ + 647 then N (x - 647 * i_) else IQ x), zB g qk 2 (ups KP i_ 1)] H := hP
          have hD : va_D A [(q, .inr (6, [.ref qn, .ref qp, .int (iI 0), .ref qi, .ref qk, .ref qt, .ref qw, .ref qv, .ref qr])), zI g qn 647 N, zI g qi 1294 (fun x => if 647 * i_ ≤ x ∧ x < 647 * i_ + 647 then N (x - 647 * i_) else IQ x), zB g qk 2 (ups KP i_ 1)] := hD
          refine lv_iconst (v := iI 1) hx hb dX6_keep_57 rfl ?_
          exact z_retE hx hb hlk hr hQ dX6_keep_58 hS () (rfl) (hP)
        · refine lv_aload_n hx hb dX6_keep_21 rfl (lv_at hl 0 rfl) ?_
          refine z_get (v := .ref qi) (Cn := RX6) (T := TX6) (N := 9) (ci := 6) C in_m_X6_keep_X6 hK hP 0 rfl rfl 3 (by decide) (List.mem_of_getElem? (i := 2) rfl) rfl dX6_keep_22 ?_
          refine lv_sipush (v := iI 647) hx hb dX6_keep_25 (by decide +kernel) ?_
          refine lv_iload_n hx hb dX6_keep_28 rfl (lv_at hl 1 rfl) ?_
          refine z_imul hx hb dX6_keep_29 ?_
          refine lv_iload_n hx hb dX6_keep_30 rfl (lv_at hl 2 rfl) ?_
          refine z_iadd hx hb dX6_keep_31 ?_
          refine lv_aload_n hx hb dX6_keep_32 rfl (lv_at hl 0 rfl) ?_
          refine z_get (v := .ref qn) (Cn := RX6) (T := TX6) (N := 9) (ci := 6) C in_m_X6_keep_X6 hK hP 0 rfl rfl 0 (by decide) (List.mem_of_getElem? (i := 3) rfl) rfl dX6_keep_33 ?_
          refine lv_iload_n hx hb dX6_keep_36 rfl (lv_at hl 2 rfl) ?_
          refine z_iald hx hb hK hP 1 rfl (by omega) (by omega) (Nat.le_of_ble_eq_true rfl) dX6_keep_37 ?_
          refine z_iast hx hb hK hP hD hS 2 rfl (by omega) (by omega) (Nat.le_of_ble_eq_true rfl) dX6_keep_38 (fun H locs hP hD hS => ?_)
          have hP : zP g [(q, .inr (6, [.ref qn, .ref qp, .int (iI ac), .ref qi, .ref qk, .ref qt, .ref qw, .ref qv, .ref qr])), zI g qn 647 N, zI g qi 1294 (ups IR ((647 * i_) + k) (N k)), zB g qk 2 KP] H := hP
          have hD : va_D A [(q, .inr (6, [.ref qn, .ref qp, .int (iI ac), .ref qi, .ref qk, .ref qt, .ref qw, .ref qv, .ref qr])), zI g qn 647 N, zI g qi 1294 (ups IR ((647 * i_) + k) (N k)), zB g qk 2 KP] := hD
          refine z_iinc (b := k + 1) (lv' := [(2, .int (iI (k + 1))), (0, .ref q), (1, .int (iI i_))]) hx hb dX6_keep_39 hl (k := 2) rfl (rfl) (by decide) rfl (fun ls hl => ?_)
          refine lv_goto (tgt := 14) hx hb dX6_keep_42 (by decide) ?_
          exact ih14 (k + 1) (ups IR ((647 * i_) + k) (N k)) (by omega) (by omega) (fun j => by by_cases hj : j = 647 * i_ + k; (· rw [hj, ups_s, if_pos (by omega)]; congr 1; omega); (· rw [ups_n _ _ hj, i3 j]; (repeat' split) <;> first | rfl | omega)) (by omega) H locs ls (lv_sub hl [1, 2, 0] rfl) (hP) (hD) hS
    exact L14 (648) 0 IQ (by omega) (by omega) (fun j => by rw [if_neg (by omega)]) (by omega) H locs ls (lv_sub hl [1, 2, 0] rfl) (hP) (hD) hS
  · exfalso; omega
set_option maxHeartbeats 4000000 in
set_option maxRecDepth 100000 in
theorem m_X6_keep_n (l : Launch) (g : zG) (q qn qp qi qk qt qw qv qr : Nat) (ac : Int) (i_ : Int) (g_i_ : -2147483648 ≤ i_ ∧ i_ < 2147483648) (rf : ¬ (0 ≤ i_ ∧ i_ ≤ 1)) : zS l yX6_keep wsX6_keep ({ frames := 1, cells := 0, slots := 0, locals := 22 }) g [.ref q, .int (iI i_)] [(q, .inr (6, [.ref qn, .ref qp, .int (iI ac), .ref qi, .ref qk, .ref qt, .ref qw, .ref qv, .ref qr]))] (-1000000001) := by
  refine z_entS (cc := cX6_keep) (nL := 3) (ret := (some .int)) (own := RX6) (by decide) rfl rfl (Nat.le_of_ble_eq_true rfl) ?_
  intro p e s m below meth c Q ls C hlk hr hQ hP hK hl
  have hx := C.1
  have hb := C.2.1
  have hl : lv_has ls 3 [(0, .ref q), (1, .int (iI i_))] := hl
  refine lv_iload_n hx hb dX6_keep_0 rfl (lv_at hl 1 rfl) ?_
  refine lv_iconst (v := iI 0) hx hb dX6_keep_1 rfl ?_
  refine lv_iconst (v := iI 1) hx hb dX6_keep_2 rfl ?_
  refine z_cSS (As := [.int (iI i_), .int (iI 0), .int (iI 1)]) (rest := []) C (m_X6_in (l := l) (g := g) (v := i_) (lo := 0) (hi := 1) (g_v := by omega) (g_lo := by omega) (g_hi := by omega)) (cwS 3 C.2.2.2.2 gX6_keep_X6_in rfl rfl rfl (by decide +kernel) ⟨Nat.le_of_ble_eq_true rfl, Nat.le_of_ble_eq_true rfl⟩) hK hP [] rfl rfl hl.1 rfl (Nat.le_of_ble_eq_true rfl) dX6_keep_3 ⟨Nat.zero_le _, Nat.zero_le _⟩ ?_
  refine z_ifb_ne (tgt := 12) hx hb dX6_keep_6 (by decide) (fun c_1 => ?_) (fun c_1 => ?_)
  · exfalso; omega
  · refine z_ldc C (List.mem_of_getElem? (i := 1) rfl) (-1000000001) (by decide +kernel) dX6_keep_9 ?_
    exact z_retS hx hb hlk hr hQ dX6_keep_11 (rfl)
set_option maxRecDepth 20000 in
theorem in_m_X6_goBack_X6 : ∀ w ∈ u_ws RX6 TX6 9, w ∈ wsX6_goBack := zmem_of _ [11, 12, 13, 14, 15, 16, 17, 18, 19] (by decide +kernel)
set_option maxHeartbeats 4000000 in
set_option maxRecDepth 100000 in
theorem m_X6_goBack (l : Launch) (g : zG) (q qn qp qi qk qt qw qv qr : Nat) (ac : Int) (N IQ KP : Int → Int) (i_ : Int) (b1 : 0 ≤ i_ ∧ i_ ≤ 1) (b2 : KP i_ = 1) : zE l yX6_goBack wsX6_goBack ({ frames := 1, cells := 0, slots := 0, locals := 22 }) g [.ref q, .int (iI i_)] [(q, .inr (6, [.ref qn, .ref qp, .int (iI ac), .ref qi, .ref qk, .ref qt, .ref qw, .ref qv, .ref qr])), zI g qn 647 N, zI g qi 1294 IQ, zB g qk 2 KP] (S := Unit) (fun r _ => r = 1) (fun _ => [(q, .inr (6, [.ref qn, .ref qp, .int (iI 0), .ref qi, .ref qk, .ref qt, .ref qw, .ref qv, .ref qr])), zI g qn 647 (fun x => IQ (647 * i_ + x)), zI g qi 1294 IQ, zB g qk 2 KP]) := by
  refine z_entE (cc := cX6_goBack) (nL := 3) (ret := (some .int)) (own := RX6) (by decide) rfl rfl (Nat.le_of_ble_eq_true rfl) ?_
  intro p e s m below meth c Q ls A C hlk hr hQ hP hK hD hA hS hl
  have hx := C.1
  have hb := C.2.1
  have hl : lv_has ls 3 [(0, .ref q), (1, .int (iI i_))] := hl
  obtain ⟨H, hHe⟩ : ∃ H, H = s.heap := ⟨_, rfl⟩
  obtain ⟨locs, hLe⟩ : ∃ q : List Loc, q = [] := ⟨_, rfl⟩
  have hP : zP g [(q, .inr (6, [.ref qn, .ref qp, .int (iI ac), .ref qi, .ref qk, .ref qt, .ref qw, .ref qv, .ref qr])), zI g qn 647 N, zI g qi 1294 IQ, zB g qk 2 KP] H := by rw [hHe]; exact hP
  have hS : va_S A s.heap H locs := by rw [hHe, hLe]; exact hS
  suffices hgo : W p l e ({ frames := 1, cells := 0, slots := 0, locals := 22 }) s m ([.ref q, .int (iI i_)] : List Value).toArray below meth c H locs 0 0 Q (F0 m 0 ls []) by rw [hHe, hLe] at hgo; exact hgo
  clear hHe hLe
  refine lv_iload_n hx hb dX6_goBack_0 rfl (lv_at hl 1 rfl) ?_
  refine lv_iconst (v := iI 0) hx hb dX6_goBack_1 rfl ?_
  refine lv_iconst (v := iI 1) hx hb dX6_goBack_2 rfl ?_
  refine z_cSS (As := [.int (iI i_), .int (iI 0), .int (iI 1)]) (rest := []) C (m_X6_in (l := l) (g := g) (v := i_) (lo := 0) (hi := 1) (g_v := by omega) (g_lo := by omega) (g_hi := by omega)) (cwS 3 C.2.2.2.2 gX6_goBack_X6_in rfl rfl rfl (by decide +kernel) ⟨Nat.le_of_ble_eq_true rfl, Nat.le_of_ble_eq_true rfl⟩) hK hP [] rfl rfl hl.1 rfl (Nat.le_of_ble_eq_true rfl) dX6_goBack_3 ⟨Nat.zero_le _, Nat.zero_le _⟩ ?_
  refine z_ifb_ne (tgt := 12) hx hb dX6_goBack_6 (by decide) (fun c_1 => ?_) (fun c_1 => ?_)
  · refine lv_aload_n hx hb dX6_goBack_12 rfl (lv_at hl 0 rfl) ?_
    refine z_get (v := .ref qk) (Cn := RX6) (T := TX6) (N := 9) (ci := 6) C in_m_X6_goBack_X6 hK hP 0 rfl rfl 4 (by decide) (List.mem_of_getElem? (i := 2) rfl) rfl dX6_goBack_13 ?_
    refine lv_iload_n hx hb dX6_goBack_16 rfl (lv_at hl 1 rfl) ?_
    refine z_bald hx hb hK hP 3 rfl (by omega) (by omega) (Nat.le_of_ble_eq_true rfl) dX6_goBack_17 ?_
    refine z_if_ne (tgt := 24) hx hb dX6_goBack_18 (by decide) (by omega) (fun c_2 => ?_) (fun c_2 => ?_)
    · refine lv_iconst (v := iI 0) hx hb dX6_goBack_24 rfl ?_
      refine lv_istore_n (lv' := [(2, .int (iI 0)), (0, .ref q), (1, .int (iI i_))]) hx hb dX6_goBack_25 rfl hl (by decide) rfl (fun ls hl => ?_)
      have L26 : ∀ (n : Nat) (k : Int) (NV : Int → Int), (i1 : 0 ≤ k) → (i2 : k ≤ 647) → (i3 : ∀ j, 0 ≤ j → j < k → NV j = IQ (647 * i_ + j)) → (hms : 647 - k < (n : Int)) → ∀ (H : Heap) (locs : List Loc) (ls : Array Slot), lv_has ls 3 [(0, .ref q), (1, .int (iI i_)), (2, .int (iI k))] → zP g [(q, .inr (6, [.ref qn, .ref qp, .int (iI ac), .ref qi, .ref qk, .ref qt, .ref qw, .ref qv, .ref qr])), zI g qn 647 NV, zI g qi 1294 IQ, zB g qk 2 KP] H → va_D A [(q, .inr (6, [.ref qn, .ref qp, .int (iI ac), .ref qi, .ref qk, .ref qt, .ref qw, .ref qv, .ref qr])), zI g qn 647 NV, zI g qi 1294 IQ, zB g qk 2 KP] → va_S A s.heap H locs → W p l e ({ frames := 1, cells := 0, slots := 0, locals := 22 }) s m ([.ref q, .int (iI i_)] : List Value).toArray below meth c H locs 0 0 Q (F0 m 26 ls []) := by
        clear hP hD hS hl
        intro n
        induction n with
        | zero =>
          intro k NV i1 i2 i3 hms H locs ls hl hP hD hS
          exfalso; omega
        | succ n ih26 =>
          intro k NV i1 i2 i3 hms H locs ls hl hP hD hS
          refine lv_iload_n hx hb dX6_goBack_26 rfl (lv_at hl 2 rfl) ?_
          refine lv_sipush (v := iI 647) hx hb dX6_goBack_27 (by decide +kernel) ?_
          refine z_icmp_ge (tgt := 57) hx hb dX6_goBack_30 (by decide) (by omega) (by omega) (fun c_3 => ?_) (fun c_3 => ?_)
          · have hP := zP_arr hP 1 (fun x => IQ (647 * i_ + x)) rfl (fun j g1 g2 => i3 j g1 (by omega))
            have hD := zD_set (c1 := (zI g qn 647 (fun x => IQ (647 * i_ + x))).2) hD 1 rfl
            have hP : zP g [(q, .inr (6, [.ref qn, .ref qp, .int (iI ac), .ref qi, .ref qk, .ref qt, .ref qw, .ref qv, .ref qr])), zI g qn 647 (fun x => IQ (647 * i_ + x)), zI g qi 1294 IQ, zB g qk 2 KP] H := hP
            have hD : va_D A [(q, .inr (6, [.ref qn, .ref qp, .int (iI ac), .ref qi, .ref qk, .ref qt, .ref qw, .ref qv, .ref qr])), zI g qn 647 (fun x => IQ (647 * i_ + x)), zI g qi 1294 IQ, zB g qk 2 KP] := hD
            refine lv_aload_n hx hb dX6_goBack_57 rfl (lv_at hl 0 rfl) ?_
            refine lv_iconst (v := iI 0) hx hb dX6_goBack_58 rfl ?_
            refine z_put (v := .int (iI 0)) (Cn := RX6) (T := TX6) (N := 9) (ci := 6) C in_m_X6_goBack_X6 tyX6 tyX6_ok nmX6 hK hP hD hS 0 rfl rfl 2 (by decide) (List.mem_of_getElem? (i := 6) rfl) rfl rfl rfl (Nat.le_of_ble_eq_true rfl) dX6_goBack_59 (fun H locs hP hD hS => ?_)
            have hP : zP g [(q, .inr (6, [.ref qn, .ref qp, .int (iI 0), .ref qi, .ref qk, .ref qt, .ref qw, .ref qv, .ref qr])), zI g qn 647 (fun x => IQ (647 * i_ + x)), zI g qi 1294 IQ, zB g qk 2 KP] H := hP
            have hD : va_D A [(q, .inr (6, [.ref qn, .ref qp, .int (iI 0), .ref qi, .ref qk, .ref qt, .ref qw, .ref qv, .ref qr])), zI g qn 647 (fun x => IQ (647 * i_ + x)), zI g qi 1294 IQ, zB g qk 2 KP] := hD
            refine lv_iconst (v := iI 1) hx hb dX6_goBack_62 rfl ?_
            exact z_retE hx hb hlk hr hQ dX6_goBack_63 hS () (rfl) (hP)
          · refine lv_aload_n hx hb dX6_goBack_33 rfl (lv_at hl 0 rfl) ?_
            refine z_get (v := .ref qn) (Cn := RX6) (T := TX6) (N := 9) (ci := 6) C in_m_X6_goBack_X6 hK hP 0 rfl rfl 0 (by decide) (List.mem_of_getElem? (i := 4) rfl) rfl dX6_goBack_34 ?_
            refine lv_iload_n hx hb dX6_goBack_37 rfl (lv_at hl 2 rfl) ?_
            refine lv_aload_n hx hb dX6_goBack_38 rfl (lv_at hl 0 rfl) ?_
            refine z_get (v := .ref qi) (Cn := RX6) (T := TX6) (N := 9) (ci := 6) C in_m_X6_goBack_X6 hK hP 0 rfl rfl 3 (by decide) (List.mem_of_getElem? (i := 5) rfl) rfl dX6_goBack_39 ?_
            refine lv_sipush (v := iI 647) hx hb dX6_goBack_42 (by decide +kernel) ?_
            refine lv_iload_n hx hb dX6_goBack_45 rfl (lv_at hl 1 rfl) ?_
            refine z_imul hx hb dX6_goBack_46 ?_
            refine lv_iload_n hx hb dX6_goBack_47 rfl (lv_at hl 2 rfl) ?_
            refine z_iadd hx hb dX6_goBack_48 ?_
            refine z_iald hx hb hK hP 2 rfl (by omega) (by omega) (Nat.le_of_ble_eq_true rfl) dX6_goBack_49 ?_
            refine z_iast hx hb hK hP hD hS 1 rfl (by omega) (by omega) (Nat.le_of_ble_eq_true rfl) dX6_goBack_50 (fun H locs hP hD hS => ?_)
            have hP : zP g [(q, .inr (6, [.ref qn, .ref qp, .int (iI ac), .ref qi, .ref qk, .ref qt, .ref qw, .ref qv, .ref qr])), zI g qn 647 (ups NV k (IQ ((647 * i_) + k))), zI g qi 1294 IQ, zB g qk 2 KP] H := hP
            have hD : va_D A [(q, .inr (6, [.ref qn, .ref qp, .int (iI ac), .ref qi, .ref qk, .ref qt, .ref qw, .ref qv, .ref qr])), zI g qn 647 (ups NV k (IQ ((647 * i_) + k))), zI g qi 1294 IQ, zB g qk 2 KP] := hD
            refine z_iinc (b := k + 1) (lv' := [(2, .int (iI (k + 1))), (0, .ref q), (1, .int (iI i_))]) hx hb dX6_goBack_51 hl (k := 2) rfl (rfl) (by decide) rfl (fun ls hl => ?_)
            refine lv_goto (tgt := 26) hx hb dX6_goBack_54 (by decide) ?_
            exact ih26 (k + 1) (ups NV k (IQ ((647 * i_) + k))) (by omega) (by omega) (fun j g1 g2 => by by_cases hj : j = k; (· rw [hj, ups_s]); (· rw [ups_n _ _ hj]; exact i3 j g1 (by omega))) (by omega) H locs ls (lv_sub hl [1, 2, 0] rfl) (hP) (hD) hS
      exact L26 (648) 0 N (by omega) (by omega) (fun j g1 g2 => by omega) (by omega) H locs ls (lv_sub hl [1, 2, 0] rfl) (hP) (hD) hS
    · exfalso; omega
  · exfalso; omega
set_option maxRecDepth 20000 in
theorem in_m_X6_goBack_n_X6 : ∀ w ∈ u_ws RX6 TX6 9, w ∈ wsX6_goBack := zmem_of _ [11, 12, 13, 14, 15, 16, 17, 18, 19] (by decide +kernel)
set_option maxHeartbeats 4000000 in
set_option maxRecDepth 100000 in
theorem m_X6_goBack_n (l : Launch) (g : zG) (q qn qp qi qk qt qw qv qr : Nat) (ac : Int) (KP : Int → Int) (i_ : Int) (g_i_ : -2147483648 ≤ i_ ∧ i_ < 2147483648) (rf : (0 ≤ i_ ∧ i_ ≤ 1) → KP i_ = 0) : zS l yX6_goBack wsX6_goBack ({ frames := 1, cells := 0, slots := 0, locals := 22 }) g [.ref q, .int (iI i_)] [(q, .inr (6, [.ref qn, .ref qp, .int (iI ac), .ref qi, .ref qk, .ref qt, .ref qw, .ref qv, .ref qr])), zB g qk 2 KP] (if ¬ (0 ≤ i_ ∧ i_ ≤ 1) then -1000000001 else -1000000003) := by
  refine z_entS (cc := cX6_goBack) (nL := 3) (ret := (some .int)) (own := RX6) (by decide) rfl rfl (Nat.le_of_ble_eq_true rfl) ?_
  intro p e s m below meth c Q ls C hlk hr hQ hP hK hl
  have hx := C.1
  have hb := C.2.1
  have hl : lv_has ls 3 [(0, .ref q), (1, .int (iI i_))] := hl
  refine lv_iload_n hx hb dX6_goBack_0 rfl (lv_at hl 1 rfl) ?_
  refine lv_iconst (v := iI 0) hx hb dX6_goBack_1 rfl ?_
  refine lv_iconst (v := iI 1) hx hb dX6_goBack_2 rfl ?_
  refine z_cSS (As := [.int (iI i_), .int (iI 0), .int (iI 1)]) (rest := []) C (m_X6_in (l := l) (g := g) (v := i_) (lo := 0) (hi := 1) (g_v := by omega) (g_lo := by omega) (g_hi := by omega)) (cwS 3 C.2.2.2.2 gX6_goBack_X6_in rfl rfl rfl (by decide +kernel) ⟨Nat.le_of_ble_eq_true rfl, Nat.le_of_ble_eq_true rfl⟩) hK hP [] rfl rfl hl.1 rfl (Nat.le_of_ble_eq_true rfl) dX6_goBack_3 ⟨Nat.zero_le _, Nat.zero_le _⟩ ?_
  refine z_ifb_ne (tgt := 12) hx hb dX6_goBack_6 (by decide) (fun c1 => ?_) (fun c1 => ?_)
  · have hk0 := rf c1
    refine lv_aload_n hx hb dX6_goBack_12 rfl (lv_at hl 0 rfl) ?_
    refine z_get (v := .ref qk) (Cn := RX6) (T := TX6) (N := 9) (ci := 6) C in_m_X6_goBack_n_X6 hK hP 0 rfl rfl 4 (by decide) (List.mem_of_getElem? (i := 2) rfl) rfl dX6_goBack_13 ?_
    refine lv_iload_n hx hb dX6_goBack_16 rfl (lv_at hl 1 rfl) ?_
    refine z_bald hx hb hK hP 1 rfl (by omega) (by omega) (Nat.le_of_ble_eq_true rfl) dX6_goBack_17 ?_
    refine z_if_ne (tgt := 24) hx hb dX6_goBack_18 (by decide) (by omega) (fun c_1 => ?_) (fun c_1 => ?_)
    · exfalso; omega
    · refine z_ldc C (List.mem_of_getElem? (i := 3) rfl) (-1000000003) (by decide +kernel) dX6_goBack_21 ?_
      exact z_retS hx hb hlk hr hQ dX6_goBack_23 ((if_neg (fun z => z c1)).symm)
  · refine z_ldc C (List.mem_of_getElem? (i := 1) rfl) (-1000000001) (by decide +kernel) dX6_goBack_9 ?_
    exact z_retS hx hb hlk hr hQ dX6_goBack_11 ((if_pos c1).symm)
set_option maxRecDepth 20000 in
theorem in_m_X6_at_n_X6 : ∀ w ∈ u_ws RX6 TX6 9, w ∈ wsX6_at := zmem_of _ [15, 16, 17, 18, 19, 20, 21, 22, 23] (by decide +kernel)
set_option maxHeartbeats 4000000 in
set_option maxRecDepth 100000 in
theorem m_X6_at_n (l : Launch) (g : zG) (q qn qp qi qk qt qw qv qr : Nat) (ac : Int) (N : Int → Int) (pi_ i_ : Int) (zN : okN N) (g_pi_ : -2147483648 ≤ pi_ ∧ pi_ < 2147483648) (g_i_ : -2147483648 ≤ i_ ∧ i_ < 2147483648) : zS l yX6_at wsX6_at ({ frames := 2, cells := 0, slots := 0, locals := 42 }) g [.ref q, .int (iI pi_), .int (iI i_)] [(q, .inr (6, [.ref qn, .ref qp, .int (iI ac), .ref qi, .ref qk, .ref qt, .ref qw, .ref qv, .ref qr])), zI g qn 647 N] (if ¬ (0 ≤ pi_ ∧ pi_ ≤ 4) then -1000000001 else if 0 ≤ i_ ∧ i_ ≤ N (2 + pi_) - 1 then N (7 + 128 * pi_ + i_) else -1000000002) := by
  refine z_entS (cc := cX6_at) (nL := 3) (ret := (some .int)) (own := RX6) (by decide) rfl rfl (Nat.le_of_ble_eq_true rfl) ?_
  intro p e s m below meth c Q ls C hlk hr hQ hP hK hl
  have hx := C.1
  have hb := C.2.1
  have hl : lv_has ls 3 [(0, .ref q), (1, .int (iI pi_)), (2, .int (iI i_))] := hl
  refine lv_iload_n hx hb dX6_at_0 rfl (lv_at hl 1 rfl) ?_
  refine z_cSS (As := [.int (iI pi_)]) (rest := []) C (m_X6_isRow (l := l) (g := g) (v := pi_) (g_v := by omega)) (cwS 1 C.2.2.2.2 gX6_at_X6_isRow rfl rfl rfl (by decide +kernel) ⟨Nat.le_of_ble_eq_true rfl, Nat.le_of_ble_eq_true rfl⟩) hK hP [] rfl rfl hl.1 rfl (Nat.le_of_ble_eq_true rfl) dX6_at_1 ⟨Nat.zero_le _, Nat.zero_le _⟩ ?_
  refine z_ifb_ne (tgt := 12) hx hb dX6_at_4 (by decide) (fun c1 => ?_) (fun c1 => ?_)
  · have hz1 := zN.2.2.1 pi_ (by omega) (by omega)
    refine lv_iload_n hx hb dX6_at_12 rfl (lv_at hl 2 rfl) ?_
    refine lv_iconst (v := iI 0) hx hb dX6_at_13 rfl ?_
    refine lv_aload_n hx hb dX6_at_14 rfl (lv_at hl 0 rfl) ?_
    refine z_get (v := .ref qn) (Cn := RX6) (T := TX6) (N := 9) (ci := 6) C in_m_X6_at_n_X6 hK hP 0 rfl rfl 0 (by decide) (List.mem_of_getElem? (i := 2) rfl) rfl dX6_at_15 ?_
    refine lv_iconst (v := iI 2) hx hb dX6_at_18 rfl ?_
    refine lv_iload_n hx hb dX6_at_19 rfl (lv_at hl 1 rfl) ?_
    refine z_iadd hx hb dX6_at_20 ?_
    refine z_iald hx hb hK hP 1 rfl (by omega) (by omega) (Nat.le_of_ble_eq_true rfl) dX6_at_21 ?_
    refine lv_iconst (v := iI 1) hx hb dX6_at_22 rfl ?_
    refine z_isub hx hb dX6_at_23 ?_
    refine z_cSS (As := [.int (iI i_), .int (iI 0), .int (iI ((N (2 + pi_)) - 1))]) (rest := []) C (m_X6_in (l := l) (g := g) (v := i_) (lo := 0) (hi := (N (2 + pi_)) - 1) (g_v := by omega) (g_lo := by omega) (g_hi := by omega)) (cwS 3 C.2.2.2.2 gX6_at_X6_in rfl rfl rfl (by decide +kernel) ⟨Nat.le_of_ble_eq_true rfl, Nat.le_of_ble_eq_true rfl⟩) hK hP [] rfl rfl hl.1 rfl (Nat.le_of_ble_eq_true rfl) dX6_at_24 ⟨Nat.zero_le _, Nat.zero_le _⟩ ?_
    refine z_ifb_eq (tgt := 39) hx hb dX6_at_27 (by decide) (fun c2 => ?_) (fun c2 => ?_)
    · refine z_ldc C (List.mem_of_getElem? (i := 3) rfl) (-1000000002) (by decide +kernel) dX6_at_39 ?_
      exact z_retS hx hb hlk hr hQ dX6_at_41 (by rw [if_neg (fun z => z c1), if_neg c2])
    · refine lv_aload_n hx hb dX6_at_30 rfl (lv_at hl 0 rfl) ?_
      refine lv_iload_n hx hb dX6_at_31 rfl (lv_at hl 1 rfl) ?_
      refine lv_iload_n hx hb dX6_at_32 rfl (lv_at hl 2 rfl) ?_
      refine z_cS (As := [.int (iI pi_), .int (iI i_)]) (rest := []) C (m_X6_of (l := l) (g := g) (q := q) (qn := qn) (qp := qp) (qi := qi) (qk := qk) (qt := qt) (qw := qw) (qv := qv) (qr := qr) (ac := ac) (N := N) (pi_ := pi_) (ix := i_) (h1 := by omega) (h2 := by omega) (x1 := by omega)) (cwV 2 C.2.2.2.2 gX6_at_X6_of rfl rfl rfl (by decide +kernel) ⟨Nat.le_of_ble_eq_true rfl, Nat.le_of_ble_eq_true rfl⟩) hK hP [0, 1] rfl 0 rfl rfl rfl hl.1 rfl (Nat.le_of_ble_eq_true rfl) dX6_at_33 ⟨Nat.zero_le _, Nat.zero_le _⟩ ?_
      refine lv_goto (tgt := 41) hx hb dX6_at_36 (by decide) ?_
      exact z_retS hx hb hlk hr hQ dX6_at_41 (by rw [if_neg (fun z => z c1), if_pos c2])
  · refine z_ldc C (List.mem_of_getElem? (i := 1) rfl) (-1000000001) (by decide +kernel) dX6_at_7 ?_
    refine lv_goto (tgt := 41) hx hb dX6_at_9 (by decide) ?_
    exact z_retS hx hb hlk hr hQ dX6_at_41 ((if_pos c1).symm)
