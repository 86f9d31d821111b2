set_option maxRecDepth 20000 in
theorem in_m_X6_told_X6 : ∀ w ∈ u_ws RX6 TX6 9, w ∈ wsX6_told := zmem_of _ [80, 81, 82, 83, 84, 85, 86, 87, 88] (by decide +kernel)
set_option maxHeartbeats 4000000 in
set_option maxRecDepth 100000 in
theorem m_X6_told (l : Launch) (g : zG) (q qn qp qi qk qt qw qv qr : Nat) (ac : Int) (N TU PK VO RK : Int → Int) (O : Int → Int) (wh : Int) (zN : okN N) (g_wh : -2147483648 ≤ wh ∧ wh < 2147483648) (hO : okO (V_ (FDn N) (N 1)) O (nt_ (FDn N) (N 1)) 124) : zE l yX6_told wsX6_told ({ frames := 6, cells := 0, slots := 0, locals := 139 }) g [.ref q, .int (iI wh)] [(q, .inr (6, [.ref qn, .ref qp, .int (iI ac), .ref qi, .ref qk, .ref qt, .ref qw, .ref qv, .ref qr])), zI g qn 647 N, zI g qt 8 TU, zI g qw 80 PK, zI g qv 124 VO, zB g qr 124 RK] (S := ((Int → Int) × (Int → Int))) (fun r u => r = tq wh (N 0) (N 1) (un_ (FDn N) (N 1)) (stt (FDn N) (N 1) 384) (he_ (FDn N) (N 1)) (ku_ (FDn N) (N 1)) (nt_ (FDn N) (N 1)) (al_ (FDn N) (N 1)) ac (V_ (FDn N) (N 1)) O) (fun u => [(q, .inr (6, [.ref qn, .ref qp, .int (iI ac), .ref qi, .ref qk, .ref qt, .ref qw, .ref qv, .ref qr])), zI g qn 647 N, zI g qt 8 (u.1), zI g qw 80 (u.2), zI g qv 124 (V_ (FDn N) (N 1)), zB g qr 124 (fun _ => 0)]) := by
  refine z_entE (cc := cX6_told) (nL := 3) (ret := (some .int)) (own := RX6) (by decide) rfl rfl (Nat.le_of_ble_eq_true rfl) ?_
  intro p e s m below meth c Q ls A C hlk hr hQ hP hK hD hA hS hl
  have hx := C.1
  have hb := C.2.1
  have hl : lv_has ls 3 [(0, .ref q), (1, .int (iI wh))] := hl
  obtain ⟨H, hHe⟩ : ∃ H, H = s.heap := ⟨_, rfl⟩
  obtain ⟨locs, hLe⟩ : ∃ q : List Loc, q = [] := ⟨_, rfl⟩
  have hP : zP g [(q, .inr (6, [.ref qn, .ref qp, .int (iI ac), .ref qi, .ref qk, .ref qt, .ref qw, .ref qv, .ref qr])), zI g qn 647 N, zI g qt 8 TU, zI g qw 80 PK, zI g qv 124 VO, zB g qr 124 RK] H := by rw [hHe]; exact hP
  have hS : va_S A s.heap H locs := by rw [hHe, hLe]; exact hS
  suffices hgo : W p l e ({ frames := 6, cells := 0, slots := 0, locals := 139 }) s m ([.ref q, .int (iI wh)] : List Value).toArray below meth c H locs 0 0 Q (F0 m 0 ls []) by rw [hHe, hLe] at hgo; exact hgo
  clear hHe hLe
  refine lv_aload_n hx hb dX6_told_0 rfl (lv_at hl 0 rfl) ?_
  refine z_cV (As := []) (rest := []) C (m_X6_counts (l := l) (g := g) (q := q) (qn := qn) (qp := qp) (qi := qi) (qk := qk) (qt := qt) (qw := qw) (qv := qv) (qr := qr) (ac := ac) (N := N) (TU := TU) (PK := PK) (VO := VO) (RK := RK) (zN := zN)) (cwV 0 C.2.2.2.2 gX6_told_X6_counts rfl rfl rfl (by decide +kernel) ⟨Nat.le_of_ble_eq_true rfl, Nat.le_of_ble_eq_true rfl⟩) hK hP hD hS hA [0, 1, 2, 3, 4, 5] (by decide) rfl (fun _ => rfl) 0 rfl rfl rfl hl.1 rfl (Nat.le_of_ble_eq_true rfl) dX6_told_1 ⟨Nat.zero_le _, Nat.zero_le _⟩ (fun t_ H locs hpk hP hD hS => ?_)
  have hP : zP g [(q, .inr (6, [.ref qn, .ref qp, .int (iI ac), .ref qi, .ref qk, .ref qt, .ref qw, .ref qv, .ref qr])), zI g qn 647 N, zI g qt 8 (t_.1), zI g qw 80 (t_.2), zI g qv 124 (V_ (FDn N) (N 1)), zB g qr 124 (fun _ => 0)] H := hP
  have hD : va_D A [(q, .inr (6, [.ref qn, .ref qp, .int (iI ac), .ref qi, .ref qk, .ref qt, .ref qw, .ref qv, .ref qr])), zI g qn 647 N, zI g qt 8 (t_.1), zI g qw 80 (t_.2), zI g qv 124 (V_ (FDn N) (N 1)), zB g qr 124 (fun _ => 0)] := hD
  have hnt := nt_rg (FDn N) (N 1)
  have hVr := V_rg (FDn N) (N 1)
  refine lv_aload_n hx hb dX6_told_4 rfl (lv_at hl 0 rfl) ?_
  refine lv_iconst (v := iI (-1)) hx hb dX6_told_5 rfl ?_
  refine z_cS (As := [.int (iI (-1))]) (rest := []) C (m_X6_best (l := l) (g := g) (q := q) (qn := qn) (qp := qp) (qi := qi) (qk := qk) (qt := qt) (qw := qw) (qv := qv) (qr := qr) (ac := ac) (VO := V_ (FDn N) (N 1)) (RK := fun _ => 0) (wo := -1) (hV := hVr) (hR := fun j g1 g2 => Or.inl rfl) (o1 := by omega)) (cwV 1 C.2.2.2.2 gX6_told_X6_best rfl rfl rfl (by decide +kernel) ⟨Nat.le_of_ble_eq_true rfl, Nat.le_of_ble_eq_true rfl⟩) hK hP [0, 4, 5] rfl 0 rfl rfl rfl hl.1 rfl (Nat.le_of_ble_eq_true rfl) dX6_told_6 ⟨Nat.zero_le _, Nat.zero_le _⟩ ?_
  have hbz := bz_rg (V_ (FDn N) (N 1)) (fun _ => 0) (-1) (k := 124) (by omega)
  refine z_top (b := if 0 < nt_ (FDn N) (N 1) then O 0 else -1) (bz_rank hO (Int.le_refl 0) hnt.1 (fun d g1 g2 => ⟨fun _ i a1 a2 => by omega, fun _ => rfl⟩)) ?_
  by_cases hn0 : 0 < nt_ (FDn N) (N 1)
  · have hO0 := hO.1 0 (Int.le_refl 0) hn0
    have hV0 := hVr (O 0)
    refine z_top (b := O 0) (if_pos hn0) ?_
    refine lv_istore_n (lv' := [(2, .int (iI (O 0))), (0, .ref q), (1, .int (iI wh))]) hx hb dX6_told_9 rfl hl (by decide) rfl (fun ls hl => ?_)
    refine lv_iload_n hx hb dX6_told_10 rfl (lv_at hl 2 rfl) ?_
    by_cases t_0 : wh = 0
    · subst t_0
      refine lv_tableIn (off := 65) (tgt := 76) hx hb dX6_told_11 (by decide +kernel) (by decide +kernel) (by decide +kernel) (by decide) ?_
      refine lv_aload_n hx hb dX6_told_76 rfl (lv_at hl 1 rfl) ?_
      refine z_get (v := .ref qn) (Cn := RX6) (T := TX6) (N := 9) (ci := 6) C in_m_X6_told_X6 hK hP 0 rfl rfl 0 (by decide) (List.mem_of_getElem? (i := 1) rfl) rfl dX6_told_77 ?_
      refine lv_iload_n hx hb dX6_told_80 rfl (lv_at hl 2 rfl) ?_
      refine z_iald hx hb hK hP 1 rfl (by omega) (by omega) (Nat.le_of_ble_eq_true rfl) dX6_told_81 ?_
      exact z_retE hx hb hlk hr hQ dX6_told_82 hS t_ (rfl) (hP)
    by_cases t_1 : wh = 1
    · subst t_1
      refine lv_tableIn (off := 65) (tgt := 76) hx hb dX6_told_11 (by decide +kernel) (by decide +kernel) (by decide +kernel) (by decide) ?_
      refine lv_aload_n hx hb dX6_told_76 rfl (lv_at hl 1 rfl) ?_
      refine z_get (v := .ref qn) (Cn := RX6) (T := TX6) (N := 9) (ci := 6) C in_m_X6_told_X6 hK hP 0 rfl rfl 0 (by decide) (List.mem_of_getElem? (i := 1) rfl) rfl dX6_told_77 ?_
      refine lv_iload_n hx hb dX6_told_80 rfl (lv_at hl 2 rfl) ?_
      refine z_iald hx hb hK hP 1 rfl (by omega) (by omega) (Nat.le_of_ble_eq_true rfl) dX6_told_81 ?_
      exact z_retE hx hb hlk hr hQ dX6_told_82 hS t_ (rfl) (hP)
    by_cases t_2 : wh = 2
    · subst t_2
      refine lv_tableIn (off := 72) (tgt := 83) hx hb dX6_told_11 (by decide +kernel) (by decide +kernel) (by decide +kernel) (by decide) ?_
      refine lv_aload_n hx hb dX6_told_83 rfl (lv_at hl 1 rfl) ?_
      refine lv_iconst (v := iI 0) hx hb dX6_told_84 rfl ?_
      refine z_cS (As := [.int (iI 0)]) (rest := []) C (m_X6_ledger_f (l := l) (g := g) (q := q) (qn := qn) (qp := qp) (qi := qi) (qk := qk) (qt := qt) (qw := qw) (qv := qv) (qr := qr) (ac := ac) (N := N) (PK := t_.2) (zN := zN) (hpk := hpk)) (cwV 1 C.2.2.2.2 gX6_told_X6_ledger rfl rfl rfl (by decide +kernel) ⟨Nat.le_of_ble_eq_true rfl, Nat.le_of_ble_eq_true rfl⟩) hK hP [0, 1, 3] rfl 0 rfl rfl rfl hl.1 rfl (Nat.le_of_ble_eq_true rfl) dX6_told_85 ⟨Nat.zero_le _, Nat.zero_le _⟩ ?_
      exact z_retE hx hb hlk hr hQ dX6_told_88 hS t_ (rfl) (hP)
    by_cases t_3 : wh = 3
    · subst t_3
      refine lv_tableIn (off := 78) (tgt := 89) hx hb dX6_told_11 (by decide +kernel) (by decide +kernel) (by decide +kernel) (by decide) ?_
      refine lv_aload_n hx hb dX6_told_89 rfl (lv_at hl 1 rfl) ?_
      refine lv_iconst (v := iI 1) hx hb dX6_told_90 rfl ?_
      refine z_cS (As := [.int (iI 1)]) (rest := []) C (m_X6_ledger_t (l := l) (g := g) (q := q) (qn := qn) (qp := qp) (qi := qi) (qk := qk) (qt := qt) (qw := qw) (qv := qv) (qr := qr) (ac := ac) (N := N) (PK := t_.2) (zN := zN) (hpk := hpk)) (cwV 1 C.2.2.2.2 gX6_told_X6_ledger rfl rfl rfl (by decide +kernel) ⟨Nat.le_of_ble_eq_true rfl, Nat.le_of_ble_eq_true rfl⟩) hK hP [0, 1, 3] rfl 0 rfl rfl rfl hl.1 rfl (Nat.le_of_ble_eq_true rfl) dX6_told_91 ⟨Nat.zero_le _, Nat.zero_le _⟩ ?_
      exact z_retE hx hb hlk hr hQ dX6_told_94 hS t_ (rfl) (hP)
    by_cases t_4 : wh = 4
    · subst t_4
      refine lv_tableIn (off := 84) (tgt := 95) hx hb dX6_told_11 (by decide +kernel) (by decide +kernel) (by decide +kernel) (by decide) ?_
      refine lv_aload_n hx hb dX6_told_95 rfl (lv_at hl 1 rfl) ?_
      refine lv_iconst (v := iI 4) hx hb dX6_told_96 rfl ?_
      refine z_cS (As := [.int (iI 4)]) (rest := []) C (m_X6_keysOf (l := l) (g := g) (q := q) (qn := qn) (qp := qp) (qi := qi) (qk := qk) (qt := qt) (qw := qw) (qv := qv) (qr := qr) (ac := ac) (N := N) (PK := t_.2) (pi_ := 4) (zN := zN) (hpk := hpk) (h1 := by omega) (h2 := by omega)) (cwV 1 C.2.2.2.2 gX6_told_X6_keysOf rfl rfl rfl (by decide +kernel) ⟨Nat.le_of_ble_eq_true rfl, Nat.le_of_ble_eq_true rfl⟩) hK hP [0, 1, 3] rfl 0 rfl rfl rfl hl.1 rfl (Nat.le_of_ble_eq_true rfl) dX6_told_97 ⟨Nat.zero_le _, Nat.zero_le _⟩ ?_
      exact z_retE hx hb hlk hr hQ dX6_told_100 hS t_ (rfl) (hP)
    by_cases t_5 : wh = 5
    · subst t_5
      refine lv_tableIn (off := 90) (tgt := 101) hx hb dX6_told_11 (by decide +kernel) (by decide +kernel) (by decide +kernel) (by decide) ?_
      refine lv_aload_n hx hb dX6_told_101 rfl (lv_at hl 1 rfl) ?_
      refine z_cS (As := []) (rest := []) C (m_X6_known (l := l) (g := g) (q := q) (qn := qn) (qp := qp) (qi := qi) (qk := qk) (qt := qt) (qw := qw) (qv := qv) (qr := qr) (ac := ac) (N := N) (PK := t_.2) (zN := zN) (hpk := hpk)) (cwV 0 C.2.2.2.2 gX6_told_X6_known rfl rfl rfl (by decide +kernel) ⟨Nat.le_of_ble_eq_true rfl, Nat.le_of_ble_eq_true rfl⟩) hK hP [0, 1, 3] rfl 0 rfl rfl rfl hl.1 rfl (Nat.le_of_ble_eq_true rfl) dX6_told_102 ⟨Nat.zero_le _, Nat.zero_le _⟩ ?_
      exact z_retE hx hb hlk hr hQ dX6_told_105 hS t_ (rfl) (hP)
    by_cases t_6 : wh = 6
    · subst t_6
      refine lv_tableIn (off := 95) (tgt := 106) hx hb dX6_told_11 (by decide +kernel) (by decide +kernel) (by decide +kernel) (by decide) ?_
      refine lv_iload_n hx hb dX6_told_106 rfl (lv_at hl 0 rfl) ?_
      refine lv_iconst (v := iI (-1)) hx hb dX6_told_107 rfl ?_
      refine z_icmp_ne (tgt := 115) hx hb dX6_told_108 (by decide) (by omega) (by omega) (fun c_1 => ?_) (fun c_1 => ?_)
      · refine lv_iload_n hx hb dX6_told_115 rfl (lv_at hl 0 rfl) ?_
        refine lv_bipush (v := iI 31) hx hb dX6_told_116 (by decide +kernel) ?_
        refine z_idivN hx hb dX6_told_118 (by omega) (by omega) (by omega) (by omega) ?_
        exact z_retE hx hb hlk hr hQ dX6_told_119 hS t_ (by show _ = (if 0 < nt_ (FDn N) (N 1) then O 0 / 31 else -1); rw [if_pos hn0]) (hP)
      · exfalso; omega
    by_cases t_7 : wh = 7
    · subst t_7
      refine lv_tableIn (off := 109) (tgt := 120) hx hb dX6_told_11 (by decide +kernel) (by decide +kernel) (by decide +kernel) (by decide) ?_
      refine lv_iload_n hx hb dX6_told_120 rfl (lv_at hl 0 rfl) ?_
      refine lv_iconst (v := iI (-1)) hx hb dX6_told_121 rfl ?_
      refine z_icmp_ne (tgt := 129) hx hb dX6_told_122 (by decide) (by omega) (by omega) (fun c_2 => ?_) (fun c_2 => ?_)
      · refine lv_iload_n hx hb dX6_told_129 rfl (lv_at hl 0 rfl) ?_
        refine lv_bipush (v := iI 31) hx hb dX6_told_130 (by decide +kernel) ?_
        refine z_iremN hx hb dX6_told_132 (by omega) (by omega) (by omega) (by omega) ?_
        refine lv_bipush (v := iI 15) hx hb dX6_told_133 (by decide +kernel) ?_
        refine z_isub hx hb dX6_told_135 ?_
        exact z_retE hx hb hlk hr hQ dX6_told_136 hS t_ (by show _ = (if 0 < nt_ (FDn N) (N 1) then O 0 % 31 - 15 else 0); rw [if_pos hn0]) (hP)
      · exfalso; omega
    by_cases t_8 : wh = 8
    · subst t_8
      refine lv_tableIn (off := 126) (tgt := 137) hx hb dX6_told_11 (by decide +kernel) (by decide +kernel) (by decide +kernel) (by decide) ?_
      refine lv_iload_n hx hb dX6_told_137 rfl (lv_at hl 0 rfl) ?_
      refine lv_iconst (v := iI (-1)) hx hb dX6_told_138 rfl ?_
      refine z_icmp_ne (tgt := 146) hx hb dX6_told_139 (by decide) (by omega) (by omega) (fun c_3 => ?_) (fun c_3 => ?_)
      · refine lv_aload_n hx hb dX6_told_146 rfl (lv_at hl 1 rfl) ?_
        refine z_get (v := .ref qv) (Cn := RX6) (T := TX6) (N := 9) (ci := 6) C in_m_X6_told_X6 hK hP 0 rfl rfl 7 (by decide) (List.mem_of_getElem? (i := 2) rfl) rfl dX6_told_147 ?_
        refine lv_iload_n hx hb dX6_told_150 rfl (lv_at hl 0 rfl) ?_
        refine z_iald hx hb hK hP 4 rfl (by omega) (by omega) (Nat.le_of_ble_eq_true rfl) dX6_told_151 ?_
        exact z_retE hx hb hlk hr hQ dX6_told_152 hS t_ (by show _ = (if 0 < nt_ (FDn N) (N 1) then V_ (FDn N) (N 1) (O 0) else 0); rw [if_pos hn0]) (hP)
      · exfalso; omega
    by_cases t_9 : wh = 9
    · subst t_9
      refine lv_tableIn (off := 142) (tgt := 153) hx hb dX6_told_11 (by decide +kernel) (by decide +kernel) (by decide +kernel) (by decide) ?_
      refine lv_aload_n hx hb dX6_told_153 rfl (lv_at hl 1 rfl) ?_
      refine z_cS (As := []) (rest := []) C (m_X6_doubt (l := l) (g := g) (q := q) (qn := qn) (qp := qp) (qi := qi) (qk := qk) (qt := qt) (qw := qw) (qv := qv) (qr := qr) (ac := ac) (VO := V_ (FDn N) (N 1)) (RK := fun _ => 0) (O := O) (n_ := nt_ (FDn N) (N 1)) (hV := hVr) (hR0 := fun d _ _ => rfl) (hO := hO) (n1 := by omega)) (cwV 0 C.2.2.2.2 gX6_told_X6_doubt rfl rfl rfl (by decide +kernel) ⟨Nat.le_of_ble_eq_true rfl, Nat.le_of_ble_eq_true rfl⟩) hK hP [0, 4, 5] rfl 0 rfl rfl rfl hl.1 rfl (Nat.le_of_ble_eq_true rfl) dX6_told_154 ⟨Nat.zero_le _, Nat.zero_le _⟩ ?_
      exact z_retE hx hb hlk hr hQ dX6_told_157 hS t_ (rfl) (hP)
    by_cases t_10 : wh = 10
    · subst t_10
      refine lv_tableIn (off := 147) (tgt := 158) hx hb dX6_told_11 (by decide +kernel) (by decide +kernel) (by decide +kernel) (by decide) ?_
      refine lv_aload_n hx hb dX6_told_158 rfl (lv_at hl 1 rfl) ?_
      refine lv_iconst (v := iI 1) hx hb dX6_told_159 rfl ?_
      refine z_cS (As := [.int (iI 1)]) (rest := []) C (m_X6_allVotes_t (l := l) (g := g) (q := q) (qn := qn) (qp := qp) (qi := qi) (qk := qk) (qt := qt) (qw := qw) (qv := qv) (qr := qr) (ac := ac) (VO := V_ (FDn N) (N 1)) (hV := hVr)) (cwV 1 C.2.2.2.2 gX6_told_X6_allVotes rfl rfl rfl (by decide +kernel) ⟨Nat.le_of_ble_eq_true rfl, Nat.le_of_ble_eq_true rfl⟩) hK hP [0, 4] rfl 0 rfl rfl rfl hl.1 rfl (Nat.le_of_ble_eq_true rfl) dX6_told_160 ⟨Nat.zero_le _, Nat.zero_le _⟩ ?_
      exact z_retE hx hb hlk hr hQ dX6_told_163 hS t_ (rfl) (hP)
    by_cases t_11 : wh = 11
    · subst t_11
      refine lv_tableIn (off := 153) (tgt := 164) hx hb dX6_told_11 (by decide +kernel) (by decide +kernel) (by decide +kernel) (by decide) ?_
      refine lv_aload_n hx hb dX6_told_164 rfl (lv_at hl 1 rfl) ?_
      refine lv_iconst (v := iI 0) hx hb dX6_told_165 rfl ?_
      refine z_cS (As := [.int (iI 0)]) (rest := []) C (m_X6_allVotes_f (l := l) (g := g) (q := q) (qn := qn) (qp := qp) (qi := qi) (qk := qk) (qt := qt) (qw := qw) (qv := qv) (qr := qr) (ac := ac) (VO := V_ (FDn N) (N 1)) (hV := hVr)) (cwV 1 C.2.2.2.2 gX6_told_X6_allVotes rfl rfl rfl (by decide +kernel) ⟨Nat.le_of_ble_eq_true rfl, Nat.le_of_ble_eq_true rfl⟩) hK hP [0, 4] rfl 0 rfl rfl rfl hl.1 rfl (Nat.le_of_ble_eq_true rfl) dX6_told_166 ⟨Nat.zero_le _, Nat.zero_le _⟩ ?_
      exact z_retE hx hb hlk hr hQ dX6_told_169 hS t_ (rfl) (hP)
    by_cases t_12 : wh = 12
    · subst t_12
      refine lv_tableIn (off := 159) (tgt := 170) hx hb dX6_told_11 (by decide +kernel) (by decide +kernel) (by decide +kernel) (by decide) ?_
      refine lv_aload_n hx hb dX6_told_170 rfl (lv_at hl 1 rfl) ?_
      refine z_get (v := .int (iI ac)) (Cn := RX6) (T := TX6) (N := 9) (ci := 6) C in_m_X6_told_X6 hK hP 0 rfl rfl 2 (by decide) (List.mem_of_getElem? (i := 3) rfl) rfl dX6_told_171 ?_
      exact z_retE hx hb hlk hr hQ dX6_told_174 hS t_ (rfl) (hP)
    refine lv_tableOut (tgt := 175) hx hb dX6_told_11 (by rw [iI_to (by omega) (by omega)]; omega) (by decide) ?_
    refine z_ldc C (List.mem_of_getElem? (i := 4) rfl) (-1000000002) (by decide +kernel) dX6_told_175 ?_
    exact z_retE hx hb hlk hr hQ dX6_told_177 hS t_ (by unfold tq; (repeat rw [if_neg (by assumption)])) (hP)
  · refine z_top (b := -1) (if_neg hn0) ?_
    refine lv_istore_n (lv' := [(2, .int (iI (-1))), (0, .ref q), (1, .int (iI wh))]) hx hb dX6_told_9 rfl hl (by decide) rfl (fun ls hl => ?_)
    refine lv_iload_n hx hb dX6_told_10 rfl (lv_at hl 2 rfl) ?_
    by_cases t_0 : wh = 0
    · subst t_0
      refine lv_tableIn (off := 65) (tgt := 76) hx hb dX6_told_11 (by decide +kernel) (by decide +kernel) (by decide +kernel) (by decide) ?_
      refine lv_aload_n hx hb dX6_told_76 rfl (lv_at hl 1 rfl) ?_
      refine z_get (v := .ref qn) (Cn := RX6) (T := TX6) (N := 9) (ci := 6) C in_m_X6_told_X6 hK hP 0 rfl rfl 0 (by decide) (List.mem_of_getElem? (i := 1) rfl) rfl dX6_told_77 ?_
      refine lv_iload_n hx hb dX6_told_80 rfl (lv_at hl 2 rfl) ?_
      refine z_iald hx hb hK hP 1 rfl (by omega) (by omega) (Nat.le_of_ble_eq_true rfl) dX6_told_81 ?_
      exact z_retE hx hb hlk hr hQ dX6_told_82 hS t_ (rfl) (hP)
    by_cases t_1 : wh = 1
    · subst t_1
      refine lv_tableIn (off := 65) (tgt := 76) hx hb dX6_told_11 (by decide +kernel) (by decide +kernel) (by decide +kernel) (by decide) ?_
      refine lv_aload_n hx hb dX6_told_76 rfl (lv_at hl 1 rfl) ?_
      refine z_get (v := .ref qn) (Cn := RX6) (T := TX6) (N := 9) (ci := 6) C in_m_X6_told_X6 hK hP 0 rfl rfl 0 (by decide) (List.mem_of_getElem? (i := 1) rfl) rfl dX6_told_77 ?_
      refine lv_iload_n hx hb dX6_told_80 rfl (lv_at hl 2 rfl) ?_
      refine z_iald hx hb hK hP 1 rfl (by omega) (by omega) (Nat.le_of_ble_eq_true rfl) dX6_told_81 ?_
      exact z_retE hx hb hlk hr hQ dX6_told_82 hS t_ (rfl) (hP)
    by_cases t_2 : wh = 2
    · subst t_2
      refine lv_tableIn (off := 72) (tgt := 83) hx hb dX6_told_11 (by decide +kernel) (by decide +kernel) (by decide +kernel) (by decide) ?_
      refine lv_aload_n hx hb dX6_told_83 rfl (lv_at hl 1 rfl) ?_
      refine lv_iconst (v := iI 0) hx hb dX6_told_84 rfl ?_
      refine z_cS (As := [.int (iI 0)]) (rest := []) C (m_X6_ledger_f (l := l) (g := g) (q := q) (qn := qn) (qp := qp) (qi := qi) (qk := qk) (qt := qt) (qw := qw) (qv := qv) (qr := qr) (ac := ac) (N := N) (PK := t_.2) (zN := zN) (hpk := hpk)) (cwV 1 C.2.2.2.2 gX6_told_X6_ledger rfl rfl rfl (by decide +kernel) ⟨Nat.le_of_ble_eq_true rfl, Nat.le_of_ble_eq_true rfl⟩) hK hP [0, 1, 3] rfl 0 rfl rfl rfl hl.1 rfl (Nat.le_of_ble_eq_true rfl) dX6_told_85 ⟨Nat.zero_le _, Nat.zero_le _⟩ ?_
      exact z_retE hx hb hlk hr hQ dX6_told_88 hS t_ (rfl) (hP)
    by_cases t_3 : wh = 3
    · subst t_3
      refine lv_tableIn (off := 78) (tgt := 89) hx hb dX6_told_11 (by decide +kernel) (by decide +kernel) (by decide +kernel) (by decide) ?_
      refine lv_aload_n hx hb dX6_told_89 rfl (lv_at hl 1 rfl) ?_
      refine lv_iconst (v := iI 1) hx hb dX6_told_90 rfl ?_
      refine z_cS (As := [.int (iI 1)]) (rest := []) C (m_X6_ledger_t (l := l) (g := g) (q := q) (qn := qn) (qp := qp) (qi := qi) (qk := qk) (qt := qt) (qw := qw) (qv := qv) (qr := qr) (ac := ac) (N := N) (PK := t_.2) (zN := zN) (hpk := hpk)) (cwV 1 C.2.2.2.2 gX6_told_X6_ledger rfl rfl rfl (by decide +kernel) ⟨Nat.le_of_ble_eq_true rfl, Nat.le_of_ble_eq_true rfl⟩) hK hP [0, 1, 3] rfl 0 rfl rfl rfl hl.1 rfl (Nat.le_of_ble_eq_true rfl) dX6_told_91 ⟨Nat.zero_le _, Nat.zero_le _⟩ ?_
      exact z_retE hx hb hlk hr hQ dX6_told_94 hS t_ (rfl) (hP)
    by_cases t_4 : wh = 4
    · subst t_4
      refine lv_tableIn (off := 84) (tgt := 95) hx hb dX6_told_11 (by decide +kernel) (by decide +kernel) (by decide +kernel) (by decide) ?_
      refine lv_aload_n hx hb dX6_told_95 rfl (lv_at hl 1 rfl) ?_
      refine lv_iconst (v := iI 4) hx hb dX6_told_96 rfl ?_
      refine z_cS (As := [.int (iI 4)]) (rest := []) C (m_X6_keysOf (l := l) (g := g) (q := q) (qn := qn) (qp := qp) (qi := qi) (qk := qk) (qt := qt) (qw := qw) (qv := qv) (qr := qr) (ac := ac) (N := N) (PK := t_.2) (pi_ := 4) (zN := zN) (hpk := hpk) (h1 := by omega) (h2 := by omega)) (cwV 1 C.2.2.2.2 gX6_told_X6_keysOf rfl rfl rfl (by decide +kernel) ⟨Nat.le_of_ble_eq_true rfl, Nat.le_of_ble_eq_true rfl⟩) hK hP [0, 1, 3] rfl 0 rfl rfl rfl hl.1 rfl (Nat.le_of_ble_eq_true rfl) dX6_told_97 ⟨Nat.zero_le _, Nat.zero_le _⟩ ?_
      exact z_retE hx hb hlk hr hQ dX6_told_100 hS t_ (rfl) (hP)
    by_cases t_5 : wh = 5
    · subst t_5
      refine lv_tableIn (off := 90) (tgt := 101) hx hb dX6_told_11 (by decide +kernel) (by decide +kernel) (by decide +kernel) (by decide) ?_
      refine lv_aload_n hx hb dX6_told_101 rfl (lv_at hl 1 rfl) ?_
      refine z_cS (As := []) (rest := []) C (m_X6_known (l := l) (g := g) (q := q) (qn := qn) (qp := qp) (qi := qi) (qk := qk) (qt := qt) (qw := qw) (qv := qv) (qr := qr) (ac := ac) (N := N) (PK := t_.2) (zN := zN) (hpk := hpk)) (cwV 0 C.2.2.2.2 gX6_told_X6_known rfl rfl rfl (by decide +kernel) ⟨Nat.le_of_ble_eq_true rfl, Nat.le_of_ble_eq_true rfl⟩) hK hP [0, 1, 3] rfl 0 rfl rfl rfl hl.1 rfl (Nat.le_of_ble_eq_true rfl) dX6_told_102 ⟨Nat.zero_le _, Nat.zero_le _⟩ ?_
      exact z_retE hx hb hlk hr hQ dX6_told_105 hS t_ (rfl) (hP)
    by_cases t_6 : wh = 6
    · subst t_6
      refine lv_tableIn (off := 95) (tgt := 106) hx hb dX6_told_11 (by decide +kernel) (by decide +kernel) (by decide +kernel) (by decide) ?_
      refine lv_iload_n hx hb dX6_told_106 rfl (lv_at hl 0 rfl) ?_
      refine lv_iconst (v := iI (-1)) hx hb dX6_told_107 rfl ?_
      refine z_icmp_ne (tgt := 115) hx hb dX6_told_108 (by decide) (by omega) (by omega) (fun c_4 => ?_) (fun c_4 => ?_)
      · exfalso; omega
      · refine lv_iconst (v := iI (-1)) hx hb dX6_told_111 rfl ?_
        refine lv_goto (tgt := 119) hx hb dX6_told_112 (by decide) ?_
        exact z_retE hx hb hlk hr hQ dX6_told_119 hS t_ (by show _ = (if 0 < nt_ (FDn N) (N 1) then O 0 / 31 else -1); rw [if_neg hn0]) (hP)
    by_cases t_7 : wh = 7
    · subst t_7
      refine lv_tableIn (off := 109) (tgt := 120) hx hb dX6_told_11 (by decide +kernel) (by decide +kernel) (by decide +kernel) (by decide) ?_
      refine lv_iload_n hx hb dX6_told_120 rfl (lv_at hl 0 rfl) ?_
      refine lv_iconst (v := iI (-1)) hx hb dX6_told_121 rfl ?_
      refine z_icmp_ne (tgt := 129) hx hb dX6_told_122 (by decide) (by omega) (by omega) (fun c_5 => ?_) (fun c_5 => ?_)
      · exfalso; omega
      · refine lv_iconst (v := iI 0) hx hb dX6_told_125 rfl ?_
        refine lv_goto (tgt := 136) hx hb dX6_told_126 (by decide) ?_
        exact z_retE hx hb hlk hr hQ dX6_told_136 hS t_ (by show _ = (if 0 < nt_ (FDn N) (N 1) then O 0 % 31 - 15 else 0); rw [if_neg hn0]) (hP)
    by_cases t_8 : wh = 8
    · subst t_8
      refine lv_tableIn (off := 126) (tgt := 137) hx hb dX6_told_11 (by decide +kernel) (by decide +kernel) (by decide +kernel) (by decide) ?_
      refine lv_iload_n hx hb dX6_told_137 rfl (lv_at hl 0 rfl) ?_
      refine lv_iconst (v := iI (-1)) hx hb dX6_told_138 rfl ?_
      refine z_icmp_ne (tgt := 146) hx hb dX6_told_139 (by decide) (by omega) (by omega) (fun c_6 => ?_) (fun c_6 => ?_)
      · exfalso; omega
      · refine lv_iconst (v := iI 0) hx hb dX6_told_142 rfl ?_
        refine lv_goto (tgt := 152) hx hb dX6_told_143 (by decide) ?_
        exact z_retE hx hb hlk hr hQ dX6_told_152 hS t_ (by show _ = (if 0 < nt_ (FDn N) (N 1) then V_ (FDn N) (N 1) (O 0) else 0); rw [if_neg hn0]) (hP)
    by_cases t_9 : wh = 9
    · subst t_9
      refine lv_tableIn (off := 142) (tgt := 153) hx hb dX6_told_11 (by decide +kernel) (by decide +kernel) (by decide +kernel) (by decide) ?_
      refine lv_aload_n hx hb dX6_told_153 rfl (lv_at hl 1 rfl) ?_
      refine z_cS (As := []) (rest := []) C (m_X6_doubt (l := l) (g := g) (q := q) (qn := qn) (qp := qp) (qi := qi) (qk := qk) (qt := qt) (qw := qw) (qv := qv) (qr := qr) (ac := ac) (VO := V_ (FDn N) (N 1)) (RK := fun _ => 0) (O := O) (n_ := nt_ (FDn N) (N 1)) (hV := hVr) (hR0 := fun d _ _ => rfl) (hO := hO) (n1 := by omega)) (cwV 0 C.2.2.2.2 gX6_told_X6_doubt rfl rfl rfl (by decide +kernel) ⟨Nat.le_of_ble_eq_true rfl, Nat.le_of_ble_eq_true rfl⟩) hK hP [0, 4, 5] rfl 0 rfl rfl rfl hl.1 rfl (Nat.le_of_ble_eq_true rfl) dX6_told_154 ⟨Nat.zero_le _, Nat.zero_le _⟩ ?_
      exact z_retE hx hb hlk hr hQ dX6_told_157 hS t_ (rfl) (hP)
    by_cases t_10 : wh = 10
    · subst t_10
      refine lv_tableIn (off := 147) (tgt := 158) hx hb dX6_told_11 (by decide +kernel) (by decide +kernel) (by decide +kernel) (by decide) ?_
      refine lv_aload_n hx hb dX6_told_158 rfl (lv_at hl 1 rfl) ?_
      refine lv_iconst (v := iI 1) hx hb dX6_told_159 rfl ?_
      refine z_cS (As := [.int (iI 1)]) (rest := []) C (m_X6_allVotes_t (l := l) (g := g) (q := q) (qn := qn) (qp := qp) (qi := qi) (qk := qk) (qt := qt) (qw := qw) (qv := qv) (qr := qr) (ac := ac) (VO := V_ (FDn N) (N 1)) (hV := hVr)) (cwV 1 C.2.2.2.2 gX6_told_X6_allVotes rfl rfl rfl (by decide +kernel) ⟨Nat.le_of_ble_eq_true rfl, Nat.le_of_ble_eq_true rfl⟩) hK hP [0, 4] rfl 0 rfl rfl rfl hl.1 rfl (Nat.le_of_ble_eq_true rfl) dX6_told_160 ⟨Nat.zero_le _, Nat.zero_le _⟩ ?_
      exact z_retE hx hb hlk hr hQ dX6_told_163 hS t_ (rfl) (hP)
    by_cases t_11 : wh = 11
    · subst t_11
      refine lv_tableIn (off := 153) (tgt := 164) hx hb dX6_told_11 (by decide +kernel) (by decide +kernel) (by decide +kernel) (by decide) ?_
      refine lv_aload_n hx hb dX6_told_164 rfl (lv_at hl 1 rfl) ?_
      refine lv_iconst (v := iI 0) hx hb dX6_told_165 rfl ?_
      refine z_cS (As := [.int (iI 0)]) (rest := []) C (m_X6_allVotes_f (l := l) (g := g) (q := q) (qn := qn) (qp := qp) (qi := qi) (qk := qk) (qt := qt) (qw := qw) (qv := qv) (qr := qr) (ac := ac) (VO := V_ (FDn N) (N 1)) (hV := hVr)) (cwV 1 C.2.2.2.2 gX6_told_X6_allVotes rfl rfl rfl (by decide +kernel) ⟨Nat.le_of_ble_eq_true rfl, Nat.le_of_ble_eq_true rfl⟩) hK hP [0, 4] rfl 0 rfl rfl rfl hl.1 rfl (Nat.le_of_ble_eq_true rfl) dX6_told_166 ⟨Nat.zero_le _, Nat.zero_le _⟩ ?_
      exact z_retE hx hb hlk hr hQ dX6_told_169 hS t_ (rfl) (hP)
    by_cases t_12 : wh = 12
    · subst t_12
      refine lv_tableIn (off := 159) (tgt := 170) hx hb dX6_told_11 (by decide +kernel) (by decide +kernel) (by decide +kernel) (by decide) ?_
      refine lv_aload_n hx hb dX6_told_170 rfl (lv_at hl 1 rfl) ?_
      refine z_get (v := .int (iI ac)) (Cn := RX6) (T := TX6) (N := 9) (ci := 6) C in_m_X6_told_X6 hK hP 0 rfl rfl 2 (by decide) (List.mem_of_getElem? (i := 3) rfl) rfl dX6_told_171 ?_
      exact z_retE hx hb hlk hr hQ dX6_told_174 hS t_ (rfl) (hP)
    refine lv_tableOut (tgt := 175) hx hb dX6_told_11 (by rw [iI_to (by omega) (by omega)]; omega) (by decide) ?_
    refine z_ldc C (List.mem_of_getElem? (i := 4) rfl) (-1000000002) (by decide +kernel) dX6_told_175 ?_
    exact z_retE hx hb hlk hr hQ dX6_told_177 hS t_ (by unfold tq; (repeat rw [if_neg (by assumption)])) (hP)
set_option maxRecDepth 20000 in
theorem in_m_X6_row_X6 : ∀ w ∈ u_ws RX6 TX6 9, w ∈ wsX6_row := zmem_of _ [53, 54, 55, 56, 57, 58, 59, 60, 61] (by decide +kernel)
set_option maxHeartbeats 4000000 in
set_option maxRecDepth 100000 in
theorem m_X6_row (l : Launch) (g : zG) (q qn qp qi qk qt qw qv qr : Nat) (ac : Int) (N TU PK : Int → Int) (pi_ wh : Int) (zN : okN N) (a1 : 0 ≤ pi_ ∧ pi_ ≤ 4) (g_wh : -2147483648 ≤ wh ∧ wh < 2147483648) : zE l yX6_row wsX6_row ({ frames := 4, cells := 0, slots := 0, locals := 94 }) g [.ref q, .int (iI pi_), .int (iI wh)] [(q, .inr (6, [.ref qn, .ref qp, .int (iI ac), .ref qi, .ref qk, .ref qt, .ref qw, .ref qv, .ref qr])), zI g qn 647 N, zI g qt 8 TU, zI g qw 80 PK] (S := ((Int → Int) × (Int → Int))) (fun r _ => r = rq wh (N 1) pi_ (FDn N) (fun x => N (7 + x)) (fun x => N (2 + x))) (fun u => [(q, .inr (6, [.ref qn, .ref qp, .int (iI ac), .ref qi, .ref qk, .ref qt, .ref qw, .ref qv, .ref qr])), zI g qn 647 N, zI g qt 8 (u.1), zI g qw 80 (u.2)]) := by
  refine z_entE (cc := cX6_row) (nL := 6) (ret := (some .int)) (own := RX6) (by decide) rfl rfl (Nat.le_of_ble_eq_true rfl) ?_
  intro p e s m below meth c Q ls A C hlk hr hQ hP hK hD hA hS hl
  have hx := C.1
  have hb := C.2.1
  have hl : lv_has ls 6 [(0, .ref q), (1, .int (iI pi_)), (2, .int (iI wh))] := hl
  obtain ⟨H, hHe⟩ : ∃ H, H = s.heap := ⟨_, rfl⟩
  obtain ⟨locs, hLe⟩ : ∃ q : List Loc, q = [] := ⟨_, rfl⟩
  have hP : zP g [(q, .inr (6, [.ref qn, .ref qp, .int (iI ac), .ref qi, .ref qk, .ref qt, .ref qw, .ref qv, .ref qr])), zI g qn 647 N, zI g qt 8 TU, zI g qw 80 PK] H := by rw [hHe]; exact hP
  have hS : va_S A s.heap H locs := by rw [hHe, hLe]; exact hS
  suffices hgo : W p l e ({ frames := 4, cells := 0, slots := 0, locals := 94 }) s m ([.ref q, .int (iI pi_), .int (iI wh)] : List Value).toArray below meth c H locs 0 0 Q (F0 m 0 ls []) by rw [hHe, hLe] at hgo; exact hgo
  clear hHe hLe
  refine lv_iload_n hx hb dX6_row_0 rfl (lv_at hl 1 rfl) ?_
  refine z_cSS (As := [.int (iI pi_)]) (rest := []) C (m_X6_isRow (l := l) (g := g) (v := pi_) (g_v := by omega)) (cwS 1 C.2.2.2.2 gX6_row_X6_isRow rfl rfl rfl (by decide +kernel) ⟨Nat.le_of_ble_eq_true rfl, Nat.le_of_ble_eq_true rfl⟩) hK hP [] rfl rfl hl.1 rfl (Nat.le_of_ble_eq_true rfl) dX6_row_1 ⟨Nat.zero_le _, Nat.zero_le _⟩ ?_
  refine z_ifb_ne (tgt := 10) hx hb dX6_row_4 (by decide) (fun c_1 => ?_) (fun c_1 => ?_)
  · have hz1 := zN.2.2.1 pi_ (by omega) (by omega)
    refine lv_aload_n hx hb dX6_row_10 rfl (lv_at hl 0 rfl) ?_
    refine z_cV (As := []) (rest := []) C (m_X6_findsPeaks (l := l) (g := g) (q := q) (qn := qn) (qp := qp) (qi := qi) (qk := qk) (qt := qt) (qw := qw) (qv := qv) (qr := qr) (ac := ac) (N := N) (TU := TU) (PK := PK) (zN := zN)) (cwV 0 C.2.2.2.2 gX6_row_X6_findsPeaks rfl rfl rfl (by decide +kernel) ⟨Nat.le_of_ble_eq_true rfl, Nat.le_of_ble_eq_true rfl⟩) hK hP hD hS hA [0, 1, 2, 3] (by decide) rfl (fun _ => rfl) 0 rfl rfl rfl hl.1 rfl (Nat.le_of_ble_eq_true rfl) dX6_row_11 ⟨Nat.zero_le _, Nat.zero_le _⟩ (fun t_ H locs hpk hP hD hS => ?_)
    have hP : zP g [(q, .inr (6, [.ref qn, .ref qp, .int (iI ac), .ref qi, .ref qk, .ref qt, .ref qw, .ref qv, .ref qr])), zI g qn 647 N, zI g qt 8 (t_.1), zI g qw 80 (t_.2)] H := hP
    have hD : va_D A [(q, .inr (6, [.ref qn, .ref qp, .int (iI ac), .ref qi, .ref qk, .ref qt, .ref qw, .ref qv, .ref qr])), zI g qn 647 N, zI g qt 8 (t_.1), zI g qw 80 (t_.2)] := hD
    refine lv_iconst (v := iI 0) hx hb dX6_row_14 rfl ?_
    refine lv_istore_n (lv' := [(3, .int (iI 0)), (0, .ref q), (1, .int (iI pi_)), (2, .int (iI wh))]) hx hb dX6_row_15 rfl hl (by decide) rfl (fun ls hl => ?_)
    refine lv_iload_n hx hb dX6_row_16 rfl (lv_at hl 3 rfl) ?_
    by_cases t_0 : wh = 0
    · subst t_0
      refine lv_tableIn (off := 39) (tgt := 56) hx hb dX6_row_17 (by decide +kernel) (by decide +kernel) (by decide +kernel) (by decide) ?_
      refine lv_aload_n hx hb dX6_row_56 rfl (lv_at hl 1 rfl) ?_
      refine z_get (v := .ref qn) (Cn := RX6) (T := TX6) (N := 9) (ci := 6) C in_m_X6_row_X6 hK hP 0 rfl rfl 0 (by decide) (List.mem_of_getElem? (i := 2) rfl) rfl dX6_row_57 ?_
      refine lv_iconst (v := iI 2) hx hb dX6_row_60 rfl ?_
      refine lv_iload_n hx hb dX6_row_61 rfl (lv_at hl 2 rfl) ?_
      refine z_iadd hx hb dX6_row_62 ?_
      refine z_iald hx hb hK hP 1 rfl (by omega) (by omega) (Nat.le_of_ble_eq_true rfl) dX6_row_63 ?_
      exact z_retE hx hb hlk hr hQ dX6_row_64 hS t_ (rfl) (hP)
    by_cases t_1 : wh = 1
    · subst t_1
      refine lv_tableIn (off := 48) (tgt := 65) hx hb dX6_row_17 (by decide +kernel) (by decide +kernel) (by decide +kernel) (by decide) ?_
      refine lv_aload_n hx hb dX6_row_65 rfl (lv_at hl 1 rfl) ?_
      refine lv_iload_n hx hb dX6_row_66 rfl (lv_at hl 2 rfl) ?_
      refine z_cS (As := [.int (iI pi_)]) (rest := []) C (m_X6_windows (l := l) (g := g) (q := q) (qn := qn) (qp := qp) (qi := qi) (qk := qk) (qt := qt) (qw := qw) (qv := qv) (qr := qr) (ac := ac) (N := N) (pi_ := pi_) (h1 := by omega) (h2 := by omega) (z1 := hz1)) (cwV 1 C.2.2.2.2 gX6_row_X6_windows rfl rfl rfl (by decide +kernel) ⟨Nat.le_of_ble_eq_true rfl, Nat.le_of_ble_eq_true rfl⟩) hK hP [0, 1] rfl 0 rfl rfl rfl hl.1 rfl (Nat.le_of_ble_eq_true rfl) dX6_row_67 ⟨Nat.zero_le _, Nat.zero_le _⟩ ?_
      exact z_retE hx hb hlk hr hQ dX6_row_70 hS t_ (rfl) (hP)
    by_cases t_2 : wh = 2
    · subst t_2
      refine lv_tableIn (off := 54) (tgt := 71) hx hb dX6_row_17 (by decide +kernel) (by decide +kernel) (by decide +kernel) (by decide) ?_
      refine lv_iconst (v := iI 0) hx hb dX6_row_71 rfl ?_
      refine lv_istore (lv' := [(4, .int (iI 0)), (3, .int (iI 0)), (0, .ref q), (1, .int (iI pi_)), (2, .int (iI 2))]) hx hb dX6_row_72 hl (by decide) rfl (fun ls hl => ?_)
      have L74 : ∀ (n : Nat) (w : Int), (i1 : 0 ≤ w) → (i2 : w ≤ N (2 + pi_) / 8) → (hms : N (2 + pi_) / 8 - w < (n : Int)) → ∀ (H : Heap) (locs : List Loc) (ls : Array Slot), lv_has ls 6 [(0, .ref q), (1, .int (iI pi_)), (3, .int (iI (sumZ (fun x => bI (FDn N (pi_ * 16 + x) ≠ -1)) w))), (4, .int (iI w))] → zP g [(q, .inr (6, [.ref qn, .ref qp, .int (iI ac), .ref qi, .ref qk, .ref qt, .ref qw, .ref qv, .ref qr])), zI g qn 647 N, zI g qt 8 (t_.1), zI g qw 80 (t_.2)] H → va_D A [(q, .inr (6, [.ref qn, .ref qp, .int (iI ac), .ref qi, .ref qk, .ref qt, .ref qw, .ref qv, .ref qr])), zI g qn 647 N, zI g qt 8 (t_.1), zI g qw 80 (t_.2)] → va_S A s.heap H locs → W p l e ({ frames := 4, cells := 0, slots := 0, locals := 94 }) s m ([.ref q, .int (iI pi_), .int (iI 2)] : List Value).toArray below meth c H locs 0 0 Q (F0 m 74 ls []) := by
        clear hP hD hS hl
        intro n
        induction n with
        | zero =>
          intro w i1 i2 hms H locs ls hl hP hD hS
          exfalso; omega
        | succ n ih74 =>
          intro w i1 i2 hms H locs ls hl hP hD hS
          refine lv_iload hx hb dX6_row_74 (lv_at hl 3 rfl) ?_
          refine lv_aload_n hx hb dX6_row_76 rfl (lv_at hl 0 rfl) ?_
          refine lv_iload_n hx hb dX6_row_77 rfl (lv_at hl 1 rfl) ?_
          refine z_cS (As := [.int (iI pi_)]) (rest := [.int (iI w)]) C (m_X6_windows (l := l) (g := g) (q := q) (qn := qn) (qp := qp) (qi := qi) (qk := qk) (qt := qt) (qw := qw) (qv := qv) (qr := qr) (ac := ac) (N := N) (pi_ := pi_) (h1 := by omega) (h2 := by omega) (z1 := hz1)) (cwV 1 C.2.2.2.2 gX6_row_X6_windows rfl rfl rfl (by decide +kernel) ⟨Nat.le_of_ble_eq_true rfl, Nat.le_of_ble_eq_true rfl⟩) hK hP [0, 1] rfl 0 rfl rfl rfl hl.1 rfl (Nat.le_of_ble_eq_true rfl) dX6_row_78 ⟨Nat.zero_le _, Nat.zero_le _⟩ ?_
          refine z_icmp_ge (tgt := 114) hx hb dX6_row_81 (by decide) (by omega) (by omega) (fun c_2 => ?_) (fun c_2 => ?_)
          · refine lv_iload_n hx hb dX6_row_114 rfl (lv_at hl 2 rfl) ?_
            exact z_retE hx hb hlk hr hQ dX6_row_115 hS t_ ((pk_tail (fun _ z => bI (z ≠ -1)) i1 (by omega) (by omega) (fun _ => bI_f (fun z => z rfl))).symm) (hP)
          · have hp9 := hpk pi_ w (by omega) (by omega) i1 (by omega)
            have hf9 := FDn_rg N (pi_ * 16 + w)
            refine lv_iload_n hx hb dX6_row_84 rfl (lv_at hl 2 rfl) ?_
            refine lv_aload_n hx hb dX6_row_85 rfl (lv_at hl 0 rfl) ?_
            refine z_get (v := .ref qw) (Cn := RX6) (T := TX6) (N := 9) (ci := 6) C in_m_X6_row_X6 hK hP 0 rfl rfl 6 (by decide) (List.mem_of_getElem? (i := 3) rfl) rfl dX6_row_86 ?_
            refine lv_bipush (v := iI 16) hx hb dX6_row_89 (by decide +kernel) ?_
            refine lv_iload_n hx hb dX6_row_91 rfl (lv_at hl 1 rfl) ?_
            refine z_imul hx hb dX6_row_92 ?_
            refine lv_iload hx hb dX6_row_93 (lv_at hl 3 rfl) ?_
            refine z_iadd hx hb dX6_row_95 ?_
            refine z_iald hx hb hK hP 3 rfl (by omega) (by omega) (Nat.le_of_ble_eq_true rfl) dX6_row_96 ?_
            refine lv_iconst (v := iI (-1)) hx hb dX6_row_97 rfl ?_
            refine z_icmp_ne (tgt := 105) hx hb dX6_row_98 (by decide) (by omega) (by omega) (fun hc => ?_) (fun hc => ?_)
            · refine lv_iconst (v := iI 1) hx hb dX6_row_105 rfl ?_
              refine z_iadd hx hb dX6_row_106 ?_
              refine lv_istore_n (lv' := [(3, .int (iI ((sumZ (fun x => bI (FDn N (pi_ * 16 + x) ≠ -1)) w) + 1))), (0, .ref q), (1, .int (iI pi_)), (4, .int (iI w))]) hx hb dX6_row_107 rfl hl (by decide) rfl (fun ls hl => ?_)
              refine z_iinc (b := w + 1) (lv' := [(4, .int (iI (w + 1))), (3, .int (iI ((sumZ (fun x => bI (FDn N (pi_ * 16 + x) ≠ -1)) w) + 1))), (0, .ref q), (1, .int (iI pi_))]) hx hb dX6_row_108 hl (k := 3) rfl (rfl) (by decide) rfl (fun ls hl => ?_)
              refine lv_goto (tgt := 74) hx hb dX6_row_111 (by decide) ?_
              have hl := lv_chg hl 1 (b := sumZ (fun x => bI (FDn N (pi_ * 16 + x) ≠ -1)) (w + 1)) rfl (by rw [sumZ_s _ i1, bI_t (show FDn N (pi_ * 16 + w) ≠ -1 from fun z => hc (hp9.trans z))])
              have hl : lv_has ls 6 [(4, .int (iI (w + 1))), (3, .int (iI (sumZ (fun x => bI (FDn N (pi_ * 16 + x) ≠ -1)) (w + 1)))), (0, .ref q), (1, .int (iI pi_))] := hl
              exact ih74 (w + 1) (by omega) (by omega) (by omega) H locs ls (lv_sub hl [2, 3, 1, 0] rfl) (hP) (hD) hS
            · refine lv_iconst (v := iI 0) hx hb dX6_row_101 rfl ?_
              refine lv_goto (tgt := 106) hx hb dX6_row_102 (by decide) ?_
              refine z_iadd hx hb dX6_row_106 ?_
              refine lv_istore_n (lv' := [(3, .int (iI ((sumZ (fun x => bI (FDn N (pi_ * 16 + x) ≠ -1)) w) + 0))), (0, .ref q), (1, .int (iI pi_)), (4, .int (iI w))]) hx hb dX6_row_107 rfl hl (by decide) rfl (fun ls hl => ?_)
              refine z_iinc (b := w + 1) (lv' := [(4, .int (iI (w + 1))), (3, .int (iI ((sumZ (fun x => bI (FDn N (pi_ * 16 + x) ≠ -1)) w) + 0))), (0, .ref q), (1, .int (iI pi_))]) hx hb dX6_row_108 hl (k := 3) rfl (rfl) (by decide) rfl (fun ls hl => ?_)
              refine lv_goto (tgt := 74) hx hb dX6_row_111 (by decide) ?_
              have hl := lv_chg hl 1 (b := sumZ (fun x => bI (FDn N (pi_ * 16 + x) ≠ -1)) (w + 1)) rfl (by rw [sumZ_s _ i1, bI_f (fun z => z (hp9.symm.trans hc))])
              have hl : lv_has ls 6 [(4, .int (iI (w + 1))), (3, .int (iI (sumZ (fun x => bI (FDn N (pi_ * 16 + x) ≠ -1)) (w + 1)))), (0, .ref q), (1, .int (iI pi_))] := hl
              exact ih74 (w + 1) (by omega) (by omega) (by omega) H locs ls (lv_sub hl [2, 3, 1, 0] rfl) (hP) (hD) hS
      have hl := lv_chg hl 1 (b := sumZ (fun x => bI (FDn N (pi_ * 16 + x) ≠ -1)) 0) rfl ((sumZ_0 _).symm)
      have hl : lv_has ls 6 [(4, .int (iI 0)), (3, .int (iI (sumZ (fun x => bI (FDn N (pi_ * 16 + x) ≠ -1)) 0))), (0, .ref q), (1, .int (iI pi_)), (2, .int (iI 2))] := hl
      exact L74 (17) 0 (by omega) (by omega) (by omega) H locs ls (lv_sub hl [2, 3, 1, 0] rfl) (hP) (hD) hS
    by_cases t_3 : wh = 3
    · subst t_3
      refine lv_tableIn (off := 99) (tgt := 116) hx hb dX6_row_17 (by decide +kernel) (by decide +kernel) (by decide +kernel) (by decide) ?_
      refine lv_aload_n hx hb dX6_row_116 rfl (lv_at hl 1 rfl) ?_
      refine lv_iload_n hx hb dX6_row_117 rfl (lv_at hl 2 rfl) ?_
      refine z_cS (As := [.int (iI pi_)]) (rest := []) C (m_X6_keysOf (l := l) (g := g) (q := q) (qn := qn) (qp := qp) (qi := qi) (qk := qk) (qt := qt) (qw := qw) (qv := qv) (qr := qr) (ac := ac) (N := N) (PK := t_.2) (pi_ := pi_) (zN := zN) (hpk := hpk) (h1 := by omega) (h2 := by omega)) (cwV 1 C.2.2.2.2 gX6_row_X6_keysOf rfl rfl rfl (by decide +kernel) ⟨Nat.le_of_ble_eq_true rfl, Nat.le_of_ble_eq_true rfl⟩) hK hP [0, 1, 3] rfl 0 rfl rfl rfl hl.1 rfl (Nat.le_of_ble_eq_true rfl) dX6_row_118 ⟨Nat.zero_le _, Nat.zero_le _⟩ ?_
      exact z_retE hx hb hlk hr hQ dX6_row_121 hS t_ (sumZ_cong (fun j g1 g2 => (hur_re (by have := zN.2.1; omega) (by have := zN.2.1; omega) (Or.inl (Int.le_refl _))).symm)) (hP)
    by_cases t_4 : wh = 4
    · subst t_4
      refine lv_tableIn (off := 105) (tgt := 122) hx hb dX6_row_17 (by decide +kernel) (by decide +kernel) (by decide +kernel) (by decide) ?_
      refine lv_iconst (v := iI 0) hx hb dX6_row_122 rfl ?_
      refine lv_istore (lv' := [(4, .int (iI 0)), (3, .int (iI 0)), (0, .ref q), (1, .int (iI pi_)), (2, .int (iI 4))]) hx hb dX6_row_123 hl (by decide) rfl (fun ls hl => ?_)
      have L125 : ∀ (n : Nat) (wi : Int) (TV : Int → Int), (i1 : 0 ≤ wi) → (i2 : wi ≤ N (2 + pi_) / 8) → (hms : N (2 + pi_) / 8 - wi < (n : Int)) → ∀ (H : Heap) (locs : List Loc) (ls : Array Slot), lv_has ls 6 [(0, .ref q), (1, .int (iI pi_)), (3, .int (iI (sumZ (fun x => sumZ (fun y => sh (wv (fun i => N (7 + (pi_ * 128 + (x * 8 + i))))) y) 8) wi))), (4, .int (iI wi))] → zP g [(q, .inr (6, [.ref qn, .ref qp, .int (iI ac), .ref qi, .ref qk, .ref qt, .ref qw, .ref qv, .ref qr])), zI g qn 647 N, zI g qt 8 TV, zI g qw 80 (t_.2)] H → va_D A [(q, .inr (6, [.ref qn, .ref qp, .int (iI ac), .ref qi, .ref qk, .ref qt, .ref qw, .ref qv, .ref qr])), zI g qn 647 N, zI g qt 8 TV, zI g qw 80 (t_.2)] → va_S A s.heap H locs → W p l e ({ frames := 4, cells := 0, slots := 0, locals := 94 }) s m ([.ref q, .int (iI pi_), .int (iI 4)] : List Value).toArray below meth c H locs 0 0 Q (F0 m 125 ls []) := by
        clear hP hD hS hl
        intro n
        induction n with
        | zero =>
          intro wi TV i1 i2 hms H locs ls hl hP hD hS
          exfalso; omega
        | succ n ih125 =>
          intro wi TV i1 i2 hms H locs ls hl hP hD hS
          refine lv_iload hx hb dX6_row_125 (lv_at hl 3 rfl) ?_
          refine lv_aload_n hx hb dX6_row_127 rfl (lv_at hl 0 rfl) ?_
          refine lv_iload_n hx hb dX6_row_128 rfl (lv_at hl 1 rfl) ?_
          refine z_cS (As := [.int (iI pi_)]) (rest := [.int (iI wi)]) C (m_X6_windows (l := l) (g := g) (q := q) (qn := qn) (qp := qp) (qi := qi) (qk := qk) (qt := qt) (qw := qw) (qv := qv) (qr := qr) (ac := ac) (N := N) (pi_ := pi_) (h1 := by omega) (h2 := by omega) (z1 := hz1)) (cwV 1 C.2.2.2.2 gX6_row_X6_windows rfl rfl rfl (by decide +kernel) ⟨Nat.le_of_ble_eq_true rfl, Nat.le_of_ble_eq_true rfl⟩) hK hP [0, 1] rfl 0 rfl rfl rfl hl.1 rfl (Nat.le_of_ble_eq_true rfl) dX6_row_129 ⟨Nat.zero_le _, Nat.zero_le _⟩ ?_
          refine z_icmp_ge (tgt := 173) hx hb dX6_row_132 (by decide) (by omega) (by omega) (fun c_3 => ?_) (fun c_3 => ?_)
          · refine lv_iload_n hx hb dX6_row_173 rfl (lv_at hl 2 rfl) ?_
            exact z_retE hx hb hlk hr hQ dX6_row_174 hS (TV, t_.2) (by show _ = sumZ (fun x => sumZ (fun y => sh (wv (fun i => N (7 + (pi_ * 128 + (x * 8 + i))))) y) 8) (N (2 + pi_) / 8); rw [show wi = N (2 + pi_) / 8 by omega]) (hP)
          · refine lv_aload_n hx hb dX6_row_135 rfl (lv_at hl 0 rfl) ?_
            refine lv_iload_n hx hb dX6_row_136 rfl (lv_at hl 1 rfl) ?_
            refine lv_iload hx hb dX6_row_137 (lv_at hl 3 rfl) ?_
            refine z_cV (As := [.int (iI pi_), .int (iI wi)]) (rest := []) C (m_X6_turns (l := l) (g := g) (q := q) (qn := qn) (qp := qp) (qi := qi) (qk := qk) (qt := qt) (qw := qw) (qv := qv) (qr := qr) (ac := ac) (N := N) (TU := TV) (pi_ := pi_) (wi := wi) (h1 := by omega) (h2 := by omega) (w1 := by omega)) (cwV 2 C.2.2.2.2 gX6_row_X6_turns rfl rfl rfl (by decide +kernel) ⟨Nat.le_of_ble_eq_true rfl, Nat.le_of_ble_eq_true rfl⟩) hK hP hD hS hA [0, 1, 2] (by decide) rfl (fun _ => rfl) 0 rfl rfl rfl hl.1 rfl (Nat.le_of_ble_eq_true rfl) dX6_row_139 ⟨Nat.zero_le _, Nat.zero_le _⟩ (fun u_4 H locs hq_5 hP hD hS => ?_)
            have hP : zP g [(q, .inr (6, [.ref qn, .ref qp, .int (iI ac), .ref qi, .ref qk, .ref qt, .ref qw, .ref qv, .ref qr])), zI g qn 647 N, zI g qt 8 (wv (fun i => N (7 + (pi_ * 128 + (wi * 8 + i))))), zI g qw 80 (t_.2)] H := hP
            have hD : va_D A [(q, .inr (6, [.ref qn, .ref qp, .int (iI ac), .ref qi, .ref qk, .ref qt, .ref qw, .ref qv, .ref qr])), zI g qn 647 N, zI g qt 8 (wv (fun i => N (7 + (pi_ * 128 + (wi * 8 + i))))), zI g qw 80 (t_.2)] := hD
            refine lv_iconst (v := iI 0) hx hb dX6_row_142 rfl ?_
            refine lv_istore (lv' := [(5, .int (iI 0)), (0, .ref q), (1, .int (iI pi_)), (3, .int (iI (sumZ (fun x => sumZ (fun y => sh (wv (fun i => N (7 + (pi_ * 128 + (x * 8 + i))))) y) 8) wi))), (4, .int (iI wi))]) hx hb dX6_row_143 hl (by decide) rfl (fun ls hl => ?_)
            have L145 : ∀ (n : Nat) (k : Int), (j1 : 0 ≤ k) → (j2 : k ≤ 8) → (hms : 8 - k < (n : Int)) → ∀ (H : Heap) (locs : List Loc) (ls : Array Slot), lv_has ls 6 [(0, .ref q), (1, .int (iI pi_)), (3, .int (iI (sumZ (fun x => sumZ (fun y => sh (wv (fun i => N (7 + (pi_ * 128 + (x * 8 + i))))) y) 8) wi + sumZ (fun y => sh (wv (fun i => N (7 + (pi_ * 128 + (wi * 8 + i))))) y) k))), (4, .int (iI wi)), (5, .int (iI k))] → zP g [(q, .inr (6, [.ref qn, .ref qp, .int (iI ac), .ref qi, .ref qk, .ref qt, .ref qw, .ref qv, .ref qr])), zI g qn 647 N, zI g qt 8 (wv (fun i => N (7 + (pi_ * 128 + (wi * 8 + i))))), zI g qw 80 (t_.2)] H → va_D A [(q, .inr (6, [.ref qn, .ref qp, .int (iI ac), .ref qi, .ref qk, .ref qt, .ref qw, .ref qv, .ref qr])), zI g qn 647 N, zI g qt 8 (wv (fun i => N (7 + (pi_ * 128 + (wi * 8 + i))))), zI g qw 80 (t_.2)] → va_S A s.heap H locs → W p l e ({ frames := 4, cells := 0, slots := 0, locals := 94 }) s m ([.ref q, .int (iI pi_), .int (iI 4)] : List Value).toArray below meth c H locs 0 0 Q (F0 m 145 ls []) := by
              clear hP hD hS hl
              intro n
              induction n with
              | zero =>
                intro k j1 j2 hms H locs ls hl hP hD hS
                exfalso; omega
              | succ n ih145 =>
                intro k j1 j2 hms H locs ls hl hP hD hS
                refine lv_iload hx hb dX6_row_145 (lv_at hl 4 rfl) ?_
                refine lv_bipush (v := iI 8) hx hb dX6_row_147 (by decide +kernel) ?_
                refine z_icmp_ge (tgt := 167) hx hb dX6_row_149 (by decide) (by omega) (by omega) (fun c_6 => ?_) (fun c_6 => ?_)
                · refine z_iinc (b := wi + 1) (lv' := [(4, .int (iI (wi + 1))), (0, .ref q), (1, .int (iI pi_)), (3, .int (iI (sumZ (fun x => sumZ (fun y => sh (wv (fun i => N (7 + (pi_ * 128 + (x * 8 + i))))) y) 8) wi + sumZ (fun y => sh (wv (fun i => N (7 + (pi_ * 128 + (wi * 8 + i))))) y) k))), (5, .int (iI k))]) hx hb dX6_row_167 hl (k := 3) rfl (rfl) (by decide) rfl (fun ls hl => ?_)
                  refine lv_goto (tgt := 125) hx hb dX6_row_170 (by decide) ?_
                  have hl := lv_chg hl 3 (b := sumZ (fun x => sumZ (fun y => sh (wv (fun i => N (7 + (pi_ * 128 + (x * 8 + i))))) y) 8) (wi + 1)) rfl (by rw [sumZ_s _ i1, show k = 8 by omega])
                  have hl : lv_has ls 6 [(4, .int (iI (wi + 1))), (0, .ref q), (1, .int (iI pi_)), (3, .int (iI (sumZ (fun x => sumZ (fun y => sh (wv (fun i => N (7 + (pi_ * 128 + (x * 8 + i))))) y) 8) (wi + 1)))), (5, .int (iI k))] := hl
                  exact ih125 (wi + 1) (wv (fun i => N (7 + (pi_ * 128 + (wi * 8 + i))))) (by omega) (by omega) (by omega) H locs ls (lv_sub hl [1, 2, 3, 0] rfl) (hP) (hD) hS
                · refine lv_iload_n hx hb dX6_row_152 rfl (lv_at hl 2 rfl) ?_
                  refine lv_aload_n hx hb dX6_row_153 rfl (lv_at hl 0 rfl) ?_
                  refine lv_iload hx hb dX6_row_154 (lv_at hl 4 rfl) ?_
                  refine z_cS (As := [.int (iI k)]) (rest := [.int (iI (sumZ (fun x => sumZ (fun y => sh (wv (fun i => N (7 + (pi_ * 128 + (x * 8 + i))))) y) 8) wi + sumZ (fun y => sh (wv (fun i => N (7 + (pi_ * 128 + (wi * 8 + i))))) y) k))]) C (m_X6_shareOf (l := l) (g := g) (q := q) (qn := qn) (qp := qp) (qi := qi) (qk := qk) (qt := qt) (qw := qw) (qv := qv) (qr := qr) (ac := ac) (TU := wv (fun i => N (7 + (pi_ * 128 + (wi * 8 + i))))) (k := k) (h1 := by omega) (h2 := by omega)) (cwV 1 C.2.2.2.2 gX6_row_X6_shareOf rfl rfl rfl (by decide +kernel) ⟨Nat.le_of_ble_eq_true rfl, Nat.le_of_ble_eq_true rfl⟩) hK hP [0, 2] rfl 0 rfl rfl rfl hl.1 rfl (Nat.le_of_ble_eq_true rfl) dX6_row_156 ⟨Nat.zero_le _, Nat.zero_le _⟩ ?_
                  have hsr := sh_rg (wv (fun i => N (7 + (pi_ * 128 + (wi * 8 + i))))) k
                  refine z_iadd hx hb dX6_row_159 ?_
                  refine lv_istore_n (lv' := [(3, .int (iI ((sumZ (fun x => sumZ (fun y => sh (wv (fun i => N (7 + (pi_ * 128 + (x * 8 + i))))) y) 8) wi + sumZ (fun y => sh (wv (fun i => N (7 + (pi_ * 128 + (wi * 8 + i))))) y) k) + (sh (wv (fun i => N (7 + (pi_ * 128 + (wi * 8 + i))))) k)))), (0, .ref q), (1, .int (iI pi_)), (4, .int (iI wi)), (5, .int (iI k))]) hx hb dX6_row_160 rfl hl (by decide) rfl (fun ls hl => ?_)
                  refine z_iinc (b := k + 1) (lv' := [(5, .int (iI (k + 1))), (3, .int (iI ((sumZ (fun x => sumZ (fun y => sh (wv (fun i => N (7 + (pi_ * 128 + (x * 8 + i))))) y) 8) wi + sumZ (fun y => sh (wv (fun i => N (7 + (pi_ * 128 + (wi * 8 + i))))) y) k) + (sh (wv (fun i => N (7 + (pi_ * 128 + (wi * 8 + i))))) k)))), (0, .ref q), (1, .int (iI pi_)), (4, .int (iI wi))]) hx hb dX6_row_161 hl (k := 4) rfl (rfl) (by decide) rfl (fun ls hl => ?_)
                  refine lv_goto (tgt := 145) hx hb dX6_row_164 (by decide) ?_
                  have hl := lv_chg hl 1 (b := sumZ (fun x => sumZ (fun y => sh (wv (fun i => N (7 + (pi_ * 128 + (x * 8 + i))))) y) 8) wi + sumZ (fun y => sh (wv (fun i => N (7 + (pi_ * 128 + (wi * 8 + i))))) y) (k + 1)) rfl (by rw [sumZ_s _ j1]; omega)
                  have hl : lv_has ls 6 [(5, .int (iI (k + 1))), (3, .int (iI (sumZ (fun x => sumZ (fun y => sh (wv (fun i => N (7 + (pi_ * 128 + (x * 8 + i))))) y) 8) wi + sumZ (fun y => sh (wv (fun i => N (7 + (pi_ * 128 + (wi * 8 + i))))) y) (k + 1)))), (0, .ref q), (1, .int (iI pi_)), (4, .int (iI wi))] := hl
                  exact ih145 (k + 1) (by omega) (by omega) (by omega) H locs ls (lv_sub hl [2, 3, 1, 4, 0] rfl) (hP) (hD) hS
            have hl := lv_chg hl 3 (b := sumZ (fun x => sumZ (fun y => sh (wv (fun i => N (7 + (pi_ * 128 + (x * 8 + i))))) y) 8) wi + sumZ (fun y => sh (wv (fun i => N (7 + (pi_ * 128 + (wi * 8 + i))))) y) 0) rfl (by rw [sumZ_0]; omega)
            have hl : lv_has ls 6 [(5, .int (iI 0)), (0, .ref q), (1, .int (iI pi_)), (3, .int (iI (sumZ (fun x => sumZ (fun y => sh (wv (fun i => N (7 + (pi_ * 128 + (x * 8 + i))))) y) 8) wi + sumZ (fun y => sh (wv (fun i => N (7 + (pi_ * 128 + (wi * 8 + i))))) y) 0))), (4, .int (iI wi))] := hl
            exact L145 (9) 0 (by omega) (by omega) (by omega) H locs ls (lv_sub hl [1, 2, 3, 4, 0] rfl) (hP) (hD) hS
      have hl := lv_chg hl 1 (b := sumZ (fun x => sumZ (fun y => sh (wv (fun i => N (7 + (pi_ * 128 + (x * 8 + i))))) y) 8) 0) rfl ((sumZ_0 _).symm)
      have hl : lv_has ls 6 [(4, .int (iI 0)), (3, .int (iI (sumZ (fun x => sumZ (fun y => sh (wv (fun i => N (7 + (pi_ * 128 + (x * 8 + i))))) y) 8) 0))), (0, .ref q), (1, .int (iI pi_)), (2, .int (iI 4))] := hl
      exact L125 (17) 0 (t_.1) (by omega) (by omega) (by omega) H locs ls (lv_sub hl [2, 3, 1, 0] rfl) (hP) (hD) hS
    by_cases t_5 : wh = 5
    · subst t_5
      refine lv_tableIn (off := 158) (tgt := 175) hx hb dX6_row_17 (by decide +kernel) (by decide +kernel) (by decide +kernel) (by decide) ?_
      refine lv_aload_n hx hb dX6_row_175 rfl (lv_at hl 1 rfl) ?_
      refine lv_iload_n hx hb dX6_row_176 rfl (lv_at hl 2 rfl) ?_
      refine z_cS (As := [.int (iI pi_)]) (rest := []) C (m_X6_mostOften (l := l) (g := g) (q := q) (qn := qn) (qp := qp) (qi := qi) (qk := qk) (qt := qt) (qw := qw) (qv := qv) (qr := qr) (ac := ac) (N := N) (PK := t_.2) (pi_ := pi_) (zN := zN) (hpk := hpk) (h1 := by omega) (h2 := by omega)) (cwV 1 C.2.2.2.2 gX6_row_X6_mostOften rfl rfl rfl (by decide +kernel) ⟨Nat.le_of_ble_eq_true rfl, Nat.le_of_ble_eq_true rfl⟩) hK hP [0, 1, 3] rfl 0 rfl rfl rfl hl.1 rfl (Nat.le_of_ble_eq_true rfl) dX6_row_177 ⟨Nat.zero_le _, Nat.zero_le _⟩ ?_
      exact z_retE hx hb hlk hr hQ dX6_row_180 hS t_ (rfl) (hP)
    refine lv_tableOut (tgt := 181) hx hb dX6_row_17 (by rw [iI_to (by omega) (by omega)]; omega) (by decide) ?_
    refine z_ldc C (List.mem_of_getElem? (i := 4) rfl) (-1000000002) (by decide +kernel) dX6_row_181 ?_
    exact z_retE hx hb hlk hr hQ dX6_row_183 hS t_ (by unfold rq; (repeat rw [if_neg (by assumption)])) (hP)
  · exfalso; omega
set_option maxHeartbeats 4000000 in
set_option maxRecDepth 100000 in
theorem m_X6_row_n (l : Launch) (g : zG) (q qn qp qi qk qt qw qv qr : Nat) (ac : Int) (pi_ wh : Int) (g_pi_ : -2147483648 ≤ pi_ ∧ pi_ < 2147483648) (rf : ¬ (0 ≤ pi_ ∧ pi_ ≤ 4)) : zS l yX6_row wsX6_row ({ frames := 2, cells := 0, slots := 0, locals := 42 }) g [.ref q, .int (iI pi_), .int (iI wh)] [(q, .inr (6, [.ref qn, .ref qp, .int (iI ac), .ref qi, .ref qk, .ref qt, .ref qw, .ref qv, .ref qr]))] (-1000000001) := by
  refine z_entS (cc := cX6_row) (nL := 6) (ret := (some .int)) (own := RX6) (by decide) rfl rfl (Nat.le_of_ble_eq_true rfl) ?_
  intro p e s m below meth c Q ls C hlk hr hQ hP hK hl
  have hx := C.1
  have hb := C.2.1
  have hl : lv_has ls 6 [(0, .ref q), (1, .int (iI pi_)), (2, .int (iI wh))] := hl
  refine lv_iload_n hx hb dX6_row_0 rfl (lv_at hl 1 rfl) ?_
  refine z_cSS (As := [.int (iI pi_)]) (rest := []) C (m_X6_isRow (l := l) (g := g) (v := pi_) (g_v := by omega)) (cwS 1 C.2.2.2.2 gX6_row_X6_isRow rfl rfl rfl (by decide +kernel) ⟨Nat.le_of_ble_eq_true rfl, Nat.le_of_ble_eq_true rfl⟩) hK hP [] rfl rfl hl.1 rfl (Nat.le_of_ble_eq_true rfl) dX6_row_1 ⟨Nat.zero_le _, Nat.zero_le _⟩ ?_
  refine z_ifb_ne (tgt := 10) hx hb dX6_row_4 (by decide) (fun c_1 => ?_) (fun c_1 => ?_)
  · exfalso; omega
  · refine z_ldc C (List.mem_of_getElem? (i := 1) rfl) (-1000000001) (by decide +kernel) dX6_row_7 ?_
    exact z_retS hx hb hlk hr hQ dX6_row_9 (rfl)
