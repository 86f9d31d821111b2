set_option maxRecDepth 20000 in
theorem in_m_X5_told_X5 : ∀ w ∈ u_ws RX5 TX5 7, w ∈ wsX5_told := zmem_of _ [168, 169, 170, 171, 172, 173, 174] (by decide +kernel)
set_option maxHeartbeats 4000000 in
set_option maxRecDepth 100000 in
theorem m_X5_told (l : Launch) (g : zG) (o h b im a d bb : Nat) (fr : Int) (hn hs : Nat) (fl re : Int) (NU SZ : Int → Int) (aw af ao ds df de bc bo : Nat) (WA FD ST FI EN CE OR : Int → Int) (un rk he kn al : Int) (bn br bs bf be : Nat) (nx dp : Int) (wh : Int) (hfr : fr = 0 ∨ (fr = 1 ∧ fOK (pf NU SZ fl) re FD ST EN CE OR un rk he kn al)) (f1 : 0 ≤ fl ∧ fl ≤ 99999) (f2 : 1 ≤ re ∧ re ≤ 5) (z1 : ∀ q, 0 ≤ q → q < 5 → 0 ≤ SZ q ∧ SZ q ≤ 128) (g_wh : -2147483648 ≤ wh ∧ wh < 2147483648) : zE l yX5_told wsX5_told ({ frames := 5, cells := 0, slots := 0, locals := 118 }) g [.ref o, .int (iI wh)] [(o, .inr (5, [.ref h, .ref b, .ref im, .ref a, .ref d, .ref bb, .int (iI fr)])), (h, .inr (4, [.ref hn, .ref hs, .int (iI fl), .int (iI re)])), zI g hn 640 NU, zI g hs 5 SZ, (a, .inr (3, [.ref aw, .ref af, .ref ao])), zI g aw 8 WA, zI g af 80 FD, (d, .inr (1, [.ref ds, .ref df, .ref de, .int (iI un)])), zI g ds 385 ST, zI g df 384 FI, zI g de 320 EN, (bb, .inr (0, [.ref bc, .ref bo, .int (iI rk), .int (iI he), .int (iI kn), .int (iI al)])), zI g bc 124 CE, zI g bo 124 OR, (b, .inr (2, [.ref bn, .ref br, .ref bs, .ref bf, .ref be, .int (iI nx), .int (iI dp)]))] (S := ((Int → Int) × (Int → Int) × (Int → Int) × (Int → Int))) (fun r u => (r = tq wh fl re (un_ (pf NU SZ fl) re) (stt (pf NU SZ fl) re 384) (he_ (pf NU SZ fl) re) (ku_ (pf NU SZ fl) re) (nt_ (pf NU SZ fl) re) (al_ (pf NU SZ fl) re) dp (V_ (pf NU SZ fl) re) u.2.2.2) ∧ cOK (pf NU SZ fl) re u.2.2.1 u.2.2.2) (fun u => [(o, .inr (5, [.ref h, .ref b, .ref im, .ref a, .ref d, .ref bb, .int (iI 1)])), (h, .inr (4, [.ref hn, .ref hs, .int (iI fl), .int (iI re)])), zI g hn 640 NU, zI g hs 5 SZ, (a, .inr (3, [.ref aw, .ref af, .ref ao])), zI g aw 8 (u.1), zI g af 80 (pf NU SZ fl), (d, .inr (1, [.ref ds, .ref df, .ref de, .int (iI (un_ (pf NU SZ fl) re))])), zI g ds 385 (stt (pf NU SZ fl) re), zI g df 384 (u.2.1), zI g de 320 (u.2.2.1), (bb, .inr (0, [.ref bc, .ref bo, .int (iI (nt_ (pf NU SZ fl) re)), .int (iI (he_ (pf NU SZ fl) re)), .int (iI (ku_ (pf NU SZ fl) re)), .int (iI (al_ (pf NU SZ fl) re))])), zI g bc 124 (V_ (pf NU SZ fl) re), zI g bo 124 (u.2.2.2), (b, .inr (2, [.ref bn, .ref br, .ref bs, .ref bf, .ref be, .int (iI nx), .int (iI dp)]))]) := by
  refine z_entE (cc := cX5_told) (nL := 2) (ret := (some .int)) (own := RX5) (by decide) rfl rfl (Nat.le_of_ble_eq_true rfl) ?_
  intro p e s m below meth c Q ls A C hlk hr hQ hP hK hD hA hS hl
  have hx := C.1
  have hb := C.2.1
  have hl : lv_has ls 2 [(0, .ref o), (1, .int (iI wh))] := hl
  obtain ⟨H, hHe⟩ : ∃ H, H = s.heap := ⟨_, rfl⟩
  obtain ⟨locs, hLe⟩ : ∃ q : List Loc, q = [] := ⟨_, rfl⟩
  have hP : zP g [(o, .inr (5, [.ref h, .ref b, .ref im, .ref a, .ref d, .ref bb, .int (iI fr)])), (h, .inr (4, [.ref hn, .ref hs, .int (iI fl), .int (iI re)])), zI g hn 640 NU, zI g hs 5 SZ, (a, .inr (3, [.ref aw, .ref af, .ref ao])), zI g aw 8 WA, zI g af 80 FD, (d, .inr (1, [.ref ds, .ref df, .ref de, .int (iI un)])), zI g ds 385 ST, zI g df 384 FI, zI g de 320 EN, (bb, .inr (0, [.ref bc, .ref bo, .int (iI rk), .int (iI he), .int (iI kn), .int (iI al)])), zI g bc 124 CE, zI g bo 124 OR, (b, .inr (2, [.ref bn, .ref br, .ref bs, .ref bf, .ref be, .int (iI nx), .int (iI dp)]))] H := by rw [hHe]; exact hP
  have hS : va_S A s.heap H locs := by rw [hHe, hLe]; exact hS
  suffices hgo : W p l e ({ frames := 5, cells := 0, slots := 0, locals := 118 }) s m ([.ref o, .int (iI wh)] : List Value).toArray below meth c H locs 0 0 Q (F0 m 0 ls []) by rw [hHe, hLe] at hgo; exact hgo
  clear hHe hLe
  refine lv_aload_n hx hb dX5_told_0 rfl (lv_at hl 0 rfl) ?_
  refine z_cV (As := []) (rest := []) C (m_X5_refresh (l := l) (g := g) (o := o) (h := h) (b := b) (im := im) (a := a) (d := d) (bb := bb) (fr := fr) (hn := hn) (hs := hs) (fl := fl) (re := re) (NU := NU) (SZ := SZ) (aw := aw) (af := af) (ao := ao) (ds := ds) (df := df) (de := de) (bc := bc) (bo := bo) (WA := WA) (FD := FD) (ST := ST) (FI := FI) (EN := EN) (CE := CE) (OR := OR) (un := un) (rk := rk) (he := he) (kn := kn) (al := al) (hfr := hfr) (f1 := by omega) (f2 := by omega) (z1 := z1)) (cwV 0 C.2.2.2.2 gX5_told_X5_refresh rfl rfl rfl (by decide +kernel) ⟨Nat.le_of_ble_eq_true rfl, Nat.le_of_ble_eq_true rfl⟩) hK hP hD hS hA [0, 1, 2, 3, 4, 5, 6, 7, 8, 9, 10, 11, 12, 13] (by decide) rfl (fun _ => rfl) 0 rfl rfl rfl hl.1 rfl (Nat.le_of_ble_eq_true rfl) dX5_told_1 ⟨Nat.zero_le _, Nat.zero_le _⟩ (fun u H locs hu hP hD hS => ?_)
  have hP : zP g [(o, .inr (5, [.ref h, .ref b, .ref im, .ref a, .ref d, .ref bb, .int (iI 1)])), (h, .inr (4, [.ref hn, .ref hs, .int (iI fl), .int (iI re)])), zI g hn 640 NU, zI g hs 5 SZ, (a, .inr (3, [.ref aw, .ref af, .ref ao])), zI g aw 8 (u.1), zI g af 80 (pf NU SZ fl), (d, .inr (1, [.ref ds, .ref df, .ref de, .int (iI (un_ (pf NU SZ fl) re))])), zI g ds 385 (stt (pf NU SZ fl) re), zI g df 384 (u.2.1), zI g de 320 (u.2.2.1), (bb, .inr (0, [.ref bc, .ref bo, .int (iI (nt_ (pf NU SZ fl) re)), .int (iI (he_ (pf NU SZ fl) re)), .int (iI (ku_ (pf NU SZ fl) re)), .int (iI (al_ (pf NU SZ fl) re))])), zI g bc 124 (V_ (pf NU SZ fl) re), zI g bo 124 (u.2.2.2), (b, .inr (2, [.ref bn, .ref br, .ref bs, .ref bf, .ref be, .int (iI nx), .int (iI dp)]))] H := hP
  have hD : va_D A [(o, .inr (5, [.ref h, .ref b, .ref im, .ref a, .ref d, .ref bb, .int (iI 1)])), (h, .inr (4, [.ref hn, .ref hs, .int (iI fl), .int (iI re)])), zI g hn 640 NU, zI g hs 5 SZ, (a, .inr (3, [.ref aw, .ref af, .ref ao])), zI g aw 8 (u.1), zI g af 80 (pf NU SZ fl), (d, .inr (1, [.ref ds, .ref df, .ref de, .int (iI (un_ (pf NU SZ fl) re))])), zI g ds 385 (stt (pf NU SZ fl) re), zI g df 384 (u.2.1), zI g de 320 (u.2.2.1), (bb, .inr (0, [.ref bc, .ref bo, .int (iI (nt_ (pf NU SZ fl) re)), .int (iI (he_ (pf NU SZ fl) re)), .int (iI (ku_ (pf NU SZ fl) re)), .int (iI (al_ (pf NU SZ fl) re))])), zI g bc 124 (V_ (pf NU SZ fl) re), zI g bo 124 (u.2.2.2), (b, .inr (2, [.ref bn, .ref br, .ref bs, .ref bf, .ref be, .int (iI nx), .int (iI dp)]))] := hD
  have hnt := nt_rg (pf NU SZ fl) re
  obtain ⟨hE, hT, hO⟩ := hu
  refine lv_iload_n hx hb dX5_told_4 rfl (lv_at hl 1 rfl) ?_
  by_cases t_0 : wh = 0
  · subst t_0
    refine lv_tableIn (off := 67) (tgt := 72) hx hb dX5_told_5 (by decide +kernel) (by decide +kernel) (by decide +kernel) (by decide) ?_
    refine lv_aload_n hx hb dX5_told_72 rfl (lv_at hl 0 rfl) ?_
    refine z_get (v := .ref h) (Cn := RX5) (T := TX5) (N := 7) (ci := 5) C in_m_X5_told_X5 hK hP 0 rfl rfl 0 (by decide) (List.mem_of_getElem? (i := 1) rfl) rfl dX5_told_73 ?_
    refine z_cS (As := []) (rest := []) C (m_X4_floor (l := l) (g := g) (h := h) (hn := hn) (hs := hs) (fl := fl) (re := re) ) (cwV 0 C.2.2.2.2 gX5_told_X4_floor rfl rfl rfl (by decide +kernel) ⟨Nat.le_of_ble_eq_true rfl, Nat.le_of_ble_eq_true rfl⟩) hK hP [1] rfl 1 rfl rfl rfl hl.1 rfl (Nat.le_of_ble_eq_true rfl) dX5_told_76 ⟨Nat.zero_le _, Nat.zero_le _⟩ ?_
    exact z_retE hx hb hlk hr hQ dX5_told_79 hS u (⟨rfl, hE, hT, hO⟩) (hP)
  by_cases t_1 : wh = 1
  · subst t_1
    refine lv_tableIn (off := 75) (tgt := 80) hx hb dX5_told_5 (by decide +kernel) (by decide +kernel) (by decide +kernel) (by decide) ?_
    refine lv_aload_n hx hb dX5_told_80 rfl (lv_at hl 0 rfl) ?_
    refine z_get (v := .ref h) (Cn := RX5) (T := TX5) (N := 7) (ci := 5) C in_m_X5_told_X5 hK hP 0 rfl rfl 0 (by decide) (List.mem_of_getElem? (i := 1) rfl) rfl dX5_told_81 ?_
    refine z_cS (As := []) (rest := []) C (m_X4_reach (l := l) (g := g) (h := h) (hn := hn) (hs := hs) (fl := fl) (re := re) ) (cwV 0 C.2.2.2.2 gX5_told_X4_reach rfl rfl rfl (by decide +kernel) ⟨Nat.le_of_ble_eq_true rfl, Nat.le_of_ble_eq_true rfl⟩) hK hP [1] rfl 1 rfl rfl rfl hl.1 rfl (Nat.le_of_ble_eq_true rfl) dX5_told_84 ⟨Nat.zero_le _, Nat.zero_le _⟩ ?_
    exact z_retE hx hb hlk hr hQ dX5_told_87 hS u (⟨rfl, hE, hT, hO⟩) (hP)
  by_cases t_2 : wh = 2
  · subst t_2
    refine lv_tableIn (off := 83) (tgt := 88) hx hb dX5_told_5 (by decide +kernel) (by decide +kernel) (by decide +kernel) (by decide) ?_
    refine lv_aload_n hx hb dX5_told_88 rfl (lv_at hl 0 rfl) ?_
    refine z_get (v := .ref d) (Cn := RX5) (T := TX5) (N := 7) (ci := 5) C in_m_X5_told_X5 hK hP 0 rfl rfl 4 (by decide) (List.mem_of_getElem? (i := 2) rfl) rfl dX5_told_89 ?_
    refine z_cS (As := []) (rest := []) C (m_X1_unlikeKeys (l := l) (g := g) (d := d) (ds := ds) (df := df) (de := de) (un := un_ (pf NU SZ fl) re) ) (cwV 0 C.2.2.2.2 gX5_told_X1_unlikeKeys rfl rfl rfl (by decide +kernel) ⟨Nat.le_of_ble_eq_true rfl, Nat.le_of_ble_eq_true rfl⟩) hK hP [7] rfl 7 rfl rfl rfl hl.1 rfl (Nat.le_of_ble_eq_true rfl) dX5_told_92 ⟨Nat.zero_le _, Nat.zero_le _⟩ ?_
    exact z_retE hx hb hlk hr hQ dX5_told_95 hS u (⟨rfl, hE, hT, hO⟩) (hP)
  by_cases t_3 : wh = 3
  · subst t_3
    refine lv_tableIn (off := 91) (tgt := 96) hx hb dX5_told_5 (by decide +kernel) (by decide +kernel) (by decide +kernel) (by decide) ?_
    refine lv_aload_n hx hb dX5_told_96 rfl (lv_at hl 0 rfl) ?_
    refine z_get (v := .ref d) (Cn := RX5) (T := TX5) (N := 7) (ci := 5) C in_m_X5_told_X5 hK hP 0 rfl rfl 4 (by decide) (List.mem_of_getElem? (i := 2) rfl) rfl dX5_told_97 ?_
    refine z_cS (As := []) (rest := []) C (m_X1_allPlaces (l := l) (g := g) (d := d) (ds := ds) (df := df) (de := de) (un := un_ (pf NU SZ fl) re) (ST := stt (pf NU SZ fl) re) ) (cwV 0 C.2.2.2.2 gX5_told_X1_allPlaces rfl rfl rfl (by decide +kernel) ⟨Nat.le_of_ble_eq_true rfl, Nat.le_of_ble_eq_true rfl⟩) hK hP [7, 8] rfl 7 rfl rfl rfl hl.1 rfl (Nat.le_of_ble_eq_true rfl) dX5_told_100 ⟨Nat.zero_le _, Nat.zero_le _⟩ ?_
    exact z_retE hx hb hlk hr hQ dX5_told_103 hS u (⟨rfl, hE, hT, hO⟩) (hP)
  by_cases t_4 : wh = 4
  · subst t_4
    refine lv_tableIn (off := 99) (tgt := 104) hx hb dX5_told_5 (by decide +kernel) (by decide +kernel) (by decide +kernel) (by decide) ?_
    refine lv_aload_n hx hb dX5_told_104 rfl (lv_at hl 0 rfl) ?_
    refine z_get (v := .ref bb) (Cn := RX5) (T := TX5) (N := 7) (ci := 5) C in_m_X5_told_X5 hK hP 0 rfl rfl 5 (by decide) (List.mem_of_getElem? (i := 3) rfl) rfl dX5_told_105 ?_
    refine z_cS (As := []) (rest := []) C (m_X0_keysHeard (l := l) (g := g) (bb := bb) (bc := bc) (bo := bo) (rk := nt_ (pf NU SZ fl) re) (he := he_ (pf NU SZ fl) re) (kn := ku_ (pf NU SZ fl) re) (al := al_ (pf NU SZ fl) re) ) (cwV 0 C.2.2.2.2 gX5_told_X0_keysHeard rfl rfl rfl (by decide +kernel) ⟨Nat.le_of_ble_eq_true rfl, Nat.le_of_ble_eq_true rfl⟩) hK hP [11] rfl 11 rfl rfl rfl hl.1 rfl (Nat.le_of_ble_eq_true rfl) dX5_told_108 ⟨Nat.zero_le _, Nat.zero_le _⟩ ?_
    exact z_retE hx hb hlk hr hQ dX5_told_111 hS u (⟨rfl, hE, hT, hO⟩) (hP)
  by_cases t_5 : wh = 5
  · subst t_5
    refine lv_tableIn (off := 107) (tgt := 112) hx hb dX5_told_5 (by decide +kernel) (by decide +kernel) (by decide +kernel) (by decide) ?_
    refine lv_aload_n hx hb dX5_told_112 rfl (lv_at hl 0 rfl) ?_
    refine z_get (v := .ref bb) (Cn := RX5) (T := TX5) (N := 7) (ci := 5) C in_m_X5_told_X5 hK hP 0 rfl rfl 5 (by decide) (List.mem_of_getElem? (i := 3) rfl) rfl dX5_told_113 ?_
    refine z_cS (As := []) (rest := []) C (m_X0_keysKnown (l := l) (g := g) (bb := bb) (bc := bc) (bo := bo) (rk := nt_ (pf NU SZ fl) re) (he := he_ (pf NU SZ fl) re) (kn := ku_ (pf NU SZ fl) re) (al := al_ (pf NU SZ fl) re) ) (cwV 0 C.2.2.2.2 gX5_told_X0_keysKnown rfl rfl rfl (by decide +kernel) ⟨Nat.le_of_ble_eq_true rfl, Nat.le_of_ble_eq_true rfl⟩) hK hP [11] rfl 11 rfl rfl rfl hl.1 rfl (Nat.le_of_ble_eq_true rfl) dX5_told_116 ⟨Nat.zero_le _, Nat.zero_le _⟩ ?_
    exact z_retE hx hb hlk hr hQ dX5_told_119 hS u (⟨rfl, hE, hT, hO⟩) (hP)
  by_cases t_6 : wh = 6
  · subst t_6
    refine lv_tableIn (off := 115) (tgt := 120) hx hb dX5_told_5 (by decide +kernel) (by decide +kernel) (by decide +kernel) (by decide) ?_
    refine lv_aload_n hx hb dX5_told_120 rfl (lv_at hl 0 rfl) ?_
    refine z_get (v := .ref bb) (Cn := RX5) (T := TX5) (N := 7) (ci := 5) C in_m_X5_told_X5 hK hP 0 rfl rfl 5 (by decide) (List.mem_of_getElem? (i := 3) rfl) rfl dX5_told_121 ?_
    refine lv_iconst (v := iI 0) hx hb dX5_told_124 rfl ?_
    refine z_cS (As := [.int (iI 0)]) (rest := []) C (m_X0_pieceOf (l := l) (g := g) (bb := bb) (bc := bc) (bo := bo) (rk := nt_ (pf NU SZ fl) re) (he := he_ (pf NU SZ fl) re) (kn := ku_ (pf NU SZ fl) re) (al := al_ (pf NU SZ fl) re) (OR := u.2.2.2) (k := 0) (k1 := by omega) (k2 := by omega) (n1 := by omega) (n2 := by omega) (ho := (fun i g1 g2 => by have := hO.1 i g1 g2; omega))) (cwV 1 C.2.2.2.2 gX5_told_X0_pieceOf rfl rfl rfl (by decide +kernel) ⟨Nat.le_of_ble_eq_true rfl, Nat.le_of_ble_eq_true rfl⟩) hK hP [11, 13] rfl 11 rfl rfl rfl hl.1 rfl (Nat.le_of_ble_eq_true rfl) dX5_told_125 ⟨Nat.zero_le _, Nat.zero_le _⟩ ?_
    exact z_retE hx hb hlk hr hQ dX5_told_128 hS u (⟨rfl, hE, hT, hO⟩) (hP)
  by_cases t_7 : wh = 7
  · subst t_7
    refine lv_tableIn (off := 124) (tgt := 129) hx hb dX5_told_5 (by decide +kernel) (by decide +kernel) (by decide +kernel) (by decide) ?_
    refine lv_aload_n hx hb dX5_told_129 rfl (lv_at hl 0 rfl) ?_
    refine z_get (v := .ref bb) (Cn := RX5) (T := TX5) (N := 7) (ci := 5) C in_m_X5_told_X5 hK hP 0 rfl rfl 5 (by decide) (List.mem_of_getElem? (i := 3) rfl) rfl dX5_told_130 ?_
    refine lv_iconst (v := iI 0) hx hb dX5_told_133 rfl ?_
    refine z_cS (As := [.int (iI 0)]) (rest := []) C (m_X0_offsetOf (l := l) (g := g) (bb := bb) (bc := bc) (bo := bo) (rk := nt_ (pf NU SZ fl) re) (he := he_ (pf NU SZ fl) re) (kn := ku_ (pf NU SZ fl) re) (al := al_ (pf NU SZ fl) re) (OR := u.2.2.2) (k := 0) (k1 := by omega) (k2 := by omega) (n1 := by omega) (n2 := by omega) (ho := (fun i g1 g2 => by have := hO.1 i g1 g2; omega))) (cwV 1 C.2.2.2.2 gX5_told_X0_offsetOf rfl rfl rfl (by decide +kernel) ⟨Nat.le_of_ble_eq_true rfl, Nat.le_of_ble_eq_true rfl⟩) hK hP [11, 13] rfl 11 rfl rfl rfl hl.1 rfl (Nat.le_of_ble_eq_true rfl) dX5_told_134 ⟨Nat.zero_le _, Nat.zero_le _⟩ ?_
    exact z_retE hx hb hlk hr hQ dX5_told_137 hS u (⟨rfl, hE, hT, hO⟩) (hP)
  by_cases t_8 : wh = 8
  · subst t_8
    refine lv_tableIn (off := 133) (tgt := 138) hx hb dX5_told_5 (by decide +kernel) (by decide +kernel) (by decide +kernel) (by decide) ?_
    refine lv_aload_n hx hb dX5_told_138 rfl (lv_at hl 0 rfl) ?_
    refine z_get (v := .ref bb) (Cn := RX5) (T := TX5) (N := 7) (ci := 5) C in_m_X5_told_X5 hK hP 0 rfl rfl 5 (by decide) (List.mem_of_getElem? (i := 3) rfl) rfl dX5_told_139 ?_
    refine lv_iconst (v := iI 0) hx hb dX5_told_142 rfl ?_
    refine z_cS (As := [.int (iI 0)]) (rest := []) C (m_X0_countOf (l := l) (g := g) (bb := bb) (bc := bc) (bo := bo) (rk := nt_ (pf NU SZ fl) re) (he := he_ (pf NU SZ fl) re) (kn := ku_ (pf NU SZ fl) re) (al := al_ (pf NU SZ fl) re) (CE := V_ (pf NU SZ fl) re) (OR := u.2.2.2) (k := 0) (k1 := by omega) (k2 := by omega) (n1 := by omega) (n2 := by omega) (ho := (fun i g1 g2 => by have := hO.1 i g1 g2; omega))) (cwV 1 C.2.2.2.2 gX5_told_X0_countOf rfl rfl rfl (by decide +kernel) ⟨Nat.le_of_ble_eq_true rfl, Nat.le_of_ble_eq_true rfl⟩) hK hP [11, 12, 13] rfl 11 rfl rfl rfl hl.1 rfl (Nat.le_of_ble_eq_true rfl) dX5_told_143 ⟨Nat.zero_le _, Nat.zero_le _⟩ ?_
    exact z_retE hx hb hlk hr hQ dX5_told_146 hS u (⟨rfl, hE, hT, hO⟩) (hP)
  by_cases t_9 : wh = 9
  · subst t_9
    refine lv_tableIn (off := 142) (tgt := 147) hx hb dX5_told_5 (by decide +kernel) (by decide +kernel) (by decide +kernel) (by decide) ?_
    refine lv_aload_n hx hb dX5_told_147 rfl (lv_at hl 0 rfl) ?_
    refine z_get (v := .ref bb) (Cn := RX5) (T := TX5) (N := 7) (ci := 5) C in_m_X5_told_X5 hK hP 0 rfl rfl 5 (by decide) (List.mem_of_getElem? (i := 3) rfl) rfl dX5_told_148 ?_
    refine z_cS (As := []) (rest := []) C (m_X0_doubt (l := l) (g := g) (bb := bb) (bc := bc) (bo := bo) (rk := nt_ (pf NU SZ fl) re) (he := he_ (pf NU SZ fl) re) (kn := ku_ (pf NU SZ fl) re) (al := al_ (pf NU SZ fl) re) (CE := V_ (pf NU SZ fl) re) (OR := u.2.2.2) (n1 := by omega) (n2 := by omega) (hO := hO) (hV := V_rg (pf NU SZ fl) re)) (cwV 0 C.2.2.2.2 gX5_told_X0_doubt rfl rfl rfl (by decide +kernel) ⟨Nat.le_of_ble_eq_true rfl, Nat.le_of_ble_eq_true rfl⟩) hK hP [11, 12, 13] rfl 11 rfl rfl rfl hl.1 rfl (Nat.le_of_ble_eq_true rfl) dX5_told_151 ⟨Nat.zero_le _, Nat.zero_le _⟩ ?_
    exact z_retE hx hb hlk hr hQ dX5_told_154 hS u (⟨rfl, hE, hT, hO⟩) (hP)
  by_cases t_10 : wh = 10
  · subst t_10
    refine lv_tableIn (off := 150) (tgt := 155) hx hb dX5_told_5 (by decide +kernel) (by decide +kernel) (by decide +kernel) (by decide) ?_
    refine lv_aload_n hx hb dX5_told_155 rfl (lv_at hl 0 rfl) ?_
    refine z_get (v := .ref bb) (Cn := RX5) (T := TX5) (N := 7) (ci := 5) C in_m_X5_told_X5 hK hP 0 rfl rfl 5 (by decide) (List.mem_of_getElem? (i := 3) rfl) rfl dX5_told_156 ?_
    refine z_cS (As := []) (rest := []) C (m_X0_ranked (l := l) (g := g) (bb := bb) (bc := bc) (bo := bo) (rk := nt_ (pf NU SZ fl) re) (he := he_ (pf NU SZ fl) re) (kn := ku_ (pf NU SZ fl) re) (al := al_ (pf NU SZ fl) re) ) (cwV 0 C.2.2.2.2 gX5_told_X0_ranked rfl rfl rfl (by decide +kernel) ⟨Nat.le_of_ble_eq_true rfl, Nat.le_of_ble_eq_true rfl⟩) hK hP [11] rfl 11 rfl rfl rfl hl.1 rfl (Nat.le_of_ble_eq_true rfl) dX5_told_159 ⟨Nat.zero_le _, Nat.zero_le _⟩ ?_
    exact z_retE hx hb hlk hr hQ dX5_told_162 hS u (⟨rfl, hE, hT, hO⟩) (hP)
  by_cases t_11 : wh = 11
  · subst t_11
    refine lv_tableIn (off := 158) (tgt := 163) hx hb dX5_told_5 (by decide +kernel) (by decide +kernel) (by decide +kernel) (by decide) ?_
    refine lv_aload_n hx hb dX5_told_163 rfl (lv_at hl 0 rfl) ?_
    refine z_get (v := .ref bb) (Cn := RX5) (T := TX5) (N := 7) (ci := 5) C in_m_X5_told_X5 hK hP 0 rfl rfl 5 (by decide) (List.mem_of_getElem? (i := 3) rfl) rfl dX5_told_164 ?_
    refine z_cS (As := []) (rest := []) C (m_X0_allVotes (l := l) (g := g) (bb := bb) (bc := bc) (bo := bo) (rk := nt_ (pf NU SZ fl) re) (he := he_ (pf NU SZ fl) re) (kn := ku_ (pf NU SZ fl) re) (al := al_ (pf NU SZ fl) re) ) (cwV 0 C.2.2.2.2 gX5_told_X0_allVotes rfl rfl rfl (by decide +kernel) ⟨Nat.le_of_ble_eq_true rfl, Nat.le_of_ble_eq_true rfl⟩) hK hP [11] rfl 11 rfl rfl rfl hl.1 rfl (Nat.le_of_ble_eq_true rfl) dX5_told_167 ⟨Nat.zero_le _, Nat.zero_le _⟩ ?_
    exact z_retE hx hb hlk hr hQ dX5_told_170 hS u (⟨rfl, hE, hT, hO⟩) (hP)
  by_cases t_12 : wh = 12
  · subst t_12
    refine lv_tableIn (off := 166) (tgt := 171) hx hb dX5_told_5 (by decide +kernel) (by decide +kernel) (by decide +kernel) (by decide) ?_
    refine lv_aload_n hx hb dX5_told_171 rfl (lv_at hl 0 rfl) ?_
    refine z_get (v := .ref b) (Cn := RX5) (T := TX5) (N := 7) (ci := 5) C in_m_X5_told_X5 hK hP 0 rfl rfl 1 (by decide) (List.mem_of_getElem? (i := 4) rfl) rfl dX5_told_172 ?_
    refine z_cS (As := []) (rest := []) C (m_X2_depth (l := l) (g := g) (b := b) (bn := bn) (br := br) (bs := bs) (bf := bf) (be := be) (nx := nx) (dp := dp) ) (cwV 0 C.2.2.2.2 gX5_told_X2_depth rfl rfl rfl (by decide +kernel) ⟨Nat.le_of_ble_eq_true rfl, Nat.le_of_ble_eq_true rfl⟩) hK hP [14] rfl 14 rfl rfl rfl hl.1 rfl (Nat.le_of_ble_eq_true rfl) dX5_told_175 ⟨Nat.zero_le _, Nat.zero_le _⟩ ?_
    exact z_retE hx hb hlk hr hQ dX5_told_178 hS u (⟨rfl, hE, hT, hO⟩) (hP)
  refine lv_tableOut (tgt := 179) hx hb dX5_told_5 (by rw [iI_to (by omega) (by omega)]; omega) (by decide) ?_
  refine z_ldc C (List.mem_of_getElem? (i := 5) rfl) (-1000000002) (by decide +kernel) dX5_told_179 ?_
  exact z_retE hx hb hlk hr hQ dX5_told_181 hS u (⟨by unfold tq; (repeat rw [if_neg (by assumption)]), hE, hT, hO⟩) (hP)
set_option maxRecDepth 20000 in
theorem in_m_X5_row_X5 : ∀ w ∈ u_ws RX5 TX5 7, w ∈ wsX5_row := zmem_of _ [148, 149, 150, 151, 152, 153, 154] (by decide +kernel)
set_option maxHeartbeats 4000000 in
set_option maxRecDepth 100000 in
theorem m_X5_row (l : Launch) (g : zG) (o h b im a d bb : Nat) (fr : Int) (hn hs : Nat) (fl re : Int) (NU SZ : Int → Int) (aw af ao ds df de bc bo : Nat) (WA FD ST FI EN CE OR : Int → Int) (un rk he kn al : Int) (OF : Int → Int) (pi_ wh : Int) (hfr : fr = 0 ∨ (fr = 1 ∧ fOK (pf NU SZ fl) re FD ST EN CE OR un rk he kn al)) (f1 : 0 ≤ fl ∧ fl ≤ 99999) (f2 : 1 ≤ re ∧ re ≤ 5) (z1 : ∀ q, 0 ≤ q → q < 5 → 0 ≤ SZ q ∧ SZ q ≤ 128) (g_pi_ : -2147483648 ≤ pi_ ∧ pi_ < 2147483648) (g_wh : -2147483648 ≤ wh ∧ wh < 2147483648) (a1 : 0 ≤ pi_ ∧ pi_ ≤ 4) : zE l yX5_row wsX5_row ({ frames := 5, cells := 0, slots := 0, locals := 118 }) g [.ref o, .int (iI pi_), .int (iI wh)] [(o, .inr (5, [.ref h, .ref b, .ref im, .ref a, .ref d, .ref bb, .int (iI fr)])), (h, .inr (4, [.ref hn, .ref hs, .int (iI fl), .int (iI re)])), zI g hn 640 NU, zI g hs 5 SZ, (a, .inr (3, [.ref aw, .ref af, .ref ao])), zI g aw 8 WA, zI g af 80 FD, (d, .inr (1, [.ref ds, .ref df, .ref de, .int (iI un)])), zI g ds 385 ST, zI g df 384 FI, zI g de 320 EN, (bb, .inr (0, [.ref bc, .ref bo, .int (iI rk), .int (iI he), .int (iI kn), .int (iI al)])), zI g bc 124 CE, zI g bo 124 OR, zI g ao 8 OF] (S := ((Int → Int) × (Int → Int) × (Int → Int) × (Int → Int) × (Int → Int))) (fun r u => (r = rq wh re pi_ (pf NU SZ fl) NU SZ) ∧ cOK (pf NU SZ fl) re u.2.2.1 u.2.2.2.1) (fun u => [(o, .inr (5, [.ref h, .ref b, .ref im, .ref a, .ref d, .ref bb, .int (iI 1)])), (h, .inr (4, [.ref hn, .ref hs, .int (iI fl), .int (iI re)])), zI g hn 640 NU, zI g hs 5 SZ, (a, .inr (3, [.ref aw, .ref af, .ref ao])), zI g aw 8 (u.1), zI g af 80 (pf NU SZ fl), (d, .inr (1, [.ref ds, .ref df, .ref de, .int (iI (un_ (pf NU SZ fl) re))])), zI g ds 385 (stt (pf NU SZ fl) re), zI g df 384 (u.2.1), zI g de 320 (u.2.2.1), (bb, .inr (0, [.ref bc, .ref bo, .int (iI (nt_ (pf NU SZ fl) re)), .int (iI (he_ (pf NU SZ fl) re)), .int (iI (ku_ (pf NU SZ fl) re)), .int (iI (al_ (pf NU SZ fl) re))])), zI g bc 124 (V_ (pf NU SZ fl) re), zI g bo 124 (u.2.2.2.1), zI g ao 8 (u.2.2.2.2)]) := by
  refine z_entE (cc := cX5_row) (nL := 3) (ret := (some .int)) (own := RX5) (by decide) rfl rfl (Nat.le_of_ble_eq_true rfl) ?_
  intro p e s m below meth c Q ls A C hlk hr hQ hP hK hD hA hS hl
  have hx := C.1
  have hb := C.2.1
  have hl : lv_has ls 3 [(0, .ref o), (1, .int (iI pi_)), (2, .int (iI wh))] := hl
  obtain ⟨H, hHe⟩ : ∃ H, H = s.heap := ⟨_, rfl⟩
  obtain ⟨locs, hLe⟩ : ∃ q : List Loc, q = [] := ⟨_, rfl⟩
  have hP : zP g [(o, .inr (5, [.ref h, .ref b, .ref im, .ref a, .ref d, .ref bb, .int (iI fr)])), (h, .inr (4, [.ref hn, .ref hs, .int (iI fl), .int (iI re)])), zI g hn 640 NU, zI g hs 5 SZ, (a, .inr (3, [.ref aw, .ref af, .ref ao])), zI g aw 8 WA, zI g af 80 FD, (d, .inr (1, [.ref ds, .ref df, .ref de, .int (iI un)])), zI g ds 385 ST, zI g df 384 FI, zI g de 320 EN, (bb, .inr (0, [.ref bc, .ref bo, .int (iI rk), .int (iI he), .int (iI kn), .int (iI al)])), zI g bc 124 CE, zI g bo 124 OR, zI g ao 8 OF] H := by rw [hHe]; exact hP
  have hS : va_S A s.heap H locs := by rw [hHe, hLe]; exact hS
  suffices hgo : W p l e ({ frames := 5, cells := 0, slots := 0, locals := 118 }) s m ([.ref o, .int (iI pi_), .int (iI wh)] : List Value).toArray below meth c H locs 0 0 Q (F0 m 0 ls []) by rw [hHe, hLe] at hgo; exact hgo
  clear hHe hLe
  refine lv_iload_n hx hb dX5_row_0 rfl (lv_at hl 1 rfl) ?_
  refine z_cSS (As := [.int (iI pi_)]) (rest := []) C (m_X5_isRow (l := l) (g := g) (v := pi_) (g_v := by omega)) (cwS 1 C.2.2.2.2 gX5_row_X5_isRow rfl rfl rfl (by decide +kernel) ⟨Nat.le_of_ble_eq_true rfl, Nat.le_of_ble_eq_true rfl⟩) hK hP [] rfl rfl hl.1 rfl (Nat.le_of_ble_eq_true rfl) dX5_row_1 ⟨Nat.zero_le _, Nat.zero_le _⟩ ?_
  refine z_ifb_ne (tgt := 10) hx hb dX5_row_4 (by decide) (fun c_1 => ?_) (fun c_1 => ?_)
  · have hz1 := z1 pi_ (by omega) (by omega)
    refine lv_aload_n hx hb dX5_row_10 rfl (lv_at hl 0 rfl) ?_
    refine z_cV (As := []) (rest := []) C (m_X5_refresh (l := l) (g := g) (o := o) (h := h) (b := b) (im := im) (a := a) (d := d) (bb := bb) (fr := fr) (hn := hn) (hs := hs) (fl := fl) (re := re) (NU := NU) (SZ := SZ) (aw := aw) (af := af) (ao := ao) (ds := ds) (df := df) (de := de) (bc := bc) (bo := bo) (WA := WA) (FD := FD) (ST := ST) (FI := FI) (EN := EN) (CE := CE) (OR := OR) (un := un) (rk := rk) (he := he) (kn := kn) (al := al) (hfr := hfr) (f1 := by omega) (f2 := by omega) (z1 := z1)) (cwV 0 C.2.2.2.2 gX5_row_X5_refresh rfl rfl rfl (by decide +kernel) ⟨Nat.le_of_ble_eq_true rfl, Nat.le_of_ble_eq_true rfl⟩) hK hP hD hS hA [0, 1, 2, 3, 4, 5, 6, 7, 8, 9, 10, 11, 12, 13] (by decide) rfl (fun _ => rfl) 0 rfl rfl rfl hl.1 rfl (Nat.le_of_ble_eq_true rfl) dX5_row_11 ⟨Nat.zero_le _, Nat.zero_le _⟩ (fun u H locs hu hP hD hS => ?_)
    have hP : zP g [(o, .inr (5, [.ref h, .ref b, .ref im, .ref a, .ref d, .ref bb, .int (iI 1)])), (h, .inr (4, [.ref hn, .ref hs, .int (iI fl), .int (iI re)])), zI g hn 640 NU, zI g hs 5 SZ, (a, .inr (3, [.ref aw, .ref af, .ref ao])), zI g aw 8 (u.1), zI g af 80 (pf NU SZ fl), (d, .inr (1, [.ref ds, .ref df, .ref de, .int (iI (un_ (pf NU SZ fl) re))])), zI g ds 385 (stt (pf NU SZ fl) re), zI g df 384 (u.2.1), zI g de 320 (u.2.2.1), (bb, .inr (0, [.ref bc, .ref bo, .int (iI (nt_ (pf NU SZ fl) re)), .int (iI (he_ (pf NU SZ fl) re)), .int (iI (ku_ (pf NU SZ fl) re)), .int (iI (al_ (pf NU SZ fl) re))])), zI g bc 124 (V_ (pf NU SZ fl) re), zI g bo 124 (u.2.2.2), zI g ao 8 OF] H := hP
    have hD : va_D A [(o, .inr (5, [.ref h, .ref b, .ref im, .ref a, .ref d, .ref bb, .int (iI 1)])), (h, .inr (4, [.ref hn, .ref hs, .int (iI fl), .int (iI re)])), zI g hn 640 NU, zI g hs 5 SZ, (a, .inr (3, [.ref aw, .ref af, .ref ao])), zI g aw 8 (u.1), zI g af 80 (pf NU SZ fl), (d, .inr (1, [.ref ds, .ref df, .ref de, .int (iI (un_ (pf NU SZ fl) re))])), zI g ds 385 (stt (pf NU SZ fl) re), zI g df 384 (u.2.1), zI g de 320 (u.2.2.1), (bb, .inr (0, [.ref bc, .ref bo, .int (iI (nt_ (pf NU SZ fl) re)), .int (iI (he_ (pf NU SZ fl) re)), .int (iI (ku_ (pf NU SZ fl) re)), .int (iI (al_ (pf NU SZ fl) re))])), zI g bc 124 (V_ (pf NU SZ fl) re), zI g bo 124 (u.2.2.2), zI g ao 8 OF] := hD
    have hnt := nt_rg (pf NU SZ fl) re
    obtain ⟨hE, hT, hO⟩ := hu
    refine lv_iload_n hx hb dX5_row_14 rfl (lv_at hl 2 rfl) ?_
    by_cases t_0 : wh = 0
    · subst t_0
      refine lv_tableIn (off := 37) (tgt := 52) hx hb dX5_row_15 (by decide +kernel) (by decide +kernel) (by decide +kernel) (by decide) ?_
      refine lv_aload_n hx hb dX5_row_52 rfl (lv_at hl 0 rfl) ?_
      refine z_get (v := .ref h) (Cn := RX5) (T := TX5) (N := 7) (ci := 5) C in_m_X5_row_X5 hK hP 0 rfl rfl 0 (by decide) (List.mem_of_getElem? (i := 2) rfl) rfl dX5_row_53 ?_
      refine lv_iload_n hx hb dX5_row_56 rfl (lv_at hl 1 rfl) ?_
      refine z_cS (As := [.int (iI pi_)]) (rest := []) C (m_X4_sizeOf (l := l) (g := g) (h := h) (hn := hn) (hs := hs) (fl := fl) (re := re) (SZ := SZ) (row := pi_) (h1 := by omega) (h2 := by omega)) (cwV 1 C.2.2.2.2 gX5_row_X4_sizeOf rfl rfl rfl (by decide +kernel) ⟨Nat.le_of_ble_eq_true rfl, Nat.le_of_ble_eq_true rfl⟩) hK hP [1, 3] rfl 1 rfl rfl rfl hl.1 rfl (Nat.le_of_ble_eq_true rfl) dX5_row_57 ⟨Nat.zero_le _, Nat.zero_le _⟩ ?_
      exact z_retE hx hb hlk hr hQ dX5_row_60 hS (u.1, u.2.1, u.2.2.1, u.2.2.2, OF) (⟨rfl, hE, hT, hO⟩) (hP)
    by_cases t_1 : wh = 1
    · subst t_1
      refine lv_tableIn (off := 46) (tgt := 61) hx hb dX5_row_15 (by decide +kernel) (by decide +kernel) (by decide +kernel) (by decide) ?_
      refine lv_aload_n hx hb dX5_row_61 rfl (lv_at hl 0 rfl) ?_
      refine z_get (v := .ref h) (Cn := RX5) (T := TX5) (N := 7) (ci := 5) C in_m_X5_row_X5 hK hP 0 rfl rfl 0 (by decide) (List.mem_of_getElem? (i := 2) rfl) rfl dX5_row_62 ?_
      refine lv_iload_n hx hb dX5_row_65 rfl (lv_at hl 1 rfl) ?_
      refine z_cS (As := [.int (iI pi_)]) (rest := []) C (m_X4_windowsOf (l := l) (g := g) (h := h) (hn := hn) (hs := hs) (fl := fl) (re := re) (SZ := SZ) (row := pi_) (h1 := by omega) (h2 := by omega) (h3 := by omega) (h4 := by omega)) (cwV 1 C.2.2.2.2 gX5_row_X4_windowsOf rfl rfl rfl (by decide +kernel) ⟨Nat.le_of_ble_eq_true rfl, Nat.le_of_ble_eq_true rfl⟩) hK hP [1, 3] rfl 1 rfl rfl rfl hl.1 rfl (Nat.le_of_ble_eq_true rfl) dX5_row_66 ⟨Nat.zero_le _, Nat.zero_le _⟩ ?_
      exact z_retE hx hb hlk hr hQ dX5_row_69 hS (u.1, u.2.1, u.2.2.1, u.2.2.2, OF) (⟨rfl, hE, hT, hO⟩) (hP)
    by_cases t_2 : wh = 2
    · subst t_2
      refine lv_tableIn (off := 55) (tgt := 70) hx hb dX5_row_15 (by decide +kernel) (by decide +kernel) (by decide +kernel) (by decide) ?_
      refine lv_aload_n hx hb dX5_row_70 rfl (lv_at hl 0 rfl) ?_
      refine z_get (v := .ref a) (Cn := RX5) (T := TX5) (N := 7) (ci := 5) C in_m_X5_row_X5 hK hP 0 rfl rfl 3 (by decide) (List.mem_of_getElem? (i := 3) rfl) rfl dX5_row_71 ?_
      refine lv_iload_n hx hb dX5_row_74 rfl (lv_at hl 1 rfl) ?_
      refine z_cS (As := [.int (iI pi_)]) (rest := []) C (m_X3_countIn (l := l) (g := g) (a := a) (aw := aw) (af := af) (ao := ao) (FD := pf NU SZ fl) (row := pi_) (h1 := by omega) (h2 := by omega) (hF := (fun j => pf_rg NU SZ fl j))) (cwV 1 C.2.2.2.2 gX5_row_X3_countIn rfl rfl rfl (by decide +kernel) ⟨Nat.le_of_ble_eq_true rfl, Nat.le_of_ble_eq_true rfl⟩) hK hP [4, 6] rfl 4 rfl rfl rfl hl.1 rfl (Nat.le_of_ble_eq_true rfl) dX5_row_75 ⟨Nat.zero_le _, Nat.zero_le _⟩ ?_
      exact z_retE hx hb hlk hr hQ dX5_row_78 hS (u.1, u.2.1, u.2.2.1, u.2.2.2, OF) (⟨rfl, hE, hT, hO⟩) (hP)
    by_cases t_3 : wh = 3
    · subst t_3
      refine lv_tableIn (off := 64) (tgt := 79) hx hb dX5_row_15 (by decide +kernel) (by decide +kernel) (by decide +kernel) (by decide) ?_
      refine lv_aload_n hx hb dX5_row_79 rfl (lv_at hl 0 rfl) ?_
      refine z_get (v := .ref a) (Cn := RX5) (T := TX5) (N := 7) (ci := 5) C in_m_X5_row_X5 hK hP 0 rfl rfl 3 (by decide) (List.mem_of_getElem? (i := 3) rfl) rfl dX5_row_80 ?_
      refine lv_iload_n hx hb dX5_row_83 rfl (lv_at hl 1 rfl) ?_
      refine lv_aload_n hx hb dX5_row_84 rfl (lv_at hl 0 rfl) ?_
      refine z_get (v := .ref h) (Cn := RX5) (T := TX5) (N := 7) (ci := 5) C in_m_X5_row_X5 hK hP 0 rfl rfl 0 (by decide) (List.mem_of_getElem? (i := 2) rfl) rfl dX5_row_85 ?_
      refine z_cS (As := []) (rest := [.int (iI pi_), .ref a]) C (m_X4_reach (l := l) (g := g) (h := h) (hn := hn) (hs := hs) (fl := fl) (re := re) ) (cwV 0 C.2.2.2.2 gX5_row_X4_reach rfl rfl rfl (by decide +kernel) ⟨Nat.le_of_ble_eq_true rfl, Nat.le_of_ble_eq_true rfl⟩) hK hP [1] rfl 1 rfl rfl rfl hl.1 rfl (Nat.le_of_ble_eq_true rfl) dX5_row_88 ⟨Nat.zero_le _, Nat.zero_le _⟩ ?_
      refine z_cS (As := [.int (iI pi_), .int (iI re)]) (rest := []) C (m_X3_countKeysIn (l := l) (g := g) (a := a) (aw := aw) (af := af) (ao := ao) (FD := pf NU SZ fl) (row := pi_) (re := re) (h1 := by omega) (h2 := by omega) (r1 := by omega) (r2 := by omega) (hF := (fun j => pf_rg NU SZ fl j))) (cwV 2 C.2.2.2.2 gX5_row_X3_countKeysIn rfl rfl rfl (by decide +kernel) ⟨Nat.le_of_ble_eq_true rfl, Nat.le_of_ble_eq_true rfl⟩) hK hP [4, 6] rfl 4 rfl rfl rfl hl.1 rfl (Nat.le_of_ble_eq_true rfl) dX5_row_91 ⟨Nat.zero_le _, Nat.zero_le _⟩ ?_
      exact z_retE hx hb hlk hr hQ dX5_row_94 hS (u.1, u.2.1, u.2.2.1, u.2.2.2, OF) (⟨rfl, hE, hT, hO⟩) (hP)
    by_cases t_4 : wh = 4
    · subst t_4
      refine lv_tableIn (off := 80) (tgt := 95) hx hb dX5_row_15 (by decide +kernel) (by decide +kernel) (by decide +kernel) (by decide) ?_
      refine lv_aload_n hx hb dX5_row_95 rfl (lv_at hl 0 rfl) ?_
      refine z_get (v := .ref a) (Cn := RX5) (T := TX5) (N := 7) (ci := 5) C in_m_X5_row_X5 hK hP 0 rfl rfl 3 (by decide) (List.mem_of_getElem? (i := 3) rfl) rfl dX5_row_96 ?_
      refine lv_aload_n hx hb dX5_row_99 rfl (lv_at hl 0 rfl) ?_
      refine z_get (v := .ref h) (Cn := RX5) (T := TX5) (N := 7) (ci := 5) C in_m_X5_row_X5 hK hP 0 rfl rfl 0 (by decide) (List.mem_of_getElem? (i := 2) rfl) rfl dX5_row_100 ?_
      refine lv_iload_n hx hb dX5_row_103 rfl (lv_at hl 1 rfl) ?_
      refine z_cE (As := [.ref h, .int (iI pi_)]) (rest := []) C (m_X3_allSharesIn (l := l) (g := g) (a := a) (aw := aw) (af := af) (ao := ao) (h := h) (hn := hn) (hs := hs) (fl := fl) (re := re) (WA := u.1) (NU := NU) (SZ := SZ) (row := pi_) (h1 := by omega) (h2 := by omega) (z1 := hz1)) (cwV 2 C.2.2.2.2 gX5_row_X3_allSharesIn rfl rfl rfl (by decide +kernel) ⟨Nat.le_of_ble_eq_true rfl, Nat.le_of_ble_eq_true rfl⟩) hK hP hD hS hA [4, 5, 1, 2, 3] (by decide) rfl (fun _ => rfl) 4 rfl rfl rfl hl.1 rfl (Nat.le_of_ble_eq_true rfl) dX5_row_104 ⟨Nat.zero_le _, Nat.zero_le _⟩ (fun r_2 WB H locs hw hP hD hS => ?_)
      have hP : zP g [(o, .inr (5, [.ref h, .ref b, .ref im, .ref a, .ref d, .ref bb, .int (iI 1)])), (h, .inr (4, [.ref hn, .ref hs, .int (iI fl), .int (iI re)])), zI g hn 640 NU, zI g hs 5 SZ, (a, .inr (3, [.ref aw, .ref af, .ref ao])), zI g aw 8 WB, zI g af 80 (pf NU SZ fl), (d, .inr (1, [.ref ds, .ref df, .ref de, .int (iI (un_ (pf NU SZ fl) re))])), zI g ds 385 (stt (pf NU SZ fl) re), zI g df 384 (u.2.1), zI g de 320 (u.2.2.1), (bb, .inr (0, [.ref bc, .ref bo, .int (iI (nt_ (pf NU SZ fl) re)), .int (iI (he_ (pf NU SZ fl) re)), .int (iI (ku_ (pf NU SZ fl) re)), .int (iI (al_ (pf NU SZ fl) re))])), zI g bc 124 (V_ (pf NU SZ fl) re), zI g bo 124 (u.2.2.2), zI g ao 8 OF] H := hP
      have hD : va_D A [(o, .inr (5, [.ref h, .ref b, .ref im, .ref a, .ref d, .ref bb, .int (iI 1)])), (h, .inr (4, [.ref hn, .ref hs, .int (iI fl), .int (iI re)])), zI g hn 640 NU, zI g hs 5 SZ, (a, .inr (3, [.ref aw, .ref af, .ref ao])), zI g aw 8 WB, zI g af 80 (pf NU SZ fl), (d, .inr (1, [.ref ds, .ref df, .ref de, .int (iI (un_ (pf NU SZ fl) re))])), zI g ds 385 (stt (pf NU SZ fl) re), zI g df 384 (u.2.1), zI g de 320 (u.2.2.1), (bb, .inr (0, [.ref bc, .ref bo, .int (iI (nt_ (pf NU SZ fl) re)), .int (iI (he_ (pf NU SZ fl) re)), .int (iI (ku_ (pf NU SZ fl) re)), .int (iI (al_ (pf NU SZ fl) re))])), zI g bc 124 (V_ (pf NU SZ fl) re), zI g bo 124 (u.2.2.2), zI g ao 8 OF] := hD
      exact z_retE hx hb hlk hr hQ dX5_row_107 hS (WB, u.2.1, u.2.2.1, u.2.2.2, OF) (⟨hw, hE, hT, hO⟩) (hP)
    by_cases t_5 : wh = 5
    · subst t_5
      refine lv_tableIn (off := 93) (tgt := 108) hx hb dX5_row_15 (by decide +kernel) (by decide +kernel) (by decide +kernel) (by decide) ?_
      refine lv_aload_n hx hb dX5_row_108 rfl (lv_at hl 0 rfl) ?_
      refine z_get (v := .ref a) (Cn := RX5) (T := TX5) (N := 7) (ci := 5) C in_m_X5_row_X5 hK hP 0 rfl rfl 3 (by decide) (List.mem_of_getElem? (i := 3) rfl) rfl dX5_row_109 ?_
      refine lv_iload_n hx hb dX5_row_112 rfl (lv_at hl 1 rfl) ?_
      refine z_cE (As := [.int (iI pi_)]) (rest := []) C (m_X3_mostOftenIn (l := l) (g := g) (a := a) (aw := aw) (af := af) (ao := ao) (FD := pf NU SZ fl) (OF := OF) (row := pi_) (h1 := by omega) (h2 := by omega) (hF := (fun j => pf_rg NU SZ fl j))) (cwV 1 C.2.2.2.2 gX5_row_X3_mostOftenIn rfl rfl rfl (by decide +kernel) ⟨Nat.le_of_ble_eq_true rfl, Nat.le_of_ble_eq_true rfl⟩) hK hP hD hS hA [4, 6, 14] (by decide) rfl (fun _ => rfl) 4 rfl rfl rfl hl.1 rfl (Nat.le_of_ble_eq_true rfl) dX5_row_113 ⟨Nat.zero_le _, Nat.zero_le _⟩ (fun r_3 OG H locs hw hP hD hS => ?_)
      have hP : zP g [(o, .inr (5, [.ref h, .ref b, .ref im, .ref a, .ref d, .ref bb, .int (iI 1)])), (h, .inr (4, [.ref hn, .ref hs, .int (iI fl), .int (iI re)])), zI g hn 640 NU, zI g hs 5 SZ, (a, .inr (3, [.ref aw, .ref af, .ref ao])), zI g aw 8 (u.1), zI g af 80 (pf NU SZ fl), (d, .inr (1, [.ref ds, .ref df, .ref de, .int (iI (un_ (pf NU SZ fl) re))])), zI g ds 385 (stt (pf NU SZ fl) re), zI g df 384 (u.2.1), zI g de 320 (u.2.2.1), (bb, .inr (0, [.ref bc, .ref bo, .int (iI (nt_ (pf NU SZ fl) re)), .int (iI (he_ (pf NU SZ fl) re)), .int (iI (ku_ (pf NU SZ fl) re)), .int (iI (al_ (pf NU SZ fl) re))])), zI g bc 124 (V_ (pf NU SZ fl) re), zI g bo 124 (u.2.2.2), zI g ao 8 OG] H := hP
      have hD : va_D A [(o, .inr (5, [.ref h, .ref b, .ref im, .ref a, .ref d, .ref bb, .int (iI 1)])), (h, .inr (4, [.ref hn, .ref hs, .int (iI fl), .int (iI re)])), zI g hn 640 NU, zI g hs 5 SZ, (a, .inr (3, [.ref aw, .ref af, .ref ao])), zI g aw 8 (u.1), zI g af 80 (pf NU SZ fl), (d, .inr (1, [.ref ds, .ref df, .ref de, .int (iI (un_ (pf NU SZ fl) re))])), zI g ds 385 (stt (pf NU SZ fl) re), zI g df 384 (u.2.1), zI g de 320 (u.2.2.1), (bb, .inr (0, [.ref bc, .ref bo, .int (iI (nt_ (pf NU SZ fl) re)), .int (iI (he_ (pf NU SZ fl) re)), .int (iI (ku_ (pf NU SZ fl) re)), .int (iI (al_ (pf NU SZ fl) re))])), zI g bc 124 (V_ (pf NU SZ fl) re), zI g bo 124 (u.2.2.2), zI g ao 8 OG] := hD
      exact z_retE hx hb hlk hr hQ dX5_row_116 hS (u.1, u.2.1, u.2.2.1, u.2.2.2, OG) (⟨hw, hE, hT, hO⟩) (hP)
    refine lv_tableOut (tgt := 117) hx hb dX5_row_15 (by rw [iI_to (by omega) (by omega)]; omega) (by decide) ?_
    refine z_ldc C (List.mem_of_getElem? (i := 4) rfl) (-1000000002) (by decide +kernel) dX5_row_117 ?_
    exact z_retE hx hb hlk hr hQ dX5_row_119 hS (u.1, u.2.1, u.2.2.1, u.2.2.2, OF) (⟨by unfold rq; (repeat rw [if_neg (by assumption)]), hE, hT, hO⟩) (hP)
  · exfalso; omega
set_option maxHeartbeats 4000000 in
set_option maxRecDepth 100000 in
theorem m_X5_row_n (l : Launch) (g : zG) (o h b im a d bb : Nat) (fr : Int) (pi_ wh : Int) (g_pi_ : -2147483648 ≤ pi_ ∧ pi_ < 2147483648) (rf : ¬ (0 ≤ pi_ ∧ pi_ ≤ 4)) : zS l yX5_row wsX5_row ({ frames := 2, cells := 0, slots := 0, locals := 42 }) g [.ref o, .int (iI pi_), .int (iI wh)] [(o, .inr (5, [.ref h, .ref b, .ref im, .ref a, .ref d, .ref bb, .int (iI fr)]))] (-1000000001) := by
  refine z_entS (cc := cX5_row) (nL := 3) (ret := (some .int)) (own := RX5) (by decide) rfl rfl (Nat.le_of_ble_eq_true rfl) ?_
  intro p e s m below meth c Q ls C hlk hr hQ hP hK hl
  have hx := C.1
  have hb := C.2.1
  have hl : lv_has ls 3 [(0, .ref o), (1, .int (iI pi_)), (2, .int (iI wh))] := hl
  refine lv_iload_n hx hb dX5_row_0 rfl (lv_at hl 1 rfl) ?_
  refine z_cSS (As := [.int (iI pi_)]) (rest := []) C (m_X5_isRow (l := l) (g := g) (v := pi_) (g_v := by omega)) (cwS 1 C.2.2.2.2 gX5_row_X5_isRow rfl rfl rfl (by decide +kernel) ⟨Nat.le_of_ble_eq_true rfl, Nat.le_of_ble_eq_true rfl⟩) hK hP [] rfl rfl hl.1 rfl (Nat.le_of_ble_eq_true rfl) dX5_row_1 ⟨Nat.zero_le _, Nat.zero_le _⟩ ?_
  refine z_ifb_ne (tgt := 10) hx hb dX5_row_4 (by decide) (fun c_1 => ?_) (fun c_1 => ?_)
  · exfalso; omega
  · refine z_ldc C (List.mem_of_getElem? (i := 1) rfl) (-1000000001) (by decide +kernel) dX5_row_7 ?_
    exact z_retS hx hb hlk hr hQ dX5_row_9 (rfl)
