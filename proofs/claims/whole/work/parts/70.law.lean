set_option maxHeartbeats 8000000 in
set_option maxRecDepth 100000 in
theorem op_add {p : Program} {l : Launch} {e : Env} {s : State} {m : MethodId} {below : List Frame} {meth : Method} {c : Code} {Q : State → Prop} {A : Nat → Prop} {g : zG} {ad : Nat → Nat} {b0 L : Nat} {xs : Nat → Int32} {i_ : Int} (X : zX p s m c A g b0 L xs i_) (hgo : zL p l e s m below meth c Q A g ad b0 i_ 805) : zL p l e s m below meth c Q A g ad b0 i_ 132 := by
  obtain ⟨C, hX, hbl, hK, hO, hA, hbA, hi, hi2, hL⟩ := X
  have hx := C.1
  have hb := C.2.1
  intro H locs cells slots bud ls hI hcs hss hl
  obtain ⟨N, P, IQ, KP, TU, PK, VO, RK, NB, RR, RS, RF, RE, WA, FD, OF, ST, FI, EN, CE, OR, ac, nx, fr, un, rk, he, kn, al, IM, IW, zN, hPR, hfr, hIM, hP, hD, hS⟩ := hI
  have hPb := hPR.2.1
  have hPc := hPR.2.2.1
  have hPn := hPR.2.2.2.1
  have hPm := hPR.2.2.2.2.1
  obtain ⟨v1, hv1⟩ : ∃ v, v = sx xs (i_ + 1) := ⟨_, rfl⟩
  have g_v1 := sx_rg xs (i_ + 1)
  rw [← hv1] at g_v1
  obtain ⟨v2, hv2⟩ : ∃ v, v = sx xs (i_ + 2) := ⟨_, rfl⟩
  have g_v2 := sx_rg xs (i_ + 2)
  rw [← hv2] at g_v2
  by_cases hac : (0 ≤ v1 ∧ v1 ≤ 4) ∧ (-100 ≤ v2 ∧ v2 ≤ 100) ∧ N (2 + v1) < 128
  · refine lv_aload_n hx hb dL_law_132 rfl (lv_at hl 1 rfl) ?_
    refine lv_aload_n hx hb dL_law_133 rfl (lv_at hl 0 rfl) ?_
    refine lv_iload_n hx hb dL_law_134 rfl (lv_at hl 3 rfl) ?_
    refine lv_iconst (v := iI 1) hx hb dL_law_135 rfl ?_
    refine z_iadd hx hb dL_law_136 ?_
    refine z_sld hx hb hX hbl hbA hS (by omega) (by omega) hL hv1 dL_law_137 ?_
    refine lv_aload_n hx hb dL_law_138 rfl (lv_at hl 0 rfl) ?_
    refine lv_iload_n hx hb dL_law_139 rfl (lv_at hl 3 rfl) ?_
    refine lv_iconst (v := iI 2) hx hb dL_law_140 rfl ?_
    refine z_iadd hx hb dL_law_141 ?_
    refine z_sld hx hb hX hbl hbA hS (by omega) (by omega) hL hv2 dL_law_142 ?_
    refine z_cE (As := [.int (iI v1), .int (iI v2)]) (rest := []) C (m_X5_add (l := l) (g := g) (o := ad 0) (h := ad 1) (b := ad 4) (im := ad 10) (a := ad 11) (d := ad 15) (bb := ad 19) (fr := fr) (hn := ad 2) (hs := ad 3) (N := N) (bn := ad 5) (br := ad 6) (bs := ad 7) (bf := ad 8) (be := ad 9) (nx := nx) (dp := ac) (NB := NB) (RR := RR) (RS := RS) (RF := RF) (RE := RE) (pi_ := v1) (v := v2) (p1 := by omega) (p2 := by omega) (p3 := by omega) (p4 := by omega) (zN := zN) (a1 := by omega) (a2 := by omega) (a3 := by omega)) (cwV 2 C.2.2.2.2 gL_law_X5_add rfl rfl rfl (by decide +kernel) ⟨Nat.le_of_ble_eq_true rfl, Nat.le_of_ble_eq_true rfl⟩) hK hP hD hS hA [0, 1, 2, 3, 4, 5, 6, 7, 8, 9] (by decide) rfl (fun _ => rfl) 0 rfl rfl rfl hl.1 rfl (Nat.le_of_ble_eq_true rfl) dL_law_143 ⟨by show cells ≤ 600000; omega, by show slots ≤ 7302250; omega⟩ (fun r_3 u_1 H locs hq_2 hP hD hS => ?_)
    have hq_2 : r_3 = N (2 + v1) + 1 := hq_2
    subst hq_2
    have hP : zP g ([((ad 0), .inr (5, [.ref (ad 1), .ref (ad 4), .ref (ad 10), .ref (ad 11), .ref (ad 15), .ref (ad 19), .int (iI 0)])), ((ad 1), .inr (4, [.ref (ad 2), .ref (ad 3), .int (iI ((sp_add N v1 v2) 0)), .int (iI ((sp_add N v1 v2) 1))])), zI g (ad 2) 640 (fun x => (sp_add N v1 v2) (7 + x)), zI g (ad 3) 5 (fun x => (sp_add N v1 v2) (2 + x)), ((ad 4), .inr (2, [.ref (ad 5), .ref (ad 6), .ref (ad 7), .ref (ad 8), .ref (ad 9), .int (iI ((nx + 1) % 8)), .int (iI (min (ac + 1) 8))])), zI g (ad 5) 1024 (rmN NB (fun x => N (7 + x)) nx v1), zI g (ad 6) 8 (ups RR nx v1), zI g (ad 7) 8 (ups RS nx (N (2 + v1))), zI g (ad 8) 8 (ups RF nx (N 0)), zI g (ad 9) 8 (ups RE nx (N 1)), zQ g (ad 10) 2 IM, (ad 11, .inr (3, [.ref (ad 12), .ref (ad 13), .ref (ad 14)])), zI g (ad 12) 8 WA, zI g (ad 13) 80 FD, zI g (ad 14) 8 OF, (ad 15, .inr (1, [.ref (ad 16), .ref (ad 17), .ref (ad 18), .int (iI un)])), zI g (ad 16) 385 ST, zI g (ad 17) 384 FI, zI g (ad 18) 320 EN, (ad 19, .inr (0, [.ref (ad 20), .ref (ad 21), .int (iI rk), .int (iI he), .int (iI kn), .int (iI al)])), zI g (ad 20) 124 CE, zI g (ad 21) 124 OR, (ad 22, .inr (6, [.ref (ad 23), .ref (ad 24), .int (iI ac), .ref (ad 25), .ref (ad 26), .ref (ad 27), .ref (ad 28), .ref (ad 29), .ref (ad 30)])), zI g (ad 23) 647 N, zI g (ad 24) 5176 P, zI g (ad 25) 1294 IQ, zB g (ad 26) 2 KP, zI g (ad 27) 8 TU, zI g (ad 28) 80 PK, zI g (ad 29) 124 VO, zB g (ad 30) 124 RK] ++ IW) H := hP
    have hD : va_D A ([((ad 0), .inr (5, [.ref (ad 1), .ref (ad 4), .ref (ad 10), .ref (ad 11), .ref (ad 15), .ref (ad 19), .int (iI 0)])), ((ad 1), .inr (4, [.ref (ad 2), .ref (ad 3), .int (iI ((sp_add N v1 v2) 0)), .int (iI ((sp_add N v1 v2) 1))])), zI g (ad 2) 640 (fun x => (sp_add N v1 v2) (7 + x)), zI g (ad 3) 5 (fun x => (sp_add N v1 v2) (2 + x)), ((ad 4), .inr (2, [.ref (ad 5), .ref (ad 6), .ref (ad 7), .ref (ad 8), .ref (ad 9), .int (iI ((nx + 1) % 8)), .int (iI (min (ac + 1) 8))])), zI g (ad 5) 1024 (rmN NB (fun x => N (7 + x)) nx v1), zI g (ad 6) 8 (ups RR nx v1), zI g (ad 7) 8 (ups RS nx (N (2 + v1))), zI g (ad 8) 8 (ups RF nx (N 0)), zI g (ad 9) 8 (ups RE nx (N 1)), zQ g (ad 10) 2 IM, (ad 11, .inr (3, [.ref (ad 12), .ref (ad 13), .ref (ad 14)])), zI g (ad 12) 8 WA, zI g (ad 13) 80 FD, zI g (ad 14) 8 OF, (ad 15, .inr (1, [.ref (ad 16), .ref (ad 17), .ref (ad 18), .int (iI un)])), zI g (ad 16) 385 ST, zI g (ad 17) 384 FI, zI g (ad 18) 320 EN, (ad 19, .inr (0, [.ref (ad 20), .ref (ad 21), .int (iI rk), .int (iI he), .int (iI kn), .int (iI al)])), zI g (ad 20) 124 CE, zI g (ad 21) 124 OR, (ad 22, .inr (6, [.ref (ad 23), .ref (ad 24), .int (iI ac), .ref (ad 25), .ref (ad 26), .ref (ad 27), .ref (ad 28), .ref (ad 29), .ref (ad 30)])), zI g (ad 23) 647 N, zI g (ad 24) 5176 P, zI g (ad 25) 1294 IQ, zB g (ad 26) 2 KP, zI g (ad 27) 8 TU, zI g (ad 28) 80 PK, zI g (ad 29) 124 VO, zB g (ad 30) 124 RK] ++ IW) := hD
    refine lv_aload_n hx hb dL_law_146 rfl (lv_at hl 2 rfl) ?_
    refine lv_aload_n hx hb dL_law_147 rfl (lv_at hl 0 rfl) ?_
    refine lv_iload_n hx hb dL_law_148 rfl (lv_at hl 3 rfl) ?_
    refine lv_iconst (v := iI 1) hx hb dL_law_149 rfl ?_
    refine z_iadd hx hb dL_law_150 ?_
    refine z_sld hx hb hX hbl hbA hS (by omega) (by omega) hL hv1 dL_law_151 ?_
    refine lv_aload_n hx hb dL_law_152 rfl (lv_at hl 0 rfl) ?_
    refine lv_iload_n hx hb dL_law_153 rfl (lv_at hl 3 rfl) ?_
    refine lv_iconst (v := iI 2) hx hb dL_law_154 rfl ?_
    refine z_iadd hx hb dL_law_155 ?_
    refine z_sld hx hb hX hbl hbA hS (by omega) (by omega) hL hv2 dL_law_156 ?_
    refine z_cE (As := [.int (iI v1), .int (iI v2)]) (rest := [.int (iI (N (2 + v1) + 1))]) C (m_X6_add (l := l) (g := g) (q := ad 22) (qn := ad 23) (qp := ad 24) (qi := ad 25) (qk := ad 26) (qt := ad 27) (qw := ad 28) (qv := ad 29) (qr := ad 30) (ac := ac) (N := N) (P := P) (pi_ := v1) (v := v2) (ac1 := by omega) (zN := zN) (b1 := by omega) (b2 := by omega) (b3 := by omega)) (cwV 2 C.2.2.2.2 gL_law_X6_add rfl rfl rfl (by decide +kernel) ⟨Nat.le_of_ble_eq_true rfl, Nat.le_of_ble_eq_true rfl⟩) hK hP hD hS hA [22, 23, 24] (by decide) rfl (fun _ => rfl) 22 rfl rfl rfl hl.1 rfl (Nat.le_of_ble_eq_true rfl) dL_law_157 ⟨by show cells ≤ 600000; omega, by show slots ≤ 7302250; omega⟩ (fun r_6 u_4 H locs hq_5 hP hD hS => ?_)
    have hq_5 : r_6 = N (2 + v1) + 1 := hq_5
    subst hq_5
    have hP : zP g ([((ad 0), .inr (5, [.ref (ad 1), .ref (ad 4), .ref (ad 10), .ref (ad 11), .ref (ad 15), .ref (ad 19), .int (iI 0)])), ((ad 1), .inr (4, [.ref (ad 2), .ref (ad 3), .int (iI ((sp_add N v1 v2) 0)), .int (iI ((sp_add N v1 v2) 1))])), zI g (ad 2) 640 (fun x => (sp_add N v1 v2) (7 + x)), zI g (ad 3) 5 (fun x => (sp_add N v1 v2) (2 + x)), ((ad 4), .inr (2, [.ref (ad 5), .ref (ad 6), .ref (ad 7), .ref (ad 8), .ref (ad 9), .int (iI ((nx + 1) % 8)), .int (iI (min (ac + 1) 8))])), zI g (ad 5) 1024 (rmN NB (fun x => N (7 + x)) nx v1), zI g (ad 6) 8 (ups RR nx v1), zI g (ad 7) 8 (ups RS nx (N (2 + v1))), zI g (ad 8) 8 (ups RF nx (N 0)), zI g (ad 9) 8 (ups RE nx (N 1)), zQ g (ad 10) 2 IM, (ad 11, .inr (3, [.ref (ad 12), .ref (ad 13), .ref (ad 14)])), zI g (ad 12) 8 WA, zI g (ad 13) 80 FD, zI g (ad 14) 8 OF, (ad 15, .inr (1, [.ref (ad 16), .ref (ad 17), .ref (ad 18), .int (iI un)])), zI g (ad 16) 385 ST, zI g (ad 17) 384 FI, zI g (ad 18) 320 EN, (ad 19, .inr (0, [.ref (ad 20), .ref (ad 21), .int (iI rk), .int (iI he), .int (iI kn), .int (iI al)])), zI g (ad 20) 124 CE, zI g (ad 21) 124 OR, ((ad 22), .inr (6, [.ref (ad 23), .ref (ad 24), .int (iI (min (ac + 1) 8)), .ref (ad 25), .ref (ad 26), .ref (ad 27), .ref (ad 28), .ref (ad 29), .ref (ad 30)])), zI g (ad 23) 647 (sp_add N v1 v2), zI g (ad 24) 5176 (ntP P N ac), zI g (ad 25) 1294 IQ, zB g (ad 26) 2 KP, zI g (ad 27) 8 TU, zI g (ad 28) 80 PK, zI g (ad 29) 124 VO, zB g (ad 30) 124 RK] ++ IW) H := hP
    have hD : va_D A ([((ad 0), .inr (5, [.ref (ad 1), .ref (ad 4), .ref (ad 10), .ref (ad 11), .ref (ad 15), .ref (ad 19), .int (iI 0)])), ((ad 1), .inr (4, [.ref (ad 2), .ref (ad 3), .int (iI ((sp_add N v1 v2) 0)), .int (iI ((sp_add N v1 v2) 1))])), zI g (ad 2) 640 (fun x => (sp_add N v1 v2) (7 + x)), zI g (ad 3) 5 (fun x => (sp_add N v1 v2) (2 + x)), ((ad 4), .inr (2, [.ref (ad 5), .ref (ad 6), .ref (ad 7), .ref (ad 8), .ref (ad 9), .int (iI ((nx + 1) % 8)), .int (iI (min (ac + 1) 8))])), zI g (ad 5) 1024 (rmN NB (fun x => N (7 + x)) nx v1), zI g (ad 6) 8 (ups RR nx v1), zI g (ad 7) 8 (ups RS nx (N (2 + v1))), zI g (ad 8) 8 (ups RF nx (N 0)), zI g (ad 9) 8 (ups RE nx (N 1)), zQ g (ad 10) 2 IM, (ad 11, .inr (3, [.ref (ad 12), .ref (ad 13), .ref (ad 14)])), zI g (ad 12) 8 WA, zI g (ad 13) 80 FD, zI g (ad 14) 8 OF, (ad 15, .inr (1, [.ref (ad 16), .ref (ad 17), .ref (ad 18), .int (iI un)])), zI g (ad 16) 385 ST, zI g (ad 17) 384 FI, zI g (ad 18) 320 EN, (ad 19, .inr (0, [.ref (ad 20), .ref (ad 21), .int (iI rk), .int (iI he), .int (iI kn), .int (iI al)])), zI g (ad 20) 124 CE, zI g (ad 21) 124 OR, ((ad 22), .inr (6, [.ref (ad 23), .ref (ad 24), .int (iI (min (ac + 1) 8)), .ref (ad 25), .ref (ad 26), .ref (ad 27), .ref (ad 28), .ref (ad 29), .ref (ad 30)])), zI g (ad 23) 647 (sp_add N v1 v2), zI g (ad 24) 5176 (ntP P N ac), zI g (ad 25) 1294 IQ, zB g (ad 26) 2 KP, zI g (ad 27) 8 TU, zI g (ad 28) 80 PK, zI g (ad 29) 124 VO, zB g (ad 30) 124 RK] ++ IW) := hD
    refine z_eqS (tgt := 805) hx hb dL_law_160 (by decide) (rfl) ?_
    exact hgo H locs _ _ bud ls ⟨(sp_add N v1 v2), (ntP P N ac), IQ, KP, TU, PK, VO, RK, (rmN NB (fun x => N (7 + x)) nx v1), (ups RR nx v1), (ups RS nx (N (2 + v1))), (ups RF nx (N 0)), (ups RE nx (N 1)), WA, FD, OF, ST, FI, EN, CE, OR, (min (ac + 1) 8), ((nx + 1) % 8), 0, un, rk, he, kn, al, IM, IW, okN_add zN (by omega) (by omega) hac.2.1 hac.2.2, PR_push hPR zN (by omega) (by omega) (chg_add zN (by omega) (by omega) hac.2.2), Or.inl rfl, hIM, hP, hD, hS⟩ (by omega) (by omega) (lv_sub hl [0, 1, 2, 3] rfl)
  · refine lv_aload_n hx hb dL_law_132 rfl (lv_at hl 1 rfl) ?_
    refine lv_aload_n hx hb dL_law_133 rfl (lv_at hl 0 rfl) ?_
    refine lv_iload_n hx hb dL_law_134 rfl (lv_at hl 3 rfl) ?_
    refine lv_iconst (v := iI 1) hx hb dL_law_135 rfl ?_
    refine z_iadd hx hb dL_law_136 ?_
    refine z_sld hx hb hX hbl hbA hS (by omega) (by omega) hL hv1 dL_law_137 ?_
    refine lv_aload_n hx hb dL_law_138 rfl (lv_at hl 0 rfl) ?_
    refine lv_iload_n hx hb dL_law_139 rfl (lv_at hl 3 rfl) ?_
    refine lv_iconst (v := iI 2) hx hb dL_law_140 rfl ?_
    refine z_iadd hx hb dL_law_141 ?_
    refine z_sld hx hb hX hbl hbA hS (by omega) (by omega) hL hv2 dL_law_142 ?_
    refine z_cS (As := [.int (iI v1), .int (iI v2)]) (rest := []) C (m_X5_add_n (l := l) (g := g) (o := ad 0) (h := ad 1) (b := ad 4) (im := ad 10) (a := ad 11) (d := ad 15) (bb := ad 19) (fr := fr) (hn := ad 2) (hs := ad 3) (N := N) (pi_ := v1) (v := v2) (zN := zN) (g_pi_ := by omega) (g_v := by omega) (rf := hac)) (cwV 2 C.2.2.2.2 gL_law_X5_add rfl rfl rfl (by decide +kernel) ⟨Nat.le_of_ble_eq_true rfl, Nat.le_of_ble_eq_true rfl⟩) hK hP [0, 1, 2, 3] rfl 0 rfl rfl rfl hl.1 rfl (Nat.le_of_ble_eq_true rfl) dL_law_143 ⟨by show cells ≤ 600000; omega, by show slots ≤ 7302250; omega⟩ ?_
    refine lv_aload_n hx hb dL_law_146 rfl (lv_at hl 2 rfl) ?_
    refine lv_aload_n hx hb dL_law_147 rfl (lv_at hl 0 rfl) ?_
    refine lv_iload_n hx hb dL_law_148 rfl (lv_at hl 3 rfl) ?_
    refine lv_iconst (v := iI 1) hx hb dL_law_149 rfl ?_
    refine z_iadd hx hb dL_law_150 ?_
    refine z_sld hx hb hX hbl hbA hS (by omega) (by omega) hL hv1 dL_law_151 ?_
    refine lv_aload_n hx hb dL_law_152 rfl (lv_at hl 0 rfl) ?_
    refine lv_iload_n hx hb dL_law_153 rfl (lv_at hl 3 rfl) ?_
    refine lv_iconst (v := iI 2) hx hb dL_law_154 rfl ?_
    refine z_iadd hx hb dL_law_155 ?_
    refine z_sld hx hb hX hbl hbA hS (by omega) (by omega) hL hv2 dL_law_156 ?_
    refine z_cS (As := [.int (iI v1), .int (iI v2)]) (rest := [.int (iI (if ¬ (0 ≤ v1 ∧ v1 ≤ 4) then -1000000001 else if ¬ (-100 ≤ v2 ∧ v2 ≤ 100) then -1000000002 else -1000000004))]) C (m_X6_add_n (l := l) (g := g) (q := ad 22) (qn := ad 23) (qp := ad 24) (qi := ad 25) (qk := ad 26) (qt := ad 27) (qw := ad 28) (qv := ad 29) (qr := ad 30) (ac := ac) (N := N) (pi_ := v1) (v := v2) (zN := zN) (g_pi_ := by omega) (g_v := by omega) (rf := hac)) (cwV 2 C.2.2.2.2 gL_law_X6_add rfl rfl rfl (by decide +kernel) ⟨Nat.le_of_ble_eq_true rfl, Nat.le_of_ble_eq_true rfl⟩) hK hP [22, 23] rfl 22 rfl rfl rfl hl.1 rfl (Nat.le_of_ble_eq_true rfl) dL_law_157 ⟨by show cells ≤ 600000; omega, by show slots ≤ 7302250; omega⟩ ?_
    refine z_eqS (tgt := 805) hx hb dL_law_160 (by decide) (rfl) ?_
    exact hgo H locs _ _ bud ls ⟨N, P, IQ, KP, TU, PK, VO, RK, NB, RR, RS, RF, RE, WA, FD, OF, ST, FI, EN, CE, OR, ac, nx, fr, un, rk, he, kn, al, IM, IW, zN, hPR, hfr, hIM, hP, hD, hS⟩ (by omega) (by omega) (lv_sub hl [0, 1, 2, 3] rfl)
set_option maxHeartbeats 8000000 in
set_option maxRecDepth 100000 in
theorem op_wipe {p : Program} {l : Launch} {e : Env} {s : State} {m : MethodId} {below : List Frame} {meth : Method} {c : Code} {Q : State → Prop} {A : Nat → Prop} {g : zG} {ad : Nat → Nat} {b0 L : Nat} {xs : Nat → Int32} {i_ : Int} (X : zX p s m c A g b0 L xs i_) (hgo : zL p l e s m below meth c Q A g ad b0 i_ 805) : zL p l e s m below meth c Q A g ad b0 i_ 165 := by
  obtain ⟨C, hX, hbl, hK, hO, hA, hbA, hi, hi2, hL⟩ := X
  have hx := C.1
  have hb := C.2.1
  intro H locs cells slots bud ls hI hcs hss hl
  obtain ⟨N, P, IQ, KP, TU, PK, VO, RK, NB, RR, RS, RF, RE, WA, FD, OF, ST, FI, EN, CE, OR, ac, nx, fr, un, rk, he, kn, al, IM, IW, zN, hPR, hfr, hIM, hP, hD, hS⟩ := hI
  have hPb := hPR.2.1
  have hPc := hPR.2.2.1
  have hPn := hPR.2.2.2.1
  have hPm := hPR.2.2.2.2.1
  obtain ⟨v1, hv1⟩ : ∃ v, v = sx xs (i_ + 1) := ⟨_, rfl⟩
  have g_v1 := sx_rg xs (i_ + 1)
  rw [← hv1] at g_v1
  by_cases hac : 0 ≤ v1 ∧ v1 ≤ 4
  · refine lv_aload_n hx hb dL_law_165 rfl (lv_at hl 1 rfl) ?_
    refine lv_aload_n hx hb dL_law_166 rfl (lv_at hl 0 rfl) ?_
    refine lv_iload_n hx hb dL_law_167 rfl (lv_at hl 3 rfl) ?_
    refine lv_iconst (v := iI 1) hx hb dL_law_168 rfl ?_
    refine z_iadd hx hb dL_law_169 ?_
    refine z_sld hx hb hX hbl hbA hS (by omega) (by omega) hL hv1 dL_law_170 ?_
    refine z_cE (As := [.int (iI v1)]) (rest := []) C (m_X5_wipe (l := l) (g := g) (o := ad 0) (h := ad 1) (b := ad 4) (im := ad 10) (a := ad 11) (d := ad 15) (bb := ad 19) (fr := fr) (hn := ad 2) (hs := ad 3) (N := N) (bn := ad 5) (br := ad 6) (bs := ad 7) (bf := ad 8) (be := ad 9) (nx := nx) (dp := ac) (NB := NB) (RR := RR) (RS := RS) (RF := RF) (RE := RE) (pi_ := v1) (p1 := by omega) (p2 := by omega) (p3 := by omega) (p4 := by omega) (zN := zN) (a1 := by omega)) (cwV 1 C.2.2.2.2 gL_law_X5_wipe rfl rfl rfl (by decide +kernel) ⟨Nat.le_of_ble_eq_true rfl, Nat.le_of_ble_eq_true rfl⟩) hK hP hD hS hA [0, 1, 2, 3, 4, 5, 6, 7, 8, 9] (by decide) rfl (fun _ => rfl) 0 rfl rfl rfl hl.1 rfl (Nat.le_of_ble_eq_true rfl) dL_law_171 ⟨by show cells ≤ 600000; omega, by show slots ≤ 7302250; omega⟩ (fun r_3 u_1 H locs hq_2 hP hD hS => ?_)
    have hq_2 : r_3 = N (2 + v1) := hq_2
    subst hq_2
    have hP : zP g ([((ad 0), .inr (5, [.ref (ad 1), .ref (ad 4), .ref (ad 10), .ref (ad 11), .ref (ad 15), .ref (ad 19), .int (iI 0)])), ((ad 1), .inr (4, [.ref (ad 2), .ref (ad 3), .int (iI ((sp_wipe N v1) 0)), .int (iI ((sp_wipe N v1) 1))])), zI g (ad 2) 640 (fun x => (sp_wipe N v1) (7 + x)), zI g (ad 3) 5 (fun x => (sp_wipe N v1) (2 + x)), ((ad 4), .inr (2, [.ref (ad 5), .ref (ad 6), .ref (ad 7), .ref (ad 8), .ref (ad 9), .int (iI ((nx + 1) % 8)), .int (iI (min (ac + 1) 8))])), zI g (ad 5) 1024 (rmN NB (fun x => N (7 + x)) nx v1), zI g (ad 6) 8 (ups RR nx v1), zI g (ad 7) 8 (ups RS nx (N (2 + v1))), zI g (ad 8) 8 (ups RF nx (N 0)), zI g (ad 9) 8 (ups RE nx (N 1)), zQ g (ad 10) 2 IM, (ad 11, .inr (3, [.ref (ad 12), .ref (ad 13), .ref (ad 14)])), zI g (ad 12) 8 WA, zI g (ad 13) 80 FD, zI g (ad 14) 8 OF, (ad 15, .inr (1, [.ref (ad 16), .ref (ad 17), .ref (ad 18), .int (iI un)])), zI g (ad 16) 385 ST, zI g (ad 17) 384 FI, zI g (ad 18) 320 EN, (ad 19, .inr (0, [.ref (ad 20), .ref (ad 21), .int (iI rk), .int (iI he), .int (iI kn), .int (iI al)])), zI g (ad 20) 124 CE, zI g (ad 21) 124 OR, (ad 22, .inr (6, [.ref (ad 23), .ref (ad 24), .int (iI ac), .ref (ad 25), .ref (ad 26), .ref (ad 27), .ref (ad 28), .ref (ad 29), .ref (ad 30)])), zI g (ad 23) 647 N, zI g (ad 24) 5176 P, zI g (ad 25) 1294 IQ, zB g (ad 26) 2 KP, zI g (ad 27) 8 TU, zI g (ad 28) 80 PK, zI g (ad 29) 124 VO, zB g (ad 30) 124 RK] ++ IW) H := hP
    have hD : va_D A ([((ad 0), .inr (5, [.ref (ad 1), .ref (ad 4), .ref (ad 10), .ref (ad 11), .ref (ad 15), .ref (ad 19), .int (iI 0)])), ((ad 1), .inr (4, [.ref (ad 2), .ref (ad 3), .int (iI ((sp_wipe N v1) 0)), .int (iI ((sp_wipe N v1) 1))])), zI g (ad 2) 640 (fun x => (sp_wipe N v1) (7 + x)), zI g (ad 3) 5 (fun x => (sp_wipe N v1) (2 + x)), ((ad 4), .inr (2, [.ref (ad 5), .ref (ad 6), .ref (ad 7), .ref (ad 8), .ref (ad 9), .int (iI ((nx + 1) % 8)), .int (iI (min (ac + 1) 8))])), zI g (ad 5) 1024 (rmN NB (fun x => N (7 + x)) nx v1), zI g (ad 6) 8 (ups RR nx v1), zI g (ad 7) 8 (ups RS nx (N (2 + v1))), zI g (ad 8) 8 (ups RF nx (N 0)), zI g (ad 9) 8 (ups RE nx (N 1)), zQ g (ad 10) 2 IM, (ad 11, .inr (3, [.ref (ad 12), .ref (ad 13), .ref (ad 14)])), zI g (ad 12) 8 WA, zI g (ad 13) 80 FD, zI g (ad 14) 8 OF, (ad 15, .inr (1, [.ref (ad 16), .ref (ad 17), .ref (ad 18), .int (iI un)])), zI g (ad 16) 385 ST, zI g (ad 17) 384 FI, zI g (ad 18) 320 EN, (ad 19, .inr (0, [.ref (ad 20), .ref (ad 21), .int (iI rk), .int (iI he), .int (iI kn), .int (iI al)])), zI g (ad 20) 124 CE, zI g (ad 21) 124 OR, (ad 22, .inr (6, [.ref (ad 23), .ref (ad 24), .int (iI ac), .ref (ad 25), .ref (ad 26), .ref (ad 27), .ref (ad 28), .ref (ad 29), .ref (ad 30)])), zI g (ad 23) 647 N, zI g (ad 24) 5176 P, zI g (ad 25) 1294 IQ, zB g (ad 26) 2 KP, zI g (ad 27) 8 TU, zI g (ad 28) 80 PK, zI g (ad 29) 124 VO, zB g (ad 30) 124 RK] ++ IW) := hD
    refine lv_aload_n hx hb dL_law_174 rfl (lv_at hl 2 rfl) ?_
    refine lv_aload_n hx hb dL_law_175 rfl (lv_at hl 0 rfl) ?_
    refine lv_iload_n hx hb dL_law_176 rfl (lv_at hl 3 rfl) ?_
    refine lv_iconst (v := iI 1) hx hb dL_law_177 rfl ?_
    refine z_iadd hx hb dL_law_178 ?_
    refine z_sld hx hb hX hbl hbA hS (by omega) (by omega) hL hv1 dL_law_179 ?_
    refine z_cE (As := [.int (iI v1)]) (rest := [.int (iI (N (2 + v1)))]) C (m_X6_wipe (l := l) (g := g) (q := ad 22) (qn := ad 23) (qp := ad 24) (qi := ad 25) (qk := ad 26) (qt := ad 27) (qw := ad 28) (qv := ad 29) (qr := ad 30) (ac := ac) (N := N) (P := P) (pi_ := v1) (ac1 := by omega) (zN := zN) (b1 := by omega)) (cwV 1 C.2.2.2.2 gL_law_X6_wipe rfl rfl rfl (by decide +kernel) ⟨Nat.le_of_ble_eq_true rfl, Nat.le_of_ble_eq_true rfl⟩) hK hP hD hS hA [22, 23, 24] (by decide) rfl (fun _ => rfl) 22 rfl rfl rfl hl.1 rfl (Nat.le_of_ble_eq_true rfl) dL_law_180 ⟨by show cells ≤ 600000; omega, by show slots ≤ 7302250; omega⟩ (fun r_6 u_4 H locs hq_5 hP hD hS => ?_)
    have hq_5 : r_6 = N (2 + v1) := hq_5
    subst hq_5
    have hP : zP g ([((ad 0), .inr (5, [.ref (ad 1), .ref (ad 4), .ref (ad 10), .ref (ad 11), .ref (ad 15), .ref (ad 19), .int (iI 0)])), ((ad 1), .inr (4, [.ref (ad 2), .ref (ad 3), .int (iI ((sp_wipe N v1) 0)), .int (iI ((sp_wipe N v1) 1))])), zI g (ad 2) 640 (fun x => (sp_wipe N v1) (7 + x)), zI g (ad 3) 5 (fun x => (sp_wipe N v1) (2 + x)), ((ad 4), .inr (2, [.ref (ad 5), .ref (ad 6), .ref (ad 7), .ref (ad 8), .ref (ad 9), .int (iI ((nx + 1) % 8)), .int (iI (min (ac + 1) 8))])), zI g (ad 5) 1024 (rmN NB (fun x => N (7 + x)) nx v1), zI g (ad 6) 8 (ups RR nx v1), zI g (ad 7) 8 (ups RS nx (N (2 + v1))), zI g (ad 8) 8 (ups RF nx (N 0)), zI g (ad 9) 8 (ups RE nx (N 1)), zQ g (ad 10) 2 IM, (ad 11, .inr (3, [.ref (ad 12), .ref (ad 13), .ref (ad 14)])), zI g (ad 12) 8 WA, zI g (ad 13) 80 FD, zI g (ad 14) 8 OF, (ad 15, .inr (1, [.ref (ad 16), .ref (ad 17), .ref (ad 18), .int (iI un)])), zI g (ad 16) 385 ST, zI g (ad 17) 384 FI, zI g (ad 18) 320 EN, (ad 19, .inr (0, [.ref (ad 20), .ref (ad 21), .int (iI rk), .int (iI he), .int (iI kn), .int (iI al)])), zI g (ad 20) 124 CE, zI g (ad 21) 124 OR, ((ad 22), .inr (6, [.ref (ad 23), .ref (ad 24), .int (iI (min (ac + 1) 8)), .ref (ad 25), .ref (ad 26), .ref (ad 27), .ref (ad 28), .ref (ad 29), .ref (ad 30)])), zI g (ad 23) 647 (sp_wipe N v1), zI g (ad 24) 5176 (ntP P N ac), zI g (ad 25) 1294 IQ, zB g (ad 26) 2 KP, zI g (ad 27) 8 TU, zI g (ad 28) 80 PK, zI g (ad 29) 124 VO, zB g (ad 30) 124 RK] ++ IW) H := hP
    have hD : va_D A ([((ad 0), .inr (5, [.ref (ad 1), .ref (ad 4), .ref (ad 10), .ref (ad 11), .ref (ad 15), .ref (ad 19), .int (iI 0)])), ((ad 1), .inr (4, [.ref (ad 2), .ref (ad 3), .int (iI ((sp_wipe N v1) 0)), .int (iI ((sp_wipe N v1) 1))])), zI g (ad 2) 640 (fun x => (sp_wipe N v1) (7 + x)), zI g (ad 3) 5 (fun x => (sp_wipe N v1) (2 + x)), ((ad 4), .inr (2, [.ref (ad 5), .ref (ad 6), .ref (ad 7), .ref (ad 8), .ref (ad 9), .int (iI ((nx + 1) % 8)), .int (iI (min (ac + 1) 8))])), zI g (ad 5) 1024 (rmN NB (fun x => N (7 + x)) nx v1), zI g (ad 6) 8 (ups RR nx v1), zI g (ad 7) 8 (ups RS nx (N (2 + v1))), zI g (ad 8) 8 (ups RF nx (N 0)), zI g (ad 9) 8 (ups RE nx (N 1)), zQ g (ad 10) 2 IM, (ad 11, .inr (3, [.ref (ad 12), .ref (ad 13), .ref (ad 14)])), zI g (ad 12) 8 WA, zI g (ad 13) 80 FD, zI g (ad 14) 8 OF, (ad 15, .inr (1, [.ref (ad 16), .ref (ad 17), .ref (ad 18), .int (iI un)])), zI g (ad 16) 385 ST, zI g (ad 17) 384 FI, zI g (ad 18) 320 EN, (ad 19, .inr (0, [.ref (ad 20), .ref (ad 21), .int (iI rk), .int (iI he), .int (iI kn), .int (iI al)])), zI g (ad 20) 124 CE, zI g (ad 21) 124 OR, ((ad 22), .inr (6, [.ref (ad 23), .ref (ad 24), .int (iI (min (ac + 1) 8)), .ref (ad 25), .ref (ad 26), .ref (ad 27), .ref (ad 28), .ref (ad 29), .ref (ad 30)])), zI g (ad 23) 647 (sp_wipe N v1), zI g (ad 24) 5176 (ntP P N ac), zI g (ad 25) 1294 IQ, zB g (ad 26) 2 KP, zI g (ad 27) 8 TU, zI g (ad 28) 80 PK, zI g (ad 29) 124 VO, zB g (ad 30) 124 RK] ++ IW) := hD
    refine z_eqS (tgt := 805) hx hb dL_law_183 (by decide) (rfl) ?_
    exact hgo H locs _ _ bud ls ⟨(sp_wipe N v1), (ntP P N ac), IQ, KP, TU, PK, VO, RK, (rmN NB (fun x => N (7 + x)) nx v1), (ups RR nx v1), (ups RS nx (N (2 + v1))), (ups RF nx (N 0)), (ups RE nx (N 1)), WA, FD, OF, ST, FI, EN, CE, OR, (min (ac + 1) 8), ((nx + 1) % 8), 0, un, rk, he, kn, al, IM, IW, okN_wipe zN (by omega) (by omega), PR_push hPR zN (by omega) (by omega) (chg_wipe), Or.inl rfl, hIM, hP, hD, hS⟩ (by omega) (by omega) (lv_sub hl [0, 1, 2, 3] rfl)
  · refine lv_aload_n hx hb dL_law_165 rfl (lv_at hl 1 rfl) ?_
    refine lv_aload_n hx hb dL_law_166 rfl (lv_at hl 0 rfl) ?_
    refine lv_iload_n hx hb dL_law_167 rfl (lv_at hl 3 rfl) ?_
    refine lv_iconst (v := iI 1) hx hb dL_law_168 rfl ?_
    refine z_iadd hx hb dL_law_169 ?_
    refine z_sld hx hb hX hbl hbA hS (by omega) (by omega) hL hv1 dL_law_170 ?_
    refine z_cS (As := [.int (iI v1)]) (rest := []) C (m_X5_wipe_n (l := l) (g := g) (o := ad 0) (h := ad 1) (b := ad 4) (im := ad 10) (a := ad 11) (d := ad 15) (bb := ad 19) (fr := fr) (hn := ad 2) (hs := ad 3) (N := N) (pi_ := v1) (zN := zN) (g_pi_ := by omega) (rf := hac)) (cwV 1 C.2.2.2.2 gL_law_X5_wipe rfl rfl rfl (by decide +kernel) ⟨Nat.le_of_ble_eq_true rfl, Nat.le_of_ble_eq_true rfl⟩) hK hP [0, 1, 2, 3] rfl 0 rfl rfl rfl hl.1 rfl (Nat.le_of_ble_eq_true rfl) dL_law_171 ⟨by show cells ≤ 600000; omega, by show slots ≤ 7302250; omega⟩ ?_
    refine lv_aload_n hx hb dL_law_174 rfl (lv_at hl 2 rfl) ?_
    refine lv_aload_n hx hb dL_law_175 rfl (lv_at hl 0 rfl) ?_
    refine lv_iload_n hx hb dL_law_176 rfl (lv_at hl 3 rfl) ?_
    refine lv_iconst (v := iI 1) hx hb dL_law_177 rfl ?_
    refine z_iadd hx hb dL_law_178 ?_
    refine z_sld hx hb hX hbl hbA hS (by omega) (by omega) hL hv1 dL_law_179 ?_
    refine z_cS (As := [.int (iI v1)]) (rest := [.int (iI (-1000000001))]) C (m_X6_wipe_n (l := l) (g := g) (q := ad 22) (qn := ad 23) (qp := ad 24) (qi := ad 25) (qk := ad 26) (qt := ad 27) (qw := ad 28) (qv := ad 29) (qr := ad 30) (ac := ac) (N := N) (pi_ := v1) (zN := zN) (g_pi_ := by omega) (rf := hac)) (cwV 1 C.2.2.2.2 gL_law_X6_wipe rfl rfl rfl (by decide +kernel) ⟨Nat.le_of_ble_eq_true rfl, Nat.le_of_ble_eq_true rfl⟩) hK hP [22, 23] rfl 22 rfl rfl rfl hl.1 rfl (Nat.le_of_ble_eq_true rfl) dL_law_180 ⟨by show cells ≤ 600000; omega, by show slots ≤ 7302250; omega⟩ ?_
    refine z_eqS (tgt := 805) hx hb dL_law_183 (by decide) (rfl) ?_
    exact hgo H locs _ _ bud ls ⟨N, P, IQ, KP, TU, PK, VO, RK, NB, RR, RS, RF, RE, WA, FD, OF, ST, FI, EN, CE, OR, ac, nx, fr, un, rk, he, kn, al, IM, IW, zN, hPR, hfr, hIM, hP, hD, hS⟩ (by omega) (by omega) (lv_sub hl [0, 1, 2, 3] rfl)
