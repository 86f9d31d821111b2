set_option maxHeartbeats 8000000 in
set_option maxRecDepth 100000 in
theorem op_lots {p : Program} {l : Launch} {e : Env} {s : State} {m : MethodId} {below : List Frame} {meth : Method} {c : Code} {Q : State → Prop} {A : Nat → Prop} {g : zG} {ad : Nat → Nat} {b0 L : Nat} {xs : Nat → Int32} {i_ : Int} (X : zX p s m c A g b0 L xs i_) (hgo : zL p l e s m below meth c Q A g ad b0 i_ 805) : zL p l e s m below meth c Q A g ad b0 i_ 188 := by
  obtain ⟨C, hX, hbl, hK, hO, hA, hbA, hi, hi2, hL⟩ := X
  have hx := C.1
  have hb := C.2.1
  intro H locs cells slots bud ls hI hcs hss hl
  obtain ⟨N, P, IQ, KP, TU, PK, VO, RK, NB, RR, RS, RF, RE, WA, FD, OF, ST, FI, EN, CE, OR, ac, nx, fr, un, rk, he, kn, al, IM, IW, zN, hPR, hfr, hIM, hP, hD, hS⟩ := hI
  have hPb := hPR.2.1
  have hPc := hPR.2.2.1
  have hPn := hPR.2.2.2.1
  have hPm := hPR.2.2.2.2.1
  obtain ⟨v1, hv1⟩ : ∃ v, v = sx xs (i_ + 1) := ⟨_, rfl⟩
  have g_v1 := sx_rg xs (i_ + 1)
  rw [← hv1] at g_v1
  obtain ⟨v2, hv2⟩ : ∃ v, v = sx xs (i_ + 2) := ⟨_, rfl⟩
  have g_v2 := sx_rg xs (i_ + 2)
  rw [← hv2] at g_v2
  obtain ⟨v3, hv3⟩ : ∃ v, v = sx xs (i_ + 3) := ⟨_, rfl⟩
  have g_v3 := sx_rg xs (i_ + 3)
  rw [← hv3] at g_v3
  by_cases hac : (0 ≤ v1 ∧ v1 ≤ 4) ∧ (1 ≤ v2 ∧ v2 ≤ 128) ∧ (1 ≤ v3 ∧ v3 ≤ 999999)
  · refine lv_aload_n hx hb dL_law_188 rfl (lv_at hl 1 rfl) ?_
    refine lv_aload_n hx hb dL_law_189 rfl (lv_at hl 0 rfl) ?_
    refine lv_iload_n hx hb dL_law_190 rfl (lv_at hl 3 rfl) ?_
    refine lv_iconst (v := iI 1) hx hb dL_law_191 rfl ?_
    refine z_iadd hx hb dL_law_192 ?_
    refine z_sld hx hb hX hbl hbA hS (by omega) (by omega) hL hv1 dL_law_193 ?_
    refine lv_aload_n hx hb dL_law_194 rfl (lv_at hl 0 rfl) ?_
    refine lv_iload_n hx hb dL_law_195 rfl (lv_at hl 3 rfl) ?_
    refine lv_iconst (v := iI 2) hx hb dL_law_196 rfl ?_
    refine z_iadd hx hb dL_law_197 ?_
    refine z_sld hx hb hX hbl hbA hS (by omega) (by omega) hL hv2 dL_law_198 ?_
    refine lv_aload_n hx hb dL_law_199 rfl (lv_at hl 0 rfl) ?_
    refine lv_iload_n hx hb dL_law_200 rfl (lv_at hl 3 rfl) ?_
    refine lv_iconst (v := iI 3) hx hb dL_law_201 rfl ?_
    refine z_iadd hx hb dL_law_202 ?_
    refine z_sld hx hb hX hbl hbA hS (by omega) (by omega) hL hv3 dL_law_203 ?_
    refine z_cE (As := [.int (iI v1), .int (iI v2), .int (iI v3)]) (rest := []) C (m_X5_lots (l := l) (g := g) (o := ad 0) (h := ad 1) (b := ad 4) (im := ad 10) (a := ad 11) (d := ad 15) (bb := ad 19) (fr := fr) (hn := ad 2) (hs := ad 3) (N := N) (bn := ad 5) (br := ad 6) (bs := ad 7) (bf := ad 8) (be := ad 9) (nx := nx) (dp := ac) (NB := NB) (RR := RR) (RS := RS) (RF := RF) (RE := RE) (pi_ := v1) (n_ := v2) (sd := v3) (p1 := by omega) (p2 := by omega) (p3 := by omega) (p4 := by omega) (zN := zN) (a1 := by omega)) (cwV 3 C.2.2.2.2 gL_law_X5_lots rfl rfl rfl (by decide +kernel) ⟨Nat.le_of_ble_eq_true rfl, Nat.le_of_ble_eq_true rfl⟩) hK hP hD hS hA [0, 1, 2, 3, 4, 5, 6, 7, 8, 9] (by decide) rfl (fun _ => rfl) 0 rfl rfl rfl hl.1 rfl (Nat.le_of_ble_eq_true rfl) dL_law_204 ⟨by show cells ≤ 600000; omega, by show slots ≤ 7302250; omega⟩ (fun r_3 u_1 H locs hq_2 hP hD hS => ?_)
    have hq_2 : r_3 = v2 / 8 := hq_2
    subst hq_2
    have hP : zP g ([((ad 0), .inr (5, [.ref (ad 1), .ref (ad 4), .ref (ad 10), .ref (ad 11), .ref (ad 15), .ref (ad 19), .int (iI 0)])), ((ad 1), .inr (4, [.ref (ad 2), .ref (ad 3), .int (iI ((sp_lots N v1 v2 v3) 0)), .int (iI ((sp_lots N v1 v2 v3) 1))])), zI g (ad 2) 640 (fun x => (sp_lots N v1 v2 v3) (7 + x)), zI g (ad 3) 5 (fun x => (sp_lots N v1 v2 v3) (2 + x)), ((ad 4), .inr (2, [.ref (ad 5), .ref (ad 6), .ref (ad 7), .ref (ad 8), .ref (ad 9), .int (iI ((nx + 1) % 8)), .int (iI (min (ac + 1) 8))])), zI g (ad 5) 1024 (rmN NB (fun x => N (7 + x)) nx v1), zI g (ad 6) 8 (ups RR nx v1), zI g (ad 7) 8 (ups RS nx (N (2 + v1))), zI g (ad 8) 8 (ups RF nx (N 0)), zI g (ad 9) 8 (ups RE nx (N 1)), zQ g (ad 10) 2 IM, (ad 11, .inr (3, [.ref (ad 12), .ref (ad 13), .ref (ad 14)])), zI g (ad 12) 8 WA, zI g (ad 13) 80 FD, zI g (ad 14) 8 OF, (ad 15, .inr (1, [.ref (ad 16), .ref (ad 17), .ref (ad 18), .int (iI un)])), zI g (ad 16) 385 ST, zI g (ad 17) 384 FI, zI g (ad 18) 320 EN, (ad 19, .inr (0, [.ref (ad 20), .ref (ad 21), .int (iI rk), .int (iI he), .int (iI kn), .int (iI al)])), zI g (ad 20) 124 CE, zI g (ad 21) 124 OR, (ad 22, .inr (6, [.ref (ad 23), .ref (ad 24), .int (iI ac), .ref (ad 25), .ref (ad 26), .ref (ad 27), .ref (ad 28), .ref (ad 29), .ref (ad 30)])), zI g (ad 23) 647 N, zI g (ad 24) 5176 P, zI g (ad 25) 1294 IQ, zB g (ad 26) 2 KP, zI g (ad 27) 8 TU, zI g (ad 28) 80 PK, zI g (ad 29) 124 VO, zB g (ad 30) 124 RK] ++ IW) H := hP
    have hD : va_D A ([((ad 0), .inr (5, [.ref (ad 1), .ref (ad 4), .ref (ad 10), .ref (ad 11), .ref (ad 15), .ref (ad 19), .int (iI 0)])), ((ad 1), .inr (4, [.ref (ad 2), .ref (ad 3), .int (iI ((sp_lots N v1 v2 v3) 0)), .int (iI ((sp_lots N v1 v2 v3) 1))])), zI g (ad 2) 640 (fun x => (sp_lots N v1 v2 v3) (7 + x)), zI g (ad 3) 5 (fun x => (sp_lots N v1 v2 v3) (2 + x)), ((ad 4), .inr (2, [.ref (ad 5), .ref (ad 6), .ref (ad 7), .ref (ad 8), .ref (ad 9), .int (iI ((nx + 1) % 8)), .int (iI (min (ac + 1) 8))])), zI g (ad 5) 1024 (rmN NB (fun x => N (7 + x)) nx v1), zI g (ad 6) 8 (ups RR nx v1), zI g (ad 7) 8 (ups RS nx (N (2 + v1))), zI g (ad 8) 8 (ups RF nx (N 0)), zI g (ad 9) 8 (ups RE nx (N 1)), zQ g (ad 10) 2 IM, (ad 11, .inr (3, [.ref (ad 12), .ref (ad 13), .ref (ad 14)])), zI g (ad 12) 8 WA, zI g (ad 13) 80 FD, zI g (ad 14) 8 OF, (ad 15, .inr (1, [.ref (ad 16), .ref (ad 17), .ref (ad 18), .int (iI un)])), zI g (ad 16) 385 ST, zI g (ad 17) 384 FI, zI g (ad 18) 320 EN, (ad 19, .inr (0, [.ref (ad 20), .ref (ad 21), .int (iI rk), .int (iI he), .int (iI kn), .int (iI al)])), zI g (ad 20) 124 CE, zI g (ad 21) 124 OR, (ad 22, .inr (6, [.ref (ad 23), .ref (ad 24), .int (iI ac), .ref (ad 25), .ref (ad 26), .ref (ad 27), .ref (ad 28), .ref (ad 29), .ref (ad 30)])), zI g (ad 23) 647 N, zI g (ad 24) 5176 P, zI g (ad 25) 1294 IQ, zB g (ad 26) 2 KP, zI g (ad 27) 8 TU, zI g (ad 28) 80 PK, zI g (ad 29) 124 VO, zB g (ad 30) 124 RK] ++ IW) := hD
    refine lv_aload_n hx hb dL_law_207 rfl (lv_at hl 2 rfl) ?_
    refine lv_aload_n hx hb dL_law_208 rfl (lv_at hl 0 rfl) ?_
    refine lv_iload_n hx hb dL_law_209 rfl (lv_at hl 3 rfl) ?_
    refine lv_iconst (v := iI 1) hx hb dL_law_210 rfl ?_
    refine z_iadd hx hb dL_law_211 ?_
    refine z_sld hx hb hX hbl hbA hS (by omega) (by omega) hL hv1 dL_law_212 ?_
    refine lv_aload_n hx hb dL_law_213 rfl (lv_at hl 0 rfl) ?_
    refine lv_iload_n hx hb dL_law_214 rfl (lv_at hl 3 rfl) ?_
    refine lv_iconst (v := iI 2) hx hb dL_law_215 rfl ?_
    refine z_iadd hx hb dL_law_216 ?_
    refine z_sld hx hb hX hbl hbA hS (by omega) (by omega) hL hv2 dL_law_217 ?_
    refine lv_aload_n hx hb dL_law_218 rfl (lv_at hl 0 rfl) ?_
    refine lv_iload_n hx hb dL_law_219 rfl (lv_at hl 3 rfl) ?_
    refine lv_iconst (v := iI 3) hx hb dL_law_220 rfl ?_
    refine z_iadd hx hb dL_law_221 ?_
    refine z_sld hx hb hX hbl hbA hS (by omega) (by omega) hL hv3 dL_law_222 ?_
    refine z_cE (As := [.int (iI v1), .int (iI v2), .int (iI v3)]) (rest := [.int (iI (v2 / 8))]) C (m_X6_lots (l := l) (g := g) (q := ad 22) (qn := ad 23) (qp := ad 24) (qi := ad 25) (qk := ad 26) (qt := ad 27) (qw := ad 28) (qv := ad 29) (qr := ad 30) (ac := ac) (N := N) (P := P) (pi_ := v1) (n_ := v2) (sd := v3) (ac1 := by omega) (zN := zN) (b1 := by omega)) (cwV 3 C.2.2.2.2 gL_law_X6_lots rfl rfl rfl (by decide +kernel) ⟨Nat.le_of_ble_eq_true rfl, Nat.le_of_ble_eq_true rfl⟩) hK hP hD hS hA [22, 23, 24] (by decide) rfl (fun _ => rfl) 22 rfl rfl rfl hl.1 rfl (Nat.le_of_ble_eq_true rfl) dL_law_223 ⟨by show cells ≤ 600000; omega, by show slots ≤ 7302250; omega⟩ (fun r_6 u_4 H locs hq_5 hP hD hS => ?_)
    have hq_5 : r_6 = v2 / 8 := hq_5
    subst hq_5
    have hP : zP g ([((ad 0), .inr (5, [.ref (ad 1), .ref (ad 4), .ref (ad 10), .ref (ad 11), .ref (ad 15), .ref (ad 19), .int (iI 0)])), ((ad 1), .inr (4, [.ref (ad 2), .ref (ad 3), .int (iI ((sp_lots N v1 v2 v3) 0)), .int (iI ((sp_lots N v1 v2 v3) 1))])), zI g (ad 2) 640 (fun x => (sp_lots N v1 v2 v3) (7 + x)), zI g (ad 3) 5 (fun x => (sp_lots N v1 v2 v3) (2 + x)), ((ad 4), .inr (2, [.ref (ad 5), .ref (ad 6), .ref (ad 7), .ref (ad 8), .ref (ad 9), .int (iI ((nx + 1) % 8)), .int (iI (min (ac + 1) 8))])), zI g (ad 5) 1024 (rmN NB (fun x => N (7 + x)) nx v1), zI g (ad 6) 8 (ups RR nx v1), zI g (ad 7) 8 (ups RS nx (N (2 + v1))), zI g (ad 8) 8 (ups RF nx (N 0)), zI g (ad 9) 8 (ups RE nx (N 1)), zQ g (ad 10) 2 IM, (ad 11, .inr (3, [.ref (ad 12), .ref (ad 13), .ref (ad 14)])), zI g (ad 12) 8 WA, zI g (ad 13) 80 FD, zI g (ad 14) 8 OF, (ad 15, .inr (1, [.ref (ad 16), .ref (ad 17), .ref (ad 18), .int (iI un)])), zI g (ad 16) 385 ST, zI g (ad 17) 384 FI, zI g (ad 18) 320 EN, (ad 19, .inr (0, [.ref (ad 20), .ref (ad 21), .int (iI rk), .int (iI he), .int (iI kn), .int (iI al)])), zI g (ad 20) 124 CE, zI g (ad 21) 124 OR, ((ad 22), .inr (6, [.ref (ad 23), .ref (ad 24), .int (iI (min (ac + 1) 8)), .ref (ad 25), .ref (ad 26), .ref (ad 27), .ref (ad 28), .ref (ad 29), .ref (ad 30)])), zI g (ad 23) 647 (sp_lots N v1 v2 v3), zI g (ad 24) 5176 (ntP P N ac), zI g (ad 25) 1294 IQ, zB g (ad 26) 2 KP, zI g (ad 27) 8 TU, zI g (ad 28) 80 PK, zI g (ad 29) 124 VO, zB g (ad 30) 124 RK] ++ IW) H := hP
    have hD : va_D A ([((ad 0), .inr (5, [.ref (ad 1), .ref (ad 4), .ref (ad 10), .ref (ad 11), .ref (ad 15), .ref (ad 19), .int (iI 0)])), ((ad 1), .inr (4, [.ref (ad 2), .ref (ad 3), .int (iI ((sp_lots N v1 v2 v3) 0)), .int (iI ((sp_lots N v1 v2 v3) 1))])), zI g (ad 2) 640 (fun x => (sp_lots N v1 v2 v3) (7 + x)), zI g (ad 3) 5 (fun x => (sp_lots N v1 v2 v3) (2 + x)), ((ad 4), .inr (2, [.ref (ad 5), .ref (ad 6), .ref (ad 7), .ref (ad 8), .ref (ad 9), .int (iI ((nx + 1) % 8)), .int (iI (min (ac + 1) 8))])), zI g (ad 5) 1024 (rmN NB (fun x => N (7 + x)) nx v1), zI g (ad 6) 8 (ups RR nx v1), zI g (ad 7) 8 (ups RS nx (N (2 + v1))), zI g (ad 8) 8 (ups RF nx (N 0)), zI g (ad 9) 8 (ups RE nx (N 1)), zQ g (ad 10) 2 IM, (ad 11, .inr (3, [.ref (ad 12), .ref (ad 13), .ref (ad 14)])), zI g (ad 12) 8 WA, zI g (ad 13) 80 FD, zI g (ad 14) 8 OF, (ad 15, .inr (1, [.ref (ad 16), .ref (ad 17), .ref (ad 18), .int (iI un)])), zI g (ad 16) 385 ST, zI g (ad 17) 384 FI, zI g (ad 18) 320 EN, (ad 19, .inr (0, [.ref (ad 20), .ref (ad 21), .int (iI rk), .int (iI he), .int (iI kn), .int (iI al)])), zI g (ad 20) 124 CE, zI g (ad 21) 124 OR, ((ad 22), .inr (6, [.ref (ad 23), .ref (ad 24), .int (iI (min (ac + 1) 8)), .ref (ad 25), .ref (ad 26), .ref (ad 27), .ref (ad 28), .ref (ad 29), .ref (ad 30)])), zI g (ad 23) 647 (sp_lots N v1 v2 v3), zI g (ad 24) 5176 (ntP P N ac), zI g (ad 25) 1294 IQ, zB g (ad 26) 2 KP, zI g (ad 27) 8 TU, zI g (ad 28) 80 PK, zI g (ad 29) 124 VO, zB g (ad 30) 124 RK] ++ IW) := hD
    refine z_eqS (tgt := 805) hx hb dL_law_226 (by decide) (rfl) ?_
    exact hgo H locs _ _ bud ls ⟨(sp_lots N v1 v2 v3), (ntP P N ac), IQ, KP, TU, PK, VO, RK, (rmN NB (fun x => N (7 + x)) nx v1), (ups RR nx v1), (ups RS nx (N (2 + v1))), (ups RF nx (N 0)), (ups RE nx (N 1)), WA, FD, OF, ST, FI, EN, CE, OR, (min (ac + 1) 8), ((nx + 1) % 8), 0, un, rk, he, kn, al, IM, IW, okN_lots zN (by omega) (by omega) (by omega), PR_push hPR zN (by omega) (by omega) (chg_lots (by omega)), Or.inl rfl, hIM, hP, hD, hS⟩ (by omega) (by omega) (lv_sub hl [0, 1, 2, 3] rfl)
  · refine lv_aload_n hx hb dL_law_188 rfl (lv_at hl 1 rfl) ?_
    refine lv_aload_n hx hb dL_law_189 rfl (lv_at hl 0 rfl) ?_
    refine lv_iload_n hx hb dL_law_190 rfl (lv_at hl 3 rfl) ?_
    refine lv_iconst (v := iI 1) hx hb dL_law_191 rfl ?_
    refine z_iadd hx hb dL_law_192 ?_
    refine z_sld hx hb hX hbl hbA hS (by omega) (by omega) hL hv1 dL_law_193 ?_
    refine lv_aload_n hx hb dL_law_194 rfl (lv_at hl 0 rfl) ?_
    refine lv_iload_n hx hb dL_law_195 rfl (lv_at hl 3 rfl) ?_
    refine lv_iconst (v := iI 2) hx hb dL_law_196 rfl ?_
    refine z_iadd hx hb dL_law_197 ?_
    refine z_sld hx hb hX hbl hbA hS (by omega) (by omega) hL hv2 dL_law_198 ?_
    refine lv_aload_n hx hb dL_law_199 rfl (lv_at hl 0 rfl) ?_
    refine lv_iload_n hx hb dL_law_200 rfl (lv_at hl 3 rfl) ?_
    refine lv_iconst (v := iI 3) hx hb dL_law_201 rfl ?_
    refine z_iadd hx hb dL_law_202 ?_
    refine z_sld hx hb hX hbl hbA hS (by omega) (by omega) hL hv3 dL_law_203 ?_
    refine z_cS (As := [.int (iI v1), .int (iI v2), .int (iI v3)]) (rest := []) C (m_X5_lots_n (l := l) (g := g) (o := ad 0) (h := ad 1) (b := ad 4) (im := ad 10) (a := ad 11) (d := ad 15) (bb := ad 19) (fr := fr) (hn := ad 2) (hs := ad 3) (N := N) (pi_ := v1) (n_ := v2) (sd := v3) (zN := zN) (g_pi_ := by omega) (g_n_ := by omega) (g_sd := by omega) (rf := hac)) (cwV 3 C.2.2.2.2 gL_law_X5_lots rfl rfl rfl (by decide +kernel) ⟨Nat.le_of_ble_eq_true rfl, Nat.le_of_ble_eq_true rfl⟩) hK hP [0, 1, 2, 3] rfl 0 rfl rfl rfl hl.1 rfl (Nat.le_of_ble_eq_true rfl) dL_law_204 ⟨by show cells ≤ 600000; omega, by show slots ≤ 7302250; omega⟩ ?_
    refine lv_aload_n hx hb dL_law_207 rfl (lv_at hl 2 rfl) ?_
    refine lv_aload_n hx hb dL_law_208 rfl (lv_at hl 0 rfl) ?_
    refine lv_iload_n hx hb dL_law_209 rfl (lv_at hl 3 rfl) ?_
    refine lv_iconst (v := iI 1) hx hb dL_law_210 rfl ?_
    refine z_iadd hx hb dL_law_211 ?_
    refine z_sld hx hb hX hbl hbA hS (by omega) (by omega) hL hv1 dL_law_212 ?_
    refine lv_aload_n hx hb dL_law_213 rfl (lv_at hl 0 rfl) ?_
    refine lv_iload_n hx hb dL_law_214 rfl (lv_at hl 3 rfl) ?_
    refine lv_iconst (v := iI 2) hx hb dL_law_215 rfl ?_
    refine z_iadd hx hb dL_law_216 ?_
    refine z_sld hx hb hX hbl hbA hS (by omega) (by omega) hL hv2 dL_law_217 ?_
    refine lv_aload_n hx hb dL_law_218 rfl (lv_at hl 0 rfl) ?_
    refine lv_iload_n hx hb dL_law_219 rfl (lv_at hl 3 rfl) ?_
    refine lv_iconst (v := iI 3) hx hb dL_law_220 rfl ?_
    refine z_iadd hx hb dL_law_221 ?_
    refine z_sld hx hb hX hbl hbA hS (by omega) (by omega) hL hv3 dL_law_222 ?_
    refine z_cS (As := [.int (iI v1), .int (iI v2), .int (iI v3)]) (rest := [.int (iI (if ¬ (0 ≤ v1 ∧ v1 ≤ 4) then -1000000001 else -1000000002))]) C (m_X6_lots_n (l := l) (g := g) (q := ad 22) (qn := ad 23) (qp := ad 24) (qi := ad 25) (qk := ad 26) (qt := ad 27) (qw := ad 28) (qv := ad 29) (qr := ad 30) (ac := ac) (N := N) (pi_ := v1) (n_ := v2) (sd := v3) (zN := zN) (g_pi_ := by omega) (g_n_ := by omega) (g_sd := by omega) (rf := hac)) (cwV 3 C.2.2.2.2 gL_law_X6_lots rfl rfl rfl (by decide +kernel) ⟨Nat.le_of_ble_eq_true rfl, Nat.le_of_ble_eq_true rfl⟩) hK hP [22, 23] rfl 22 rfl rfl rfl hl.1 rfl (Nat.le_of_ble_eq_true rfl) dL_law_223 ⟨by show cells ≤ 600000; omega, by show slots ≤ 7302250; omega⟩ ?_
    refine z_eqS (tgt := 805) hx hb dL_law_226 (by decide) (rfl) ?_
    exact hgo H locs _ _ bud ls ⟨N, P, IQ, KP, TU, PK, VO, RK, NB, RR, RS, RF, RE, WA, FD, OF, ST, FI, EN, CE, OR, ac, nx, fr, un, rk, he, kn, al, IM, IW, zN, hPR, hfr, hIM, hP, hD, hS⟩ (by omega) (by omega) (lv_sub hl [0, 1, 2, 3] rfl)
set_option maxHeartbeats 8000000 in
set_option maxRecDepth 100000 in
theorem op_noise {p : Program} {l : Launch} {e : Env} {s : State} {m : MethodId} {below : List Frame} {meth : Method} {c : Code} {Q : State → Prop} {A : Nat → Prop} {g : zG} {ad : Nat → Nat} {b0 L : Nat} {xs : Nat → Int32} {i_ : Int} (X : zX p s m c A g b0 L xs i_) (hgo : zL p l e s m below meth c Q A g ad b0 i_ 805) : zL p l e s m below meth c Q A g ad b0 i_ 231 := by
  obtain ⟨C, hX, hbl, hK, hO, hA, hbA, hi, hi2, hL⟩ := X
  have hx := C.1
  have hb := C.2.1
  intro H locs cells slots bud ls hI hcs hss hl
  obtain ⟨N, P, IQ, KP, TU, PK, VO, RK, NB, RR, RS, RF, RE, WA, FD, OF, ST, FI, EN, CE, OR, ac, nx, fr, un, rk, he, kn, al, IM, IW, zN, hPR, hfr, hIM, hP, hD, hS⟩ := hI
  have hPb := hPR.2.1
  have hPc := hPR.2.2.1
  have hPn := hPR.2.2.2.1
  have hPm := hPR.2.2.2.2.1
  obtain ⟨v1, hv1⟩ : ∃ v, v = sx xs (i_ + 1) := ⟨_, rfl⟩
  have g_v1 := sx_rg xs (i_ + 1)
  rw [← hv1] at g_v1
  obtain ⟨v2, hv2⟩ : ∃ v, v = sx xs (i_ + 2) := ⟨_, rfl⟩
  have g_v2 := sx_rg xs (i_ + 2)
  rw [← hv2] at g_v2
  obtain ⟨v3, hv3⟩ : ∃ v, v = sx xs (i_ + 3) := ⟨_, rfl⟩
  have g_v3 := sx_rg xs (i_ + 3)
  rw [← hv3] at g_v3
  by_cases hac : (0 ≤ v1 ∧ v1 ≤ 4) ∧ (1 ≤ v2 ∧ v2 ≤ 100) ∧ (1 ≤ v3 ∧ v3 ≤ 999999)
  · refine lv_aload_n hx hb dL_law_231 rfl (lv_at hl 1 rfl) ?_
    refine lv_aload_n hx hb dL_law_232 rfl (lv_at hl 0 rfl) ?_
    refine lv_iload_n hx hb dL_law_233 rfl (lv_at hl 3 rfl) ?_
    refine lv_iconst (v := iI 1) hx hb dL_law_234 rfl ?_
    refine z_iadd hx hb dL_law_235 ?_
    refine z_sld hx hb hX hbl hbA hS (by omega) (by omega) hL hv1 dL_law_236 ?_
    refine lv_aload_n hx hb dL_law_237 rfl (lv_at hl 0 rfl) ?_
    refine lv_iload_n hx hb dL_law_238 rfl (lv_at hl 3 rfl) ?_
    refine lv_iconst (v := iI 2) hx hb dL_law_239 rfl ?_
    refine z_iadd hx hb dL_law_240 ?_
    refine z_sld hx hb hX hbl hbA hS (by omega) (by omega) hL hv2 dL_law_241 ?_
    refine lv_aload_n hx hb dL_law_242 rfl (lv_at hl 0 rfl) ?_
    refine lv_iload_n hx hb dL_law_243 rfl (lv_at hl 3 rfl) ?_
    refine lv_iconst (v := iI 3) hx hb dL_law_244 rfl ?_
    refine z_iadd hx hb dL_law_245 ?_
    refine z_sld hx hb hX hbl hbA hS (by omega) (by omega) hL hv3 dL_law_246 ?_
    refine z_cE (As := [.int (iI v1), .int (iI v2), .int (iI v3)]) (rest := []) C (m_X5_noise (l := l) (g := g) (o := ad 0) (h := ad 1) (b := ad 4) (im := ad 10) (a := ad 11) (d := ad 15) (bb := ad 19) (fr := fr) (hn := ad 2) (hs := ad 3) (N := N) (bn := ad 5) (br := ad 6) (bs := ad 7) (bf := ad 8) (be := ad 9) (nx := nx) (dp := ac) (NB := NB) (RR := RR) (RS := RS) (RF := RF) (RE := RE) (pi_ := v1) (s_ := v2) (sd := v3) (p1 := by omega) (p2 := by omega) (p3 := by omega) (p4 := by omega) (zN := zN) (a1 := by omega)) (cwV 3 C.2.2.2.2 gL_law_X5_noise rfl rfl rfl (by decide +kernel) ⟨Nat.le_of_ble_eq_true rfl, Nat.le_of_ble_eq_true rfl⟩) hK hP hD hS hA [0, 1, 2, 3, 4, 5, 6, 7, 8, 9] (by decide) rfl (fun _ => rfl) 0 rfl rfl rfl hl.1 rfl (Nat.le_of_ble_eq_true rfl) dL_law_247 ⟨by show cells ≤ 600000; omega, by show slots ≤ 7302250; omega⟩ (fun r_3 u_1 H locs hq_2 hP hD hS => ?_)
    have hq_2 : r_3 = sumZ (fun x => bI (cl (N (7 + 128 * v1 + x) + lx v3 (x + 1) % (2 * v2 + 1) - v2) ≠ N (7 + 128 * v1 + x))) (N (2 + v1)) := hq_2
    subst hq_2
    have hP : zP g ([((ad 0), .inr (5, [.ref (ad 1), .ref (ad 4), .ref (ad 10), .ref (ad 11), .ref (ad 15), .ref (ad 19), .int (iI 0)])), ((ad 1), .inr (4, [.ref (ad 2), .ref (ad 3), .int (iI ((sp_noise N v1 v2 v3) 0)), .int (iI ((sp_noise N v1 v2 v3) 1))])), zI g (ad 2) 640 (fun x => (sp_noise N v1 v2 v3) (7 + x)), zI g (ad 3) 5 (fun x => (sp_noise N v1 v2 v3) (2 + x)), ((ad 4), .inr (2, [.ref (ad 5), .ref (ad 6), .ref (ad 7), .ref (ad 8), .ref (ad 9), .int (iI ((nx + 1) % 8)), .int (iI (min (ac + 1) 8))])), zI g (ad 5) 1024 (rmN NB (fun x => N (7 + x)) nx v1), zI g (ad 6) 8 (ups RR nx v1), zI g (ad 7) 8 (ups RS nx (N (2 + v1))), zI g (ad 8) 8 (ups RF nx (N 0)), zI g (ad 9) 8 (ups RE nx (N 1)), zQ g (ad 10) 2 IM, (ad 11, .inr (3, [.ref (ad 12), .ref (ad 13), .ref (ad 14)])), zI g (ad 12) 8 WA, zI g (ad 13) 80 FD, zI g (ad 14) 8 OF, (ad 15, .inr (1, [.ref (ad 16), .ref (ad 17), .ref (ad 18), .int (iI un)])), zI g (ad 16) 385 ST, zI g (ad 17) 384 FI, zI g (ad 18) 320 EN, (ad 19, .inr (0, [.ref (ad 20), .ref (ad 21), .int (iI rk), .int (iI he), .int (iI kn), .int (iI al)])), zI g (ad 20) 124 CE, zI g (ad 21) 124 OR, (ad 22, .inr (6, [.ref (ad 23), .ref (ad 24), .int (iI ac), .ref (ad 25), .ref (ad 26), .ref (ad 27), .ref (ad 28), .ref (ad 29), .ref (ad 30)])), zI g (ad 23) 647 N, zI g (ad 24) 5176 P, zI g (ad 25) 1294 IQ, zB g (ad 26) 2 KP, zI g (ad 27) 8 TU, zI g (ad 28) 80 PK, zI g (ad 29) 124 VO, zB g (ad 30) 124 RK] ++ IW) H := hP
    have hD : va_D A ([((ad 0), .inr (5, [.ref (ad 1), .ref (ad 4), .ref (ad 10), .ref (ad 11), .ref (ad 15), .ref (ad 19), .int (iI 0)])), ((ad 1), .inr (4, [.ref (ad 2), .ref (ad 3), .int (iI ((sp_noise N v1 v2 v3) 0)), .int (iI ((sp_noise N v1 v2 v3) 1))])), zI g (ad 2) 640 (fun x => (sp_noise N v1 v2 v3) (7 + x)), zI g (ad 3) 5 (fun x => (sp_noise N v1 v2 v3) (2 + x)), ((ad 4), .inr (2, [.ref (ad 5), .ref (ad 6), .ref (ad 7), .ref (ad 8), .ref (ad 9), .int (iI ((nx + 1) % 8)), .int (iI (min (ac + 1) 8))])), zI g (ad 5) 1024 (rmN NB (fun x => N (7 + x)) nx v1), zI g (ad 6) 8 (ups RR nx v1), zI g (ad 7) 8 (ups RS nx (N (2 + v1))), zI g (ad 8) 8 (ups RF nx (N 0)), zI g (ad 9) 8 (ups RE nx (N 1)), zQ g (ad 10) 2 IM, (ad 11, .inr (3, [.ref (ad 12), .ref (ad 13), .ref (ad 14)])), zI g (ad 12) 8 WA, zI g (ad 13) 80 FD, zI g (ad 14) 8 OF, (ad 15, .inr (1, [.ref (ad 16), .ref (ad 17), .ref (ad 18), .int (iI un)])), zI g (ad 16) 385 ST, zI g (ad 17) 384 FI, zI g (ad 18) 320 EN, (ad 19, .inr (0, [.ref (ad 20), .ref (ad 21), .int (iI rk), .int (iI he), .int (iI kn), .int (iI al)])), zI g (ad 20) 124 CE, zI g (ad 21) 124 OR, (ad 22, .inr (6, [.ref (ad 23), .ref (ad 24), .int (iI ac), .ref (ad 25), .ref (ad 26), .ref (ad 27), .ref (ad 28), .ref (ad 29), .ref (ad 30)])), zI g (ad 23) 647 N, zI g (ad 24) 5176 P, zI g (ad 25) 1294 IQ, zB g (ad 26) 2 KP, zI g (ad 27) 8 TU, zI g (ad 28) 80 PK, zI g (ad 29) 124 VO, zB g (ad 30) 124 RK] ++ IW) := hD
    refine lv_aload_n hx hb dL_law_250 rfl (lv_at hl 2 rfl) ?_
    refine lv_aload_n hx hb dL_law_251 rfl (lv_at hl 0 rfl) ?_
    refine lv_iload_n hx hb dL_law_252 rfl (lv_at hl 3 rfl) ?_
    refine lv_iconst (v := iI 1) hx hb dL_law_253 rfl ?_
    refine z_iadd hx hb dL_law_254 ?_
    refine z_sld hx hb hX hbl hbA hS (by omega) (by omega) hL hv1 dL_law_255 ?_
    refine lv_aload_n hx hb dL_law_256 rfl (lv_at hl 0 rfl) ?_
    refine lv_iload_n hx hb dL_law_257 rfl (lv_at hl 3 rfl) ?_
    refine lv_iconst (v := iI 2) hx hb dL_law_258 rfl ?_
    refine z_iadd hx hb dL_law_259 ?_
    refine z_sld hx hb hX hbl hbA hS (by omega) (by omega) hL hv2 dL_law_260 ?_
    refine lv_aload_n hx hb dL_law_261 rfl (lv_at hl 0 rfl) ?_
    refine lv_iload_n hx hb dL_law_262 rfl (lv_at hl 3 rfl) ?_
    refine lv_iconst (v := iI 3) hx hb dL_law_263 rfl ?_
    refine z_iadd hx hb dL_law_264 ?_
    refine z_sld hx hb hX hbl hbA hS (by omega) (by omega) hL hv3 dL_law_265 ?_
    refine z_cE (As := [.int (iI v1), .int (iI v2), .int (iI v3)]) (rest := [.int (iI (sumZ (fun x => bI (cl (N (7 + 128 * v1 + x) + lx v3 (x + 1) % (2 * v2 + 1) - v2) ≠ N (7 + 128 * v1 + x))) (N (2 + v1))))]) C (m_X6_noise (l := l) (g := g) (q := ad 22) (qn := ad 23) (qp := ad 24) (qi := ad 25) (qk := ad 26) (qt := ad 27) (qw := ad 28) (qv := ad 29) (qr := ad 30) (ac := ac) (N := N) (P := P) (pi_ := v1) (s_ := v2) (sd := v3) (ac1 := by omega) (zN := zN) (b1 := by omega)) (cwV 3 C.2.2.2.2 gL_law_X6_noise rfl rfl rfl (by decide +kernel) ⟨Nat.le_of_ble_eq_true rfl, Nat.le_of_ble_eq_true rfl⟩) hK hP hD hS hA [22, 23, 24] (by decide) rfl (fun _ => rfl) 22 rfl rfl rfl hl.1 rfl (Nat.le_of_ble_eq_true rfl) dL_law_266 ⟨by show cells ≤ 600000; omega, by show slots ≤ 7302250; omega⟩ (fun r_6 u_4 H locs hq_5 hP hD hS => ?_)
    have hq_5 : r_6 = sumZ (fun x => bI (cl (N (7 + 128 * v1 + x) + lx v3 (x + 1) % (2 * v2 + 1) - v2) ≠ N (7 + 128 * v1 + x))) (N (2 + v1)) := hq_5
    subst hq_5
    have hP : zP g ([((ad 0), .inr (5, [.ref (ad 1), .ref (ad 4), .ref (ad 10), .ref (ad 11), .ref (ad 15), .ref (ad 19), .int (iI 0)])), ((ad 1), .inr (4, [.ref (ad 2), .ref (ad 3), .int (iI ((sp_noise N v1 v2 v3) 0)), .int (iI ((sp_noise N v1 v2 v3) 1))])), zI g (ad 2) 640 (fun x => (sp_noise N v1 v2 v3) (7 + x)), zI g (ad 3) 5 (fun x => (sp_noise N v1 v2 v3) (2 + x)), ((ad 4), .inr (2, [.ref (ad 5), .ref (ad 6), .ref (ad 7), .ref (ad 8), .ref (ad 9), .int (iI ((nx + 1) % 8)), .int (iI (min (ac + 1) 8))])), zI g (ad 5) 1024 (rmN NB (fun x => N (7 + x)) nx v1), zI g (ad 6) 8 (ups RR nx v1), zI g (ad 7) 8 (ups RS nx (N (2 + v1))), zI g (ad 8) 8 (ups RF nx (N 0)), zI g (ad 9) 8 (ups RE nx (N 1)), zQ g (ad 10) 2 IM, (ad 11, .inr (3, [.ref (ad 12), .ref (ad 13), .ref (ad 14)])), zI g (ad 12) 8 WA, zI g (ad 13) 80 FD, zI g (ad 14) 8 OF, (ad 15, .inr (1, [.ref (ad 16), .ref (ad 17), .ref (ad 18), .int (iI un)])), zI g (ad 16) 385 ST, zI g (ad 17) 384 FI, zI g (ad 18) 320 EN, (ad 19, .inr (0, [.ref (ad 20), .ref (ad 21), .int (iI rk), .int (iI he), .int (iI kn), .int (iI al)])), zI g (ad 20) 124 CE, zI g (ad 21) 124 OR, ((ad 22), .inr (6, [.ref (ad 23), .ref (ad 24), .int (iI (min (ac + 1) 8)), .ref (ad 25), .ref (ad 26), .ref (ad 27), .ref (ad 28), .ref (ad 29), .ref (ad 30)])), zI g (ad 23) 647 (sp_noise N v1 v2 v3), zI g (ad 24) 5176 (ntP P N ac), zI g (ad 25) 1294 IQ, zB g (ad 26) 2 KP, zI g (ad 27) 8 TU, zI g (ad 28) 80 PK, zI g (ad 29) 124 VO, zB g (ad 30) 124 RK] ++ IW) H := hP
    have hD : va_D A ([((ad 0), .inr (5, [.ref (ad 1), .ref (ad 4), .ref (ad 10), .ref (ad 11), .ref (ad 15), .ref (ad 19), .int (iI 0)])), ((ad 1), .inr (4, [.ref (ad 2), .ref (ad 3), .int (iI ((sp_noise N v1 v2 v3) 0)), .int (iI ((sp_noise N v1 v2 v3) 1))])), zI g (ad 2) 640 (fun x => (sp_noise N v1 v2 v3) (7 + x)), zI g (ad 3) 5 (fun x => (sp_noise N v1 v2 v3) (2 + x)), ((ad 4), .inr (2, [.ref (ad 5), .ref (ad 6), .ref (ad 7), .ref (ad 8), .ref (ad 9), .int (iI ((nx + 1) % 8)), .int (iI (min (ac + 1) 8))])), zI g (ad 5) 1024 (rmN NB (fun x => N (7 + x)) nx v1), zI g (ad 6) 8 (ups RR nx v1), zI g (ad 7) 8 (ups RS nx (N (2 + v1))), zI g (ad 8) 8 (ups RF nx (N 0)), zI g (ad 9) 8 (ups RE nx (N 1)), zQ g (ad 10) 2 IM, (ad 11, .inr (3, [.ref (ad 12), .ref (ad 13), .ref (ad 14)])), zI g (ad 12) 8 WA, zI g (ad 13) 80 FD, zI g (ad 14) 8 OF, (ad 15, .inr (1, [.ref (ad 16), .ref (ad 17), .ref (ad 18), .int (iI un)])), zI g (ad 16) 385 ST, zI g (ad 17) 384 FI, zI g (ad 18) 320 EN, (ad 19, .inr (0, [.ref (ad 20), .ref (ad 21), .int (iI rk), .int (iI he), .int (iI kn), .int (iI al)])), zI g (ad 20) 124 CE, zI g (ad 21) 124 OR, ((ad 22), .inr (6, [.ref (ad 23), .ref (ad 24), .int (iI (min (ac + 1) 8)), .ref (ad 25), .ref (ad 26), .ref (ad 27), .ref (ad 28), .ref (ad 29), .ref (ad 30)])), zI g (ad 23) 647 (sp_noise N v1 v2 v3), zI g (ad 24) 5176 (ntP P N ac), zI g (ad 25) 1294 IQ, zB g (ad 26) 2 KP, zI g (ad 27) 8 TU, zI g (ad 28) 80 PK, zI g (ad 29) 124 VO, zB g (ad 30) 124 RK] ++ IW) := hD
    refine z_eqS (tgt := 805) hx hb dL_law_269 (by decide) (rfl) ?_
    exact hgo H locs _ _ bud ls ⟨(sp_noise N v1 v2 v3), (ntP P N ac), IQ, KP, TU, PK, VO, RK, (rmN NB (fun x => N (7 + x)) nx v1), (ups RR nx v1), (ups RS nx (N (2 + v1))), (ups RF nx (N 0)), (ups RE nx (N 1)), WA, FD, OF, ST, FI, EN, CE, OR, (min (ac + 1) 8), ((nx + 1) % 8), 0, un, rk, he, kn, al, IM, IW, okN_noise zN (by omega) (by omega), PR_push hPR zN (by omega) (by omega) (chg_noise zN (by omega) (by omega)), Or.inl rfl, hIM, hP, hD, hS⟩ (by omega) (by omega) (lv_sub hl [0, 1, 2, 3] rfl)
  · refine lv_aload_n hx hb dL_law_231 rfl (lv_at hl 1 rfl) ?_
    refine lv_aload_n hx hb dL_law_232 rfl (lv_at hl 0 rfl) ?_
    refine lv_iload_n hx hb dL_law_233 rfl (lv_at hl 3 rfl) ?_
    refine lv_iconst (v := iI 1) hx hb dL_law_234 rfl ?_
    refine z_iadd hx hb dL_law_235 ?_
    refine z_sld hx hb hX hbl hbA hS (by omega) (by omega) hL hv1 dL_law_236 ?_
    refine lv_aload_n hx hb dL_law_237 rfl (lv_at hl 0 rfl) ?_
    refine lv_iload_n hx hb dL_law_238 rfl (lv_at hl 3 rfl) ?_
    refine lv_iconst (v := iI 2) hx hb dL_law_239 rfl ?_
    refine z_iadd hx hb dL_law_240 ?_
    refine z_sld hx hb hX hbl hbA hS (by omega) (by omega) hL hv2 dL_law_241 ?_
    refine lv_aload_n hx hb dL_law_242 rfl (lv_at hl 0 rfl) ?_
    refine lv_iload_n hx hb dL_law_243 rfl (lv_at hl 3 rfl) ?_
    refine lv_iconst (v := iI 3) hx hb dL_law_244 rfl ?_
    refine z_iadd hx hb dL_law_245 ?_
    refine z_sld hx hb hX hbl hbA hS (by omega) (by omega) hL hv3 dL_law_246 ?_
    refine z_cS (As := [.int (iI v1), .int (iI v2), .int (iI v3)]) (rest := []) C (m_X5_noise_n (l := l) (g := g) (o := ad 0) (h := ad 1) (b := ad 4) (im := ad 10) (a := ad 11) (d := ad 15) (bb := ad 19) (fr := fr) (hn := ad 2) (hs := ad 3) (N := N) (pi_ := v1) (s_ := v2) (sd := v3) (zN := zN) (g_pi_ := by omega) (g_s_ := by omega) (g_sd := by omega) (rf := hac)) (cwV 3 C.2.2.2.2 gL_law_X5_noise rfl rfl rfl (by decide +kernel) ⟨Nat.le_of_ble_eq_true rfl, Nat.le_of_ble_eq_true rfl⟩) hK hP [0, 1, 2, 3] rfl 0 rfl rfl rfl hl.1 rfl (Nat.le_of_ble_eq_true rfl) dL_law_247 ⟨by show cells ≤ 600000; omega, by show slots ≤ 7302250; omega⟩ ?_
    refine lv_aload_n hx hb dL_law_250 rfl (lv_at hl 2 rfl) ?_
    refine lv_aload_n hx hb dL_law_251 rfl (lv_at hl 0 rfl) ?_
    refine lv_iload_n hx hb dL_law_252 rfl (lv_at hl 3 rfl) ?_
    refine lv_iconst (v := iI 1) hx hb dL_law_253 rfl ?_
    refine z_iadd hx hb dL_law_254 ?_
    refine z_sld hx hb hX hbl hbA hS (by omega) (by omega) hL hv1 dL_law_255 ?_
    refine lv_aload_n hx hb dL_law_256 rfl (lv_at hl 0 rfl) ?_
    refine lv_iload_n hx hb dL_law_257 rfl (lv_at hl 3 rfl) ?_
    refine lv_iconst (v := iI 2) hx hb dL_law_258 rfl ?_
    refine z_iadd hx hb dL_law_259 ?_
    refine z_sld hx hb hX hbl hbA hS (by omega) (by omega) hL hv2 dL_law_260 ?_
    refine lv_aload_n hx hb dL_law_261 rfl (lv_at hl 0 rfl) ?_
    refine lv_iload_n hx hb dL_law_262 rfl (lv_at hl 3 rfl) ?_
    refine lv_iconst (v := iI 3) hx hb dL_law_263 rfl ?_
    refine z_iadd hx hb dL_law_264 ?_
    refine z_sld hx hb hX hbl hbA hS (by omega) (by omega) hL hv3 dL_law_265 ?_
    refine z_cS (As := [.int (iI v1), .int (iI v2), .int (iI v3)]) (rest := [.int (iI (if ¬ (0 ≤ v1 ∧ v1 ≤ 4) then -1000000001 else -1000000002))]) C (m_X6_noise_n (l := l) (g := g) (q := ad 22) (qn := ad 23) (qp := ad 24) (qi := ad 25) (qk := ad 26) (qt := ad 27) (qw := ad 28) (qv := ad 29) (qr := ad 30) (ac := ac) (N := N) (pi_ := v1) (s_ := v2) (sd := v3) (zN := zN) (g_pi_ := by omega) (g_s_ := by omega) (g_sd := by omega) (rf := hac)) (cwV 3 C.2.2.2.2 gL_law_X6_noise rfl rfl rfl (by decide +kernel) ⟨Nat.le_of_ble_eq_true rfl, Nat.le_of_ble_eq_true rfl⟩) hK hP [22, 23] rfl 22 rfl rfl rfl hl.1 rfl (Nat.le_of_ble_eq_true rfl) dL_law_266 ⟨by show cells ≤ 600000; omega, by show slots ≤ 7302250; omega⟩ ?_
    refine z_eqS (tgt := 805) hx hb dL_law_269 (by decide) (rfl) ?_
    exact hgo H locs _ _ bud ls ⟨N, P, IQ, KP, TU, PK, VO, RK, NB, RR, RS, RF, RE, WA, FD, OF, ST, FI, EN, CE, OR, ac, nx, fr, un, rk, he, kn, al, IM, IW, zN, hPR, hfr, hIM, hP, hD, hS⟩ (by omega) (by omega) (lv_sub hl [0, 1, 2, 3] rfl)
set_option maxHeartbeats 8000000 in
set_option maxRecDepth 100000 in
theorem op_louder {p : Program} {l : Launch} {e : Env} {s : State} {m : MethodId} {below : List Frame} {meth : Method} {c : Code} {Q : State → Prop} {A : Nat → Prop} {g : zG} {ad : Nat → Nat} {b0 L : Nat} {xs : Nat → Int32} {i_ : Int} (X : zX p s m c A g b0 L xs i_) (hgo : zL p l e s m below meth c Q A g ad b0 i_ 805) : zL p l e s m below meth c Q A g ad b0 i_ 274 := by
  obtain ⟨C, hX, hbl, hK, hO, hA, hbA, hi, hi2, hL⟩ := X
  have hx := C.1
  have hb := C.2.1
  intro H locs cells slots bud ls hI hcs hss hl
  obtain ⟨N, P, IQ, KP, TU, PK, VO, RK, NB, RR, RS, RF, RE, WA, FD, OF, ST, FI, EN, CE, OR, ac, nx, fr, un, rk, he, kn, al, IM, IW, zN, hPR, hfr, hIM, hP, hD, hS⟩ := hI
  have hPb := hPR.2.1
  have hPc := hPR.2.2.1
  have hPn := hPR.2.2.2.1
  have hPm := hPR.2.2.2.2.1
  obtain ⟨v1, hv1⟩ : ∃ v, v = sx xs (i_ + 1) := ⟨_, rfl⟩
  have g_v1 := sx_rg xs (i_ + 1)
  rw [← hv1] at g_v1
  obtain ⟨v2, hv2⟩ : ∃ v, v = sx xs (i_ + 2) := ⟨_, rfl⟩
  have g_v2 := sx_rg xs (i_ + 2)
  rw [← hv2] at g_v2
  obtain ⟨v3, hv3⟩ : ∃ v, v = sx xs (i_ + 3) := ⟨_, rfl⟩
  have g_v3 := sx_rg xs (i_ + 3)
  rw [← hv3] at g_v3
  by_cases hac : (0 ≤ v1 ∧ v1 ≤ 4) ∧ (1 ≤ v2 ∧ v2 ≤ 9) ∧ (1 ≤ v3 ∧ v3 ≤ 9)
  · refine lv_aload_n hx hb dL_law_274 rfl (lv_at hl 1 rfl) ?_
    refine lv_aload_n hx hb dL_law_275 rfl (lv_at hl 0 rfl) ?_
    refine lv_iload_n hx hb dL_law_276 rfl (lv_at hl 3 rfl) ?_
    refine lv_iconst (v := iI 1) hx hb dL_law_277 rfl ?_
    refine z_iadd hx hb dL_law_278 ?_
    refine z_sld hx hb hX hbl hbA hS (by omega) (by omega) hL hv1 dL_law_279 ?_
    refine lv_aload_n hx hb dL_law_280 rfl (lv_at hl 0 rfl) ?_
    refine lv_iload_n hx hb dL_law_281 rfl (lv_at hl 3 rfl) ?_
    refine lv_iconst (v := iI 2) hx hb dL_law_282 rfl ?_
    refine z_iadd hx hb dL_law_283 ?_
    refine z_sld hx hb hX hbl hbA hS (by omega) (by omega) hL hv2 dL_law_284 ?_
    refine lv_aload_n hx hb dL_law_285 rfl (lv_at hl 0 rfl) ?_
    refine lv_iload_n hx hb dL_law_286 rfl (lv_at hl 3 rfl) ?_
    refine lv_iconst (v := iI 3) hx hb dL_law_287 rfl ?_
    refine z_iadd hx hb dL_law_288 ?_
    refine z_sld hx hb hX hbl hbA hS (by omega) (by omega) hL hv3 dL_law_289 ?_
    refine z_cE (As := [.int (iI v1), .int (iI v2), .int (iI v3)]) (rest := []) C (m_X5_louder (l := l) (g := g) (o := ad 0) (h := ad 1) (b := ad 4) (im := ad 10) (a := ad 11) (d := ad 15) (bb := ad 19) (fr := fr) (hn := ad 2) (hs := ad 3) (N := N) (bn := ad 5) (br := ad 6) (bs := ad 7) (bf := ad 8) (be := ad 9) (nx := nx) (dp := ac) (NB := NB) (RR := RR) (RS := RS) (RF := RF) (RE := RE) (pi_ := v1) (a_ := v2) (b_ := v3) (p1 := by omega) (p2 := by omega) (p3 := by omega) (p4 := by omega) (zN := zN) (a1 := by omega)) (cwV 3 C.2.2.2.2 gL_law_X5_louder rfl rfl rfl (by decide +kernel) ⟨Nat.le_of_ble_eq_true rfl, Nat.le_of_ble_eq_true rfl⟩) hK hP hD hS hA [0, 1, 2, 3, 4, 5, 6, 7, 8, 9] (by decide) rfl (fun _ => rfl) 0 rfl rfl rfl hl.1 rfl (Nat.le_of_ble_eq_true rfl) dL_law_290 ⟨by show cells ≤ 600000; omega, by show slots ≤ 7302250; omega⟩ (fun r_3 u_1 H locs hq_2 hP hD hS => ?_)
    have hq_2 : r_3 = sumZ (fun x => bI (cl (zdiv (N (7 + 128 * v1 + x) * v2) v3) ≠ N (7 + 128 * v1 + x))) (N (2 + v1)) := hq_2
    subst hq_2
    have hP : zP g ([((ad 0), .inr (5, [.ref (ad 1), .ref (ad 4), .ref (ad 10), .ref (ad 11), .ref (ad 15), .ref (ad 19), .int (iI 0)])), ((ad 1), .inr (4, [.ref (ad 2), .ref (ad 3), .int (iI ((sp_loud N v1 v2 v3) 0)), .int (iI ((sp_loud N v1 v2 v3) 1))])), zI g (ad 2) 640 (fun x => (sp_loud N v1 v2 v3) (7 + x)), zI g (ad 3) 5 (fun x => (sp_loud N v1 v2 v3) (2 + x)), ((ad 4), .inr (2, [.ref (ad 5), .ref (ad 6), .ref (ad 7), .ref (ad 8), .ref (ad 9), .int (iI ((nx + 1) % 8)), .int (iI (min (ac + 1) 8))])), zI g (ad 5) 1024 (rmN NB (fun x => N (7 + x)) nx v1), zI g (ad 6) 8 (ups RR nx v1), zI g (ad 7) 8 (ups RS nx (N (2 + v1))), zI g (ad 8) 8 (ups RF nx (N 0)), zI g (ad 9) 8 (ups RE nx (N 1)), zQ g (ad 10) 2 IM, (ad 11, .inr (3, [.ref (ad 12), .ref (ad 13), .ref (ad 14)])), zI g (ad 12) 8 WA, zI g (ad 13) 80 FD, zI g (ad 14) 8 OF, (ad 15, .inr (1, [.ref (ad 16), .ref (ad 17), .ref (ad 18), .int (iI un)])), zI g (ad 16) 385 ST, zI g (ad 17) 384 FI, zI g (ad 18) 320 EN, (ad 19, .inr (0, [.ref (ad 20), .ref (ad 21), .int (iI rk), .int (iI he), .int (iI kn), .int (iI al)])), zI g (ad 20) 124 CE, zI g (ad 21) 124 OR, (ad 22, .inr (6, [.ref (ad 23), .ref (ad 24), .int (iI ac), .ref (ad 25), .ref (ad 26), .ref (ad 27), .ref (ad 28), .ref (ad 29), .ref (ad 30)])), zI g (ad 23) 647 N, zI g (ad 24) 5176 P, zI g (ad 25) 1294 IQ, zB g (ad 26) 2 KP, zI g (ad 27) 8 TU, zI g (ad 28) 80 PK, zI g (ad 29) 124 VO, zB g (ad 30) 124 RK] ++ IW) H := hP
    have hD : va_D A ([((ad 0), .inr (5, [.ref (ad 1), .ref (ad 4), .ref (ad 10), .ref (ad 11), .ref (ad 15), .ref (ad 19), .int (iI 0)])), ((ad 1), .inr (4, [.ref (ad 2), .ref (ad 3), .int (iI ((sp_loud N v1 v2 v3) 0)), .int (iI ((sp_loud N v1 v2 v3) 1))])), zI g (ad 2) 640 (fun x => (sp_loud N v1 v2 v3) (7 + x)), zI g (ad 3) 5 (fun x => (sp_loud N v1 v2 v3) (2 + x)), ((ad 4), .inr (2, [.ref (ad 5), .ref (ad 6), .ref (ad 7), .ref (ad 8), .ref (ad 9), .int (iI ((nx + 1) % 8)), .int (iI (min (ac + 1) 8))])), zI g (ad 5) 1024 (rmN NB (fun x => N (7 + x)) nx v1), zI g (ad 6) 8 (ups RR nx v1), zI g (ad 7) 8 (ups RS nx (N (2 + v1))), zI g (ad 8) 8 (ups RF nx (N 0)), zI g (ad 9) 8 (ups RE nx (N 1)), zQ g (ad 10) 2 IM, (ad 11, .inr (3, [.ref (ad 12), .ref (ad 13), .ref (ad 14)])), zI g (ad 12) 8 WA, zI g (ad 13) 80 FD, zI g (ad 14) 8 OF, (ad 15, .inr (1, [.ref (ad 16), .ref (ad 17), .ref (ad 18), .int (iI un)])), zI g (ad 16) 385 ST, zI g (ad 17) 384 FI, zI g (ad 18) 320 EN, (ad 19, .inr (0, [.ref (ad 20), .ref (ad 21), .int (iI rk), .int (iI he), .int (iI kn), .int (iI al)])), zI g (ad 20) 124 CE, zI g (ad 21) 124 OR, (ad 22, .inr (6, [.ref (ad 23), .ref (ad 24), .int (iI ac), .ref (ad 25), .ref (ad 26), .ref (ad 27), .ref (ad 28), .ref (ad 29), .ref (ad 30)])), zI g (ad 23) 647 N, zI g (ad 24) 5176 P, zI g (ad 25) 1294 IQ, zB g (ad 26) 2 KP, zI g (ad 27) 8 TU, zI g (ad 28) 80 PK, zI g (ad 29) 124 VO, zB g (ad 30) 124 RK] ++ IW) := hD
    refine lv_aload_n hx hb dL_law_293 rfl (lv_at hl 2 rfl) ?_
    refine lv_aload_n hx hb dL_law_294 rfl (lv_at hl 0 rfl) ?_
    refine lv_iload_n hx hb dL_law_295 rfl (lv_at hl 3 rfl) ?_
    refine lv_iconst (v := iI 1) hx hb dL_law_296 rfl ?_
    refine z_iadd hx hb dL_law_297 ?_
    refine z_sld hx hb hX hbl hbA hS (by omega) (by omega) hL hv1 dL_law_298 ?_
    refine lv_aload_n hx hb dL_law_299 rfl (lv_at hl 0 rfl) ?_
    refine lv_iload_n hx hb dL_law_300 rfl (lv_at hl 3 rfl) ?_
    refine lv_iconst (v := iI 2) hx hb dL_law_301 rfl ?_
    refine z_iadd hx hb dL_law_302 ?_
    refine z_sld hx hb hX hbl hbA hS (by omega) (by omega) hL hv2 dL_law_303 ?_
    refine lv_aload_n hx hb dL_law_304 rfl (lv_at hl 0 rfl) ?_
    refine lv_iload_n hx hb dL_law_305 rfl (lv_at hl 3 rfl) ?_
    refine lv_iconst (v := iI 3) hx hb dL_law_306 rfl ?_
    refine z_iadd hx hb dL_law_307 ?_
    refine z_sld hx hb hX hbl hbA hS (by omega) (by omega) hL hv3 dL_law_308 ?_
    refine z_cE (As := [.int (iI v1), .int (iI v2), .int (iI v3)]) (rest := [.int (iI (sumZ (fun x => bI (cl (zdiv (N (7 + 128 * v1 + x) * v2) v3) ≠ N (7 + 128 * v1 + x))) (N (2 + v1))))]) C (m_X6_louder (l := l) (g := g) (q := ad 22) (qn := ad 23) (qp := ad 24) (qi := ad 25) (qk := ad 26) (qt := ad 27) (qw := ad 28) (qv := ad 29) (qr := ad 30) (ac := ac) (N := N) (P := P) (pi_ := v1) (a_ := v2) (b_ := v3) (ac1 := by omega) (zN := zN) (b1 := by omega)) (cwV 3 C.2.2.2.2 gL_law_X6_louder rfl rfl rfl (by decide +kernel) ⟨Nat.le_of_ble_eq_true rfl, Nat.le_of_ble_eq_true rfl⟩) hK hP hD hS hA [22, 23, 24] (by decide) rfl (fun _ => rfl) 22 rfl rfl rfl hl.1 rfl (Nat.le_of_ble_eq_true rfl) dL_law_309 ⟨by show cells ≤ 600000; omega, by show slots ≤ 7302250; omega⟩ (fun r_6 u_4 H locs hq_5 hP hD hS => ?_)
    have hq_5 : r_6 = sumZ (fun x => bI (cl (zdiv (N (7 + 128 * v1 + x) * v2) v3) ≠ N (7 + 128 * v1 + x))) (N (2 + v1)) := hq_5
    subst hq_5
    have hP : zP g ([((ad 0), .inr (5, [.ref (ad 1), .ref (ad 4), .ref (ad 10), .ref (ad 11), .ref (ad 15), .ref (ad 19), .int (iI 0)])), ((ad 1), .inr (4, [.ref (ad 2), .ref (ad 3), .int (iI ((sp_loud N v1 v2 v3) 0)), .int (iI ((sp_loud N v1 v2 v3) 1))])), zI g (ad 2) 640 (fun x => (sp_loud N v1 v2 v3) (7 + x)), zI g (ad 3) 5 (fun x => (sp_loud N v1 v2 v3) (2 + x)), ((ad 4), .inr (2, [.ref (ad 5), .ref (ad 6), .ref (ad 7), .ref (ad 8), .ref (ad 9), .int (iI ((nx + 1) % 8)), .int (iI (min (ac + 1) 8))])), zI g (ad 5) 1024 (rmN NB (fun x => N (7 + x)) nx v1), zI g (ad 6) 8 (ups RR nx v1), zI g (ad 7) 8 (ups RS nx (N (2 + v1))), zI g (ad 8) 8 (ups RF nx (N 0)), zI g (ad 9) 8 (ups RE nx (N 1)), zQ g (ad 10) 2 IM, (ad 11, .inr (3, [.ref (ad 12), .ref (ad 13), .ref (ad 14)])), zI g (ad 12) 8 WA, zI g (ad 13) 80 FD, zI g (ad 14) 8 OF, (ad 15, .inr (1, [.ref (ad 16), .ref (ad 17), .ref (ad 18), .int (iI un)])), zI g (ad 16) 385 ST, zI g (ad 17) 384 FI, zI g (ad 18) 320 EN, (ad 19, .inr (0, [.ref (ad 20), .ref (ad 21), .int (iI rk), .int (iI he), .int (iI kn), .int (iI al)])), zI g (ad 20) 124 CE, zI g (ad 21) 124 OR, ((ad 22), .inr (6, [.ref (ad 23), .ref (ad 24), .int (iI (min (ac + 1) 8)), .ref (ad 25), .ref (ad 26), .ref (ad 27), .ref (ad 28), .ref (ad 29), .ref (ad 30)])), zI g (ad 23) 647 (sp_loud N v1 v2 v3), zI g (ad 24) 5176 (ntP P N ac), zI g (ad 25) 1294 IQ, zB g (ad 26) 2 KP, zI g (ad 27) 8 TU, zI g (ad 28) 80 PK, zI g (ad 29) 124 VO, zB g (ad 30) 124 RK] ++ IW) H := hP
    have hD : va_D A ([((ad 0), .inr (5, [.ref (ad 1), .ref (ad 4), .ref (ad 10), .ref (ad 11), .ref (ad 15), .ref (ad 19), .int (iI 0)])), ((ad 1), .inr (4, [.ref (ad 2), .ref (ad 3), .int (iI ((sp_loud N v1 v2 v3) 0)), .int (iI ((sp_loud N v1 v2 v3) 1))])), zI g (ad 2) 640 (fun x => (sp_loud N v1 v2 v3) (7 + x)), zI g (ad 3) 5 (fun x => (sp_loud N v1 v2 v3) (2 + x)), ((ad 4), .inr (2, [.ref (ad 5), .ref (ad 6), .ref (ad 7), .ref (ad 8), .ref (ad 9), .int (iI ((nx + 1) % 8)), .int (iI (min (ac + 1) 8))])), zI g (ad 5) 1024 (rmN NB (fun x => N (7 + x)) nx v1), zI g (ad 6) 8 (ups RR nx v1), zI g (ad 7) 8 (ups RS nx (N (2 + v1))), zI g (ad 8) 8 (ups RF nx (N 0)), zI g (ad 9) 8 (ups RE nx (N 1)), zQ g (ad 10) 2 IM, (ad 11, .inr (3, [.ref (ad 12), .ref (ad 13), .ref (ad 14)])), zI g (ad 12) 8 WA, zI g (ad 13) 80 FD, zI g (ad 14) 8 OF, (ad 15, .inr (1, [.ref (ad 16), .ref (ad 17), .ref (ad 18), .int (iI un)])), zI g (ad 16) 385 ST, zI g (ad 17) 384 FI, zI g (ad 18) 320 EN, (ad 19, .inr (0, [.ref (ad 20), .ref (ad 21), .int (iI rk), .int (iI he), .int (iI kn), .int (iI al)])), zI g (ad 20) 124 CE, zI g (ad 21) 124 OR, ((ad 22), .inr (6, [.ref (ad 23), .ref (ad 24), .int (iI (min (ac + 1) 8)), .ref (ad 25), .ref (ad 26), .ref (ad 27), .ref (ad 28), .ref (ad 29), .ref (ad 30)])), zI g (ad 23) 647 (sp_loud N v1 v2 v3), zI g (ad 24) 5176 (ntP P N ac), zI g (ad 25) 1294 IQ, zB g (ad 26) 2 KP, zI g (ad 27) 8 TU, zI g (ad 28) 80 PK, zI g (ad 29) 124 VO, zB g (ad 30) 124 RK] ++ IW) := hD
    refine z_eqS (tgt := 805) hx hb dL_law_312 (by decide) (rfl) ?_
    exact hgo H locs _ _ bud ls ⟨(sp_loud N v1 v2 v3), (ntP P N ac), IQ, KP, TU, PK, VO, RK, (rmN NB (fun x => N (7 + x)) nx v1), (ups RR nx v1), (ups RS nx (N (2 + v1))), (ups RF nx (N 0)), (ups RE nx (N 1)), WA, FD, OF, ST, FI, EN, CE, OR, (min (ac + 1) 8), ((nx + 1) % 8), 0, un, rk, he, kn, al, IM, IW, okN_loud zN (by omega) (by omega), PR_push hPR zN (by omega) (by omega) (chg_loud zN (by omega) (by omega)), Or.inl rfl, hIM, hP, hD, hS⟩ (by omega) (by omega) (lv_sub hl [0, 1, 2, 3] rfl)
  · refine lv_aload_n hx hb dL_law_274 rfl (lv_at hl 1 rfl) ?_
    refine lv_aload_n hx hb dL_law_275 rfl (lv_at hl 0 rfl) ?_
    refine lv_iload_n hx hb dL_law_276 rfl (lv_at hl 3 rfl) ?_
    refine lv_iconst (v := iI 1) hx hb dL_law_277 rfl ?_
    refine z_iadd hx hb dL_law_278 ?_
    refine z_sld hx hb hX hbl hbA hS (by omega) (by omega) hL hv1 dL_law_279 ?_
    refine lv_aload_n hx hb dL_law_280 rfl (lv_at hl 0 rfl) ?_
    refine lv_iload_n hx hb dL_law_281 rfl (lv_at hl 3 rfl) ?_
    refine lv_iconst (v := iI 2) hx hb dL_law_282 rfl ?_
    refine z_iadd hx hb dL_law_283 ?_
    refine z_sld hx hb hX hbl hbA hS (by omega) (by omega) hL hv2 dL_law_284 ?_
    refine lv_aload_n hx hb dL_law_285 rfl (lv_at hl 0 rfl) ?_
    refine lv_iload_n hx hb dL_law_286 rfl (lv_at hl 3 rfl) ?_
    refine lv_iconst (v := iI 3) hx hb dL_law_287 rfl ?_
    refine z_iadd hx hb dL_law_288 ?_
    refine z_sld hx hb hX hbl hbA hS (by omega) (by omega) hL hv3 dL_law_289 ?_
    refine z_cS (As := [.int (iI v1), .int (iI v2), .int (iI v3)]) (rest := []) C (m_X5_louder_n (l := l) (g := g) (o := ad 0) (h := ad 1) (b := ad 4) (im := ad 10) (a := ad 11) (d := ad 15) (bb := ad 19) (fr := fr) (hn := ad 2) (hs := ad 3) (N := N) (pi_ := v1) (a_ := v2) (b_ := v3) (zN := zN) (g_pi_ := by omega) (g_a_ := by omega) (g_b_ := by omega) (rf := hac)) (cwV 3 C.2.2.2.2 gL_law_X5_louder rfl rfl rfl (by decide +kernel) ⟨Nat.le_of_ble_eq_true rfl, Nat.le_of_ble_eq_true rfl⟩) hK hP [0, 1, 2, 3] rfl 0 rfl rfl rfl hl.1 rfl (Nat.le_of_ble_eq_true rfl) dL_law_290 ⟨by show cells ≤ 600000; omega, by show slots ≤ 7302250; omega⟩ ?_
    refine lv_aload_n hx hb dL_law_293 rfl (lv_at hl 2 rfl) ?_
    refine lv_aload_n hx hb dL_law_294 rfl (lv_at hl 0 rfl) ?_
    refine lv_iload_n hx hb dL_law_295 rfl (lv_at hl 3 rfl) ?_
    refine lv_iconst (v := iI 1) hx hb dL_law_296 rfl ?_
    refine z_iadd hx hb dL_law_297 ?_
    refine z_sld hx hb hX hbl hbA hS (by omega) (by omega) hL hv1 dL_law_298 ?_
    refine lv_aload_n hx hb dL_law_299 rfl (lv_at hl 0 rfl) ?_
    refine lv_iload_n hx hb dL_law_300 rfl (lv_at hl 3 rfl) ?_
    refine lv_iconst (v := iI 2) hx hb dL_law_301 rfl ?_
    refine z_iadd hx hb dL_law_302 ?_
    refine z_sld hx hb hX hbl hbA hS (by omega) (by omega) hL hv2 dL_law_303 ?_
    refine lv_aload_n hx hb dL_law_304 rfl (lv_at hl 0 rfl) ?_
    refine lv_iload_n hx hb dL_law_305 rfl (lv_at hl 3 rfl) ?_
    refine lv_iconst (v := iI 3) hx hb dL_law_306 rfl ?_
    refine z_iadd hx hb dL_law_307 ?_
    refine z_sld hx hb hX hbl hbA hS (by omega) (by omega) hL hv3 dL_law_308 ?_
    refine z_cS (As := [.int (iI v1), .int (iI v2), .int (iI v3)]) (rest := [.int (iI (if ¬ (0 ≤ v1 ∧ v1 ≤ 4) then -1000000001 else -1000000002))]) C (m_X6_louder_n (l := l) (g := g) (q := ad 22) (qn := ad 23) (qp := ad 24) (qi := ad 25) (qk := ad 26) (qt := ad 27) (qw := ad 28) (qv := ad 29) (qr := ad 30) (ac := ac) (N := N) (pi_ := v1) (a_ := v2) (b_ := v3) (zN := zN) (g_pi_ := by omega) (g_a_ := by omega) (g_b_ := by omega) (rf := hac)) (cwV 3 C.2.2.2.2 gL_law_X6_louder rfl rfl rfl (by decide +kernel) ⟨Nat.le_of_ble_eq_true rfl, Nat.le_of_ble_eq_true rfl⟩) hK hP [22, 23] rfl 22 rfl rfl rfl hl.1 rfl (Nat.le_of_ble_eq_true rfl) dL_law_309 ⟨by show cells ≤ 600000; omega, by show slots ≤ 7302250; omega⟩ ?_
    refine z_eqS (tgt := 805) hx hb dL_law_312 (by decide) (rfl) ?_
    exact hgo H locs _ _ bud ls ⟨N, P, IQ, KP, TU, PK, VO, RK, NB, RR, RS, RF, RE, WA, FD, OF, ST, FI, EN, CE, OR, ac, nx, fr, un, rk, he, kn, al, IM, IW, zN, hPR, hfr, hIM, hP, hD, hS⟩ (by omega) (by omega) (lv_sub hl [0, 1, 2, 3] rfl)
set_option maxHeartbeats 8000000 in
set_option maxRecDepth 100000 in
theorem op_hear {p : Program} {l : Launch} {e : Env} {s : State} {m : MethodId} {below : List Frame} {meth : Method} {c : Code} {Q : State → Prop} {A : Nat → Prop} {g : zG} {ad : Nat → Nat} {b0 L : Nat} {xs : Nat → Int32} {i_ : Int} (X : zX p s m c A g b0 L xs i_) (hgo : zL p l e s m below meth c Q A g ad b0 i_ 805) : zL p l e s m below meth c Q A g ad b0 i_ 317 := by
  obtain ⟨C, hX, hbl, hK, hO, hA, hbA, hi, hi2, hL⟩ := X
  have hx := C.1
  have hb := C.2.1
  intro H locs cells slots bud ls hI hcs hss hl
  obtain ⟨N, P, IQ, KP, TU, PK, VO, RK, NB, RR, RS, RF, RE, WA, FD, OF, ST, FI, EN, CE, OR, ac, nx, fr, un, rk, he, kn, al, IM, IW, zN, hPR, hfr, hIM, hP, hD, hS⟩ := hI
  have hPb := hPR.2.1
  have hPc := hPR.2.2.1
  have hPn := hPR.2.2.2.1
  have hPm := hPR.2.2.2.2.1
  obtain ⟨v1, hv1⟩ : ∃ v, v = sx xs (i_ + 1) := ⟨_, rfl⟩
  have g_v1 := sx_rg xs (i_ + 1)
  rw [← hv1] at g_v1
  obtain ⟨v2, hv2⟩ : ∃ v, v = sx xs (i_ + 2) := ⟨_, rfl⟩
  have g_v2 := sx_rg xs (i_ + 2)
  rw [← hv2] at g_v2
  obtain ⟨v3, hv3⟩ : ∃ v, v = sx xs (i_ + 3) := ⟨_, rfl⟩
  have g_v3 := sx_rg xs (i_ + 3)
  rw [← hv3] at g_v3
  by_cases hac : (0 ≤ v1 ∧ v1 ≤ 3) ∧ (0 ≤ v2 ∧ v2 ≤ 127) ∧ (1 ≤ v3 ∧ v3 ≤ 128) ∧ v2 < N (2 + v1)
  · refine lv_aload_n hx hb dL_law_317 rfl (lv_at hl 1 rfl) ?_
    refine lv_aload_n hx hb dL_law_318 rfl (lv_at hl 0 rfl) ?_
    refine lv_iload_n hx hb dL_law_319 rfl (lv_at hl 3 rfl) ?_
    refine lv_iconst (v := iI 1) hx hb dL_law_320 rfl ?_
    refine z_iadd hx hb dL_law_321 ?_
    refine z_sld hx hb hX hbl hbA hS (by omega) (by omega) hL hv1 dL_law_322 ?_
    refine lv_aload_n hx hb dL_law_323 rfl (lv_at hl 0 rfl) ?_
    refine lv_iload_n hx hb dL_law_324 rfl (lv_at hl 3 rfl) ?_
    refine lv_iconst (v := iI 2) hx hb dL_law_325 rfl ?_
    refine z_iadd hx hb dL_law_326 ?_
    refine z_sld hx hb hX hbl hbA hS (by omega) (by omega) hL hv2 dL_law_327 ?_
    refine lv_aload_n hx hb dL_law_328 rfl (lv_at hl 0 rfl) ?_
    refine lv_iload_n hx hb dL_law_329 rfl (lv_at hl 3 rfl) ?_
    refine lv_iconst (v := iI 3) hx hb dL_law_330 rfl ?_
    refine z_iadd hx hb dL_law_331 ?_
    refine z_sld hx hb hX hbl hbA hS (by omega) (by omega) hL hv3 dL_law_332 ?_
    refine z_cE (As := [.int (iI v1), .int (iI v2), .int (iI v3)]) (rest := []) C (m_X5_hear (l := l) (g := g) (o := ad 0) (h := ad 1) (b := ad 4) (im := ad 10) (a := ad 11) (d := ad 15) (bb := ad 19) (fr := fr) (hn := ad 2) (hs := ad 3) (N := N) (bn := ad 5) (br := ad 6) (bs := ad 7) (bf := ad 8) (be := ad 9) (nx := nx) (dp := ac) (NB := NB) (RR := RR) (RS := RS) (RF := RF) (RE := RE) (pi_ := v1) (f_ := v2) (n_ := v3) (p1 := by omega) (p2 := by omega) (p3 := by omega) (p4 := by omega) (zN := zN) (a1 := by omega)) (cwV 3 C.2.2.2.2 gL_law_X5_hear rfl rfl rfl (by decide +kernel) ⟨Nat.le_of_ble_eq_true rfl, Nat.le_of_ble_eq_true rfl⟩) hK hP hD hS hA [0, 1, 2, 3, 4, 5, 6, 7, 8, 9] (by decide) rfl (fun _ => rfl) 0 rfl rfl rfl hl.1 rfl (Nat.le_of_ble_eq_true rfl) dL_law_333 ⟨by show cells ≤ 600000; omega, by show slots ≤ 7302250; omega⟩ (fun r_3 u_1 H locs hq_2 hP hD hS => ?_)
    have hq_2 : r_3 = min v3 (N (2 + v1) - v2) := hq_2
    subst hq_2
    have hP : zP g ([((ad 0), .inr (5, [.ref (ad 1), .ref (ad 4), .ref (ad 10), .ref (ad 11), .ref (ad 15), .ref (ad 19), .int (iI 0)])), ((ad 1), .inr (4, [.ref (ad 2), .ref (ad 3), .int (iI ((sp_hear N v1 v2 (min v3 (N (2 + v1) - v2))) 0)), .int (iI ((sp_hear N v1 v2 (min v3 (N (2 + v1) - v2))) 1))])), zI g (ad 2) 640 (fun x => (sp_hear N v1 v2 (min v3 (N (2 + v1) - v2))) (7 + x)), zI g (ad 3) 5 (fun x => (sp_hear N v1 v2 (min v3 (N (2 + v1) - v2))) (2 + x)), ((ad 4), .inr (2, [.ref (ad 5), .ref (ad 6), .ref (ad 7), .ref (ad 8), .ref (ad 9), .int (iI ((nx + 1) % 8)), .int (iI (min (ac + 1) 8))])), zI g (ad 5) 1024 (rmN NB (fun x => N (7 + x)) nx 4), zI g (ad 6) 8 (ups RR nx 4), zI g (ad 7) 8 (ups RS nx (N (2 + 4))), zI g (ad 8) 8 (ups RF nx (N 0)), zI g (ad 9) 8 (ups RE nx (N 1)), zQ g (ad 10) 2 IM, (ad 11, .inr (3, [.ref (ad 12), .ref (ad 13), .ref (ad 14)])), zI g (ad 12) 8 WA, zI g (ad 13) 80 FD, zI g (ad 14) 8 OF, (ad 15, .inr (1, [.ref (ad 16), .ref (ad 17), .ref (ad 18), .int (iI un)])), zI g (ad 16) 385 ST, zI g (ad 17) 384 FI, zI g (ad 18) 320 EN, (ad 19, .inr (0, [.ref (ad 20), .ref (ad 21), .int (iI rk), .int (iI he), .int (iI kn), .int (iI al)])), zI g (ad 20) 124 CE, zI g (ad 21) 124 OR, (ad 22, .inr (6, [.ref (ad 23), .ref (ad 24), .int (iI ac), .ref (ad 25), .ref (ad 26), .ref (ad 27), .ref (ad 28), .ref (ad 29), .ref (ad 30)])), zI g (ad 23) 647 N, zI g (ad 24) 5176 P, zI g (ad 25) 1294 IQ, zB g (ad 26) 2 KP, zI g (ad 27) 8 TU, zI g (ad 28) 80 PK, zI g (ad 29) 124 VO, zB g (ad 30) 124 RK] ++ IW) H := hP
    have hD : va_D A ([((ad 0), .inr (5, [.ref (ad 1), .ref (ad 4), .ref (ad 10), .ref (ad 11), .ref (ad 15), .ref (ad 19), .int (iI 0)])), ((ad 1), .inr (4, [.ref (ad 2), .ref (ad 3), .int (iI ((sp_hear N v1 v2 (min v3 (N (2 + v1) - v2))) 0)), .int (iI ((sp_hear N v1 v2 (min v3 (N (2 + v1) - v2))) 1))])), zI g (ad 2) 640 (fun x => (sp_hear N v1 v2 (min v3 (N (2 + v1) - v2))) (7 + x)), zI g (ad 3) 5 (fun x => (sp_hear N v1 v2 (min v3 (N (2 + v1) - v2))) (2 + x)), ((ad 4), .inr (2, [.ref (ad 5), .ref (ad 6), .ref (ad 7), .ref (ad 8), .ref (ad 9), .int (iI ((nx + 1) % 8)), .int (iI (min (ac + 1) 8))])), zI g (ad 5) 1024 (rmN NB (fun x => N (7 + x)) nx 4), zI g (ad 6) 8 (ups RR nx 4), zI g (ad 7) 8 (ups RS nx (N (2 + 4))), zI g (ad 8) 8 (ups RF nx (N 0)), zI g (ad 9) 8 (ups RE nx (N 1)), zQ g (ad 10) 2 IM, (ad 11, .inr (3, [.ref (ad 12), .ref (ad 13), .ref (ad 14)])), zI g (ad 12) 8 WA, zI g (ad 13) 80 FD, zI g (ad 14) 8 OF, (ad 15, .inr (1, [.ref (ad 16), .ref (ad 17), .ref (ad 18), .int (iI un)])), zI g (ad 16) 385 ST, zI g (ad 17) 384 FI, zI g (ad 18) 320 EN, (ad 19, .inr (0, [.ref (ad 20), .ref (ad 21), .int (iI rk), .int (iI he), .int (iI kn), .int (iI al)])), zI g (ad 20) 124 CE, zI g (ad 21) 124 OR, (ad 22, .inr (6, [.ref (ad 23), .ref (ad 24), .int (iI ac), .ref (ad 25), .ref (ad 26), .ref (ad 27), .ref (ad 28), .ref (ad 29), .ref (ad 30)])), zI g (ad 23) 647 N, zI g (ad 24) 5176 P, zI g (ad 25) 1294 IQ, zB g (ad 26) 2 KP, zI g (ad 27) 8 TU, zI g (ad 28) 80 PK, zI g (ad 29) 124 VO, zB g (ad 30) 124 RK] ++ IW) := hD
    refine lv_aload_n hx hb dL_law_336 rfl (lv_at hl 2 rfl) ?_
    refine lv_aload_n hx hb dL_law_337 rfl (lv_at hl 0 rfl) ?_
    refine lv_iload_n hx hb dL_law_338 rfl (lv_at hl 3 rfl) ?_
    refine lv_iconst (v := iI 1) hx hb dL_law_339 rfl ?_
    refine z_iadd hx hb dL_law_340 ?_
    refine z_sld hx hb hX hbl hbA hS (by omega) (by omega) hL hv1 dL_law_341 ?_
    refine lv_aload_n hx hb dL_law_342 rfl (lv_at hl 0 rfl) ?_
    refine lv_iload_n hx hb dL_law_343 rfl (lv_at hl 3 rfl) ?_
    refine lv_iconst (v := iI 2) hx hb dL_law_344 rfl ?_
    refine z_iadd hx hb dL_law_345 ?_
    refine z_sld hx hb hX hbl hbA hS (by omega) (by omega) hL hv2 dL_law_346 ?_
    refine lv_aload_n hx hb dL_law_347 rfl (lv_at hl 0 rfl) ?_
    refine lv_iload_n hx hb dL_law_348 rfl (lv_at hl 3 rfl) ?_
    refine lv_iconst (v := iI 3) hx hb dL_law_349 rfl ?_
    refine z_iadd hx hb dL_law_350 ?_
    refine z_sld hx hb hX hbl hbA hS (by omega) (by omega) hL hv3 dL_law_351 ?_
    refine z_cE (As := [.int (iI v1), .int (iI v2), .int (iI v3)]) (rest := [.int (iI (min v3 (N (2 + v1) - v2)))]) C (m_X6_hear (l := l) (g := g) (q := ad 22) (qn := ad 23) (qp := ad 24) (qi := ad 25) (qk := ad 26) (qt := ad 27) (qw := ad 28) (qv := ad 29) (qr := ad 30) (ac := ac) (N := N) (P := P) (pi_ := v1) (f_ := v2) (n_ := v3) (ac1 := by omega) (zN := zN) (b1 := by omega)) (cwV 3 C.2.2.2.2 gL_law_X6_hear rfl rfl rfl (by decide +kernel) ⟨Nat.le_of_ble_eq_true rfl, Nat.le_of_ble_eq_true rfl⟩) hK hP hD hS hA [22, 23, 24] (by decide) rfl (fun _ => rfl) 22 rfl rfl rfl hl.1 rfl (Nat.le_of_ble_eq_true rfl) dL_law_352 ⟨by show cells ≤ 600000; omega, by show slots ≤ 7302250; omega⟩ (fun r_6 u_4 H locs hq_5 hP hD hS => ?_)
    have hq_5 : r_6 = min v3 (N (2 + v1) - v2) := hq_5
    subst hq_5
    have hP : zP g ([((ad 0), .inr (5, [.ref (ad 1), .ref (ad 4), .ref (ad 10), .ref (ad 11), .ref (ad 15), .ref (ad 19), .int (iI 0)])), ((ad 1), .inr (4, [.ref (ad 2), .ref (ad 3), .int (iI ((sp_hear N v1 v2 (min v3 (N (2 + v1) - v2))) 0)), .int (iI ((sp_hear N v1 v2 (min v3 (N (2 + v1) - v2))) 1))])), zI g (ad 2) 640 (fun x => (sp_hear N v1 v2 (min v3 (N (2 + v1) - v2))) (7 + x)), zI g (ad 3) 5 (fun x => (sp_hear N v1 v2 (min v3 (N (2 + v1) - v2))) (2 + x)), ((ad 4), .inr (2, [.ref (ad 5), .ref (ad 6), .ref (ad 7), .ref (ad 8), .ref (ad 9), .int (iI ((nx + 1) % 8)), .int (iI (min (ac + 1) 8))])), zI g (ad 5) 1024 (rmN NB (fun x => N (7 + x)) nx 4), zI g (ad 6) 8 (ups RR nx 4), zI g (ad 7) 8 (ups RS nx (N (2 + 4))), zI g (ad 8) 8 (ups RF nx (N 0)), zI g (ad 9) 8 (ups RE nx (N 1)), zQ g (ad 10) 2 IM, (ad 11, .inr (3, [.ref (ad 12), .ref (ad 13), .ref (ad 14)])), zI g (ad 12) 8 WA, zI g (ad 13) 80 FD, zI g (ad 14) 8 OF, (ad 15, .inr (1, [.ref (ad 16), .ref (ad 17), .ref (ad 18), .int (iI un)])), zI g (ad 16) 385 ST, zI g (ad 17) 384 FI, zI g (ad 18) 320 EN, (ad 19, .inr (0, [.ref (ad 20), .ref (ad 21), .int (iI rk), .int (iI he), .int (iI kn), .int (iI al)])), zI g (ad 20) 124 CE, zI g (ad 21) 124 OR, ((ad 22), .inr (6, [.ref (ad 23), .ref (ad 24), .int (iI (min (ac + 1) 8)), .ref (ad 25), .ref (ad 26), .ref (ad 27), .ref (ad 28), .ref (ad 29), .ref (ad 30)])), zI g (ad 23) 647 (sp_hear N v1 v2 (min v3 (N (2 + v1) - v2))), zI g (ad 24) 5176 (ntP P N ac), zI g (ad 25) 1294 IQ, zB g (ad 26) 2 KP, zI g (ad 27) 8 TU, zI g (ad 28) 80 PK, zI g (ad 29) 124 VO, zB g (ad 30) 124 RK] ++ IW) H := hP
    have hD : va_D A ([((ad 0), .inr (5, [.ref (ad 1), .ref (ad 4), .ref (ad 10), .ref (ad 11), .ref (ad 15), .ref (ad 19), .int (iI 0)])), ((ad 1), .inr (4, [.ref (ad 2), .ref (ad 3), .int (iI ((sp_hear N v1 v2 (min v3 (N (2 + v1) - v2))) 0)), .int (iI ((sp_hear N v1 v2 (min v3 (N (2 + v1) - v2))) 1))])), zI g (ad 2) 640 (fun x => (sp_hear N v1 v2 (min v3 (N (2 + v1) - v2))) (7 + x)), zI g (ad 3) 5 (fun x => (sp_hear N v1 v2 (min v3 (N (2 + v1) - v2))) (2 + x)), ((ad 4), .inr (2, [.ref (ad 5), .ref (ad 6), .ref (ad 7), .ref (ad 8), .ref (ad 9), .int (iI ((nx + 1) % 8)), .int (iI (min (ac + 1) 8))])), zI g (ad 5) 1024 (rmN NB (fun x => N (7 + x)) nx 4), zI g (ad 6) 8 (ups RR nx 4), zI g (ad 7) 8 (ups RS nx (N (2 + 4))), zI g (ad 8) 8 (ups RF nx (N 0)), zI g (ad 9) 8 (ups RE nx (N 1)), zQ g (ad 10) 2 IM, (ad 11, .inr (3, [.ref (ad 12), .ref (ad 13), .ref (ad 14)])), zI g (ad 12) 8 WA, zI g (ad 13) 80 FD, zI g (ad 14) 8 OF, (ad 15, .inr (1, [.ref (ad 16), .ref (ad 17), .ref (ad 18), .int (iI un)])), zI g (ad 16) 385 ST, zI g (ad 17) 384 FI, zI g (ad 18) 320 EN, (ad 19, .inr (0, [.ref (ad 20), .ref (ad 21), .int (iI rk), .int (iI he), .int (iI kn), .int (iI al)])), zI g (ad 20) 124 CE, zI g (ad 21) 124 OR, ((ad 22), .inr (6, [.ref (ad 23), .ref (ad 24), .int (iI (min (ac + 1) 8)), .ref (ad 25), .ref (ad 26), .ref (ad 27), .ref (ad 28), .ref (ad 29), .ref (ad 30)])), zI g (ad 23) 647 (sp_hear N v1 v2 (min v3 (N (2 + v1) - v2))), zI g (ad 24) 5176 (ntP P N ac), zI g (ad 25) 1294 IQ, zB g (ad 26) 2 KP, zI g (ad 27) 8 TU, zI g (ad 28) 80 PK, zI g (ad 29) 124 VO, zB g (ad 30) 124 RK] ++ IW) := hD
    refine z_eqS (tgt := 805) hx hb dL_law_355 (by decide) (rfl) ?_
    exact hgo H locs _ _ bud ls ⟨(sp_hear N v1 v2 (min v3 (N (2 + v1) - v2))), (ntP P N ac), IQ, KP, TU, PK, VO, RK, (rmN NB (fun x => N (7 + x)) nx 4), (ups RR nx 4), (ups RS nx (N (2 + 4))), (ups RF nx (N 0)), (ups RE nx (N 1)), WA, FD, OF, ST, FI, EN, CE, OR, (min (ac + 1) 8), ((nx + 1) % 8), 0, un, rk, he, kn, al, IM, IW, okN_hear zN (by omega) (by omega) (by omega) (by omega) (by omega) (by have hz1 := zN.2.2.1 v1 (by omega) (by omega); omega), PR_push hPR zN (by omega) (by omega) (chg_hear (by omega)), Or.inl rfl, hIM, hP, hD, hS⟩ (by omega) (by omega) (lv_sub hl [0, 1, 2, 3] rfl)
  · refine lv_aload_n hx hb dL_law_317 rfl (lv_at hl 1 rfl) ?_
    refine lv_aload_n hx hb dL_law_318 rfl (lv_at hl 0 rfl) ?_
    refine lv_iload_n hx hb dL_law_319 rfl (lv_at hl 3 rfl) ?_
    refine lv_iconst (v := iI 1) hx hb dL_law_320 rfl ?_
    refine z_iadd hx hb dL_law_321 ?_
    refine z_sld hx hb hX hbl hbA hS (by omega) (by omega) hL hv1 dL_law_322 ?_
    refine lv_aload_n hx hb dL_law_323 rfl (lv_at hl 0 rfl) ?_
    refine lv_iload_n hx hb dL_law_324 rfl (lv_at hl 3 rfl) ?_
    refine lv_iconst (v := iI 2) hx hb dL_law_325 rfl ?_
    refine z_iadd hx hb dL_law_326 ?_
    refine z_sld hx hb hX hbl hbA hS (by omega) (by omega) hL hv2 dL_law_327 ?_
    refine lv_aload_n hx hb dL_law_328 rfl (lv_at hl 0 rfl) ?_
    refine lv_iload_n hx hb dL_law_329 rfl (lv_at hl 3 rfl) ?_
    refine lv_iconst (v := iI 3) hx hb dL_law_330 rfl ?_
    refine z_iadd hx hb dL_law_331 ?_
    refine z_sld hx hb hX hbl hbA hS (by omega) (by omega) hL hv3 dL_law_332 ?_
    refine z_cS (As := [.int (iI v1), .int (iI v2), .int (iI v3)]) (rest := []) C (m_X5_hear_n (l := l) (g := g) (o := ad 0) (h := ad 1) (b := ad 4) (im := ad 10) (a := ad 11) (d := ad 15) (bb := ad 19) (fr := fr) (hn := ad 2) (hs := ad 3) (N := N) (pi_ := v1) (f_ := v2) (n_ := v3) (zN := zN) (g_pi_ := by omega) (g_f_ := by omega) (g_n_ := by omega) (rf := hac)) (cwV 3 C.2.2.2.2 gL_law_X5_hear rfl rfl rfl (by decide +kernel) ⟨Nat.le_of_ble_eq_true rfl, Nat.le_of_ble_eq_true rfl⟩) hK hP [0, 1, 2, 3] rfl 0 rfl rfl rfl hl.1 rfl (Nat.le_of_ble_eq_true rfl) dL_law_333 ⟨by show cells ≤ 600000; omega, by show slots ≤ 7302250; omega⟩ ?_
    refine lv_aload_n hx hb dL_law_336 rfl (lv_at hl 2 rfl) ?_
    refine lv_aload_n hx hb dL_law_337 rfl (lv_at hl 0 rfl) ?_
    refine lv_iload_n hx hb dL_law_338 rfl (lv_at hl 3 rfl) ?_
    refine lv_iconst (v := iI 1) hx hb dL_law_339 rfl ?_
    refine z_iadd hx hb dL_law_340 ?_
    refine z_sld hx hb hX hbl hbA hS (by omega) (by omega) hL hv1 dL_law_341 ?_
    refine lv_aload_n hx hb dL_law_342 rfl (lv_at hl 0 rfl) ?_
    refine lv_iload_n hx hb dL_law_343 rfl (lv_at hl 3 rfl) ?_
    refine lv_iconst (v := iI 2) hx hb dL_law_344 rfl ?_
    refine z_iadd hx hb dL_law_345 ?_
    refine z_sld hx hb hX hbl hbA hS (by omega) (by omega) hL hv2 dL_law_346 ?_
    refine lv_aload_n hx hb dL_law_347 rfl (lv_at hl 0 rfl) ?_
    refine lv_iload_n hx hb dL_law_348 rfl (lv_at hl 3 rfl) ?_
    refine lv_iconst (v := iI 3) hx hb dL_law_349 rfl ?_
    refine z_iadd hx hb dL_law_350 ?_
    refine z_sld hx hb hX hbl hbA hS (by omega) (by omega) hL hv3 dL_law_351 ?_
    refine z_cS (As := [.int (iI v1), .int (iI v2), .int (iI v3)]) (rest := [.int (iI (if ¬ (0 ≤ v1 ∧ v1 ≤ 3) then -1000000001 else if ¬ ((0 ≤ v2 ∧ v2 ≤ 127) ∧ (1 ≤ v3 ∧ v3 ≤ 128)) then -1000000002 else -1000000003))]) C (m_X6_hear_n (l := l) (g := g) (q := ad 22) (qn := ad 23) (qp := ad 24) (qi := ad 25) (qk := ad 26) (qt := ad 27) (qw := ad 28) (qv := ad 29) (qr := ad 30) (ac := ac) (N := N) (pi_ := v1) (f_ := v2) (n_ := v3) (zN := zN) (g_pi_ := by omega) (g_f_ := by omega) (g_n_ := by omega) (rf := hac)) (cwV 3 C.2.2.2.2 gL_law_X6_hear rfl rfl rfl (by decide +kernel) ⟨Nat.le_of_ble_eq_true rfl, Nat.le_of_ble_eq_true rfl⟩) hK hP [22, 23] rfl 22 rfl rfl rfl hl.1 rfl (Nat.le_of_ble_eq_true rfl) dL_law_352 ⟨by show cells ≤ 600000; omega, by show slots ≤ 7302250; omega⟩ ?_
    refine z_eqS (tgt := 805) hx hb dL_law_355 (by decide) (rfl) ?_
    exact hgo H locs _ _ bud ls ⟨N, P, IQ, KP, TU, PK, VO, RK, NB, RR, RS, RF, RE, WA, FD, OF, ST, FI, EN, CE, OR, ac, nx, fr, un, rk, he, kn, al, IM, IW, zN, hPR, hfr, hIM, hP, hD, hS⟩ (by omega) (by omega) (lv_sub hl [0, 1, 2, 3] rfl)
set_option maxHeartbeats 8000000 in
set_option maxRecDepth 100000 in
theorem op_bound {p : Program} {l : Launch} {e : Env} {s : State} {m : MethodId} {below : List Frame} {meth : Method} {c : Code} {Q : State → Prop} {A : Nat → Prop} {g : zG} {ad : Nat → Nat} {b0 L : Nat} {xs : Nat → Int32} {i_ : Int} (X : zX p s m c A g b0 L xs i_) (hgo : zL p l e s m below meth c Q A g ad b0 i_ 805) : zL p l e s m below meth c Q A g ad b0 i_ 360 := by
  obtain ⟨C, hX, hbl, hK, hO, hA, hbA, hi, hi2, hL⟩ := X
  have hx := C.1
  have hb := C.2.1
  intro H locs cells slots bud ls hI hcs hss hl
  obtain ⟨N, P, IQ, KP, TU, PK, VO, RK, NB, RR, RS, RF, RE, WA, FD, OF, ST, FI, EN, CE, OR, ac, nx, fr, un, rk, he, kn, al, IM, IW, zN, hPR, hfr, hIM, hP, hD, hS⟩ := hI
  have hPb := hPR.2.1
  have hPc := hPR.2.2.1
  have hPn := hPR.2.2.2.1
  have hPm := hPR.2.2.2.2.1
  obtain ⟨v1, hv1⟩ : ∃ v, v = sx xs (i_ + 1) := ⟨_, rfl⟩
  have g_v1 := sx_rg xs (i_ + 1)
  rw [← hv1] at g_v1
  obtain ⟨v2, hv2⟩ : ∃ v, v = sx xs (i_ + 2) := ⟨_, rfl⟩
  have g_v2 := sx_rg xs (i_ + 2)
  rw [← hv2] at g_v2
  by_cases hac : (v1 = 0 ∧ 0 ≤ v2 ∧ v2 ≤ 99999) ∨ (v1 = 1 ∧ 1 ≤ v2 ∧ v2 ≤ 5)
  · refine lv_aload_n hx hb dL_law_360 rfl (lv_at hl 1 rfl) ?_
    refine lv_aload_n hx hb dL_law_361 rfl (lv_at hl 0 rfl) ?_
    refine lv_iload_n hx hb dL_law_362 rfl (lv_at hl 3 rfl) ?_
    refine lv_iconst (v := iI 1) hx hb dL_law_363 rfl ?_
    refine z_iadd hx hb dL_law_364 ?_
    refine z_sld hx hb hX hbl hbA hS (by omega) (by omega) hL hv1 dL_law_365 ?_
    refine lv_aload_n hx hb dL_law_366 rfl (lv_at hl 0 rfl) ?_
    refine lv_iload_n hx hb dL_law_367 rfl (lv_at hl 3 rfl) ?_
    refine lv_iconst (v := iI 2) hx hb dL_law_368 rfl ?_
    refine z_iadd hx hb dL_law_369 ?_
    refine z_sld hx hb hX hbl hbA hS (by omega) (by omega) hL hv2 dL_law_370 ?_
    refine z_cE (As := [.int (iI v1), .int (iI v2)]) (rest := []) C (m_X5_bound (l := l) (g := g) (o := ad 0) (h := ad 1) (b := ad 4) (im := ad 10) (a := ad 11) (d := ad 15) (bb := ad 19) (fr := fr) (hn := ad 2) (hs := ad 3) (N := N) (bn := ad 5) (br := ad 6) (bs := ad 7) (bf := ad 8) (be := ad 9) (nx := nx) (dp := ac) (NB := NB) (RR := RR) (RS := RS) (RF := RF) (RE := RE) (wh := v1) (v := v2) (p1 := by omega) (p2 := by omega) (p3 := by omega) (p4 := by omega) (g_wh := by omega) (g_v := by omega) (a1 := by omega)) (cwV 2 C.2.2.2.2 gL_law_X5_bound rfl rfl rfl (by decide +kernel) ⟨Nat.le_of_ble_eq_true rfl, Nat.le_of_ble_eq_true rfl⟩) hK hP hD hS hA [0, 1, 2, 3, 4, 5, 6, 7, 8, 9] (by decide) rfl (fun _ => rfl) 0 rfl rfl rfl hl.1 rfl (Nat.le_of_ble_eq_true rfl) dL_law_371 ⟨by show cells ≤ 600000; omega, by show slots ≤ 7302250; omega⟩ (fun r_3 u_1 H locs hq_2 hP hD hS => ?_)
    have hq_2 : r_3 = N v1 := hq_2
    subst hq_2
    have hP : zP g ([((ad 0), .inr (5, [.ref (ad 1), .ref (ad 4), .ref (ad 10), .ref (ad 11), .ref (ad 15), .ref (ad 19), .int (iI 0)])), ((ad 1), .inr (4, [.ref (ad 2), .ref (ad 3), .int (iI ((ups N v1 v2) 0)), .int (iI ((ups N v1 v2) 1))])), zI g (ad 2) 640 (fun x => (ups N v1 v2) (7 + x)), zI g (ad 3) 5 (fun x => (ups N v1 v2) (2 + x)), ((ad 4), .inr (2, [.ref (ad 5), .ref (ad 6), .ref (ad 7), .ref (ad 8), .ref (ad 9), .int (iI ((nx + 1) % 8)), .int (iI (min (ac + 1) 8))])), zI g (ad 5) 1024 (rmN NB (fun x => N (7 + x)) nx 4), zI g (ad 6) 8 (ups RR nx 4), zI g (ad 7) 8 (ups RS nx (N (2 + 4))), zI g (ad 8) 8 (ups RF nx (N 0)), zI g (ad 9) 8 (ups RE nx (N 1)), zQ g (ad 10) 2 IM, (ad 11, .inr (3, [.ref (ad 12), .ref (ad 13), .ref (ad 14)])), zI g (ad 12) 8 WA, zI g (ad 13) 80 FD, zI g (ad 14) 8 OF, (ad 15, .inr (1, [.ref (ad 16), .ref (ad 17), .ref (ad 18), .int (iI un)])), zI g (ad 16) 385 ST, zI g (ad 17) 384 FI, zI g (ad 18) 320 EN, (ad 19, .inr (0, [.ref (ad 20), .ref (ad 21), .int (iI rk), .int (iI he), .int (iI kn), .int (iI al)])), zI g (ad 20) 124 CE, zI g (ad 21) 124 OR, (ad 22, .inr (6, [.ref (ad 23), .ref (ad 24), .int (iI ac), .ref (ad 25), .ref (ad 26), .ref (ad 27), .ref (ad 28), .ref (ad 29), .ref (ad 30)])), zI g (ad 23) 647 N, zI g (ad 24) 5176 P, zI g (ad 25) 1294 IQ, zB g (ad 26) 2 KP, zI g (ad 27) 8 TU, zI g (ad 28) 80 PK, zI g (ad 29) 124 VO, zB g (ad 30) 124 RK] ++ IW) H := hP
    have hD : va_D A ([((ad 0), .inr (5, [.ref (ad 1), .ref (ad 4), .ref (ad 10), .ref (ad 11), .ref (ad 15), .ref (ad 19), .int (iI 0)])), ((ad 1), .inr (4, [.ref (ad 2), .ref (ad 3), .int (iI ((ups N v1 v2) 0)), .int (iI ((ups N v1 v2) 1))])), zI g (ad 2) 640 (fun x => (ups N v1 v2) (7 + x)), zI g (ad 3) 5 (fun x => (ups N v1 v2) (2 + x)), ((ad 4), .inr (2, [.ref (ad 5), .ref (ad 6), .ref (ad 7), .ref (ad 8), .ref (ad 9), .int (iI ((nx + 1) % 8)), .int (iI (min (ac + 1) 8))])), zI g (ad 5) 1024 (rmN NB (fun x => N (7 + x)) nx 4), zI g (ad 6) 8 (ups RR nx 4), zI g (ad 7) 8 (ups RS nx (N (2 + 4))), zI g (ad 8) 8 (ups RF nx (N 0)), zI g (ad 9) 8 (ups RE nx (N 1)), zQ g (ad 10) 2 IM, (ad 11, .inr (3, [.ref (ad 12), .ref (ad 13), .ref (ad 14)])), zI g (ad 12) 8 WA, zI g (ad 13) 80 FD, zI g (ad 14) 8 OF, (ad 15, .inr (1, [.ref (ad 16), .ref (ad 17), .ref (ad 18), .int (iI un)])), zI g (ad 16) 385 ST, zI g (ad 17) 384 FI, zI g (ad 18) 320 EN, (ad 19, .inr (0, [.ref (ad 20), .ref (ad 21), .int (iI rk), .int (iI he), .int (iI kn), .int (iI al)])), zI g (ad 20) 124 CE, zI g (ad 21) 124 OR, (ad 22, .inr (6, [.ref (ad 23), .ref (ad 24), .int (iI ac), .ref (ad 25), .ref (ad 26), .ref (ad 27), .ref (ad 28), .ref (ad 29), .ref (ad 30)])), zI g (ad 23) 647 N, zI g (ad 24) 5176 P, zI g (ad 25) 1294 IQ, zB g (ad 26) 2 KP, zI g (ad 27) 8 TU, zI g (ad 28) 80 PK, zI g (ad 29) 124 VO, zB g (ad 30) 124 RK] ++ IW) := hD
    refine lv_aload_n hx hb dL_law_374 rfl (lv_at hl 2 rfl) ?_
    refine lv_aload_n hx hb dL_law_375 rfl (lv_at hl 0 rfl) ?_
    refine lv_iload_n hx hb dL_law_376 rfl (lv_at hl 3 rfl) ?_
    refine lv_iconst (v := iI 1) hx hb dL_law_377 rfl ?_
    refine z_iadd hx hb dL_law_378 ?_
    refine z_sld hx hb hX hbl hbA hS (by omega) (by omega) hL hv1 dL_law_379 ?_
    refine lv_aload_n hx hb dL_law_380 rfl (lv_at hl 0 rfl) ?_
    refine lv_iload_n hx hb dL_law_381 rfl (lv_at hl 3 rfl) ?_
    refine lv_iconst (v := iI 2) hx hb dL_law_382 rfl ?_
    refine z_iadd hx hb dL_law_383 ?_
    refine z_sld hx hb hX hbl hbA hS (by omega) (by omega) hL hv2 dL_law_384 ?_
    refine z_cE (As := [.int (iI v1), .int (iI v2)]) (rest := [.int (iI (N v1))]) C (m_X6_bound (l := l) (g := g) (q := ad 22) (qn := ad 23) (qp := ad 24) (qi := ad 25) (qk := ad 26) (qt := ad 27) (qw := ad 28) (qv := ad 29) (qr := ad 30) (ac := ac) (N := N) (P := P) (wh := v1) (v := v2) (ac1 := by omega) (zN := zN) (g_wh := by omega) (g_v := by omega) (b1 := by omega)) (cwV 2 C.2.2.2.2 gL_law_X6_bound rfl rfl rfl (by decide +kernel) ⟨Nat.le_of_ble_eq_true rfl, Nat.le_of_ble_eq_true rfl⟩) hK hP hD hS hA [22, 23, 24] (by decide) rfl (fun _ => rfl) 22 rfl rfl rfl hl.1 rfl (Nat.le_of_ble_eq_true rfl) dL_law_385 ⟨by show cells ≤ 600000; omega, by show slots ≤ 7302250; omega⟩ (fun r_6 u_4 H locs hq_5 hP hD hS => ?_)
    have hq_5 : r_6 = N v1 := hq_5
    subst hq_5
    have hP : zP g ([((ad 0), .inr (5, [.ref (ad 1), .ref (ad 4), .ref (ad 10), .ref (ad 11), .ref (ad 15), .ref (ad 19), .int (iI 0)])), ((ad 1), .inr (4, [.ref (ad 2), .ref (ad 3), .int (iI ((ups N v1 v2) 0)), .int (iI ((ups N v1 v2) 1))])), zI g (ad 2) 640 (fun x => (ups N v1 v2) (7 + x)), zI g (ad 3) 5 (fun x => (ups N v1 v2) (2 + x)), ((ad 4), .inr (2, [.ref (ad 5), .ref (ad 6), .ref (ad 7), .ref (ad 8), .ref (ad 9), .int (iI ((nx + 1) % 8)), .int (iI (min (ac + 1) 8))])), zI g (ad 5) 1024 (rmN NB (fun x => N (7 + x)) nx 4), zI g (ad 6) 8 (ups RR nx 4), zI g (ad 7) 8 (ups RS nx (N (2 + 4))), zI g (ad 8) 8 (ups RF nx (N 0)), zI g (ad 9) 8 (ups RE nx (N 1)), zQ g (ad 10) 2 IM, (ad 11, .inr (3, [.ref (ad 12), .ref (ad 13), .ref (ad 14)])), zI g (ad 12) 8 WA, zI g (ad 13) 80 FD, zI g (ad 14) 8 OF, (ad 15, .inr (1, [.ref (ad 16), .ref (ad 17), .ref (ad 18), .int (iI un)])), zI g (ad 16) 385 ST, zI g (ad 17) 384 FI, zI g (ad 18) 320 EN, (ad 19, .inr (0, [.ref (ad 20), .ref (ad 21), .int (iI rk), .int (iI he), .int (iI kn), .int (iI al)])), zI g (ad 20) 124 CE, zI g (ad 21) 124 OR, ((ad 22), .inr (6, [.ref (ad 23), .ref (ad 24), .int (iI (min (ac + 1) 8)), .ref (ad 25), .ref (ad 26), .ref (ad 27), .ref (ad 28), .ref (ad 29), .ref (ad 30)])), zI g (ad 23) 647 (ups N v1 v2), zI g (ad 24) 5176 (ntP P N ac), zI g (ad 25) 1294 IQ, zB g (ad 26) 2 KP, zI g (ad 27) 8 TU, zI g (ad 28) 80 PK, zI g (ad 29) 124 VO, zB g (ad 30) 124 RK] ++ IW) H := hP
    have hD : va_D A ([((ad 0), .inr (5, [.ref (ad 1), .ref (ad 4), .ref (ad 10), .ref (ad 11), .ref (ad 15), .ref (ad 19), .int (iI 0)])), ((ad 1), .inr (4, [.ref (ad 2), .ref (ad 3), .int (iI ((ups N v1 v2) 0)), .int (iI ((ups N v1 v2) 1))])), zI g (ad 2) 640 (fun x => (ups N v1 v2) (7 + x)), zI g (ad 3) 5 (fun x => (ups N v1 v2) (2 + x)), ((ad 4), .inr (2, [.ref (ad 5), .ref (ad 6), .ref (ad 7), .ref (ad 8), .ref (ad 9), .int (iI ((nx + 1) % 8)), .int (iI (min (ac + 1) 8))])), zI g (ad 5) 1024 (rmN NB (fun x => N (7 + x)) nx 4), zI g (ad 6) 8 (ups RR nx 4), zI g (ad 7) 8 (ups RS nx (N (2 + 4))), zI g (ad 8) 8 (ups RF nx (N 0)), zI g (ad 9) 8 (ups RE nx (N 1)), zQ g (ad 10) 2 IM, (ad 11, .inr (3, [.ref (ad 12), .ref (ad 13), .ref (ad 14)])), zI g (ad 12) 8 WA, zI g (ad 13) 80 FD, zI g (ad 14) 8 OF, (ad 15, .inr (1, [.ref (ad 16), .ref (ad 17), .ref (ad 18), .int (iI un)])), zI g (ad 16) 385 ST, zI g (ad 17) 384 FI, zI g (ad 18) 320 EN, (ad 19, .inr (0, [.ref (ad 20), .ref (ad 21), .int (iI rk), .int (iI he), .int (iI kn), .int (iI al)])), zI g (ad 20) 124 CE, zI g (ad 21) 124 OR, ((ad 22), .inr (6, [.ref (ad 23), .ref (ad 24), .int (iI (min (ac + 1) 8)), .ref (ad 25), .ref (ad 26), .ref (ad 27), .ref (ad 28), .ref (ad 29), .ref (ad 30)])), zI g (ad 23) 647 (ups N v1 v2), zI g (ad 24) 5176 (ntP P N ac), zI g (ad 25) 1294 IQ, zB g (ad 26) 2 KP, zI g (ad 27) 8 TU, zI g (ad 28) 80 PK, zI g (ad 29) 124 VO, zB g (ad 30) 124 RK] ++ IW) := hD
    refine z_eqS (tgt := 805) hx hb dL_law_388 (by decide) (rfl) ?_
    exact hgo H locs _ _ bud ls ⟨(ups N v1 v2), (ntP P N ac), IQ, KP, TU, PK, VO, RK, (rmN NB (fun x => N (7 + x)) nx 4), (ups RR nx 4), (ups RS nx (N (2 + 4))), (ups RF nx (N 0)), (ups RE nx (N 1)), WA, FD, OF, ST, FI, EN, CE, OR, (min (ac + 1) 8), ((nx + 1) % 8), 0, un, rk, he, kn, al, IM, IW, okN_bound zN hac, PR_push hPR zN (by omega) (by omega) (chg_bound (by omega)), Or.inl rfl, hIM, hP, hD, hS⟩ (by omega) (by omega) (lv_sub hl [0, 1, 2, 3] rfl)
  · refine lv_aload_n hx hb dL_law_360 rfl (lv_at hl 1 rfl) ?_
    refine lv_aload_n hx hb dL_law_361 rfl (lv_at hl 0 rfl) ?_
    refine lv_iload_n hx hb dL_law_362 rfl (lv_at hl 3 rfl) ?_
    refine lv_iconst (v := iI 1) hx hb dL_law_363 rfl ?_
    refine z_iadd hx hb dL_law_364 ?_
    refine z_sld hx hb hX hbl hbA hS (by omega) (by omega) hL hv1 dL_law_365 ?_
    refine lv_aload_n hx hb dL_law_366 rfl (lv_at hl 0 rfl) ?_
    refine lv_iload_n hx hb dL_law_367 rfl (lv_at hl 3 rfl) ?_
    refine lv_iconst (v := iI 2) hx hb dL_law_368 rfl ?_
    refine z_iadd hx hb dL_law_369 ?_
    refine z_sld hx hb hX hbl hbA hS (by omega) (by omega) hL hv2 dL_law_370 ?_
    refine z_cS (As := [.int (iI v1), .int (iI v2)]) (rest := []) C (m_X5_bound_n (l := l) (g := g) (o := ad 0) (h := ad 1) (b := ad 4) (im := ad 10) (a := ad 11) (d := ad 15) (bb := ad 19) (fr := fr) (hn := ad 2) (hs := ad 3) (N := N) (wh := v1) (v := v2) (g_wh := by omega) (g_v := by omega) (rf := hac)) (cwV 2 C.2.2.2.2 gL_law_X5_bound rfl rfl rfl (by decide +kernel) ⟨Nat.le_of_ble_eq_true rfl, Nat.le_of_ble_eq_true rfl⟩) hK hP [0, 1, 2, 3] rfl 0 rfl rfl rfl hl.1 rfl (Nat.le_of_ble_eq_true rfl) dL_law_371 ⟨by show cells ≤ 600000; omega, by show slots ≤ 7302250; omega⟩ ?_
    refine lv_aload_n hx hb dL_law_374 rfl (lv_at hl 2 rfl) ?_
    refine lv_aload_n hx hb dL_law_375 rfl (lv_at hl 0 rfl) ?_
    refine lv_iload_n hx hb dL_law_376 rfl (lv_at hl 3 rfl) ?_
    refine lv_iconst (v := iI 1) hx hb dL_law_377 rfl ?_
    refine z_iadd hx hb dL_law_378 ?_
    refine z_sld hx hb hX hbl hbA hS (by omega) (by omega) hL hv1 dL_law_379 ?_
    refine lv_aload_n hx hb dL_law_380 rfl (lv_at hl 0 rfl) ?_
    refine lv_iload_n hx hb dL_law_381 rfl (lv_at hl 3 rfl) ?_
    refine lv_iconst (v := iI 2) hx hb dL_law_382 rfl ?_
    refine z_iadd hx hb dL_law_383 ?_
    refine z_sld hx hb hX hbl hbA hS (by omega) (by omega) hL hv2 dL_law_384 ?_
    refine z_cS (As := [.int (iI v1), .int (iI v2)]) (rest := [.int (iI (-1000000002))]) C (m_X6_bound_n (l := l) (g := g) (q := ad 22) (qn := ad 23) (qp := ad 24) (qi := ad 25) (qk := ad 26) (qt := ad 27) (qw := ad 28) (qv := ad 29) (qr := ad 30) (ac := ac) (N := N) (wh := v1) (v := v2) (zN := zN) (g_wh := by omega) (g_v := by omega) (rf := hac)) (cwV 2 C.2.2.2.2 gL_law_X6_bound rfl rfl rfl (by decide +kernel) ⟨Nat.le_of_ble_eq_true rfl, Nat.le_of_ble_eq_true rfl⟩) hK hP [22, 23] rfl 22 rfl rfl rfl hl.1 rfl (Nat.le_of_ble_eq_true rfl) dL_law_385 ⟨by show cells ≤ 600000; omega, by show slots ≤ 7302250; omega⟩ ?_
    refine z_eqS (tgt := 805) hx hb dL_law_388 (by decide) (rfl) ?_
    exact hgo H locs _ _ bud ls ⟨N, P, IQ, KP, TU, PK, VO, RK, NB, RR, RS, RF, RE, WA, FD, OF, ST, FI, EN, CE, OR, ac, nx, fr, un, rk, he, kn, al, IM, IW, zN, hPR, hfr, hIM, hP, hD, hS⟩ (by omega) (by omega) (lv_sub hl [0, 1, 2, 3] rfl)
set_option maxHeartbeats 8000000 in
set_option maxRecDepth 100000 in
theorem op_undo {p : Program} {l : Launch} {e : Env} {s : State} {m : MethodId} {below : List Frame} {meth : Method} {c : Code} {Q : State → Prop} {A : Nat → Prop} {g : zG} {ad : Nat → Nat} {b0 L : Nat} {xs : Nat → Int32} {i_ : Int} (X : zX p s m c A g b0 L xs i_) (hgo : zL p l e s m below meth c Q A g ad b0 i_ 805) : zL p l e s m below meth c Q A g ad b0 i_ 393 := by
  obtain ⟨C, hX, hbl, hK, hO, hA, hbA, hi, hi2, hL⟩ := X
  have hx := C.1
  have hb := C.2.1
  intro H locs cells slots bud ls hI hcs hss hl
  obtain ⟨N, P, IQ, KP, TU, PK, VO, RK, NB, RR, RS, RF, RE, WA, FD, OF, ST, FI, EN, CE, OR, ac, nx, fr, un, rk, he, kn, al, IM, IW, zN, hPR, hfr, hIM, hP, hD, hS⟩ := hI
  have hPb := hPR.2.1
  have hPc := hPR.2.2.1
  have hPn := hPR.2.2.2.1
  have hPm := hPR.2.2.2.2.1
  by_cases hac : 0 < ac
  · obtain ⟨u1, u2, u3, u4⟩ := PR_undo hPR hac
    refine lv_aload_n hx hb dL_law_393 rfl (lv_at hl 1 rfl) ?_
    refine z_cE (As := []) (rest := []) C (m_X5_undo (l := l) (g := g) (o := ad 0) (h := ad 1) (b := ad 4) (im := ad 10) (a := ad 11) (d := ad 15) (bb := ad 19) (fr := fr) (hn := ad 2) (hs := ad 3) (NU := fun x => N (7 + x)) (SZ := fun x => N (2 + x)) (fl := N 0) (re := N 1) (bn := ad 5) (br := ad 6) (bs := ad 7) (bf := ad 8) (be := ad 9) (nx := nx) (dp := ac) (NB := NB) (RR := RR) (RS := RS) (RF := RF) (RE := RE) (h3 := by omega) (h4 := by omega) (h5 := by omega) (h6 := by omega) (h7 := u2.1) (h8 := u2.2)) (cwV 0 C.2.2.2.2 gL_law_X5_undo rfl rfl rfl (by decide +kernel) ⟨Nat.le_of_ble_eq_true rfl, Nat.le_of_ble_eq_true rfl⟩) hK hP hD hS hA [0, 1, 2, 3, 4, 5, 6, 7, 8, 9] (by decide) rfl (fun _ => rfl) 0 rfl rfl rfl hl.1 rfl (Nat.le_of_ble_eq_true rfl) dL_law_394 ⟨by show cells ≤ 600000; omega, by show slots ≤ 7302250; omega⟩ (fun r_3 u_1 H locs hq_2 hP hD hS => ?_)
    have hq_2 : r_3 = ac - 1 := hq_2
    subst hq_2
    have hP : zP g ([((ad 0), .inr (5, [.ref (ad 1), .ref (ad 4), .ref (ad 10), .ref (ad 11), .ref (ad 15), .ref (ad 19), .int (iI 0)])), ((ad 1), .inr (4, [.ref (ad 2), .ref (ad 3), .int (iI (RF ((nx + 7) % 8))), .int (iI (RE ((nx + 7) % 8)))])), zI g (ad 2) 640 (fun j => if RR ((nx + 7) % 8) * 128 ≤ j ∧ j < RR ((nx + 7) % 8) * 128 + 128 then NB ((nx + 7) % 8 * 128 + (j - RR ((nx + 7) % 8) * 128)) else (fun x => N (7 + x)) j), zI g (ad 3) 5 (ups (fun x => N (2 + x)) (RR ((nx + 7) % 8)) (RS ((nx + 7) % 8))), ((ad 4), .inr (2, [.ref (ad 5), .ref (ad 6), .ref (ad 7), .ref (ad 8), .ref (ad 9), .int (iI ((nx + 7) % 8)), .int (iI (ac - 1))])), zI g (ad 5) 1024 NB, zI g (ad 6) 8 RR, zI g (ad 7) 8 RS, zI g (ad 8) 8 RF, zI g (ad 9) 8 RE, zQ g (ad 10) 2 IM, (ad 11, .inr (3, [.ref (ad 12), .ref (ad 13), .ref (ad 14)])), zI g (ad 12) 8 WA, zI g (ad 13) 80 FD, zI g (ad 14) 8 OF, (ad 15, .inr (1, [.ref (ad 16), .ref (ad 17), .ref (ad 18), .int (iI un)])), zI g (ad 16) 385 ST, zI g (ad 17) 384 FI, zI g (ad 18) 320 EN, (ad 19, .inr (0, [.ref (ad 20), .ref (ad 21), .int (iI rk), .int (iI he), .int (iI kn), .int (iI al)])), zI g (ad 20) 124 CE, zI g (ad 21) 124 OR, (ad 22, .inr (6, [.ref (ad 23), .ref (ad 24), .int (iI ac), .ref (ad 25), .ref (ad 26), .ref (ad 27), .ref (ad 28), .ref (ad 29), .ref (ad 30)])), zI g (ad 23) 647 N, zI g (ad 24) 5176 P, zI g (ad 25) 1294 IQ, zB g (ad 26) 2 KP, zI g (ad 27) 8 TU, zI g (ad 28) 80 PK, zI g (ad 29) 124 VO, zB g (ad 30) 124 RK] ++ IW) H := hP
    have hD : va_D A ([((ad 0), .inr (5, [.ref (ad 1), .ref (ad 4), .ref (ad 10), .ref (ad 11), .ref (ad 15), .ref (ad 19), .int (iI 0)])), ((ad 1), .inr (4, [.ref (ad 2), .ref (ad 3), .int (iI (RF ((nx + 7) % 8))), .int (iI (RE ((nx + 7) % 8)))])), zI g (ad 2) 640 (fun j => if RR ((nx + 7) % 8) * 128 ≤ j ∧ j < RR ((nx + 7) % 8) * 128 + 128 then NB ((nx + 7) % 8 * 128 + (j - RR ((nx + 7) % 8) * 128)) else (fun x => N (7 + x)) j), zI g (ad 3) 5 (ups (fun x => N (2 + x)) (RR ((nx + 7) % 8)) (RS ((nx + 7) % 8))), ((ad 4), .inr (2, [.ref (ad 5), .ref (ad 6), .ref (ad 7), .ref (ad 8), .ref (ad 9), .int (iI ((nx + 7) % 8)), .int (iI (ac - 1))])), zI g (ad 5) 1024 NB, zI g (ad 6) 8 RR, zI g (ad 7) 8 RS, zI g (ad 8) 8 RF, zI g (ad 9) 8 RE, zQ g (ad 10) 2 IM, (ad 11, .inr (3, [.ref (ad 12), .ref (ad 13), .ref (ad 14)])), zI g (ad 12) 8 WA, zI g (ad 13) 80 FD, zI g (ad 14) 8 OF, (ad 15, .inr (1, [.ref (ad 16), .ref (ad 17), .ref (ad 18), .int (iI un)])), zI g (ad 16) 385 ST, zI g (ad 17) 384 FI, zI g (ad 18) 320 EN, (ad 19, .inr (0, [.ref (ad 20), .ref (ad 21), .int (iI rk), .int (iI he), .int (iI kn), .int (iI al)])), zI g (ad 20) 124 CE, zI g (ad 21) 124 OR, (ad 22, .inr (6, [.ref (ad 23), .ref (ad 24), .int (iI ac), .ref (ad 25), .ref (ad 26), .ref (ad 27), .ref (ad 28), .ref (ad 29), .ref (ad 30)])), zI g (ad 23) 647 N, zI g (ad 24) 5176 P, zI g (ad 25) 1294 IQ, zB g (ad 26) 2 KP, zI g (ad 27) 8 TU, zI g (ad 28) 80 PK, zI g (ad 29) 124 VO, zB g (ad 30) 124 RK] ++ IW) := hD
    refine lv_aload_n hx hb dL_law_397 rfl (lv_at hl 2 rfl) ?_
    have hP := zP_arr hP 2 (fun x => (fun x => P (647 * (ac - 1) + x)) (7 + x)) rfl (fun j g1 g2 => by show _ = P (647 * (ac - 1) + (7 + j)); rw [u3 (7 + j) (by omega) (by omega)]; unfold rst; rw [if_neg (show ¬ 7 + j = 0 by omega), if_neg (show ¬ 7 + j = 1 by omega), if_neg (show ¬ 7 + j = 2 + RR ((nx + 7) % 8) by omega)]; by_cases hj : RR ((nx + 7) % 8) * 128 ≤ j ∧ j < RR ((nx + 7) % 8) * 128 + 128; (· rw [if_pos hj, if_pos (by omega)]; congr 1; omega); (· rw [if_neg hj, if_neg (by omega)]))
    have hD := zD_set (c1 := (zI g (ad 2) 640 (fun x => (fun x => P (647 * (ac - 1) + x)) (7 + x))).2) hD 2 rfl
    have hP : zP g ([((ad 0), .inr (5, [.ref (ad 1), .ref (ad 4), .ref (ad 10), .ref (ad 11), .ref (ad 15), .ref (ad 19), .int (iI 0)])), ((ad 1), .inr (4, [.ref (ad 2), .ref (ad 3), .int (iI (RF ((nx + 7) % 8))), .int (iI (RE ((nx + 7) % 8)))])), zI g (ad 2) 640 (fun x => (fun x => P (647 * (ac - 1) + x)) (7 + x)), zI g (ad 3) 5 (ups (fun x => N (2 + x)) (RR ((nx + 7) % 8)) (RS ((nx + 7) % 8))), ((ad 4), .inr (2, [.ref (ad 5), .ref (ad 6), .ref (ad 7), .ref (ad 8), .ref (ad 9), .int (iI ((nx + 7) % 8)), .int (iI (ac - 1))])), zI g (ad 5) 1024 NB, zI g (ad 6) 8 RR, zI g (ad 7) 8 RS, zI g (ad 8) 8 RF, zI g (ad 9) 8 RE, zQ g (ad 10) 2 IM, (ad 11, .inr (3, [.ref (ad 12), .ref (ad 13), .ref (ad 14)])), zI g (ad 12) 8 WA, zI g (ad 13) 80 FD, zI g (ad 14) 8 OF, (ad 15, .inr (1, [.ref (ad 16), .ref (ad 17), .ref (ad 18), .int (iI un)])), zI g (ad 16) 385 ST, zI g (ad 17) 384 FI, zI g (ad 18) 320 EN, (ad 19, .inr (0, [.ref (ad 20), .ref (ad 21), .int (iI rk), .int (iI he), .int (iI kn), .int (iI al)])), zI g (ad 20) 124 CE, zI g (ad 21) 124 OR, (ad 22, .inr (6, [.ref (ad 23), .ref (ad 24), .int (iI ac), .ref (ad 25), .ref (ad 26), .ref (ad 27), .ref (ad 28), .ref (ad 29), .ref (ad 30)])), zI g (ad 23) 647 N, zI g (ad 24) 5176 P, zI g (ad 25) 1294 IQ, zB g (ad 26) 2 KP, zI g (ad 27) 8 TU, zI g (ad 28) 80 PK, zI g (ad 29) 124 VO, zB g (ad 30) 124 RK] ++ IW) H := hP
    have hD : va_D A ([((ad 0), .inr (5, [.ref (ad 1), .ref (ad 4), .ref (ad 10), .ref (ad 11), .ref (ad 15), .ref (ad 19), .int (iI 0)])), ((ad 1), .inr (4, [.ref (ad 2), .ref (ad 3), .int (iI (RF ((nx + 7) % 8))), .int (iI (RE ((nx + 7) % 8)))])), zI g (ad 2) 640 (fun x => (fun x => P (647 * (ac - 1) + x)) (7 + x)), zI g (ad 3) 5 (ups (fun x => N (2 + x)) (RR ((nx + 7) % 8)) (RS ((nx + 7) % 8))), ((ad 4), .inr (2, [.ref (ad 5), .ref (ad 6), .ref (ad 7), .ref (ad 8), .ref (ad 9), .int (iI ((nx + 7) % 8)), .int (iI (ac - 1))])), zI g (ad 5) 1024 NB, zI g (ad 6) 8 RR, zI g (ad 7) 8 RS, zI g (ad 8) 8 RF, zI g (ad 9) 8 RE, zQ g (ad 10) 2 IM, (ad 11, .inr (3, [.ref (ad 12), .ref (ad 13), .ref (ad 14)])), zI g (ad 12) 8 WA, zI g (ad 13) 80 FD, zI g (ad 14) 8 OF, (ad 15, .inr (1, [.ref (ad 16), .ref (ad 17), .ref (ad 18), .int (iI un)])), zI g (ad 16) 385 ST, zI g (ad 17) 384 FI, zI g (ad 18) 320 EN, (ad 19, .inr (0, [.ref (ad 20), .ref (ad 21), .int (iI rk), .int (iI he), .int (iI kn), .int (iI al)])), zI g (ad 20) 124 CE, zI g (ad 21) 124 OR, (ad 22, .inr (6, [.ref (ad 23), .ref (ad 24), .int (iI ac), .ref (ad 25), .ref (ad 26), .ref (ad 27), .ref (ad 28), .ref (ad 29), .ref (ad 30)])), zI g (ad 23) 647 N, zI g (ad 24) 5176 P, zI g (ad 25) 1294 IQ, zB g (ad 26) 2 KP, zI g (ad 27) 8 TU, zI g (ad 28) 80 PK, zI g (ad 29) 124 VO, zB g (ad 30) 124 RK] ++ IW) := hD
    have hP := zP_arr hP 3 (fun x => (fun x => P (647 * (ac - 1) + x)) (2 + x)) rfl (fun j g1 g2 => by show _ = P (647 * (ac - 1) + (2 + j)); rw [u3 (2 + j) (by omega) (by omega)]; unfold rst ups; rw [if_neg (show ¬ 2 + j = 0 by omega), if_neg (show ¬ 2 + j = 1 by omega)]; by_cases hj : j = RR ((nx + 7) % 8); (· rw [if_pos hj, if_pos (by omega)]); (· rw [if_neg hj, if_neg (by omega), if_neg (by omega)]))
    have hD := zD_set (c1 := (zI g (ad 3) 5 (fun x => (fun x => P (647 * (ac - 1) + x)) (2 + x))).2) hD 3 rfl
    have hP : zP g ([((ad 0), .inr (5, [.ref (ad 1), .ref (ad 4), .ref (ad 10), .ref (ad 11), .ref (ad 15), .ref (ad 19), .int (iI 0)])), ((ad 1), .inr (4, [.ref (ad 2), .ref (ad 3), .int (iI (RF ((nx + 7) % 8))), .int (iI (RE ((nx + 7) % 8)))])), zI g (ad 2) 640 (fun x => (fun x => P (647 * (ac - 1) + x)) (7 + x)), zI g (ad 3) 5 (fun x => (fun x => P (647 * (ac - 1) + x)) (2 + x)), ((ad 4), .inr (2, [.ref (ad 5), .ref (ad 6), .ref (ad 7), .ref (ad 8), .ref (ad 9), .int (iI ((nx + 7) % 8)), .int (iI (ac - 1))])), zI g (ad 5) 1024 NB, zI g (ad 6) 8 RR, zI g (ad 7) 8 RS, zI g (ad 8) 8 RF, zI g (ad 9) 8 RE, zQ g (ad 10) 2 IM, (ad 11, .inr (3, [.ref (ad 12), .ref (ad 13), .ref (ad 14)])), zI g (ad 12) 8 WA, zI g (ad 13) 80 FD, zI g (ad 14) 8 OF, (ad 15, .inr (1, [.ref (ad 16), .ref (ad 17), .ref (ad 18), .int (iI un)])), zI g (ad 16) 385 ST, zI g (ad 17) 384 FI, zI g (ad 18) 320 EN, (ad 19, .inr (0, [.ref (ad 20), .ref (ad 21), .int (iI rk), .int (iI he), .int (iI kn), .int (iI al)])), zI g (ad 20) 124 CE, zI g (ad 21) 124 OR, (ad 22, .inr (6, [.ref (ad 23), .ref (ad 24), .int (iI ac), .ref (ad 25), .ref (ad 26), .ref (ad 27), .ref (ad 28), .ref (ad 29), .ref (ad 30)])), zI g (ad 23) 647 N, zI g (ad 24) 5176 P, zI g (ad 25) 1294 IQ, zB g (ad 26) 2 KP, zI g (ad 27) 8 TU, zI g (ad 28) 80 PK, zI g (ad 29) 124 VO, zB g (ad 30) 124 RK] ++ IW) H := hP
    have hD : va_D A ([((ad 0), .inr (5, [.ref (ad 1), .ref (ad 4), .ref (ad 10), .ref (ad 11), .ref (ad 15), .ref (ad 19), .int (iI 0)])), ((ad 1), .inr (4, [.ref (ad 2), .ref (ad 3), .int (iI (RF ((nx + 7) % 8))), .int (iI (RE ((nx + 7) % 8)))])), zI g (ad 2) 640 (fun x => (fun x => P (647 * (ac - 1) + x)) (7 + x)), zI g (ad 3) 5 (fun x => (fun x => P (647 * (ac - 1) + x)) (2 + x)), ((ad 4), .inr (2, [.ref (ad 5), .ref (ad 6), .ref (ad 7), .ref (ad 8), .ref (ad 9), .int (iI ((nx + 7) % 8)), .int (iI (ac - 1))])), zI g (ad 5) 1024 NB, zI g (ad 6) 8 RR, zI g (ad 7) 8 RS, zI g (ad 8) 8 RF, zI g (ad 9) 8 RE, zQ g (ad 10) 2 IM, (ad 11, .inr (3, [.ref (ad 12), .ref (ad 13), .ref (ad 14)])), zI g (ad 12) 8 WA, zI g (ad 13) 80 FD, zI g (ad 14) 8 OF, (ad 15, .inr (1, [.ref (ad 16), .ref (ad 17), .ref (ad 18), .int (iI un)])), zI g (ad 16) 385 ST, zI g (ad 17) 384 FI, zI g (ad 18) 320 EN, (ad 19, .inr (0, [.ref (ad 20), .ref (ad 21), .int (iI rk), .int (iI he), .int (iI kn), .int (iI al)])), zI g (ad 20) 124 CE, zI g (ad 21) 124 OR, (ad 22, .inr (6, [.ref (ad 23), .ref (ad 24), .int (iI ac), .ref (ad 25), .ref (ad 26), .ref (ad 27), .ref (ad 28), .ref (ad 29), .ref (ad 30)])), zI g (ad 23) 647 N, zI g (ad 24) 5176 P, zI g (ad 25) 1294 IQ, zB g (ad 26) 2 KP, zI g (ad 27) 8 TU, zI g (ad 28) 80 PK, zI g (ad 29) 124 VO, zB g (ad 30) 124 RK] ++ IW) := hD
    have hP := zP_fld hP 1 rfl 2 ((fun x => P (647 * (ac - 1) + x)) 0) rfl (by show _ = P (647 * (ac - 1) + 0); rw [u3 0 (by omega) (by omega)]; unfold rst; rw [if_pos rfl])
    have hD := zD_set (c1 := (((ad 1), .inr (4, [.ref (ad 2), .ref (ad 3), .int (iI ((fun x => P (647 * (ac - 1) + x)) 0)), .int (iI (RE ((nx + 7) % 8)))]))).2) hD 1 rfl
    have hP : zP g ([((ad 0), .inr (5, [.ref (ad 1), .ref (ad 4), .ref (ad 10), .ref (ad 11), .ref (ad 15), .ref (ad 19), .int (iI 0)])), ((ad 1), .inr (4, [.ref (ad 2), .ref (ad 3), .int (iI ((fun x => P (647 * (ac - 1) + x)) 0)), .int (iI (RE ((nx + 7) % 8)))])), zI g (ad 2) 640 (fun x => (fun x => P (647 * (ac - 1) + x)) (7 + x)), zI g (ad 3) 5 (fun x => (fun x => P (647 * (ac - 1) + x)) (2 + x)), ((ad 4), .inr (2, [.ref (ad 5), .ref (ad 6), .ref (ad 7), .ref (ad 8), .ref (ad 9), .int (iI ((nx + 7) % 8)), .int (iI (ac - 1))])), zI g (ad 5) 1024 NB, zI g (ad 6) 8 RR, zI g (ad 7) 8 RS, zI g (ad 8) 8 RF, zI g (ad 9) 8 RE, zQ g (ad 10) 2 IM, (ad 11, .inr (3, [.ref (ad 12), .ref (ad 13), .ref (ad 14)])), zI g (ad 12) 8 WA, zI g (ad 13) 80 FD, zI g (ad 14) 8 OF, (ad 15, .inr (1, [.ref (ad 16), .ref (ad 17), .ref (ad 18), .int (iI un)])), zI g (ad 16) 385 ST, zI g (ad 17) 384 FI, zI g (ad 18) 320 EN, (ad 19, .inr (0, [.ref (ad 20), .ref (ad 21), .int (iI rk), .int (iI he), .int (iI kn), .int (iI al)])), zI g (ad 20) 124 CE, zI g (ad 21) 124 OR, (ad 22, .inr (6, [.ref (ad 23), .ref (ad 24), .int (iI ac), .ref (ad 25), .ref (ad 26), .ref (ad 27), .ref (ad 28), .ref (ad 29), .ref (ad 30)])), zI g (ad 23) 647 N, zI g (ad 24) 5176 P, zI g (ad 25) 1294 IQ, zB g (ad 26) 2 KP, zI g (ad 27) 8 TU, zI g (ad 28) 80 PK, zI g (ad 29) 124 VO, zB g (ad 30) 124 RK] ++ IW) H := hP
    have hD : va_D A ([((ad 0), .inr (5, [.ref (ad 1), .ref (ad 4), .ref (ad 10), .ref (ad 11), .ref (ad 15), .ref (ad 19), .int (iI 0)])), ((ad 1), .inr (4, [.ref (ad 2), .ref (ad 3), .int (iI ((fun x => P (647 * (ac - 1) + x)) 0)), .int (iI (RE ((nx + 7) % 8)))])), zI g (ad 2) 640 (fun x => (fun x => P (647 * (ac - 1) + x)) (7 + x)), zI g (ad 3) 5 (fun x => (fun x => P (647 * (ac - 1) + x)) (2 + x)), ((ad 4), .inr (2, [.ref (ad 5), .ref (ad 6), .ref (ad 7), .ref (ad 8), .ref (ad 9), .int (iI ((nx + 7) % 8)), .int (iI (ac - 1))])), zI g (ad 5) 1024 NB, zI g (ad 6) 8 RR, zI g (ad 7) 8 RS, zI g (ad 8) 8 RF, zI g (ad 9) 8 RE, zQ g (ad 10) 2 IM, (ad 11, .inr (3, [.ref (ad 12), .ref (ad 13), .ref (ad 14)])), zI g (ad 12) 8 WA, zI g (ad 13) 80 FD, zI g (ad 14) 8 OF, (ad 15, .inr (1, [.ref (ad 16), .ref (ad 17), .ref (ad 18), .int (iI un)])), zI g (ad 16) 385 ST, zI g (ad 17) 384 FI, zI g (ad 18) 320 EN, (ad 19, .inr (0, [.ref (ad 20), .ref (ad 21), .int (iI rk), .int (iI he), .int (iI kn), .int (iI al)])), zI g (ad 20) 124 CE, zI g (ad 21) 124 OR, (ad 22, .inr (6, [.ref (ad 23), .ref (ad 24), .int (iI ac), .ref (ad 25), .ref (ad 26), .ref (ad 27), .ref (ad 28), .ref (ad 29), .ref (ad 30)])), zI g (ad 23) 647 N, zI g (ad 24) 5176 P, zI g (ad 25) 1294 IQ, zB g (ad 26) 2 KP, zI g (ad 27) 8 TU, zI g (ad 28) 80 PK, zI g (ad 29) 124 VO, zB g (ad 30) 124 RK] ++ IW) := hD
    have hP := zP_fld hP 1 rfl 3 ((fun x => P (647 * (ac - 1) + x)) 1) rfl (by show _ = P (647 * (ac - 1) + 1); rw [u3 1 (by omega) (by omega)]; unfold rst; rw [if_neg (by omega), if_pos rfl])
    have hD := zD_set (c1 := (((ad 1), .inr (4, [.ref (ad 2), .ref (ad 3), .int (iI ((fun x => P (647 * (ac - 1) + x)) 0)), .int (iI ((fun x => P (647 * (ac - 1) + x)) 1))]))).2) hD 1 rfl
    have hP : zP g ([((ad 0), .inr (5, [.ref (ad 1), .ref (ad 4), .ref (ad 10), .ref (ad 11), .ref (ad 15), .ref (ad 19), .int (iI 0)])), ((ad 1), .inr (4, [.ref (ad 2), .ref (ad 3), .int (iI ((fun x => P (647 * (ac - 1) + x)) 0)), .int (iI ((fun x => P (647 * (ac - 1) + x)) 1))])), zI g (ad 2) 640 (fun x => (fun x => P (647 * (ac - 1) + x)) (7 + x)), zI g (ad 3) 5 (fun x => (fun x => P (647 * (ac - 1) + x)) (2 + x)), ((ad 4), .inr (2, [.ref (ad 5), .ref (ad 6), .ref (ad 7), .ref (ad 8), .ref (ad 9), .int (iI ((nx + 7) % 8)), .int (iI (ac - 1))])), zI g (ad 5) 1024 NB, zI g (ad 6) 8 RR, zI g (ad 7) 8 RS, zI g (ad 8) 8 RF, zI g (ad 9) 8 RE, zQ g (ad 10) 2 IM, (ad 11, .inr (3, [.ref (ad 12), .ref (ad 13), .ref (ad 14)])), zI g (ad 12) 8 WA, zI g (ad 13) 80 FD, zI g (ad 14) 8 OF, (ad 15, .inr (1, [.ref (ad 16), .ref (ad 17), .ref (ad 18), .int (iI un)])), zI g (ad 16) 385 ST, zI g (ad 17) 384 FI, zI g (ad 18) 320 EN, (ad 19, .inr (0, [.ref (ad 20), .ref (ad 21), .int (iI rk), .int (iI he), .int (iI kn), .int (iI al)])), zI g (ad 20) 124 CE, zI g (ad 21) 124 OR, (ad 22, .inr (6, [.ref (ad 23), .ref (ad 24), .int (iI ac), .ref (ad 25), .ref (ad 26), .ref (ad 27), .ref (ad 28), .ref (ad 29), .ref (ad 30)])), zI g (ad 23) 647 N, zI g (ad 24) 5176 P, zI g (ad 25) 1294 IQ, zB g (ad 26) 2 KP, zI g (ad 27) 8 TU, zI g (ad 28) 80 PK, zI g (ad 29) 124 VO, zB g (ad 30) 124 RK] ++ IW) H := hP
    have hD : va_D A ([((ad 0), .inr (5, [.ref (ad 1), .ref (ad 4), .ref (ad 10), .ref (ad 11), .ref (ad 15), .ref (ad 19), .int (iI 0)])), ((ad 1), .inr (4, [.ref (ad 2), .ref (ad 3), .int (iI ((fun x => P (647 * (ac - 1) + x)) 0)), .int (iI ((fun x => P (647 * (ac - 1) + x)) 1))])), zI g (ad 2) 640 (fun x => (fun x => P (647 * (ac - 1) + x)) (7 + x)), zI g (ad 3) 5 (fun x => (fun x => P (647 * (ac - 1) + x)) (2 + x)), ((ad 4), .inr (2, [.ref (ad 5), .ref (ad 6), .ref (ad 7), .ref (ad 8), .ref (ad 9), .int (iI ((nx + 7) % 8)), .int (iI (ac - 1))])), zI g (ad 5) 1024 NB, zI g (ad 6) 8 RR, zI g (ad 7) 8 RS, zI g (ad 8) 8 RF, zI g (ad 9) 8 RE, zQ g (ad 10) 2 IM, (ad 11, .inr (3, [.ref (ad 12), .ref (ad 13), .ref (ad 14)])), zI g (ad 12) 8 WA, zI g (ad 13) 80 FD, zI g (ad 14) 8 OF, (ad 15, .inr (1, [.ref (ad 16), .ref (ad 17), .ref (ad 18), .int (iI un)])), zI g (ad 16) 385 ST, zI g (ad 17) 384 FI, zI g (ad 18) 320 EN, (ad 19, .inr (0, [.ref (ad 20), .ref (ad 21), .int (iI rk), .int (iI he), .int (iI kn), .int (iI al)])), zI g (ad 20) 124 CE, zI g (ad 21) 124 OR, (ad 22, .inr (6, [.ref (ad 23), .ref (ad 24), .int (iI ac), .ref (ad 25), .ref (ad 26), .ref (ad 27), .ref (ad 28), .ref (ad 29), .ref (ad 30)])), zI g (ad 23) 647 N, zI g (ad 24) 5176 P, zI g (ad 25) 1294 IQ, zB g (ad 26) 2 KP, zI g (ad 27) 8 TU, zI g (ad 28) 80 PK, zI g (ad 29) 124 VO, zB g (ad 30) 124 RK] ++ IW) := hD
    refine z_cE (As := []) (rest := [.int (iI (ac - 1))]) C (m_X6_undo (l := l) (g := g) (q := ad 22) (qn := ad 23) (qp := ad 24) (qi := ad 25) (qk := ad 26) (qt := ad 27) (qw := ad 28) (qv := ad 29) (qr := ad 30) (ac := ac) (N := N) (P := P) (a1 := by omega)) (cwV 0 C.2.2.2.2 gL_law_X6_undo rfl rfl rfl (by decide +kernel) ⟨Nat.le_of_ble_eq_true rfl, Nat.le_of_ble_eq_true rfl⟩) hK hP hD hS hA [22, 23, 24] (by decide) rfl (fun _ => rfl) 22 rfl rfl rfl hl.1 rfl (Nat.le_of_ble_eq_true rfl) dL_law_398 ⟨by show cells ≤ 600000; omega, by show slots ≤ 7302250; omega⟩ (fun r_6 u_4 H locs hq_5 hP hD hS => ?_)
    have hq_5 : r_6 = ac - 1 := hq_5
    subst hq_5
    have hP : zP g ([((ad 0), .inr (5, [.ref (ad 1), .ref (ad 4), .ref (ad 10), .ref (ad 11), .ref (ad 15), .ref (ad 19), .int (iI 0)])), ((ad 1), .inr (4, [.ref (ad 2), .ref (ad 3), .int (iI ((fun x => P (647 * (ac - 1) + x)) 0)), .int (iI ((fun x => P (647 * (ac - 1) + x)) 1))])), zI g (ad 2) 640 (fun x => (fun x => P (647 * (ac - 1) + x)) (7 + x)), zI g (ad 3) 5 (fun x => (fun x => P (647 * (ac - 1) + x)) (2 + x)), ((ad 4), .inr (2, [.ref (ad 5), .ref (ad 6), .ref (ad 7), .ref (ad 8), .ref (ad 9), .int (iI ((nx + 7) % 8)), .int (iI (ac - 1))])), zI g (ad 5) 1024 NB, zI g (ad 6) 8 RR, zI g (ad 7) 8 RS, zI g (ad 8) 8 RF, zI g (ad 9) 8 RE, zQ g (ad 10) 2 IM, (ad 11, .inr (3, [.ref (ad 12), .ref (ad 13), .ref (ad 14)])), zI g (ad 12) 8 WA, zI g (ad 13) 80 FD, zI g (ad 14) 8 OF, (ad 15, .inr (1, [.ref (ad 16), .ref (ad 17), .ref (ad 18), .int (iI un)])), zI g (ad 16) 385 ST, zI g (ad 17) 384 FI, zI g (ad 18) 320 EN, (ad 19, .inr (0, [.ref (ad 20), .ref (ad 21), .int (iI rk), .int (iI he), .int (iI kn), .int (iI al)])), zI g (ad 20) 124 CE, zI g (ad 21) 124 OR, ((ad 22), .inr (6, [.ref (ad 23), .ref (ad 24), .int (iI (ac - 1)), .ref (ad 25), .ref (ad 26), .ref (ad 27), .ref (ad 28), .ref (ad 29), .ref (ad 30)])), zI g (ad 23) 647 (fun x => P (647 * (ac - 1) + x)), zI g (ad 24) 5176 P, zI g (ad 25) 1294 IQ, zB g (ad 26) 2 KP, zI g (ad 27) 8 TU, zI g (ad 28) 80 PK, zI g (ad 29) 124 VO, zB g (ad 30) 124 RK] ++ IW) H := hP
    have hD : va_D A ([((ad 0), .inr (5, [.ref (ad 1), .ref (ad 4), .ref (ad 10), .ref (ad 11), .ref (ad 15), .ref (ad 19), .int (iI 0)])), ((ad 1), .inr (4, [.ref (ad 2), .ref (ad 3), .int (iI ((fun x => P (647 * (ac - 1) + x)) 0)), .int (iI ((fun x => P (647 * (ac - 1) + x)) 1))])), zI g (ad 2) 640 (fun x => (fun x => P (647 * (ac - 1) + x)) (7 + x)), zI g (ad 3) 5 (fun x => (fun x => P (647 * (ac - 1) + x)) (2 + x)), ((ad 4), .inr (2, [.ref (ad 5), .ref (ad 6), .ref (ad 7), .ref (ad 8), .ref (ad 9), .int (iI ((nx + 7) % 8)), .int (iI (ac - 1))])), zI g (ad 5) 1024 NB, zI g (ad 6) 8 RR, zI g (ad 7) 8 RS, zI g (ad 8) 8 RF, zI g (ad 9) 8 RE, zQ g (ad 10) 2 IM, (ad 11, .inr (3, [.ref (ad 12), .ref (ad 13), .ref (ad 14)])), zI g (ad 12) 8 WA, zI g (ad 13) 80 FD, zI g (ad 14) 8 OF, (ad 15, .inr (1, [.ref (ad 16), .ref (ad 17), .ref (ad 18), .int (iI un)])), zI g (ad 16) 385 ST, zI g (ad 17) 384 FI, zI g (ad 18) 320 EN, (ad 19, .inr (0, [.ref (ad 20), .ref (ad 21), .int (iI rk), .int (iI he), .int (iI kn), .int (iI al)])), zI g (ad 20) 124 CE, zI g (ad 21) 124 OR, ((ad 22), .inr (6, [.ref (ad 23), .ref (ad 24), .int (iI (ac - 1)), .ref (ad 25), .ref (ad 26), .ref (ad 27), .ref (ad 28), .ref (ad 29), .ref (ad 30)])), zI g (ad 23) 647 (fun x => P (647 * (ac - 1) + x)), zI g (ad 24) 5176 P, zI g (ad 25) 1294 IQ, zB g (ad 26) 2 KP, zI g (ad 27) 8 TU, zI g (ad 28) 80 PK, zI g (ad 29) 124 VO, zB g (ad 30) 124 RK] ++ IW) := hD
    refine z_eqS (tgt := 805) hx hb dL_law_401 (by decide) (rfl) ?_
    exact hgo H locs _ _ bud ls ⟨(fun x => P (647 * (ac - 1) + x)), P, IQ, KP, TU, PK, VO, RK, NB, RR, RS, RF, RE, WA, FD, OF, ST, FI, EN, CE, OR, (ac - 1), ((nx + 7) % 8), 0, un, rk, he, kn, al, IM, IW, u1, u4, Or.inl rfl, hIM, hP, hD, hS⟩ (by omega) (by omega) (lv_sub hl [0, 1, 2, 3] rfl)
  · refine lv_aload_n hx hb dL_law_393 rfl (lv_at hl 1 rfl) ?_
    refine z_cS (As := []) (rest := []) C (m_X5_undo_n (l := l) (g := g) (o := ad 0) (h := ad 1) (b := ad 4) (im := ad 10) (a := ad 11) (d := ad 15) (bb := ad 19) (fr := fr) (bn := ad 5) (br := ad 6) (bs := ad 7) (bf := ad 8) (be := ad 9) (nx := nx) (dp := ac) (h5 := by omega)) (cwV 0 C.2.2.2.2 gL_law_X5_undo rfl rfl rfl (by decide +kernel) ⟨Nat.le_of_ble_eq_true rfl, Nat.le_of_ble_eq_true rfl⟩) hK hP [0, 4] rfl 0 rfl rfl rfl hl.1 rfl (Nat.le_of_ble_eq_true rfl) dL_law_394 ⟨by show cells ≤ 600000; omega, by show slots ≤ 7302250; omega⟩ ?_
    refine lv_aload_n hx hb dL_law_397 rfl (lv_at hl 2 rfl) ?_
    refine z_cS (As := []) (rest := [.int (iI (-1000000003))]) C (m_X6_undo_n (l := l) (g := g) (q := ad 22) (qn := ad 23) (qp := ad 24) (qi := ad 25) (qk := ad 26) (qt := ad 27) (qw := ad 28) (qv := ad 29) (qr := ad 30) (ac := ac) (a1 := by omega)) (cwV 0 C.2.2.2.2 gL_law_X6_undo rfl rfl rfl (by decide +kernel) ⟨Nat.le_of_ble_eq_true rfl, Nat.le_of_ble_eq_true rfl⟩) hK hP [22] rfl 22 rfl rfl rfl hl.1 rfl (Nat.le_of_ble_eq_true rfl) dL_law_398 ⟨by show cells ≤ 600000; omega, by show slots ≤ 7302250; omega⟩ ?_
    refine z_eqS (tgt := 805) hx hb dL_law_401 (by decide) (rfl) ?_
    exact hgo H locs _ _ bud ls ⟨N, P, IQ, KP, TU, PK, VO, RK, NB, RR, RS, RF, RE, WA, FD, OF, ST, FI, EN, CE, OR, ac, nx, fr, un, rk, he, kn, al, IM, IW, zN, hPR, hfr, hIM, hP, hD, hS⟩ (by omega) (by omega) (lv_sub hl [0, 1, 2, 3] rfl)
