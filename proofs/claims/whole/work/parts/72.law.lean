set_option maxHeartbeats 8000000 in
set_option maxRecDepth 100000 in
theorem op_told {p : Program} {l : Launch} {e : Env} {s : State} {m : MethodId} {below : List Frame} {meth : Method} {c : Code} {Q : State → Prop} {A : Nat → Prop} {g : zG} {ad : Nat → Nat} {b0 L : Nat} {xs : Nat → Int32} {i_ : Int} (X : zX p s m c A g b0 L xs i_) (hgo : zL p l e s m below meth c Q A g ad b0 i_ 805) : zL p l e s m below meth c Q A g ad b0 i_ 406 := by
  obtain ⟨C, hX, hbl, hK, hO, hA, hbA, hi, hi2, hL⟩ := X
  have hx := C.1
  have hb := C.2.1
  intro H locs cells slots bud ls hI hcs hss hl
  obtain ⟨N, P, IQ, KP, TU, PK, VO, RK, NB, RR, RS, RF, RE, WA, FD, OF, ST, FI, EN, CE, OR, ac, nx, fr, un, rk, he, kn, al, IM, IW, zN, hPR, hfr, hIM, hP, hD, hS⟩ := hI
  have hPb := hPR.2.1
  have hPc := hPR.2.2.1
  have hPn := hPR.2.2.2.1
  have hPm := hPR.2.2.2.2.1
  obtain ⟨v1, hv1⟩ : ∃ v, v = sx xs (i_ + 1) := ⟨_, rfl⟩
  have g_v1 := sx_rg xs (i_ + 1)
  rw [← hv1] at g_v1
  refine lv_aload_n hx hb dL_law_406 rfl (lv_at hl 1 rfl) ?_
  refine lv_aload_n hx hb dL_law_407 rfl (lv_at hl 0 rfl) ?_
  refine lv_iload_n hx hb dL_law_408 rfl (lv_at hl 3 rfl) ?_
  refine lv_iconst (v := iI 1) hx hb dL_law_409 rfl ?_
  refine z_iadd hx hb dL_law_410 ?_
  refine z_sld hx hb hX hbl hbA hS (by omega) (by omega) hL hv1 dL_law_411 ?_
  refine z_cE (As := [.int (iI v1)]) (rest := []) C (m_X5_told (l := l) (g := g) (o := ad 0) (h := ad 1) (b := ad 4) (im := ad 10) (a := ad 11) (d := ad 15) (bb := ad 19) (fr := fr) (hn := ad 2) (hs := ad 3) (fl := N 0) (re := N 1) (NU := fun x => N (7 + x)) (SZ := fun x => N (2 + x)) (aw := ad 12) (af := ad 13) (ao := ad 14) (ds := ad 16) (df := ad 17) (de := ad 18) (bc := ad 20) (bo := ad 21) (WA := WA) (FD := FD) (ST := ST) (FI := FI) (EN := EN) (CE := CE) (OR := OR) (un := un) (rk := rk) (he := he) (kn := kn) (al := al) (bn := ad 5) (br := ad 6) (bs := ad 7) (bf := ad 8) (be := ad 9) (nx := nx) (dp := ac) (wh := v1) (hfr := hfr) (f1 := zN.1) (f2 := zN.2.1) (z1 := zN.2.2.1) (g_wh := by omega)) (cwV 1 C.2.2.2.2 gL_law_X5_told rfl rfl rfl (by decide +kernel) ⟨Nat.le_of_ble_eq_true rfl, Nat.le_of_ble_eq_true rfl⟩) hK hP hD hS hA [0, 1, 2, 3, 11, 12, 13, 15, 16, 17, 18, 19, 20, 21, 4] (by decide) rfl (fun _ => rfl) 0 rfl rfl rfl hl.1 rfl (Nat.le_of_ble_eq_true rfl) dL_law_412 ⟨by show cells ≤ 600000; omega, by show slots ≤ 7302250; omega⟩ (fun r_1 u_ H locs hq hP hD hS => ?_)
  have hP : zP g ([((ad 0), .inr (5, [.ref (ad 1), .ref (ad 4), .ref (ad 10), .ref (ad 11), .ref (ad 15), .ref (ad 19), .int (iI 1)])), ((ad 1), .inr (4, [.ref (ad 2), .ref (ad 3), .int (iI (N 0)), .int (iI (N 1))])), zI g (ad 2) 640 (fun x => N (7 + x)), zI g (ad 3) 5 (fun x => N (2 + x)), ((ad 4), .inr (2, [.ref (ad 5), .ref (ad 6), .ref (ad 7), .ref (ad 8), .ref (ad 9), .int (iI nx), .int (iI ac)])), zI g (ad 5) 1024 NB, zI g (ad 6) 8 RR, zI g (ad 7) 8 RS, zI g (ad 8) 8 RF, zI g (ad 9) 8 RE, zQ g (ad 10) 2 IM, ((ad 11), .inr (3, [.ref (ad 12), .ref (ad 13), .ref (ad 14)])), zI g (ad 12) 8 (u_.1), zI g (ad 13) 80 (pf (fun x => N (7 + x)) (fun x => N (2 + x)) (N 0)), zI g (ad 14) 8 OF, ((ad 15), .inr (1, [.ref (ad 16), .ref (ad 17), .ref (ad 18), .int (iI (un_ (pf (fun x => N (7 + x)) (fun x => N (2 + x)) (N 0)) (N 1)))])), zI g (ad 16) 385 (stt (pf (fun x => N (7 + x)) (fun x => N (2 + x)) (N 0)) (N 1)), zI g (ad 17) 384 (u_.2.1), zI g (ad 18) 320 (u_.2.2.1), ((ad 19), .inr (0, [.ref (ad 20), .ref (ad 21), .int (iI (nt_ (pf (fun x => N (7 + x)) (fun x => N (2 + x)) (N 0)) (N 1))), .int (iI (he_ (pf (fun x => N (7 + x)) (fun x => N (2 + x)) (N 0)) (N 1))), .int (iI (ku_ (pf (fun x => N (7 + x)) (fun x => N (2 + x)) (N 0)) (N 1))), .int (iI (al_ (pf (fun x => N (7 + x)) (fun x => N (2 + x)) (N 0)) (N 1)))])), zI g (ad 20) 124 (V_ (pf (fun x => N (7 + x)) (fun x => N (2 + x)) (N 0)) (N 1)), zI g (ad 21) 124 (u_.2.2.2), (ad 22, .inr (6, [.ref (ad 23), .ref (ad 24), .int (iI ac), .ref (ad 25), .ref (ad 26), .ref (ad 27), .ref (ad 28), .ref (ad 29), .ref (ad 30)])), zI g (ad 23) 647 N, zI g (ad 24) 5176 P, zI g (ad 25) 1294 IQ, zB g (ad 26) 2 KP, zI g (ad 27) 8 TU, zI g (ad 28) 80 PK, zI g (ad 29) 124 VO, zB g (ad 30) 124 RK] ++ IW) H := hP
  have hD : va_D A ([((ad 0), .inr (5, [.ref (ad 1), .ref (ad 4), .ref (ad 10), .ref (ad 11), .ref (ad 15), .ref (ad 19), .int (iI 1)])), ((ad 1), .inr (4, [.ref (ad 2), .ref (ad 3), .int (iI (N 0)), .int (iI (N 1))])), zI g (ad 2) 640 (fun x => N (7 + x)), zI g (ad 3) 5 (fun x => N (2 + x)), ((ad 4), .inr (2, [.ref (ad 5), .ref (ad 6), .ref (ad 7), .ref (ad 8), .ref (ad 9), .int (iI nx), .int (iI ac)])), zI g (ad 5) 1024 NB, zI g (ad 6) 8 RR, zI g (ad 7) 8 RS, zI g (ad 8) 8 RF, zI g (ad 9) 8 RE, zQ g (ad 10) 2 IM, ((ad 11), .inr (3, [.ref (ad 12), .ref (ad 13), .ref (ad 14)])), zI g (ad 12) 8 (u_.1), zI g (ad 13) 80 (pf (fun x => N (7 + x)) (fun x => N (2 + x)) (N 0)), zI g (ad 14) 8 OF, ((ad 15), .inr (1, [.ref (ad 16), .ref (ad 17), .ref (ad 18), .int (iI (un_ (pf (fun x => N (7 + x)) (fun x => N (2 + x)) (N 0)) (N 1)))])), zI g (ad 16) 385 (stt (pf (fun x => N (7 + x)) (fun x => N (2 + x)) (N 0)) (N 1)), zI g (ad 17) 384 (u_.2.1), zI g (ad 18) 320 (u_.2.2.1), ((ad 19), .inr (0, [.ref (ad 20), .ref (ad 21), .int (iI (nt_ (pf (fun x => N (7 + x)) (fun x => N (2 + x)) (N 0)) (N 1))), .int (iI (he_ (pf (fun x => N (7 + x)) (fun x => N (2 + x)) (N 0)) (N 1))), .int (iI (ku_ (pf (fun x => N (7 + x)) (fun x => N (2 + x)) (N 0)) (N 1))), .int (iI (al_ (pf (fun x => N (7 + x)) (fun x => N (2 + x)) (N 0)) (N 1)))])), zI g (ad 20) 124 (V_ (pf (fun x => N (7 + x)) (fun x => N (2 + x)) (N 0)) (N 1)), zI g (ad 21) 124 (u_.2.2.2), (ad 22, .inr (6, [.ref (ad 23), .ref (ad 24), .int (iI ac), .ref (ad 25), .ref (ad 26), .ref (ad 27), .ref (ad 28), .ref (ad 29), .ref (ad 30)])), zI g (ad 23) 647 N, zI g (ad 24) 5176 P, zI g (ad 25) 1294 IQ, zB g (ad 26) 2 KP, zI g (ad 27) 8 TU, zI g (ad 28) 80 PK, zI g (ad 29) 124 VO, zB g (ad 30) 124 RK] ++ IW) := hD
  refine lv_aload_n hx hb dL_law_415 rfl (lv_at hl 2 rfl) ?_
  refine lv_aload_n hx hb dL_law_416 rfl (lv_at hl 0 rfl) ?_
  refine lv_iload_n hx hb dL_law_417 rfl (lv_at hl 3 rfl) ?_
  refine lv_iconst (v := iI 1) hx hb dL_law_418 rfl ?_
  refine z_iadd hx hb dL_law_419 ?_
  refine z_sld hx hb hX hbl hbA hS (by omega) (by omega) hL hv1 dL_law_420 ?_
  refine z_cE (As := [.int (iI v1)]) (rest := [.int (iI r_1)]) C (m_X6_told (l := l) (g := g) (q := ad 22) (qn := ad 23) (qp := ad 24) (qi := ad 25) (qk := ad 26) (qt := ad 27) (qw := ad 28) (qv := ad 29) (qr := ad 30) (ac := ac) (N := N) (TU := TU) (PK := PK) (VO := VO) (RK := RK) (O := u_.2.2.2) (wh := v1) (zN := zN) (g_wh := by omega) (hO := hq.2.2.2)) (cwV 1 C.2.2.2.2 gL_law_X6_told rfl rfl rfl (by decide +kernel) ⟨Nat.le_of_ble_eq_true rfl, Nat.le_of_ble_eq_true rfl⟩) hK hP hD hS hA [22, 23, 27, 28, 29, 30] (by decide) rfl (fun _ => rfl) 22 rfl rfl rfl hl.1 rfl (Nat.le_of_ble_eq_true rfl) dL_law_421 ⟨by show cells ≤ 600000; omega, by show slots ≤ 7302250; omega⟩ (fun r_2 t_ H locs hm hP hD hS => ?_)
  have hP : zP g ([((ad 0), .inr (5, [.ref (ad 1), .ref (ad 4), .ref (ad 10), .ref (ad 11), .ref (ad 15), .ref (ad 19), .int (iI 1)])), ((ad 1), .inr (4, [.ref (ad 2), .ref (ad 3), .int (iI (N 0)), .int (iI (N 1))])), zI g (ad 2) 640 (fun x => N (7 + x)), zI g (ad 3) 5 (fun x => N (2 + x)), ((ad 4), .inr (2, [.ref (ad 5), .ref (ad 6), .ref (ad 7), .ref (ad 8), .ref (ad 9), .int (iI nx), .int (iI ac)])), zI g (ad 5) 1024 NB, zI g (ad 6) 8 RR, zI g (ad 7) 8 RS, zI g (ad 8) 8 RF, zI g (ad 9) 8 RE, zQ g (ad 10) 2 IM, ((ad 11), .inr (3, [.ref (ad 12), .ref (ad 13), .ref (ad 14)])), zI g (ad 12) 8 (u_.1), zI g (ad 13) 80 (pf (fun x => N (7 + x)) (fun x => N (2 + x)) (N 0)), zI g (ad 14) 8 OF, ((ad 15), .inr (1, [.ref (ad 16), .ref (ad 17), .ref (ad 18), .int (iI (un_ (pf (fun x => N (7 + x)) (fun x => N (2 + x)) (N 0)) (N 1)))])), zI g (ad 16) 385 (stt (pf (fun x => N (7 + x)) (fun x => N (2 + x)) (N 0)) (N 1)), zI g (ad 17) 384 (u_.2.1), zI g (ad 18) 320 (u_.2.2.1), ((ad 19), .inr (0, [.ref (ad 20), .ref (ad 21), .int (iI (nt_ (pf (fun x => N (7 + x)) (fun x => N (2 + x)) (N 0)) (N 1))), .int (iI (he_ (pf (fun x => N (7 + x)) (fun x => N (2 + x)) (N 0)) (N 1))), .int (iI (ku_ (pf (fun x => N (7 + x)) (fun x => N (2 + x)) (N 0)) (N 1))), .int (iI (al_ (pf (fun x => N (7 + x)) (fun x => N (2 + x)) (N 0)) (N 1)))])), zI g (ad 20) 124 (V_ (pf (fun x => N (7 + x)) (fun x => N (2 + x)) (N 0)) (N 1)), zI g (ad 21) 124 (u_.2.2.2), ((ad 22), .inr (6, [.ref (ad 23), .ref (ad 24), .int (iI ac), .ref (ad 25), .ref (ad 26), .ref (ad 27), .ref (ad 28), .ref (ad 29), .ref (ad 30)])), zI g (ad 23) 647 N, zI g (ad 24) 5176 P, zI g (ad 25) 1294 IQ, zB g (ad 26) 2 KP, zI g (ad 27) 8 (t_.1), zI g (ad 28) 80 (t_.2), zI g (ad 29) 124 (V_ (FDn N) (N 1)), zB g (ad 30) 124 (fun _ => 0)] ++ IW) H := hP
  have hD : va_D A ([((ad 0), .inr (5, [.ref (ad 1), .ref (ad 4), .ref (ad 10), .ref (ad 11), .ref (ad 15), .ref (ad 19), .int (iI 1)])), ((ad 1), .inr (4, [.ref (ad 2), .ref (ad 3), .int (iI (N 0)), .int (iI (N 1))])), zI g (ad 2) 640 (fun x => N (7 + x)), zI g (ad 3) 5 (fun x => N (2 + x)), ((ad 4), .inr (2, [.ref (ad 5), .ref (ad 6), .ref (ad 7), .ref (ad 8), .ref (ad 9), .int (iI nx), .int (iI ac)])), zI g (ad 5) 1024 NB, zI g (ad 6) 8 RR, zI g (ad 7) 8 RS, zI g (ad 8) 8 RF, zI g (ad 9) 8 RE, zQ g (ad 10) 2 IM, ((ad 11), .inr (3, [.ref (ad 12), .ref (ad 13), .ref (ad 14)])), zI g (ad 12) 8 (u_.1), zI g (ad 13) 80 (pf (fun x => N (7 + x)) (fun x => N (2 + x)) (N 0)), zI g (ad 14) 8 OF, ((ad 15), .inr (1, [.ref (ad 16), .ref (ad 17), .ref (ad 18), .int (iI (un_ (pf (fun x => N (7 + x)) (fun x => N (2 + x)) (N 0)) (N 1)))])), zI g (ad 16) 385 (stt (pf (fun x => N (7 + x)) (fun x => N (2 + x)) (N 0)) (N 1)), zI g (ad 17) 384 (u_.2.1), zI g (ad 18) 320 (u_.2.2.1), ((ad 19), .inr (0, [.ref (ad 20), .ref (ad 21), .int (iI (nt_ (pf (fun x => N (7 + x)) (fun x => N (2 + x)) (N 0)) (N 1))), .int (iI (he_ (pf (fun x => N (7 + x)) (fun x => N (2 + x)) (N 0)) (N 1))), .int (iI (ku_ (pf (fun x => N (7 + x)) (fun x => N (2 + x)) (N 0)) (N 1))), .int (iI (al_ (pf (fun x => N (7 + x)) (fun x => N (2 + x)) (N 0)) (N 1)))])), zI g (ad 20) 124 (V_ (pf (fun x => N (7 + x)) (fun x => N (2 + x)) (N 0)) (N 1)), zI g (ad 21) 124 (u_.2.2.2), ((ad 22), .inr (6, [.ref (ad 23), .ref (ad 24), .int (iI ac), .ref (ad 25), .ref (ad 26), .ref (ad 27), .ref (ad 28), .ref (ad 29), .ref (ad 30)])), zI g (ad 23) 647 N, zI g (ad 24) 5176 P, zI g (ad 25) 1294 IQ, zB g (ad 26) 2 KP, zI g (ad 27) 8 (t_.1), zI g (ad 28) 80 (t_.2), zI g (ad 29) 124 (V_ (FDn N) (N 1)), zB g (ad 30) 124 (fun _ => 0)] ++ IW) := hD
  refine z_eqS (tgt := 805) hx hb dL_law_424 (by decide) (hq.1.trans hm.symm) ?_
  exact hgo H locs _ _ bud ls ⟨N, P, IQ, KP, (t_.1), (t_.2), (V_ (FDn N) (N 1)), (fun _ => 0), NB, RR, RS, RF, RE, (u_.1), (pf (fun x => N (7 + x)) (fun x => N (2 + x)) (N 0)), OF, (stt (pf (fun x => N (7 + x)) (fun x => N (2 + x)) (N 0)) (N 1)), (u_.2.1), (u_.2.2.1), (V_ (pf (fun x => N (7 + x)) (fun x => N (2 + x)) (N 0)) (N 1)), (u_.2.2.2), ac, nx, 1, (un_ (pf (fun x => N (7 + x)) (fun x => N (2 + x)) (N 0)) (N 1)), (nt_ (pf (fun x => N (7 + x)) (fun x => N (2 + x)) (N 0)) (N 1)), (he_ (pf (fun x => N (7 + x)) (fun x => N (2 + x)) (N 0)) (N 1)), (ku_ (pf (fun x => N (7 + x)) (fun x => N (2 + x)) (N 0)) (N 1)), (al_ (pf (fun x => N (7 + x)) (fun x => N (2 + x)) (N 0)) (N 1)), IM, IW, zN, hPR, Or.inr ⟨rfl, fun j _ _ => rfl, fun j _ _ => rfl, fun j _ _ => rfl, rfl, rfl, rfl, rfl, rfl, hq.2⟩, hIM, hP, hD, hS⟩ (by omega) (by omega) (lv_sub hl [0, 1, 2, 3] rfl)
set_option maxHeartbeats 8000000 in
set_option maxRecDepth 100000 in
theorem op_row {p : Program} {l : Launch} {e : Env} {s : State} {m : MethodId} {below : List Frame} {meth : Method} {c : Code} {Q : State → Prop} {A : Nat → Prop} {g : zG} {ad : Nat → Nat} {b0 L : Nat} {xs : Nat → Int32} {i_ : Int} (X : zX p s m c A g b0 L xs i_) (hgo : zL p l e s m below meth c Q A g ad b0 i_ 805) : zL p l e s m below meth c Q A g ad b0 i_ 429 := by
  obtain ⟨C, hX, hbl, hK, hO, hA, hbA, hi, hi2, hL⟩ := X
  have hx := C.1
  have hb := C.2.1
  intro H locs cells slots bud ls hI hcs hss hl
  obtain ⟨N, P, IQ, KP, TU, PK, VO, RK, NB, RR, RS, RF, RE, WA, FD, OF, ST, FI, EN, CE, OR, ac, nx, fr, un, rk, he, kn, al, IM, IW, zN, hPR, hfr, hIM, hP, hD, hS⟩ := hI
  have hPb := hPR.2.1
  have hPc := hPR.2.2.1
  have hPn := hPR.2.2.2.1
  have hPm := hPR.2.2.2.2.1
  obtain ⟨v1, hv1⟩ : ∃ v, v = sx xs (i_ + 1) := ⟨_, rfl⟩
  have g_v1 := sx_rg xs (i_ + 1)
  rw [← hv1] at g_v1
  obtain ⟨v2, hv2⟩ : ∃ v, v = sx xs (i_ + 2) := ⟨_, rfl⟩
  have g_v2 := sx_rg xs (i_ + 2)
  rw [← hv2] at g_v2
  by_cases hac : 0 ≤ v1 ∧ v1 ≤ 4
  · refine lv_aload_n hx hb dL_law_429 rfl (lv_at hl 1 rfl) ?_
    refine lv_aload_n hx hb dL_law_430 rfl (lv_at hl 0 rfl) ?_
    refine lv_iload_n hx hb dL_law_431 rfl (lv_at hl 3 rfl) ?_
    refine lv_iconst (v := iI 1) hx hb dL_law_432 rfl ?_
    refine z_iadd hx hb dL_law_433 ?_
    refine z_sld hx hb hX hbl hbA hS (by omega) (by omega) hL hv1 dL_law_434 ?_
    refine lv_aload_n hx hb dL_law_435 rfl (lv_at hl 0 rfl) ?_
    refine lv_iload_n hx hb dL_law_436 rfl (lv_at hl 3 rfl) ?_
    refine lv_iconst (v := iI 2) hx hb dL_law_437 rfl ?_
    refine z_iadd hx hb dL_law_438 ?_
    refine z_sld hx hb hX hbl hbA hS (by omega) (by omega) hL hv2 dL_law_439 ?_
    refine z_cE (As := [.int (iI v1), .int (iI v2)]) (rest := []) C (m_X5_row (l := l) (g := g) (o := ad 0) (h := ad 1) (b := ad 4) (im := ad 10) (a := ad 11) (d := ad 15) (bb := ad 19) (fr := fr) (hn := ad 2) (hs := ad 3) (fl := N 0) (re := N 1) (NU := fun x => N (7 + x)) (SZ := fun x => N (2 + x)) (aw := ad 12) (af := ad 13) (ao := ad 14) (ds := ad 16) (df := ad 17) (de := ad 18) (bc := ad 20) (bo := ad 21) (WA := WA) (FD := FD) (ST := ST) (FI := FI) (EN := EN) (CE := CE) (OR := OR) (un := un) (rk := rk) (he := he) (kn := kn) (al := al) (OF := OF) (pi_ := v1) (wh := v2) (hfr := hfr) (f1 := zN.1) (f2 := zN.2.1) (z1 := zN.2.2.1) (g_pi_ := by omega) (g_wh := by omega) (a1 := by omega)) (cwV 2 C.2.2.2.2 gL_law_X5_row rfl rfl rfl (by decide +kernel) ⟨Nat.le_of_ble_eq_true rfl, Nat.le_of_ble_eq_true rfl⟩) hK hP hD hS hA [0, 1, 2, 3, 11, 12, 13, 15, 16, 17, 18, 19, 20, 21, 14] (by decide) rfl (fun _ => rfl) 0 rfl rfl rfl hl.1 rfl (Nat.le_of_ble_eq_true rfl) dL_law_440 ⟨by show cells ≤ 600000; omega, by show slots ≤ 7302250; omega⟩ (fun r_1 u_ H locs hq hP hD hS => ?_)
    have hP : zP g ([((ad 0), .inr (5, [.ref (ad 1), .ref (ad 4), .ref (ad 10), .ref (ad 11), .ref (ad 15), .ref (ad 19), .int (iI 1)])), ((ad 1), .inr (4, [.ref (ad 2), .ref (ad 3), .int (iI (N 0)), .int (iI (N 1))])), zI g (ad 2) 640 (fun x => N (7 + x)), zI g (ad 3) 5 (fun x => N (2 + x)), (ad 4, .inr (2, [.ref (ad 5), .ref (ad 6), .ref (ad 7), .ref (ad 8), .ref (ad 9), .int (iI nx), .int (iI ac)])), zI g (ad 5) 1024 NB, zI g (ad 6) 8 RR, zI g (ad 7) 8 RS, zI g (ad 8) 8 RF, zI g (ad 9) 8 RE, zQ g (ad 10) 2 IM, ((ad 11), .inr (3, [.ref (ad 12), .ref (ad 13), .ref (ad 14)])), zI g (ad 12) 8 (u_.1), zI g (ad 13) 80 (pf (fun x => N (7 + x)) (fun x => N (2 + x)) (N 0)), zI g (ad 14) 8 (u_.2.2.2.2), ((ad 15), .inr (1, [.ref (ad 16), .ref (ad 17), .ref (ad 18), .int (iI (un_ (pf (fun x => N (7 + x)) (fun x => N (2 + x)) (N 0)) (N 1)))])), zI g (ad 16) 385 (stt (pf (fun x => N (7 + x)) (fun x => N (2 + x)) (N 0)) (N 1)), zI g (ad 17) 384 (u_.2.1), zI g (ad 18) 320 (u_.2.2.1), ((ad 19), .inr (0, [.ref (ad 20), .ref (ad 21), .int (iI (nt_ (pf (fun x => N (7 + x)) (fun x => N (2 + x)) (N 0)) (N 1))), .int (iI (he_ (pf (fun x => N (7 + x)) (fun x => N (2 + x)) (N 0)) (N 1))), .int (iI (ku_ (pf (fun x => N (7 + x)) (fun x => N (2 + x)) (N 0)) (N 1))), .int (iI (al_ (pf (fun x => N (7 + x)) (fun x => N (2 + x)) (N 0)) (N 1)))])), zI g (ad 20) 124 (V_ (pf (fun x => N (7 + x)) (fun x => N (2 + x)) (N 0)) (N 1)), zI g (ad 21) 124 (u_.2.2.2.1), (ad 22, .inr (6, [.ref (ad 23), .ref (ad 24), .int (iI ac), .ref (ad 25), .ref (ad 26), .ref (ad 27), .ref (ad 28), .ref (ad 29), .ref (ad 30)])), zI g (ad 23) 647 N, zI g (ad 24) 5176 P, zI g (ad 25) 1294 IQ, zB g (ad 26) 2 KP, zI g (ad 27) 8 TU, zI g (ad 28) 80 PK, zI g (ad 29) 124 VO, zB g (ad 30) 124 RK] ++ IW) H := hP
    have hD : va_D A ([((ad 0), .inr (5, [.ref (ad 1), .ref (ad 4), .ref (ad 10), .ref (ad 11), .ref (ad 15), .ref (ad 19), .int (iI 1)])), ((ad 1), .inr (4, [.ref (ad 2), .ref (ad 3), .int (iI (N 0)), .int (iI (N 1))])), zI g (ad 2) 640 (fun x => N (7 + x)), zI g (ad 3) 5 (fun x => N (2 + x)), (ad 4, .inr (2, [.ref (ad 5), .ref (ad 6), .ref (ad 7), .ref (ad 8), .ref (ad 9), .int (iI nx), .int (iI ac)])), zI g (ad 5) 1024 NB, zI g (ad 6) 8 RR, zI g (ad 7) 8 RS, zI g (ad 8) 8 RF, zI g (ad 9) 8 RE, zQ g (ad 10) 2 IM, ((ad 11), .inr (3, [.ref (ad 12), .ref (ad 13), .ref (ad 14)])), zI g (ad 12) 8 (u_.1), zI g (ad 13) 80 (pf (fun x => N (7 + x)) (fun x => N (2 + x)) (N 0)), zI g (ad 14) 8 (u_.2.2.2.2), ((ad 15), .inr (1, [.ref (ad 16), .ref (ad 17), .ref (ad 18), .int (iI (un_ (pf (fun x => N (7 + x)) (fun x => N (2 + x)) (N 0)) (N 1)))])), zI g (ad 16) 385 (stt (pf (fun x => N (7 + x)) (fun x => N (2 + x)) (N 0)) (N 1)), zI g (ad 17) 384 (u_.2.1), zI g (ad 18) 320 (u_.2.2.1), ((ad 19), .inr (0, [.ref (ad 20), .ref (ad 21), .int (iI (nt_ (pf (fun x => N (7 + x)) (fun x => N (2 + x)) (N 0)) (N 1))), .int (iI (he_ (pf (fun x => N (7 + x)) (fun x => N (2 + x)) (N 0)) (N 1))), .int (iI (ku_ (pf (fun x => N (7 + x)) (fun x => N (2 + x)) (N 0)) (N 1))), .int (iI (al_ (pf (fun x => N (7 + x)) (fun x => N (2 + x)) (N 0)) (N 1)))])), zI g (ad 20) 124 (V_ (pf (fun x => N (7 + x)) (fun x => N (2 + x)) (N 0)) (N 1)), zI g (ad 21) 124 (u_.2.2.2.1), (ad 22, .inr (6, [.ref (ad 23), .ref (ad 24), .int (iI ac), .ref (ad 25), .ref (ad 26), .ref (ad 27), .ref (ad 28), .ref (ad 29), .ref (ad 30)])), zI g (ad 23) 647 N, zI g (ad 24) 5176 P, zI g (ad 25) 1294 IQ, zB g (ad 26) 2 KP, zI g (ad 27) 8 TU, zI g (ad 28) 80 PK, zI g (ad 29) 124 VO, zB g (ad 30) 124 RK] ++ IW) := hD
    refine lv_aload_n hx hb dL_law_443 rfl (lv_at hl 2 rfl) ?_
    refine lv_aload_n hx hb dL_law_444 rfl (lv_at hl 0 rfl) ?_
    refine lv_iload_n hx hb dL_law_445 rfl (lv_at hl 3 rfl) ?_
    refine lv_iconst (v := iI 1) hx hb dL_law_446 rfl ?_
    refine z_iadd hx hb dL_law_447 ?_
    refine z_sld hx hb hX hbl hbA hS (by omega) (by omega) hL hv1 dL_law_448 ?_
    refine lv_aload_n hx hb dL_law_449 rfl (lv_at hl 0 rfl) ?_
    refine lv_iload_n hx hb dL_law_450 rfl (lv_at hl 3 rfl) ?_
    refine lv_iconst (v := iI 2) hx hb dL_law_451 rfl ?_
    refine z_iadd hx hb dL_law_452 ?_
    refine z_sld hx hb hX hbl hbA hS (by omega) (by omega) hL hv2 dL_law_453 ?_
    refine z_cE (As := [.int (iI v1), .int (iI v2)]) (rest := [.int (iI r_1)]) C (m_X6_row (l := l) (g := g) (q := ad 22) (qn := ad 23) (qp := ad 24) (qi := ad 25) (qk := ad 26) (qt := ad 27) (qw := ad 28) (qv := ad 29) (qr := ad 30) (ac := ac) (N := N) (TU := TU) (PK := PK) (pi_ := v1) (wh := v2) (zN := zN) (a1 := by omega) (g_wh := by omega)) (cwV 2 C.2.2.2.2 gL_law_X6_row rfl rfl rfl (by decide +kernel) ⟨Nat.le_of_ble_eq_true rfl, Nat.le_of_ble_eq_true rfl⟩) hK hP hD hS hA [22, 23, 27, 28] (by decide) rfl (fun _ => rfl) 22 rfl rfl rfl hl.1 rfl (Nat.le_of_ble_eq_true rfl) dL_law_454 ⟨by show cells ≤ 600000; omega, by show slots ≤ 7302250; omega⟩ (fun r_2 t_ H locs hm hP hD hS => ?_)
    have hP : zP g ([((ad 0), .inr (5, [.ref (ad 1), .ref (ad 4), .ref (ad 10), .ref (ad 11), .ref (ad 15), .ref (ad 19), .int (iI 1)])), ((ad 1), .inr (4, [.ref (ad 2), .ref (ad 3), .int (iI (N 0)), .int (iI (N 1))])), zI g (ad 2) 640 (fun x => N (7 + x)), zI g (ad 3) 5 (fun x => N (2 + x)), (ad 4, .inr (2, [.ref (ad 5), .ref (ad 6), .ref (ad 7), .ref (ad 8), .ref (ad 9), .int (iI nx), .int (iI ac)])), zI g (ad 5) 1024 NB, zI g (ad 6) 8 RR, zI g (ad 7) 8 RS, zI g (ad 8) 8 RF, zI g (ad 9) 8 RE, zQ g (ad 10) 2 IM, ((ad 11), .inr (3, [.ref (ad 12), .ref (ad 13), .ref (ad 14)])), zI g (ad 12) 8 (u_.1), zI g (ad 13) 80 (pf (fun x => N (7 + x)) (fun x => N (2 + x)) (N 0)), zI g (ad 14) 8 (u_.2.2.2.2), ((ad 15), .inr (1, [.ref (ad 16), .ref (ad 17), .ref (ad 18), .int (iI (un_ (pf (fun x => N (7 + x)) (fun x => N (2 + x)) (N 0)) (N 1)))])), zI g (ad 16) 385 (stt (pf (fun x => N (7 + x)) (fun x => N (2 + x)) (N 0)) (N 1)), zI g (ad 17) 384 (u_.2.1), zI g (ad 18) 320 (u_.2.2.1), ((ad 19), .inr (0, [.ref (ad 20), .ref (ad 21), .int (iI (nt_ (pf (fun x => N (7 + x)) (fun x => N (2 + x)) (N 0)) (N 1))), .int (iI (he_ (pf (fun x => N (7 + x)) (fun x => N (2 + x)) (N 0)) (N 1))), .int (iI (ku_ (pf (fun x => N (7 + x)) (fun x => N (2 + x)) (N 0)) (N 1))), .int (iI (al_ (pf (fun x => N (7 + x)) (fun x => N (2 + x)) (N 0)) (N 1)))])), zI g (ad 20) 124 (V_ (pf (fun x => N (7 + x)) (fun x => N (2 + x)) (N 0)) (N 1)), zI g (ad 21) 124 (u_.2.2.2.1), ((ad 22), .inr (6, [.ref (ad 23), .ref (ad 24), .int (iI ac), .ref (ad 25), .ref (ad 26), .ref (ad 27), .ref (ad 28), .ref (ad 29), .ref (ad 30)])), zI g (ad 23) 647 N, zI g (ad 24) 5176 P, zI g (ad 25) 1294 IQ, zB g (ad 26) 2 KP, zI g (ad 27) 8 (t_.1), zI g (ad 28) 80 (t_.2), zI g (ad 29) 124 VO, zB g (ad 30) 124 RK] ++ IW) H := hP
    have hD : va_D A ([((ad 0), .inr (5, [.ref (ad 1), .ref (ad 4), .ref (ad 10), .ref (ad 11), .ref (ad 15), .ref (ad 19), .int (iI 1)])), ((ad 1), .inr (4, [.ref (ad 2), .ref (ad 3), .int (iI (N 0)), .int (iI (N 1))])), zI g (ad 2) 640 (fun x => N (7 + x)), zI g (ad 3) 5 (fun x => N (2 + x)), (ad 4, .inr (2, [.ref (ad 5), .ref (ad 6), .ref (ad 7), .ref (ad 8), .ref (ad 9), .int (iI nx), .int (iI ac)])), zI g (ad 5) 1024 NB, zI g (ad 6) 8 RR, zI g (ad 7) 8 RS, zI g (ad 8) 8 RF, zI g (ad 9) 8 RE, zQ g (ad 10) 2 IM, ((ad 11), .inr (3, [.ref (ad 12), .ref (ad 13), .ref (ad 14)])), zI g (ad 12) 8 (u_.1), zI g (ad 13) 80 (pf (fun x => N (7 + x)) (fun x => N (2 + x)) (N 0)), zI g (ad 14) 8 (u_.2.2.2.2), ((ad 15), .inr (1, [.ref (ad 16), .ref (ad 17), .ref (ad 18), .int (iI (un_ (pf (fun x => N (7 + x)) (fun x => N (2 + x)) (N 0)) (N 1)))])), zI g (ad 16) 385 (stt (pf (fun x => N (7 + x)) (fun x => N (2 + x)) (N 0)) (N 1)), zI g (ad 17) 384 (u_.2.1), zI g (ad 18) 320 (u_.2.2.1), ((ad 19), .inr (0, [.ref (ad 20), .ref (ad 21), .int (iI (nt_ (pf (fun x => N (7 + x)) (fun x => N (2 + x)) (N 0)) (N 1))), .int (iI (he_ (pf (fun x => N (7 + x)) (fun x => N (2 + x)) (N 0)) (N 1))), .int (iI (ku_ (pf (fun x => N (7 + x)) (fun x => N (2 + x)) (N 0)) (N 1))), .int (iI (al_ (pf (fun x => N (7 + x)) (fun x => N (2 + x)) (N 0)) (N 1)))])), zI g (ad 20) 124 (V_ (pf (fun x => N (7 + x)) (fun x => N (2 + x)) (N 0)) (N 1)), zI g (ad 21) 124 (u_.2.2.2.1), ((ad 22), .inr (6, [.ref (ad 23), .ref (ad 24), .int (iI ac), .ref (ad 25), .ref (ad 26), .ref (ad 27), .ref (ad 28), .ref (ad 29), .ref (ad 30)])), zI g (ad 23) 647 N, zI g (ad 24) 5176 P, zI g (ad 25) 1294 IQ, zB g (ad 26) 2 KP, zI g (ad 27) 8 (t_.1), zI g (ad 28) 80 (t_.2), zI g (ad 29) 124 VO, zB g (ad 30) 124 RK] ++ IW) := hD
    refine z_eqS (tgt := 805) hx hb dL_law_457 (by decide) (hq.1.trans hm.symm) ?_
    exact hgo H locs _ _ bud ls ⟨N, P, IQ, KP, (t_.1), (t_.2), VO, RK, NB, RR, RS, RF, RE, (u_.1), (pf (fun x => N (7 + x)) (fun x => N (2 + x)) (N 0)), (u_.2.2.2.2), (stt (pf (fun x => N (7 + x)) (fun x => N (2 + x)) (N 0)) (N 1)), (u_.2.1), (u_.2.2.1), (V_ (pf (fun x => N (7 + x)) (fun x => N (2 + x)) (N 0)) (N 1)), (u_.2.2.2.1), ac, nx, 1, (un_ (pf (fun x => N (7 + x)) (fun x => N (2 + x)) (N 0)) (N 1)), (nt_ (pf (fun x => N (7 + x)) (fun x => N (2 + x)) (N 0)) (N 1)), (he_ (pf (fun x => N (7 + x)) (fun x => N (2 + x)) (N 0)) (N 1)), (ku_ (pf (fun x => N (7 + x)) (fun x => N (2 + x)) (N 0)) (N 1)), (al_ (pf (fun x => N (7 + x)) (fun x => N (2 + x)) (N 0)) (N 1)), IM, IW, zN, hPR, Or.inr ⟨rfl, fun j _ _ => rfl, fun j _ _ => rfl, fun j _ _ => rfl, rfl, rfl, rfl, rfl, rfl, hq.2⟩, hIM, hP, hD, hS⟩ (by omega) (by omega) (lv_sub hl [0, 1, 2, 3] rfl)
  · refine lv_aload_n hx hb dL_law_429 rfl (lv_at hl 1 rfl) ?_
    refine lv_aload_n hx hb dL_law_430 rfl (lv_at hl 0 rfl) ?_
    refine lv_iload_n hx hb dL_law_431 rfl (lv_at hl 3 rfl) ?_
    refine lv_iconst (v := iI 1) hx hb dL_law_432 rfl ?_
    refine z_iadd hx hb dL_law_433 ?_
    refine z_sld hx hb hX hbl hbA hS (by omega) (by omega) hL hv1 dL_law_434 ?_
    refine lv_aload_n hx hb dL_law_435 rfl (lv_at hl 0 rfl) ?_
    refine lv_iload_n hx hb dL_law_436 rfl (lv_at hl 3 rfl) ?_
    refine lv_iconst (v := iI 2) hx hb dL_law_437 rfl ?_
    refine z_iadd hx hb dL_law_438 ?_
    refine z_sld hx hb hX hbl hbA hS (by omega) (by omega) hL hv2 dL_law_439 ?_
    refine z_cS (As := [.int (iI v1), .int (iI v2)]) (rest := []) C (m_X5_row_n (l := l) (g := g) (o := ad 0) (h := ad 1) (b := ad 4) (im := ad 10) (a := ad 11) (d := ad 15) (bb := ad 19) (fr := fr) (pi_ := v1) (wh := v2) (g_pi_ := by omega) (rf := hac)) (cwV 2 C.2.2.2.2 gL_law_X5_row rfl rfl rfl (by decide +kernel) ⟨Nat.le_of_ble_eq_true rfl, Nat.le_of_ble_eq_true rfl⟩) hK hP [0] rfl 0 rfl rfl rfl hl.1 rfl (Nat.le_of_ble_eq_true rfl) dL_law_440 ⟨by show cells ≤ 600000; omega, by show slots ≤ 7302250; omega⟩ ?_
    refine lv_aload_n hx hb dL_law_443 rfl (lv_at hl 2 rfl) ?_
    refine lv_aload_n hx hb dL_law_444 rfl (lv_at hl 0 rfl) ?_
    refine lv_iload_n hx hb dL_law_445 rfl (lv_at hl 3 rfl) ?_
    refine lv_iconst (v := iI 1) hx hb dL_law_446 rfl ?_
    refine z_iadd hx hb dL_law_447 ?_
    refine z_sld hx hb hX hbl hbA hS (by omega) (by omega) hL hv1 dL_law_448 ?_
    refine lv_aload_n hx hb dL_law_449 rfl (lv_at hl 0 rfl) ?_
    refine lv_iload_n hx hb dL_law_450 rfl (lv_at hl 3 rfl) ?_
    refine lv_iconst (v := iI 2) hx hb dL_law_451 rfl ?_
    refine z_iadd hx hb dL_law_452 ?_
    refine z_sld hx hb hX hbl hbA hS (by omega) (by omega) hL hv2 dL_law_453 ?_
    refine z_cS (As := [.int (iI v1), .int (iI v2)]) (rest := [.int (iI (-1000000001))]) C (m_X6_row_n (l := l) (g := g) (q := ad 22) (qn := ad 23) (qp := ad 24) (qi := ad 25) (qk := ad 26) (qt := ad 27) (qw := ad 28) (qv := ad 29) (qr := ad 30) (ac := ac) (pi_ := v1) (wh := v2) (g_pi_ := by omega) (rf := hac)) (cwV 2 C.2.2.2.2 gL_law_X6_row rfl rfl rfl (by decide +kernel) ⟨Nat.le_of_ble_eq_true rfl, Nat.le_of_ble_eq_true rfl⟩) hK hP [22] rfl 22 rfl rfl rfl hl.1 rfl (Nat.le_of_ble_eq_true rfl) dL_law_454 ⟨by show cells ≤ 600000; omega, by show slots ≤ 7302250; omega⟩ ?_
    refine z_eqS (tgt := 805) hx hb dL_law_457 (by decide) (rfl) ?_
    exact hgo H locs _ _ bud ls ⟨N, P, IQ, KP, TU, PK, VO, RK, NB, RR, RS, RF, RE, WA, FD, OF, ST, FI, EN, CE, OR, ac, nx, fr, un, rk, he, kn, al, IM, IW, zN, hPR, hfr, hIM, hP, hD, hS⟩ (by omega) (by omega) (lv_sub hl [0, 1, 2, 3] rfl)
set_option maxHeartbeats 8000000 in
set_option maxRecDepth 100000 in
theorem op_at {p : Program} {l : Launch} {e : Env} {s : State} {m : MethodId} {below : List Frame} {meth : Method} {c : Code} {Q : State → Prop} {A : Nat → Prop} {g : zG} {ad : Nat → Nat} {b0 L : Nat} {xs : Nat → Int32} {i_ : Int} (X : zX p s m c A g b0 L xs i_) (hgo : zL p l e s m below meth c Q A g ad b0 i_ 805) : zL p l e s m below meth c Q A g ad b0 i_ 462 := by
  obtain ⟨C, hX, hbl, hK, hO, hA, hbA, hi, hi2, hL⟩ := X
  have hx := C.1
  have hb := C.2.1
  intro H locs cells slots bud ls hI hcs hss hl
  obtain ⟨N, P, IQ, KP, TU, PK, VO, RK, NB, RR, RS, RF, RE, WA, FD, OF, ST, FI, EN, CE, OR, ac, nx, fr, un, rk, he, kn, al, IM, IW, zN, hPR, hfr, hIM, hP, hD, hS⟩ := hI
  have hPb := hPR.2.1
  have hPc := hPR.2.2.1
  have hPn := hPR.2.2.2.1
  have hPm := hPR.2.2.2.2.1
  obtain ⟨v1, hv1⟩ : ∃ v, v = sx xs (i_ + 1) := ⟨_, rfl⟩
  have g_v1 := sx_rg xs (i_ + 1)
  rw [← hv1] at g_v1
  obtain ⟨v2, hv2⟩ : ∃ v, v = sx xs (i_ + 2) := ⟨_, rfl⟩
  have g_v2 := sx_rg xs (i_ + 2)
  rw [← hv2] at g_v2
  refine lv_aload_n hx hb dL_law_462 rfl (lv_at hl 1 rfl) ?_
  refine lv_aload_n hx hb dL_law_463 rfl (lv_at hl 0 rfl) ?_
  refine lv_iload_n hx hb dL_law_464 rfl (lv_at hl 3 rfl) ?_
  refine lv_iconst (v := iI 1) hx hb dL_law_465 rfl ?_
  refine z_iadd hx hb dL_law_466 ?_
  refine z_sld hx hb hX hbl hbA hS (by omega) (by omega) hL hv1 dL_law_467 ?_
  refine lv_aload_n hx hb dL_law_468 rfl (lv_at hl 0 rfl) ?_
  refine lv_iload_n hx hb dL_law_469 rfl (lv_at hl 3 rfl) ?_
  refine lv_iconst (v := iI 2) hx hb dL_law_470 rfl ?_
  refine z_iadd hx hb dL_law_471 ?_
  refine z_sld hx hb hX hbl hbA hS (by omega) (by omega) hL hv2 dL_law_472 ?_
  refine z_cS (As := [.int (iI v1), .int (iI v2)]) (rest := []) C (m_X5_at (l := l) (g := g) (o := ad 0) (h := ad 1) (b := ad 4) (im := ad 10) (a := ad 11) (d := ad 15) (bb := ad 19) (fr := fr) (hn := ad 2) (hs := ad 3) (N := N) (pi_ := v1) (i_ := v2) (zN := zN) (g_pi_ := by omega) (g_i_ := by omega)) (cwV 2 C.2.2.2.2 gL_law_X5_at rfl rfl rfl (by decide +kernel) ⟨Nat.le_of_ble_eq_true rfl, Nat.le_of_ble_eq_true rfl⟩) hK hP [0, 1, 2, 3] rfl 0 rfl rfl rfl hl.1 rfl (Nat.le_of_ble_eq_true rfl) dL_law_473 ⟨by show cells ≤ 600000; omega, by show slots ≤ 7302250; omega⟩ ?_
  refine lv_aload_n hx hb dL_law_476 rfl (lv_at hl 2 rfl) ?_
  refine lv_aload_n hx hb dL_law_477 rfl (lv_at hl 0 rfl) ?_
  refine lv_iload_n hx hb dL_law_478 rfl (lv_at hl 3 rfl) ?_
  refine lv_iconst (v := iI 1) hx hb dL_law_479 rfl ?_
  refine z_iadd hx hb dL_law_480 ?_
  refine z_sld hx hb hX hbl hbA hS (by omega) (by omega) hL hv1 dL_law_481 ?_
  refine lv_aload_n hx hb dL_law_482 rfl (lv_at hl 0 rfl) ?_
  refine lv_iload_n hx hb dL_law_483 rfl (lv_at hl 3 rfl) ?_
  refine lv_iconst (v := iI 2) hx hb dL_law_484 rfl ?_
  refine z_iadd hx hb dL_law_485 ?_
  refine z_sld hx hb hX hbl hbA hS (by omega) (by omega) hL hv2 dL_law_486 ?_
  refine z_cS (As := [.int (iI v1), .int (iI v2)]) (rest := [.int (iI (if ¬ (0 ≤ v1 ∧ v1 ≤ 4) then -1000000001 else if 0 ≤ v2 ∧ v2 ≤ N (2 + v1) - 1 then N (7 + 128 * v1 + v2) else -1000000002))]) C (m_X6_at_n (l := l) (g := g) (q := ad 22) (qn := ad 23) (qp := ad 24) (qi := ad 25) (qk := ad 26) (qt := ad 27) (qw := ad 28) (qv := ad 29) (qr := ad 30) (ac := ac) (N := N) (pi_ := v1) (i_ := v2) (zN := zN) (g_pi_ := by omega) (g_i_ := by omega)) (cwV 2 C.2.2.2.2 gL_law_X6_at rfl rfl rfl (by decide +kernel) ⟨Nat.le_of_ble_eq_true rfl, Nat.le_of_ble_eq_true rfl⟩) hK hP [22, 23] rfl 22 rfl rfl rfl hl.1 rfl (Nat.le_of_ble_eq_true rfl) dL_law_487 ⟨by show cells ≤ 600000; omega, by show slots ≤ 7302250; omega⟩ ?_
  refine z_eqS (tgt := 805) hx hb dL_law_490 (by decide) (rfl) ?_
  exact hgo H locs _ _ bud ls ⟨N, P, IQ, KP, TU, PK, VO, RK, NB, RR, RS, RF, RE, WA, FD, OF, ST, FI, EN, CE, OR, ac, nx, fr, un, rk, he, kn, al, IM, IW, zN, hPR, hfr, hIM, hP, hD, hS⟩ (by omega) (by omega) (lv_sub hl [0, 1, 2, 3] rfl)
set_option maxHeartbeats 8000000 in
set_option maxRecDepth 100000 in
theorem op_share {p : Program} {l : Launch} {e : Env} {s : State} {m : MethodId} {below : List Frame} {meth : Method} {c : Code} {Q : State → Prop} {A : Nat → Prop} {g : zG} {ad : Nat → Nat} {b0 L : Nat} {xs : Nat → Int32} {i_ : Int} (X : zX p s m c A g b0 L xs i_) (hgo : zL p l e s m below meth c Q A g ad b0 i_ 805) : zL p l e s m below meth c Q A g ad b0 i_ 495 := by
  obtain ⟨C, hX, hbl, hK, hO, hA, hbA, hi, hi2, hL⟩ := X
  have hx := C.1
  have hb := C.2.1
  intro H locs cells slots bud ls hI hcs hss hl
  obtain ⟨N, P, IQ, KP, TU, PK, VO, RK, NB, RR, RS, RF, RE, WA, FD, OF, ST, FI, EN, CE, OR, ac, nx, fr, un, rk, he, kn, al, IM, IW, zN, hPR, hfr, hIM, hP, hD, hS⟩ := hI
  have hPb := hPR.2.1
  have hPc := hPR.2.2.1
  have hPn := hPR.2.2.2.1
  have hPm := hPR.2.2.2.2.1
  obtain ⟨v1, hv1⟩ : ∃ v, v = sx xs (i_ + 1) := ⟨_, rfl⟩
  have g_v1 := sx_rg xs (i_ + 1)
  rw [← hv1] at g_v1
  obtain ⟨v2, hv2⟩ : ∃ v, v = sx xs (i_ + 2) := ⟨_, rfl⟩
  have g_v2 := sx_rg xs (i_ + 2)
  rw [← hv2] at g_v2
  obtain ⟨v3, hv3⟩ : ∃ v, v = sx xs (i_ + 3) := ⟨_, rfl⟩
  have g_v3 := sx_rg xs (i_ + 3)
  rw [← hv3] at g_v3
  by_cases hac : ((0 ≤ v1 ∧ v1 ≤ 4) ∧ (0 ≤ v2 ∧ v2 ≤ N (2 + v1) / 8 - 1)) ∧ 0 ≤ v3 ∧ v3 ≤ 7
  · refine lv_aload_n hx hb dL_law_495 rfl (lv_at hl 1 rfl) ?_
    refine lv_aload_n hx hb dL_law_496 rfl (lv_at hl 0 rfl) ?_
    refine lv_iload_n hx hb dL_law_497 rfl (lv_at hl 3 rfl) ?_
    refine lv_iconst (v := iI 1) hx hb dL_law_498 rfl ?_
    refine z_iadd hx hb dL_law_499 ?_
    refine z_sld hx hb hX hbl hbA hS (by omega) (by omega) hL hv1 dL_law_500 ?_
    refine lv_aload_n hx hb dL_law_501 rfl (lv_at hl 0 rfl) ?_
    refine lv_iload_n hx hb dL_law_502 rfl (lv_at hl 3 rfl) ?_
    refine lv_iconst (v := iI 2) hx hb dL_law_503 rfl ?_
    refine z_iadd hx hb dL_law_504 ?_
    refine z_sld hx hb hX hbl hbA hS (by omega) (by omega) hL hv2 dL_law_505 ?_
    refine lv_aload_n hx hb dL_law_506 rfl (lv_at hl 0 rfl) ?_
    refine lv_iload_n hx hb dL_law_507 rfl (lv_at hl 3 rfl) ?_
    refine lv_iconst (v := iI 3) hx hb dL_law_508 rfl ?_
    refine z_iadd hx hb dL_law_509 ?_
    refine z_sld hx hb hX hbl hbA hS (by omega) (by omega) hL hv3 dL_law_510 ?_
    refine z_cE (As := [.int (iI v1), .int (iI v2), .int (iI v3)]) (rest := []) C (m_X5_share (l := l) (g := g) (o := ad 0) (h := ad 1) (b := ad 4) (im := ad 10) (a := ad 11) (d := ad 15) (bb := ad 19) (fr := fr) (hn := ad 2) (hs := ad 3) (fl := N 0) (re := N 1) (NU := fun x => N (7 + x)) (SZ := fun x => N (2 + x)) (aw := ad 12) (af := ad 13) (ao := ad 14) (WA := WA) (pi_ := v1) (w := v2) (k := v3) (z1 := zN.2.2.1) (a1 := hac.1) (a2 := hac.2)) (cwV 3 C.2.2.2.2 gL_law_X5_share rfl rfl rfl (by decide +kernel) ⟨Nat.le_of_ble_eq_true rfl, Nat.le_of_ble_eq_true rfl⟩) hK hP hD hS hA [0, 1, 2, 3, 11, 12] (by decide) rfl (fun _ => rfl) 0 rfl rfl rfl hl.1 rfl (Nat.le_of_ble_eq_true rfl) dL_law_511 ⟨by show cells ≤ 600000; omega, by show slots ≤ 7302250; omega⟩ (fun r_1 u_ H locs hq hP hD hS => ?_)
    have hq : r_1 = sh (wv (fun i => (fun x => N (7 + x)) (v1 * 128 + (v2 * 8 + i)))) v3 := hq
    subst hq
    have hP : zP g ([((ad 0), .inr (5, [.ref (ad 1), .ref (ad 4), .ref (ad 10), .ref (ad 11), .ref (ad 15), .ref (ad 19), .int (iI fr)])), ((ad 1), .inr (4, [.ref (ad 2), .ref (ad 3), .int (iI (N 0)), .int (iI (N 1))])), zI g (ad 2) 640 (fun x => N (7 + x)), zI g (ad 3) 5 (fun x => N (2 + x)), (ad 4, .inr (2, [.ref (ad 5), .ref (ad 6), .ref (ad 7), .ref (ad 8), .ref (ad 9), .int (iI nx), .int (iI ac)])), zI g (ad 5) 1024 NB, zI g (ad 6) 8 RR, zI g (ad 7) 8 RS, zI g (ad 8) 8 RF, zI g (ad 9) 8 RE, zQ g (ad 10) 2 IM, ((ad 11), .inr (3, [.ref (ad 12), .ref (ad 13), .ref (ad 14)])), zI g (ad 12) 8 (wv (fun i => (fun x => N (7 + x)) (v1 * 128 + (v2 * 8 + i)))), zI g (ad 13) 80 FD, zI g (ad 14) 8 OF, (ad 15, .inr (1, [.ref (ad 16), .ref (ad 17), .ref (ad 18), .int (iI un)])), zI g (ad 16) 385 ST, zI g (ad 17) 384 FI, zI g (ad 18) 320 EN, (ad 19, .inr (0, [.ref (ad 20), .ref (ad 21), .int (iI rk), .int (iI he), .int (iI kn), .int (iI al)])), zI g (ad 20) 124 CE, zI g (ad 21) 124 OR, (ad 22, .inr (6, [.ref (ad 23), .ref (ad 24), .int (iI ac), .ref (ad 25), .ref (ad 26), .ref (ad 27), .ref (ad 28), .ref (ad 29), .ref (ad 30)])), zI g (ad 23) 647 N, zI g (ad 24) 5176 P, zI g (ad 25) 1294 IQ, zB g (ad 26) 2 KP, zI g (ad 27) 8 TU, zI g (ad 28) 80 PK, zI g (ad 29) 124 VO, zB g (ad 30) 124 RK] ++ IW) H := hP
    have hD : va_D A ([((ad 0), .inr (5, [.ref (ad 1), .ref (ad 4), .ref (ad 10), .ref (ad 11), .ref (ad 15), .ref (ad 19), .int (iI fr)])), ((ad 1), .inr (4, [.ref (ad 2), .ref (ad 3), .int (iI (N 0)), .int (iI (N 1))])), zI g (ad 2) 640 (fun x => N (7 + x)), zI g (ad 3) 5 (fun x => N (2 + x)), (ad 4, .inr (2, [.ref (ad 5), .ref (ad 6), .ref (ad 7), .ref (ad 8), .ref (ad 9), .int (iI nx), .int (iI ac)])), zI g (ad 5) 1024 NB, zI g (ad 6) 8 RR, zI g (ad 7) 8 RS, zI g (ad 8) 8 RF, zI g (ad 9) 8 RE, zQ g (ad 10) 2 IM, ((ad 11), .inr (3, [.ref (ad 12), .ref (ad 13), .ref (ad 14)])), zI g (ad 12) 8 (wv (fun i => (fun x => N (7 + x)) (v1 * 128 + (v2 * 8 + i)))), zI g (ad 13) 80 FD, zI g (ad 14) 8 OF, (ad 15, .inr (1, [.ref (ad 16), .ref (ad 17), .ref (ad 18), .int (iI un)])), zI g (ad 16) 385 ST, zI g (ad 17) 384 FI, zI g (ad 18) 320 EN, (ad 19, .inr (0, [.ref (ad 20), .ref (ad 21), .int (iI rk), .int (iI he), .int (iI kn), .int (iI al)])), zI g (ad 20) 124 CE, zI g (ad 21) 124 OR, (ad 22, .inr (6, [.ref (ad 23), .ref (ad 24), .int (iI ac), .ref (ad 25), .ref (ad 26), .ref (ad 27), .ref (ad 28), .ref (ad 29), .ref (ad 30)])), zI g (ad 23) 647 N, zI g (ad 24) 5176 P, zI g (ad 25) 1294 IQ, zB g (ad 26) 2 KP, zI g (ad 27) 8 TU, zI g (ad 28) 80 PK, zI g (ad 29) 124 VO, zB g (ad 30) 124 RK] ++ IW) := hD
    refine lv_aload_n hx hb dL_law_514 rfl (lv_at hl 2 rfl) ?_
    refine lv_aload_n hx hb dL_law_515 rfl (lv_at hl 0 rfl) ?_
    refine lv_iload_n hx hb dL_law_516 rfl (lv_at hl 3 rfl) ?_
    refine lv_iconst (v := iI 1) hx hb dL_law_517 rfl ?_
    refine z_iadd hx hb dL_law_518 ?_
    refine z_sld hx hb hX hbl hbA hS (by omega) (by omega) hL hv1 dL_law_519 ?_
    refine lv_aload_n hx hb dL_law_520 rfl (lv_at hl 0 rfl) ?_
    refine lv_iload_n hx hb dL_law_521 rfl (lv_at hl 3 rfl) ?_
    refine lv_iconst (v := iI 2) hx hb dL_law_522 rfl ?_
    refine z_iadd hx hb dL_law_523 ?_
    refine z_sld hx hb hX hbl hbA hS (by omega) (by omega) hL hv2 dL_law_524 ?_
    refine lv_aload_n hx hb dL_law_525 rfl (lv_at hl 0 rfl) ?_
    refine lv_iload_n hx hb dL_law_526 rfl (lv_at hl 3 rfl) ?_
    refine lv_iconst (v := iI 3) hx hb dL_law_527 rfl ?_
    refine z_iadd hx hb dL_law_528 ?_
    refine z_sld hx hb hX hbl hbA hS (by omega) (by omega) hL hv3 dL_law_529 ?_
    refine z_cE (As := [.int (iI v1), .int (iI v2), .int (iI v3)]) (rest := [.int (iI (sh (wv (fun i => (fun x => N (7 + x)) (v1 * 128 + (v2 * 8 + i)))) v3))]) C (m_X6_share (l := l) (g := g) (q := ad 22) (qn := ad 23) (qp := ad 24) (qi := ad 25) (qk := ad 26) (qt := ad 27) (qw := ad 28) (qv := ad 29) (qr := ad 30) (ac := ac) (N := N) (TU := TU) (pi_ := v1) (w := v2) (k := v3) (zN := zN) (a1 := hac.1) (a2 := hac.2)) (cwV 3 C.2.2.2.2 gL_law_X6_share rfl rfl rfl (by decide +kernel) ⟨Nat.le_of_ble_eq_true rfl, Nat.le_of_ble_eq_true rfl⟩) hK hP hD hS hA [22, 23, 27] (by decide) rfl (fun _ => rfl) 22 rfl rfl rfl hl.1 rfl (Nat.le_of_ble_eq_true rfl) dL_law_530 ⟨by show cells ≤ 600000; omega, by show slots ≤ 7302250; omega⟩ (fun r_2 t_ H locs hm hP hD hS => ?_)
    have hm : r_2 = sh (wv (fun i => N (7 + (v1 * 128 + (v2 * 8 + i))))) v3 := hm
    subst hm
    have hP : zP g ([((ad 0), .inr (5, [.ref (ad 1), .ref (ad 4), .ref (ad 10), .ref (ad 11), .ref (ad 15), .ref (ad 19), .int (iI fr)])), ((ad 1), .inr (4, [.ref (ad 2), .ref (ad 3), .int (iI (N 0)), .int (iI (N 1))])), zI g (ad 2) 640 (fun x => N (7 + x)), zI g (ad 3) 5 (fun x => N (2 + x)), (ad 4, .inr (2, [.ref (ad 5), .ref (ad 6), .ref (ad 7), .ref (ad 8), .ref (ad 9), .int (iI nx), .int (iI ac)])), zI g (ad 5) 1024 NB, zI g (ad 6) 8 RR, zI g (ad 7) 8 RS, zI g (ad 8) 8 RF, zI g (ad 9) 8 RE, zQ g (ad 10) 2 IM, ((ad 11), .inr (3, [.ref (ad 12), .ref (ad 13), .ref (ad 14)])), zI g (ad 12) 8 (wv (fun i => (fun x => N (7 + x)) (v1 * 128 + (v2 * 8 + i)))), zI g (ad 13) 80 FD, zI g (ad 14) 8 OF, (ad 15, .inr (1, [.ref (ad 16), .ref (ad 17), .ref (ad 18), .int (iI un)])), zI g (ad 16) 385 ST, zI g (ad 17) 384 FI, zI g (ad 18) 320 EN, (ad 19, .inr (0, [.ref (ad 20), .ref (ad 21), .int (iI rk), .int (iI he), .int (iI kn), .int (iI al)])), zI g (ad 20) 124 CE, zI g (ad 21) 124 OR, ((ad 22), .inr (6, [.ref (ad 23), .ref (ad 24), .int (iI ac), .ref (ad 25), .ref (ad 26), .ref (ad 27), .ref (ad 28), .ref (ad 29), .ref (ad 30)])), zI g (ad 23) 647 N, zI g (ad 24) 5176 P, zI g (ad 25) 1294 IQ, zB g (ad 26) 2 KP, zI g (ad 27) 8 (wv (fun i => N (7 + (v1 * 128 + (v2 * 8 + i))))), zI g (ad 28) 80 PK, zI g (ad 29) 124 VO, zB g (ad 30) 124 RK] ++ IW) H := hP
    have hD : va_D A ([((ad 0), .inr (5, [.ref (ad 1), .ref (ad 4), .ref (ad 10), .ref (ad 11), .ref (ad 15), .ref (ad 19), .int (iI fr)])), ((ad 1), .inr (4, [.ref (ad 2), .ref (ad 3), .int (iI (N 0)), .int (iI (N 1))])), zI g (ad 2) 640 (fun x => N (7 + x)), zI g (ad 3) 5 (fun x => N (2 + x)), (ad 4, .inr (2, [.ref (ad 5), .ref (ad 6), .ref (ad 7), .ref (ad 8), .ref (ad 9), .int (iI nx), .int (iI ac)])), zI g (ad 5) 1024 NB, zI g (ad 6) 8 RR, zI g (ad 7) 8 RS, zI g (ad 8) 8 RF, zI g (ad 9) 8 RE, zQ g (ad 10) 2 IM, ((ad 11), .inr (3, [.ref (ad 12), .ref (ad 13), .ref (ad 14)])), zI g (ad 12) 8 (wv (fun i => (fun x => N (7 + x)) (v1 * 128 + (v2 * 8 + i)))), zI g (ad 13) 80 FD, zI g (ad 14) 8 OF, (ad 15, .inr (1, [.ref (ad 16), .ref (ad 17), .ref (ad 18), .int (iI un)])), zI g (ad 16) 385 ST, zI g (ad 17) 384 FI, zI g (ad 18) 320 EN, (ad 19, .inr (0, [.ref (ad 20), .ref (ad 21), .int (iI rk), .int (iI he), .int (iI kn), .int (iI al)])), zI g (ad 20) 124 CE, zI g (ad 21) 124 OR, ((ad 22), .inr (6, [.ref (ad 23), .ref (ad 24), .int (iI ac), .ref (ad 25), .ref (ad 26), .ref (ad 27), .ref (ad 28), .ref (ad 29), .ref (ad 30)])), zI g (ad 23) 647 N, zI g (ad 24) 5176 P, zI g (ad 25) 1294 IQ, zB g (ad 26) 2 KP, zI g (ad 27) 8 (wv (fun i => N (7 + (v1 * 128 + (v2 * 8 + i))))), zI g (ad 28) 80 PK, zI g (ad 29) 124 VO, zB g (ad 30) 124 RK] ++ IW) := hD
    refine z_eqS (tgt := 805) hx hb dL_law_533 (by decide) (rfl) ?_
    exact hgo H locs _ _ bud ls ⟨N, P, IQ, KP, (wv (fun i => N (7 + (v1 * 128 + (v2 * 8 + i))))), PK, VO, RK, NB, RR, RS, RF, RE, (wv (fun i => (fun x => N (7 + x)) (v1 * 128 + (v2 * 8 + i)))), FD, OF, ST, FI, EN, CE, OR, ac, nx, fr, un, rk, he, kn, al, IM, IW, zN, hPR, hfr, hIM, hP, hD, hS⟩ (by omega) (by omega) (lv_sub hl [0, 1, 2, 3] rfl)
  · refine lv_aload_n hx hb dL_law_495 rfl (lv_at hl 1 rfl) ?_
    refine lv_aload_n hx hb dL_law_496 rfl (lv_at hl 0 rfl) ?_
    refine lv_iload_n hx hb dL_law_497 rfl (lv_at hl 3 rfl) ?_
    refine lv_iconst (v := iI 1) hx hb dL_law_498 rfl ?_
    refine z_iadd hx hb dL_law_499 ?_
    refine z_sld hx hb hX hbl hbA hS (by omega) (by omega) hL hv1 dL_law_500 ?_
    refine lv_aload_n hx hb dL_law_501 rfl (lv_at hl 0 rfl) ?_
    refine lv_iload_n hx hb dL_law_502 rfl (lv_at hl 3 rfl) ?_
    refine lv_iconst (v := iI 2) hx hb dL_law_503 rfl ?_
    refine z_iadd hx hb dL_law_504 ?_
    refine z_sld hx hb hX hbl hbA hS (by omega) (by omega) hL hv2 dL_law_505 ?_
    refine lv_aload_n hx hb dL_law_506 rfl (lv_at hl 0 rfl) ?_
    refine lv_iload_n hx hb dL_law_507 rfl (lv_at hl 3 rfl) ?_
    refine lv_iconst (v := iI 3) hx hb dL_law_508 rfl ?_
    refine z_iadd hx hb dL_law_509 ?_
    refine z_sld hx hb hX hbl hbA hS (by omega) (by omega) hL hv3 dL_law_510 ?_
    refine z_cS (As := [.int (iI v1), .int (iI v2), .int (iI v3)]) (rest := []) C (m_X5_share_n (l := l) (g := g) (o := ad 0) (h := ad 1) (b := ad 4) (im := ad 10) (a := ad 11) (d := ad 15) (bb := ad 19) (fr := fr) (hn := ad 2) (hs := ad 3) (fl := N 0) (re := N 1) (SZ := fun x => N (2 + x)) (pi_ := v1) (w := v2) (k := v3) (z1 := zN.2.2.1) (g_pi_ := by omega) (g_w := by omega) (g_k := by omega) (rf := hac)) (cwV 3 C.2.2.2.2 gL_law_X5_share rfl rfl rfl (by decide +kernel) ⟨Nat.le_of_ble_eq_true rfl, Nat.le_of_ble_eq_true rfl⟩) hK hP [0, 1, 3] rfl 0 rfl rfl rfl hl.1 rfl (Nat.le_of_ble_eq_true rfl) dL_law_511 ⟨by show cells ≤ 600000; omega, by show slots ≤ 7302250; omega⟩ ?_
    refine lv_aload_n hx hb dL_law_514 rfl (lv_at hl 2 rfl) ?_
    refine lv_aload_n hx hb dL_law_515 rfl (lv_at hl 0 rfl) ?_
    refine lv_iload_n hx hb dL_law_516 rfl (lv_at hl 3 rfl) ?_
    refine lv_iconst (v := iI 1) hx hb dL_law_517 rfl ?_
    refine z_iadd hx hb dL_law_518 ?_
    refine z_sld hx hb hX hbl hbA hS (by omega) (by omega) hL hv1 dL_law_519 ?_
    refine lv_aload_n hx hb dL_law_520 rfl (lv_at hl 0 rfl) ?_
    refine lv_iload_n hx hb dL_law_521 rfl (lv_at hl 3 rfl) ?_
    refine lv_iconst (v := iI 2) hx hb dL_law_522 rfl ?_
    refine z_iadd hx hb dL_law_523 ?_
    refine z_sld hx hb hX hbl hbA hS (by omega) (by omega) hL hv2 dL_law_524 ?_
    refine lv_aload_n hx hb dL_law_525 rfl (lv_at hl 0 rfl) ?_
    refine lv_iload_n hx hb dL_law_526 rfl (lv_at hl 3 rfl) ?_
    refine lv_iconst (v := iI 3) hx hb dL_law_527 rfl ?_
    refine z_iadd hx hb dL_law_528 ?_
    refine z_sld hx hb hX hbl hbA hS (by omega) (by omega) hL hv3 dL_law_529 ?_
    refine z_cS (As := [.int (iI v1), .int (iI v2), .int (iI v3)]) (rest := [.int (iI (if ¬ ((0 ≤ v1 ∧ v1 ≤ 4) ∧ (0 ≤ v2 ∧ v2 ≤ (fun x => N (2 + x)) v1 / 8 - 1)) then -1000000001 else -1000000002))]) C (m_X6_share_n (l := l) (g := g) (q := ad 22) (qn := ad 23) (qp := ad 24) (qi := ad 25) (qk := ad 26) (qt := ad 27) (qw := ad 28) (qv := ad 29) (qr := ad 30) (ac := ac) (N := N) (pi_ := v1) (w := v2) (k := v3) (zN := zN) (g_pi_ := by omega) (g_w := by omega) (g_k := by omega) (rf := hac)) (cwV 3 C.2.2.2.2 gL_law_X6_share rfl rfl rfl (by decide +kernel) ⟨Nat.le_of_ble_eq_true rfl, Nat.le_of_ble_eq_true rfl⟩) hK hP [22, 23] rfl 22 rfl rfl rfl hl.1 rfl (Nat.le_of_ble_eq_true rfl) dL_law_530 ⟨by show cells ≤ 600000; omega, by show slots ≤ 7302250; omega⟩ ?_
    refine z_eqS (tgt := 805) hx hb dL_law_533 (by decide) (rfl) ?_
    exact hgo H locs _ _ bud ls ⟨N, P, IQ, KP, TU, PK, VO, RK, NB, RR, RS, RF, RE, WA, FD, OF, ST, FI, EN, CE, OR, ac, nx, fr, un, rk, he, kn, al, IM, IW, zN, hPR, hfr, hIM, hP, hD, hS⟩ (by omega) (by omega) (lv_sub hl [0, 1, 2, 3] rfl)
set_option maxHeartbeats 8000000 in
set_option maxRecDepth 100000 in
theorem op_peak {p : Program} {l : Launch} {e : Env} {s : State} {m : MethodId} {below : List Frame} {meth : Method} {c : Code} {Q : State → Prop} {A : Nat → Prop} {g : zG} {ad : Nat → Nat} {b0 L : Nat} {xs : Nat → Int32} {i_ : Int} (X : zX p s m c A g b0 L xs i_) (hgo : zL p l e s m below meth c Q A g ad b0 i_ 805) : zL p l e s m below meth c Q A g ad b0 i_ 538 := by
  obtain ⟨C, hX, hbl, hK, hO, hA, hbA, hi, hi2, hL⟩ := X
  have hx := C.1
  have hb := C.2.1
  intro H locs cells slots bud ls hI hcs hss hl
  obtain ⟨N, P, IQ, KP, TU, PK, VO, RK, NB, RR, RS, RF, RE, WA, FD, OF, ST, FI, EN, CE, OR, ac, nx, fr, un, rk, he, kn, al, IM, IW, zN, hPR, hfr, hIM, hP, hD, hS⟩ := hI
  have hPb := hPR.2.1
  have hPc := hPR.2.2.1
  have hPn := hPR.2.2.2.1
  have hPm := hPR.2.2.2.2.1
  obtain ⟨v1, hv1⟩ : ∃ v, v = sx xs (i_ + 1) := ⟨_, rfl⟩
  have g_v1 := sx_rg xs (i_ + 1)
  rw [← hv1] at g_v1
  obtain ⟨v2, hv2⟩ : ∃ v, v = sx xs (i_ + 2) := ⟨_, rfl⟩
  have g_v2 := sx_rg xs (i_ + 2)
  rw [← hv2] at g_v2
  by_cases hac : (0 ≤ v1 ∧ v1 ≤ 4) ∧ (0 ≤ v2 ∧ v2 ≤ N (2 + v1) / 8 - 1)
  · refine lv_aload_n hx hb dL_law_538 rfl (lv_at hl 1 rfl) ?_
    refine lv_aload_n hx hb dL_law_539 rfl (lv_at hl 0 rfl) ?_
    refine lv_iload_n hx hb dL_law_540 rfl (lv_at hl 3 rfl) ?_
    refine lv_iconst (v := iI 1) hx hb dL_law_541 rfl ?_
    refine z_iadd hx hb dL_law_542 ?_
    refine z_sld hx hb hX hbl hbA hS (by omega) (by omega) hL hv1 dL_law_543 ?_
    refine lv_aload_n hx hb dL_law_544 rfl (lv_at hl 0 rfl) ?_
    refine lv_iload_n hx hb dL_law_545 rfl (lv_at hl 3 rfl) ?_
    refine lv_iconst (v := iI 2) hx hb dL_law_546 rfl ?_
    refine z_iadd hx hb dL_law_547 ?_
    refine z_sld hx hb hX hbl hbA hS (by omega) (by omega) hL hv2 dL_law_548 ?_
    refine z_cE (As := [.int (iI v1), .int (iI v2)]) (rest := []) C (m_X5_peak (l := l) (g := g) (o := ad 0) (h := ad 1) (b := ad 4) (im := ad 10) (a := ad 11) (d := ad 15) (bb := ad 19) (fr := fr) (hn := ad 2) (hs := ad 3) (fl := N 0) (re := N 1) (NU := fun x => N (7 + x)) (SZ := fun x => N (2 + x)) (aw := ad 12) (af := ad 13) (ao := ad 14) (ds := ad 16) (df := ad 17) (de := ad 18) (bc := ad 20) (bo := ad 21) (WA := WA) (FD := FD) (ST := ST) (FI := FI) (EN := EN) (CE := CE) (OR := OR) (un := un) (rk := rk) (he := he) (kn := kn) (al := al) (pi_ := v1) (w := v2) (hfr := hfr) (f1 := zN.1) (f2 := zN.2.1) (z1 := zN.2.2.1) (a1 := hac)) (cwV 2 C.2.2.2.2 gL_law_X5_peak rfl rfl rfl (by decide +kernel) ⟨Nat.le_of_ble_eq_true rfl, Nat.le_of_ble_eq_true rfl⟩) hK hP hD hS hA [0, 1, 2, 3, 11, 12, 13, 15, 16, 17, 18, 19, 20, 21] (by decide) rfl (fun _ => rfl) 0 rfl rfl rfl hl.1 rfl (Nat.le_of_ble_eq_true rfl) dL_law_549 ⟨by show cells ≤ 600000; omega, by show slots ≤ 7302250; omega⟩ (fun r_1 u_ H locs hq hP hD hS => ?_)
    have hP : zP g ([((ad 0), .inr (5, [.ref (ad 1), .ref (ad 4), .ref (ad 10), .ref (ad 11), .ref (ad 15), .ref (ad 19), .int (iI 1)])), ((ad 1), .inr (4, [.ref (ad 2), .ref (ad 3), .int (iI (N 0)), .int (iI (N 1))])), zI g (ad 2) 640 (fun x => N (7 + x)), zI g (ad 3) 5 (fun x => N (2 + x)), (ad 4, .inr (2, [.ref (ad 5), .ref (ad 6), .ref (ad 7), .ref (ad 8), .ref (ad 9), .int (iI nx), .int (iI ac)])), zI g (ad 5) 1024 NB, zI g (ad 6) 8 RR, zI g (ad 7) 8 RS, zI g (ad 8) 8 RF, zI g (ad 9) 8 RE, zQ g (ad 10) 2 IM, ((ad 11), .inr (3, [.ref (ad 12), .ref (ad 13), .ref (ad 14)])), zI g (ad 12) 8 (u_.1), zI g (ad 13) 80 (pf (fun x => N (7 + x)) (fun x => N (2 + x)) (N 0)), zI g (ad 14) 8 OF, ((ad 15), .inr (1, [.ref (ad 16), .ref (ad 17), .ref (ad 18), .int (iI (un_ (pf (fun x => N (7 + x)) (fun x => N (2 + x)) (N 0)) (N 1)))])), zI g (ad 16) 385 (stt (pf (fun x => N (7 + x)) (fun x => N (2 + x)) (N 0)) (N 1)), zI g (ad 17) 384 (u_.2.1), zI g (ad 18) 320 (u_.2.2.1), ((ad 19), .inr (0, [.ref (ad 20), .ref (ad 21), .int (iI (nt_ (pf (fun x => N (7 + x)) (fun x => N (2 + x)) (N 0)) (N 1))), .int (iI (he_ (pf (fun x => N (7 + x)) (fun x => N (2 + x)) (N 0)) (N 1))), .int (iI (ku_ (pf (fun x => N (7 + x)) (fun x => N (2 + x)) (N 0)) (N 1))), .int (iI (al_ (pf (fun x => N (7 + x)) (fun x => N (2 + x)) (N 0)) (N 1)))])), zI g (ad 20) 124 (V_ (pf (fun x => N (7 + x)) (fun x => N (2 + x)) (N 0)) (N 1)), zI g (ad 21) 124 (u_.2.2.2), (ad 22, .inr (6, [.ref (ad 23), .ref (ad 24), .int (iI ac), .ref (ad 25), .ref (ad 26), .ref (ad 27), .ref (ad 28), .ref (ad 29), .ref (ad 30)])), zI g (ad 23) 647 N, zI g (ad 24) 5176 P, zI g (ad 25) 1294 IQ, zB g (ad 26) 2 KP, zI g (ad 27) 8 TU, zI g (ad 28) 80 PK, zI g (ad 29) 124 VO, zB g (ad 30) 124 RK] ++ IW) H := hP
    have hD : va_D A ([((ad 0), .inr (5, [.ref (ad 1), .ref (ad 4), .ref (ad 10), .ref (ad 11), .ref (ad 15), .ref (ad 19), .int (iI 1)])), ((ad 1), .inr (4, [.ref (ad 2), .ref (ad 3), .int (iI (N 0)), .int (iI (N 1))])), zI g (ad 2) 640 (fun x => N (7 + x)), zI g (ad 3) 5 (fun x => N (2 + x)), (ad 4, .inr (2, [.ref (ad 5), .ref (ad 6), .ref (ad 7), .ref (ad 8), .ref (ad 9), .int (iI nx), .int (iI ac)])), zI g (ad 5) 1024 NB, zI g (ad 6) 8 RR, zI g (ad 7) 8 RS, zI g (ad 8) 8 RF, zI g (ad 9) 8 RE, zQ g (ad 10) 2 IM, ((ad 11), .inr (3, [.ref (ad 12), .ref (ad 13), .ref (ad 14)])), zI g (ad 12) 8 (u_.1), zI g (ad 13) 80 (pf (fun x => N (7 + x)) (fun x => N (2 + x)) (N 0)), zI g (ad 14) 8 OF, ((ad 15), .inr (1, [.ref (ad 16), .ref (ad 17), .ref (ad 18), .int (iI (un_ (pf (fun x => N (7 + x)) (fun x => N (2 + x)) (N 0)) (N 1)))])), zI g (ad 16) 385 (stt (pf (fun x => N (7 + x)) (fun x => N (2 + x)) (N 0)) (N 1)), zI g (ad 17) 384 (u_.2.1), zI g (ad 18) 320 (u_.2.2.1), ((ad 19), .inr (0, [.ref (ad 20), .ref (ad 21), .int (iI (nt_ (pf (fun x => N (7 + x)) (fun x => N (2 + x)) (N 0)) (N 1))), .int (iI (he_ (pf (fun x => N (7 + x)) (fun x => N (2 + x)) (N 0)) (N 1))), .int (iI (ku_ (pf (fun x => N (7 + x)) (fun x => N (2 + x)) (N 0)) (N 1))), .int (iI (al_ (pf (fun x => N (7 + x)) (fun x => N (2 + x)) (N 0)) (N 1)))])), zI g (ad 20) 124 (V_ (pf (fun x => N (7 + x)) (fun x => N (2 + x)) (N 0)) (N 1)), zI g (ad 21) 124 (u_.2.2.2), (ad 22, .inr (6, [.ref (ad 23), .ref (ad 24), .int (iI ac), .ref (ad 25), .ref (ad 26), .ref (ad 27), .ref (ad 28), .ref (ad 29), .ref (ad 30)])), zI g (ad 23) 647 N, zI g (ad 24) 5176 P, zI g (ad 25) 1294 IQ, zB g (ad 26) 2 KP, zI g (ad 27) 8 TU, zI g (ad 28) 80 PK, zI g (ad 29) 124 VO, zB g (ad 30) 124 RK] ++ IW) := hD
    refine lv_aload_n hx hb dL_law_552 rfl (lv_at hl 2 rfl) ?_
    refine lv_aload_n hx hb dL_law_553 rfl (lv_at hl 0 rfl) ?_
    refine lv_iload_n hx hb dL_law_554 rfl (lv_at hl 3 rfl) ?_
    refine lv_iconst (v := iI 1) hx hb dL_law_555 rfl ?_
    refine z_iadd hx hb dL_law_556 ?_
    refine z_sld hx hb hX hbl hbA hS (by omega) (by omega) hL hv1 dL_law_557 ?_
    refine lv_aload_n hx hb dL_law_558 rfl (lv_at hl 0 rfl) ?_
    refine lv_iload_n hx hb dL_law_559 rfl (lv_at hl 3 rfl) ?_
    refine lv_iconst (v := iI 2) hx hb dL_law_560 rfl ?_
    refine z_iadd hx hb dL_law_561 ?_
    refine z_sld hx hb hX hbl hbA hS (by omega) (by omega) hL hv2 dL_law_562 ?_
    refine z_cE (As := [.int (iI v1), .int (iI v2)]) (rest := [.int (iI r_1)]) C (m_X6_peak (l := l) (g := g) (q := ad 22) (qn := ad 23) (qp := ad 24) (qi := ad 25) (qk := ad 26) (qt := ad 27) (qw := ad 28) (qv := ad 29) (qr := ad 30) (ac := ac) (N := N) (TU := TU) (pi_ := v1) (w := v2) (zN := zN) (a1 := hac)) (cwV 2 C.2.2.2.2 gL_law_X6_peak rfl rfl rfl (by decide +kernel) ⟨Nat.le_of_ble_eq_true rfl, Nat.le_of_ble_eq_true rfl⟩) hK hP hD hS hA [22, 23, 27] (by decide) rfl (fun _ => rfl) 22 rfl rfl rfl hl.1 rfl (Nat.le_of_ble_eq_true rfl) dL_law_563 ⟨by show cells ≤ 600000; omega, by show slots ≤ 7302250; omega⟩ (fun r_2 t_ H locs hm hP hD hS => ?_)
    have hm : r_2 = FDn N (v1 * 16 + v2) := hm
    subst hm
    have hP : zP g ([((ad 0), .inr (5, [.ref (ad 1), .ref (ad 4), .ref (ad 10), .ref (ad 11), .ref (ad 15), .ref (ad 19), .int (iI 1)])), ((ad 1), .inr (4, [.ref (ad 2), .ref (ad 3), .int (iI (N 0)), .int (iI (N 1))])), zI g (ad 2) 640 (fun x => N (7 + x)), zI g (ad 3) 5 (fun x => N (2 + x)), (ad 4, .inr (2, [.ref (ad 5), .ref (ad 6), .ref (ad 7), .ref (ad 8), .ref (ad 9), .int (iI nx), .int (iI ac)])), zI g (ad 5) 1024 NB, zI g (ad 6) 8 RR, zI g (ad 7) 8 RS, zI g (ad 8) 8 RF, zI g (ad 9) 8 RE, zQ g (ad 10) 2 IM, ((ad 11), .inr (3, [.ref (ad 12), .ref (ad 13), .ref (ad 14)])), zI g (ad 12) 8 (u_.1), zI g (ad 13) 80 (pf (fun x => N (7 + x)) (fun x => N (2 + x)) (N 0)), zI g (ad 14) 8 OF, ((ad 15), .inr (1, [.ref (ad 16), .ref (ad 17), .ref (ad 18), .int (iI (un_ (pf (fun x => N (7 + x)) (fun x => N (2 + x)) (N 0)) (N 1)))])), zI g (ad 16) 385 (stt (pf (fun x => N (7 + x)) (fun x => N (2 + x)) (N 0)) (N 1)), zI g (ad 17) 384 (u_.2.1), zI g (ad 18) 320 (u_.2.2.1), ((ad 19), .inr (0, [.ref (ad 20), .ref (ad 21), .int (iI (nt_ (pf (fun x => N (7 + x)) (fun x => N (2 + x)) (N 0)) (N 1))), .int (iI (he_ (pf (fun x => N (7 + x)) (fun x => N (2 + x)) (N 0)) (N 1))), .int (iI (ku_ (pf (fun x => N (7 + x)) (fun x => N (2 + x)) (N 0)) (N 1))), .int (iI (al_ (pf (fun x => N (7 + x)) (fun x => N (2 + x)) (N 0)) (N 1)))])), zI g (ad 20) 124 (V_ (pf (fun x => N (7 + x)) (fun x => N (2 + x)) (N 0)) (N 1)), zI g (ad 21) 124 (u_.2.2.2), ((ad 22), .inr (6, [.ref (ad 23), .ref (ad 24), .int (iI ac), .ref (ad 25), .ref (ad 26), .ref (ad 27), .ref (ad 28), .ref (ad 29), .ref (ad 30)])), zI g (ad 23) 647 N, zI g (ad 24) 5176 P, zI g (ad 25) 1294 IQ, zB g (ad 26) 2 KP, zI g (ad 27) 8 (wv (fun i => N (7 + (v1 * 128 + (v2 * 8 + i))))), zI g (ad 28) 80 PK, zI g (ad 29) 124 VO, zB g (ad 30) 124 RK] ++ IW) H := hP
    have hD : va_D A ([((ad 0), .inr (5, [.ref (ad 1), .ref (ad 4), .ref (ad 10), .ref (ad 11), .ref (ad 15), .ref (ad 19), .int (iI 1)])), ((ad 1), .inr (4, [.ref (ad 2), .ref (ad 3), .int (iI (N 0)), .int (iI (N 1))])), zI g (ad 2) 640 (fun x => N (7 + x)), zI g (ad 3) 5 (fun x => N (2 + x)), (ad 4, .inr (2, [.ref (ad 5), .ref (ad 6), .ref (ad 7), .ref (ad 8), .ref (ad 9), .int (iI nx), .int (iI ac)])), zI g (ad 5) 1024 NB, zI g (ad 6) 8 RR, zI g (ad 7) 8 RS, zI g (ad 8) 8 RF, zI g (ad 9) 8 RE, zQ g (ad 10) 2 IM, ((ad 11), .inr (3, [.ref (ad 12), .ref (ad 13), .ref (ad 14)])), zI g (ad 12) 8 (u_.1), zI g (ad 13) 80 (pf (fun x => N (7 + x)) (fun x => N (2 + x)) (N 0)), zI g (ad 14) 8 OF, ((ad 15), .inr (1, [.ref (ad 16), .ref (ad 17), .ref (ad 18), .int (iI (un_ (pf (fun x => N (7 + x)) (fun x => N (2 + x)) (N 0)) (N 1)))])), zI g (ad 16) 385 (stt (pf (fun x => N (7 + x)) (fun x => N (2 + x)) (N 0)) (N 1)), zI g (ad 17) 384 (u_.2.1), zI g (ad 18) 320 (u_.2.2.1), ((ad 19), .inr (0, [.ref (ad 20), .ref (ad 21), .int (iI (nt_ (pf (fun x => N (7 + x)) (fun x => N (2 + x)) (N 0)) (N 1))), .int (iI (he_ (pf (fun x => N (7 + x)) (fun x => N (2 + x)) (N 0)) (N 1))), .int (iI (ku_ (pf (fun x => N (7 + x)) (fun x => N (2 + x)) (N 0)) (N 1))), .int (iI (al_ (pf (fun x => N (7 + x)) (fun x => N (2 + x)) (N 0)) (N 1)))])), zI g (ad 20) 124 (V_ (pf (fun x => N (7 + x)) (fun x => N (2 + x)) (N 0)) (N 1)), zI g (ad 21) 124 (u_.2.2.2), ((ad 22), .inr (6, [.ref (ad 23), .ref (ad 24), .int (iI ac), .ref (ad 25), .ref (ad 26), .ref (ad 27), .ref (ad 28), .ref (ad 29), .ref (ad 30)])), zI g (ad 23) 647 N, zI g (ad 24) 5176 P, zI g (ad 25) 1294 IQ, zB g (ad 26) 2 KP, zI g (ad 27) 8 (wv (fun i => N (7 + (v1 * 128 + (v2 * 8 + i))))), zI g (ad 28) 80 PK, zI g (ad 29) 124 VO, zB g (ad 30) 124 RK] ++ IW) := hD
    refine z_eqS (tgt := 805) hx hb dL_law_566 (by decide) (hq.1) ?_
    exact hgo H locs _ _ bud ls ⟨N, P, IQ, KP, (wv (fun i => N (7 + (v1 * 128 + (v2 * 8 + i))))), PK, VO, RK, NB, RR, RS, RF, RE, (u_.1), (pf (fun x => N (7 + x)) (fun x => N (2 + x)) (N 0)), OF, (stt (pf (fun x => N (7 + x)) (fun x => N (2 + x)) (N 0)) (N 1)), (u_.2.1), (u_.2.2.1), (V_ (pf (fun x => N (7 + x)) (fun x => N (2 + x)) (N 0)) (N 1)), (u_.2.2.2), ac, nx, 1, (un_ (pf (fun x => N (7 + x)) (fun x => N (2 + x)) (N 0)) (N 1)), (nt_ (pf (fun x => N (7 + x)) (fun x => N (2 + x)) (N 0)) (N 1)), (he_ (pf (fun x => N (7 + x)) (fun x => N (2 + x)) (N 0)) (N 1)), (ku_ (pf (fun x => N (7 + x)) (fun x => N (2 + x)) (N 0)) (N 1)), (al_ (pf (fun x => N (7 + x)) (fun x => N (2 + x)) (N 0)) (N 1)), IM, IW, zN, hPR, Or.inr ⟨rfl, fun j _ _ => rfl, fun j _ _ => rfl, fun j _ _ => rfl, rfl, rfl, rfl, rfl, rfl, hq.2⟩, hIM, hP, hD, hS⟩ (by omega) (by omega) (lv_sub hl [0, 1, 2, 3] rfl)
  · refine lv_aload_n hx hb dL_law_538 rfl (lv_at hl 1 rfl) ?_
    refine lv_aload_n hx hb dL_law_539 rfl (lv_at hl 0 rfl) ?_
    refine lv_iload_n hx hb dL_law_540 rfl (lv_at hl 3 rfl) ?_
    refine lv_iconst (v := iI 1) hx hb dL_law_541 rfl ?_
    refine z_iadd hx hb dL_law_542 ?_
    refine z_sld hx hb hX hbl hbA hS (by omega) (by omega) hL hv1 dL_law_543 ?_
    refine lv_aload_n hx hb dL_law_544 rfl (lv_at hl 0 rfl) ?_
    refine lv_iload_n hx hb dL_law_545 rfl (lv_at hl 3 rfl) ?_
    refine lv_iconst (v := iI 2) hx hb dL_law_546 rfl ?_
    refine z_iadd hx hb dL_law_547 ?_
    refine z_sld hx hb hX hbl hbA hS (by omega) (by omega) hL hv2 dL_law_548 ?_
    refine z_cS (As := [.int (iI v1), .int (iI v2)]) (rest := []) C (m_X5_peak_n (l := l) (g := g) (o := ad 0) (h := ad 1) (b := ad 4) (im := ad 10) (a := ad 11) (d := ad 15) (bb := ad 19) (fr := fr) (hn := ad 2) (hs := ad 3) (fl := N 0) (re := N 1) (SZ := fun x => N (2 + x)) (pi_ := v1) (w := v2) (z1 := zN.2.2.1) (g_pi_ := by omega) (g_w := by omega) (rf := hac)) (cwV 2 C.2.2.2.2 gL_law_X5_peak rfl rfl rfl (by decide +kernel) ⟨Nat.le_of_ble_eq_true rfl, Nat.le_of_ble_eq_true rfl⟩) hK hP [0, 1, 3] rfl 0 rfl rfl rfl hl.1 rfl (Nat.le_of_ble_eq_true rfl) dL_law_549 ⟨by show cells ≤ 600000; omega, by show slots ≤ 7302250; omega⟩ ?_
    refine lv_aload_n hx hb dL_law_552 rfl (lv_at hl 2 rfl) ?_
    refine lv_aload_n hx hb dL_law_553 rfl (lv_at hl 0 rfl) ?_
    refine lv_iload_n hx hb dL_law_554 rfl (lv_at hl 3 rfl) ?_
    refine lv_iconst (v := iI 1) hx hb dL_law_555 rfl ?_
    refine z_iadd hx hb dL_law_556 ?_
    refine z_sld hx hb hX hbl hbA hS (by omega) (by omega) hL hv1 dL_law_557 ?_
    refine lv_aload_n hx hb dL_law_558 rfl (lv_at hl 0 rfl) ?_
    refine lv_iload_n hx hb dL_law_559 rfl (lv_at hl 3 rfl) ?_
    refine lv_iconst (v := iI 2) hx hb dL_law_560 rfl ?_
    refine z_iadd hx hb dL_law_561 ?_
    refine z_sld hx hb hX hbl hbA hS (by omega) (by omega) hL hv2 dL_law_562 ?_
    refine z_cS (As := [.int (iI v1), .int (iI v2)]) (rest := [.int (iI (-1000000001))]) C (m_X6_peak_n (l := l) (g := g) (q := ad 22) (qn := ad 23) (qp := ad 24) (qi := ad 25) (qk := ad 26) (qt := ad 27) (qw := ad 28) (qv := ad 29) (qr := ad 30) (ac := ac) (N := N) (pi_ := v1) (w := v2) (zN := zN) (g_pi_ := by omega) (g_w := by omega) (rf := hac)) (cwV 2 C.2.2.2.2 gL_law_X6_peak rfl rfl rfl (by decide +kernel) ⟨Nat.le_of_ble_eq_true rfl, Nat.le_of_ble_eq_true rfl⟩) hK hP [22, 23] rfl 22 rfl rfl rfl hl.1 rfl (Nat.le_of_ble_eq_true rfl) dL_law_563 ⟨by show cells ≤ 600000; omega, by show slots ≤ 7302250; omega⟩ ?_
    refine z_eqS (tgt := 805) hx hb dL_law_566 (by decide) (rfl) ?_
    exact hgo H locs _ _ bud ls ⟨N, P, IQ, KP, TU, PK, VO, RK, NB, RR, RS, RF, RE, WA, FD, OF, ST, FI, EN, CE, OR, ac, nx, fr, un, rk, he, kn, al, IM, IW, zN, hPR, hfr, hIM, hP, hD, hS⟩ (by omega) (by omega) (lv_sub hl [0, 1, 2, 3] rfl)
set_option maxHeartbeats 8000000 in
set_option maxRecDepth 100000 in
theorem op_key {p : Program} {l : Launch} {e : Env} {s : State} {m : MethodId} {below : List Frame} {meth : Method} {c : Code} {Q : State → Prop} {A : Nat → Prop} {g : zG} {ad : Nat → Nat} {b0 L : Nat} {xs : Nat → Int32} {i_ : Int} (X : zX p s m c A g b0 L xs i_) (hgo : zL p l e s m below meth c Q A g ad b0 i_ 805) : zL p l e s m below meth c Q A g ad b0 i_ 571 := by
  obtain ⟨C, hX, hbl, hK, hO, hA, hbA, hi, hi2, hL⟩ := X
  have hx := C.1
  have hb := C.2.1
  intro H locs cells slots bud ls hI hcs hss hl
  obtain ⟨N, P, IQ, KP, TU, PK, VO, RK, NB, RR, RS, RF, RE, WA, FD, OF, ST, FI, EN, CE, OR, ac, nx, fr, un, rk, he, kn, al, IM, IW, zN, hPR, hfr, hIM, hP, hD, hS⟩ := hI
  have hPb := hPR.2.1
  have hPc := hPR.2.2.1
  have hPn := hPR.2.2.2.1
  have hPm := hPR.2.2.2.2.1
  obtain ⟨v1, hv1⟩ : ∃ v, v = sx xs (i_ + 1) := ⟨_, rfl⟩
  have g_v1 := sx_rg xs (i_ + 1)
  rw [← hv1] at g_v1
  obtain ⟨v2, hv2⟩ : ∃ v, v = sx xs (i_ + 2) := ⟨_, rfl⟩
  have g_v2 := sx_rg xs (i_ + 2)
  rw [← hv2] at g_v2
  obtain ⟨v3, hv3⟩ : ∃ v, v = sx xs (i_ + 3) := ⟨_, rfl⟩
  have g_v3 := sx_rg xs (i_ + 3)
  rw [← hv3] at g_v3
  by_cases hac : ((0 ≤ v1 ∧ v1 ≤ 4) ∧ (0 ≤ v2 ∧ v2 ≤ N (2 + v1) / 8 - 1)) ∧ (0 ≤ v1 ∧ v1 ≤ 4) ∧ (0 ≤ v3 ∧ v3 ≤ N (2 + v1) / 8 - 1)
  · refine lv_aload_n hx hb dL_law_571 rfl (lv_at hl 1 rfl) ?_
    refine lv_aload_n hx hb dL_law_572 rfl (lv_at hl 0 rfl) ?_
    refine lv_iload_n hx hb dL_law_573 rfl (lv_at hl 3 rfl) ?_
    refine lv_iconst (v := iI 1) hx hb dL_law_574 rfl ?_
    refine z_iadd hx hb dL_law_575 ?_
    refine z_sld hx hb hX hbl hbA hS (by omega) (by omega) hL hv1 dL_law_576 ?_
    refine lv_aload_n hx hb dL_law_577 rfl (lv_at hl 0 rfl) ?_
    refine lv_iload_n hx hb dL_law_578 rfl (lv_at hl 3 rfl) ?_
    refine lv_iconst (v := iI 2) hx hb dL_law_579 rfl ?_
    refine z_iadd hx hb dL_law_580 ?_
    refine z_sld hx hb hX hbl hbA hS (by omega) (by omega) hL hv2 dL_law_581 ?_
    refine lv_aload_n hx hb dL_law_582 rfl (lv_at hl 0 rfl) ?_
    refine lv_iload_n hx hb dL_law_583 rfl (lv_at hl 3 rfl) ?_
    refine lv_iconst (v := iI 3) hx hb dL_law_584 rfl ?_
    refine z_iadd hx hb dL_law_585 ?_
    refine z_sld hx hb hX hbl hbA hS (by omega) (by omega) hL hv3 dL_law_586 ?_
    refine z_cE (As := [.int (iI v1), .int (iI v2), .int (iI v3)]) (rest := []) C (m_X5_key (l := l) (g := g) (o := ad 0) (h := ad 1) (b := ad 4) (im := ad 10) (a := ad 11) (d := ad 15) (bb := ad 19) (fr := fr) (hn := ad 2) (hs := ad 3) (fl := N 0) (re := N 1) (NU := fun x => N (7 + x)) (SZ := fun x => N (2 + x)) (aw := ad 12) (af := ad 13) (ao := ad 14) (ds := ad 16) (df := ad 17) (de := ad 18) (bc := ad 20) (bo := ad 21) (WA := WA) (FD := FD) (ST := ST) (FI := FI) (EN := EN) (CE := CE) (OR := OR) (un := un) (rk := rk) (he := he) (kn := kn) (al := al) (pi_ := v1) (v := v2) (w := v3) (hfr := hfr) (f1 := zN.1) (f2 := zN.2.1) (z1 := zN.2.2.1) (a1 := hac.1) (a2 := hac.2)) (cwV 3 C.2.2.2.2 gL_law_X5_key rfl rfl rfl (by decide +kernel) ⟨Nat.le_of_ble_eq_true rfl, Nat.le_of_ble_eq_true rfl⟩) hK hP hD hS hA [0, 1, 2, 3, 11, 12, 13, 15, 16, 17, 18, 19, 20, 21] (by decide) rfl (fun _ => rfl) 0 rfl rfl rfl hl.1 rfl (Nat.le_of_ble_eq_true rfl) dL_law_587 ⟨by show cells ≤ 600000; omega, by show slots ≤ 7302250; omega⟩ (fun r_1 u_ H locs hq hP hD hS => ?_)
    have hP : zP g ([((ad 0), .inr (5, [.ref (ad 1), .ref (ad 4), .ref (ad 10), .ref (ad 11), .ref (ad 15), .ref (ad 19), .int (iI 1)])), ((ad 1), .inr (4, [.ref (ad 2), .ref (ad 3), .int (iI (N 0)), .int (iI (N 1))])), zI g (ad 2) 640 (fun x => N (7 + x)), zI g (ad 3) 5 (fun x => N (2 + x)), (ad 4, .inr (2, [.ref (ad 5), .ref (ad 6), .ref (ad 7), .ref (ad 8), .ref (ad 9), .int (iI nx), .int (iI ac)])), zI g (ad 5) 1024 NB, zI g (ad 6) 8 RR, zI g (ad 7) 8 RS, zI g (ad 8) 8 RF, zI g (ad 9) 8 RE, zQ g (ad 10) 2 IM, ((ad 11), .inr (3, [.ref (ad 12), .ref (ad 13), .ref (ad 14)])), zI g (ad 12) 8 (u_.1), zI g (ad 13) 80 (pf (fun x => N (7 + x)) (fun x => N (2 + x)) (N 0)), zI g (ad 14) 8 OF, ((ad 15), .inr (1, [.ref (ad 16), .ref (ad 17), .ref (ad 18), .int (iI (un_ (pf (fun x => N (7 + x)) (fun x => N (2 + x)) (N 0)) (N 1)))])), zI g (ad 16) 385 (stt (pf (fun x => N (7 + x)) (fun x => N (2 + x)) (N 0)) (N 1)), zI g (ad 17) 384 (u_.2.1), zI g (ad 18) 320 (u_.2.2.1), ((ad 19), .inr (0, [.ref (ad 20), .ref (ad 21), .int (iI (nt_ (pf (fun x => N (7 + x)) (fun x => N (2 + x)) (N 0)) (N 1))), .int (iI (he_ (pf (fun x => N (7 + x)) (fun x => N (2 + x)) (N 0)) (N 1))), .int (iI (ku_ (pf (fun x => N (7 + x)) (fun x => N (2 + x)) (N 0)) (N 1))), .int (iI (al_ (pf (fun x => N (7 + x)) (fun x => N (2 + x)) (N 0)) (N 1)))])), zI g (ad 20) 124 (V_ (pf (fun x => N (7 + x)) (fun x => N (2 + x)) (N 0)) (N 1)), zI g (ad 21) 124 (u_.2.2.2), (ad 22, .inr (6, [.ref (ad 23), .ref (ad 24), .int (iI ac), .ref (ad 25), .ref (ad 26), .ref (ad 27), .ref (ad 28), .ref (ad 29), .ref (ad 30)])), zI g (ad 23) 647 N, zI g (ad 24) 5176 P, zI g (ad 25) 1294 IQ, zB g (ad 26) 2 KP, zI g (ad 27) 8 TU, zI g (ad 28) 80 PK, zI g (ad 29) 124 VO, zB g (ad 30) 124 RK] ++ IW) H := hP
    have hD : va_D A ([((ad 0), .inr (5, [.ref (ad 1), .ref (ad 4), .ref (ad 10), .ref (ad 11), .ref (ad 15), .ref (ad 19), .int (iI 1)])), ((ad 1), .inr (4, [.ref (ad 2), .ref (ad 3), .int (iI (N 0)), .int (iI (N 1))])), zI g (ad 2) 640 (fun x => N (7 + x)), zI g (ad 3) 5 (fun x => N (2 + x)), (ad 4, .inr (2, [.ref (ad 5), .ref (ad 6), .ref (ad 7), .ref (ad 8), .ref (ad 9), .int (iI nx), .int (iI ac)])), zI g (ad 5) 1024 NB, zI g (ad 6) 8 RR, zI g (ad 7) 8 RS, zI g (ad 8) 8 RF, zI g (ad 9) 8 RE, zQ g (ad 10) 2 IM, ((ad 11), .inr (3, [.ref (ad 12), .ref (ad 13), .ref (ad 14)])), zI g (ad 12) 8 (u_.1), zI g (ad 13) 80 (pf (fun x => N (7 + x)) (fun x => N (2 + x)) (N 0)), zI g (ad 14) 8 OF, ((ad 15), .inr (1, [.ref (ad 16), .ref (ad 17), .ref (ad 18), .int (iI (un_ (pf (fun x => N (7 + x)) (fun x => N (2 + x)) (N 0)) (N 1)))])), zI g (ad 16) 385 (stt (pf (fun x => N (7 + x)) (fun x => N (2 + x)) (N 0)) (N 1)), zI g (ad 17) 384 (u_.2.1), zI g (ad 18) 320 (u_.2.2.1), ((ad 19), .inr (0, [.ref (ad 20), .ref (ad 21), .int (iI (nt_ (pf (fun x => N (7 + x)) (fun x => N (2 + x)) (N 0)) (N 1))), .int (iI (he_ (pf (fun x => N (7 + x)) (fun x => N (2 + x)) (N 0)) (N 1))), .int (iI (ku_ (pf (fun x => N (7 + x)) (fun x => N (2 + x)) (N 0)) (N 1))), .int (iI (al_ (pf (fun x => N (7 + x)) (fun x => N (2 + x)) (N 0)) (N 1)))])), zI g (ad 20) 124 (V_ (pf (fun x => N (7 + x)) (fun x => N (2 + x)) (N 0)) (N 1)), zI g (ad 21) 124 (u_.2.2.2), (ad 22, .inr (6, [.ref (ad 23), .ref (ad 24), .int (iI ac), .ref (ad 25), .ref (ad 26), .ref (ad 27), .ref (ad 28), .ref (ad 29), .ref (ad 30)])), zI g (ad 23) 647 N, zI g (ad 24) 5176 P, zI g (ad 25) 1294 IQ, zB g (ad 26) 2 KP, zI g (ad 27) 8 TU, zI g (ad 28) 80 PK, zI g (ad 29) 124 VO, zB g (ad 30) 124 RK] ++ IW) := hD
    refine lv_aload_n hx hb dL_law_590 rfl (lv_at hl 2 rfl) ?_
    refine lv_aload_n hx hb dL_law_591 rfl (lv_at hl 0 rfl) ?_
    refine lv_iload_n hx hb dL_law_592 rfl (lv_at hl 3 rfl) ?_
    refine lv_iconst (v := iI 1) hx hb dL_law_593 rfl ?_
    refine z_iadd hx hb dL_law_594 ?_
    refine z_sld hx hb hX hbl hbA hS (by omega) (by omega) hL hv1 dL_law_595 ?_
    refine lv_aload_n hx hb dL_law_596 rfl (lv_at hl 0 rfl) ?_
    refine lv_iload_n hx hb dL_law_597 rfl (lv_at hl 3 rfl) ?_
    refine lv_iconst (v := iI 2) hx hb dL_law_598 rfl ?_
    refine z_iadd hx hb dL_law_599 ?_
    refine z_sld hx hb hX hbl hbA hS (by omega) (by omega) hL hv2 dL_law_600 ?_
    refine lv_aload_n hx hb dL_law_601 rfl (lv_at hl 0 rfl) ?_
    refine lv_iload_n hx hb dL_law_602 rfl (lv_at hl 3 rfl) ?_
    refine lv_iconst (v := iI 3) hx hb dL_law_603 rfl ?_
    refine z_iadd hx hb dL_law_604 ?_
    refine z_sld hx hb hX hbl hbA hS (by omega) (by omega) hL hv3 dL_law_605 ?_
    refine z_cE (As := [.int (iI v1), .int (iI v2), .int (iI v3)]) (rest := [.int (iI r_1)]) C (m_X6_key (l := l) (g := g) (q := ad 22) (qn := ad 23) (qp := ad 24) (qi := ad 25) (qk := ad 26) (qt := ad 27) (qw := ad 28) (qv := ad 29) (qr := ad 30) (ac := ac) (N := N) (TU := TU) (PK := PK) (pi_ := v1) (v := v2) (w := v3) (zN := zN) (a1 := hac.1) (a2 := hac.2)) (cwV 3 C.2.2.2.2 gL_law_X6_key rfl rfl rfl (by decide +kernel) ⟨Nat.le_of_ble_eq_true rfl, Nat.le_of_ble_eq_true rfl⟩) hK hP hD hS hA [22, 23, 27, 28] (by decide) rfl (fun _ => rfl) 22 rfl rfl rfl hl.1 rfl (Nat.le_of_ble_eq_true rfl) dL_law_606 ⟨by show cells ≤ 600000; omega, by show slots ≤ 7302250; omega⟩ (fun r_2 t_ H locs hm hP hD hS => ?_)
    have hP : zP g ([((ad 0), .inr (5, [.ref (ad 1), .ref (ad 4), .ref (ad 10), .ref (ad 11), .ref (ad 15), .ref (ad 19), .int (iI 1)])), ((ad 1), .inr (4, [.ref (ad 2), .ref (ad 3), .int (iI (N 0)), .int (iI (N 1))])), zI g (ad 2) 640 (fun x => N (7 + x)), zI g (ad 3) 5 (fun x => N (2 + x)), (ad 4, .inr (2, [.ref (ad 5), .ref (ad 6), .ref (ad 7), .ref (ad 8), .ref (ad 9), .int (iI nx), .int (iI ac)])), zI g (ad 5) 1024 NB, zI g (ad 6) 8 RR, zI g (ad 7) 8 RS, zI g (ad 8) 8 RF, zI g (ad 9) 8 RE, zQ g (ad 10) 2 IM, ((ad 11), .inr (3, [.ref (ad 12), .ref (ad 13), .ref (ad 14)])), zI g (ad 12) 8 (u_.1), zI g (ad 13) 80 (pf (fun x => N (7 + x)) (fun x => N (2 + x)) (N 0)), zI g (ad 14) 8 OF, ((ad 15), .inr (1, [.ref (ad 16), .ref (ad 17), .ref (ad 18), .int (iI (un_ (pf (fun x => N (7 + x)) (fun x => N (2 + x)) (N 0)) (N 1)))])), zI g (ad 16) 385 (stt (pf (fun x => N (7 + x)) (fun x => N (2 + x)) (N 0)) (N 1)), zI g (ad 17) 384 (u_.2.1), zI g (ad 18) 320 (u_.2.2.1), ((ad 19), .inr (0, [.ref (ad 20), .ref (ad 21), .int (iI (nt_ (pf (fun x => N (7 + x)) (fun x => N (2 + x)) (N 0)) (N 1))), .int (iI (he_ (pf (fun x => N (7 + x)) (fun x => N (2 + x)) (N 0)) (N 1))), .int (iI (ku_ (pf (fun x => N (7 + x)) (fun x => N (2 + x)) (N 0)) (N 1))), .int (iI (al_ (pf (fun x => N (7 + x)) (fun x => N (2 + x)) (N 0)) (N 1)))])), zI g (ad 20) 124 (V_ (pf (fun x => N (7 + x)) (fun x => N (2 + x)) (N 0)) (N 1)), zI g (ad 21) 124 (u_.2.2.2), ((ad 22), .inr (6, [.ref (ad 23), .ref (ad 24), .int (iI ac), .ref (ad 25), .ref (ad 26), .ref (ad 27), .ref (ad 28), .ref (ad 29), .ref (ad 30)])), zI g (ad 23) 647 N, zI g (ad 24) 5176 P, zI g (ad 25) 1294 IQ, zB g (ad 26) 2 KP, zI g (ad 27) 8 (t_.1), zI g (ad 28) 80 (t_.2), zI g (ad 29) 124 VO, zB g (ad 30) 124 RK] ++ IW) H := hP
    have hD : va_D A ([((ad 0), .inr (5, [.ref (ad 1), .ref (ad 4), .ref (ad 10), .ref (ad 11), .ref (ad 15), .ref (ad 19), .int (iI 1)])), ((ad 1), .inr (4, [.ref (ad 2), .ref (ad 3), .int (iI (N 0)), .int (iI (N 1))])), zI g (ad 2) 640 (fun x => N (7 + x)), zI g (ad 3) 5 (fun x => N (2 + x)), (ad 4, .inr (2, [.ref (ad 5), .ref (ad 6), .ref (ad 7), .ref (ad 8), .ref (ad 9), .int (iI nx), .int (iI ac)])), zI g (ad 5) 1024 NB, zI g (ad 6) 8 RR, zI g (ad 7) 8 RS, zI g (ad 8) 8 RF, zI g (ad 9) 8 RE, zQ g (ad 10) 2 IM, ((ad 11), .inr (3, [.ref (ad 12), .ref (ad 13), .ref (ad 14)])), zI g (ad 12) 8 (u_.1), zI g (ad 13) 80 (pf (fun x => N (7 + x)) (fun x => N (2 + x)) (N 0)), zI g (ad 14) 8 OF, ((ad 15), .inr (1, [.ref (ad 16), .ref (ad 17), .ref (ad 18), .int (iI (un_ (pf (fun x => N (7 + x)) (fun x => N (2 + x)) (N 0)) (N 1)))])), zI g (ad 16) 385 (stt (pf (fun x => N (7 + x)) (fun x => N (2 + x)) (N 0)) (N 1)), zI g (ad 17) 384 (u_.2.1), zI g (ad 18) 320 (u_.2.2.1), ((ad 19), .inr (0, [.ref (ad 20), .ref (ad 21), .int (iI (nt_ (pf (fun x => N (7 + x)) (fun x => N (2 + x)) (N 0)) (N 1))), .int (iI (he_ (pf (fun x => N (7 + x)) (fun x => N (2 + x)) (N 0)) (N 1))), .int (iI (ku_ (pf (fun x => N (7 + x)) (fun x => N (2 + x)) (N 0)) (N 1))), .int (iI (al_ (pf (fun x => N (7 + x)) (fun x => N (2 + x)) (N 0)) (N 1)))])), zI g (ad 20) 124 (V_ (pf (fun x => N (7 + x)) (fun x => N (2 + x)) (N 0)) (N 1)), zI g (ad 21) 124 (u_.2.2.2), ((ad 22), .inr (6, [.ref (ad 23), .ref (ad 24), .int (iI ac), .ref (ad 25), .ref (ad 26), .ref (ad 27), .ref (ad 28), .ref (ad 29), .ref (ad 30)])), zI g (ad 23) 647 N, zI g (ad 24) 5176 P, zI g (ad 25) 1294 IQ, zB g (ad 26) 2 KP, zI g (ad 27) 8 (t_.1), zI g (ad 28) 80 (t_.2), zI g (ad 29) 124 VO, zB g (ad 30) 124 RK] ++ IW) := hD
    refine z_eqS (tgt := 805) hx hb dL_law_609 (by decide) (hq.1.trans hm.symm) ?_
    exact hgo H locs _ _ bud ls ⟨N, P, IQ, KP, (t_.1), (t_.2), VO, RK, NB, RR, RS, RF, RE, (u_.1), (pf (fun x => N (7 + x)) (fun x => N (2 + x)) (N 0)), OF, (stt (pf (fun x => N (7 + x)) (fun x => N (2 + x)) (N 0)) (N 1)), (u_.2.1), (u_.2.2.1), (V_ (pf (fun x => N (7 + x)) (fun x => N (2 + x)) (N 0)) (N 1)), (u_.2.2.2), ac, nx, 1, (un_ (pf (fun x => N (7 + x)) (fun x => N (2 + x)) (N 0)) (N 1)), (nt_ (pf (fun x => N (7 + x)) (fun x => N (2 + x)) (N 0)) (N 1)), (he_ (pf (fun x => N (7 + x)) (fun x => N (2 + x)) (N 0)) (N 1)), (ku_ (pf (fun x => N (7 + x)) (fun x => N (2 + x)) (N 0)) (N 1)), (al_ (pf (fun x => N (7 + x)) (fun x => N (2 + x)) (N 0)) (N 1)), IM, IW, zN, hPR, Or.inr ⟨rfl, fun j _ _ => rfl, fun j _ _ => rfl, fun j _ _ => rfl, rfl, rfl, rfl, rfl, rfl, hq.2⟩, hIM, hP, hD, hS⟩ (by omega) (by omega) (lv_sub hl [0, 1, 2, 3] rfl)
  · refine lv_aload_n hx hb dL_law_571 rfl (lv_at hl 1 rfl) ?_
    refine lv_aload_n hx hb dL_law_572 rfl (lv_at hl 0 rfl) ?_
    refine lv_iload_n hx hb dL_law_573 rfl (lv_at hl 3 rfl) ?_
    refine lv_iconst (v := iI 1) hx hb dL_law_574 rfl ?_
    refine z_iadd hx hb dL_law_575 ?_
    refine z_sld hx hb hX hbl hbA hS (by omega) (by omega) hL hv1 dL_law_576 ?_
    refine lv_aload_n hx hb dL_law_577 rfl (lv_at hl 0 rfl) ?_
    refine lv_iload_n hx hb dL_law_578 rfl (lv_at hl 3 rfl) ?_
    refine lv_iconst (v := iI 2) hx hb dL_law_579 rfl ?_
    refine z_iadd hx hb dL_law_580 ?_
    refine z_sld hx hb hX hbl hbA hS (by omega) (by omega) hL hv2 dL_law_581 ?_
    refine lv_aload_n hx hb dL_law_582 rfl (lv_at hl 0 rfl) ?_
    refine lv_iload_n hx hb dL_law_583 rfl (lv_at hl 3 rfl) ?_
    refine lv_iconst (v := iI 3) hx hb dL_law_584 rfl ?_
    refine z_iadd hx hb dL_law_585 ?_
    refine z_sld hx hb hX hbl hbA hS (by omega) (by omega) hL hv3 dL_law_586 ?_
    refine z_cS (As := [.int (iI v1), .int (iI v2), .int (iI v3)]) (rest := []) C (m_X5_key_n (l := l) (g := g) (o := ad 0) (h := ad 1) (b := ad 4) (im := ad 10) (a := ad 11) (d := ad 15) (bb := ad 19) (fr := fr) (hn := ad 2) (hs := ad 3) (fl := N 0) (re := N 1) (SZ := fun x => N (2 + x)) (pi_ := v1) (v := v2) (w := v3) (z1 := zN.2.2.1) (g_pi_ := by omega) (g_v := by omega) (g_w := by omega) (rf := hac)) (cwV 3 C.2.2.2.2 gL_law_X5_key rfl rfl rfl (by decide +kernel) ⟨Nat.le_of_ble_eq_true rfl, Nat.le_of_ble_eq_true rfl⟩) hK hP [0, 1, 3] rfl 0 rfl rfl rfl hl.1 rfl (Nat.le_of_ble_eq_true rfl) dL_law_587 ⟨by show cells ≤ 600000; omega, by show slots ≤ 7302250; omega⟩ ?_
    refine lv_aload_n hx hb dL_law_590 rfl (lv_at hl 2 rfl) ?_
    refine lv_aload_n hx hb dL_law_591 rfl (lv_at hl 0 rfl) ?_
    refine lv_iload_n hx hb dL_law_592 rfl (lv_at hl 3 rfl) ?_
    refine lv_iconst (v := iI 1) hx hb dL_law_593 rfl ?_
    refine z_iadd hx hb dL_law_594 ?_
    refine z_sld hx hb hX hbl hbA hS (by omega) (by omega) hL hv1 dL_law_595 ?_
    refine lv_aload_n hx hb dL_law_596 rfl (lv_at hl 0 rfl) ?_
    refine lv_iload_n hx hb dL_law_597 rfl (lv_at hl 3 rfl) ?_
    refine lv_iconst (v := iI 2) hx hb dL_law_598 rfl ?_
    refine z_iadd hx hb dL_law_599 ?_
    refine z_sld hx hb hX hbl hbA hS (by omega) (by omega) hL hv2 dL_law_600 ?_
    refine lv_aload_n hx hb dL_law_601 rfl (lv_at hl 0 rfl) ?_
    refine lv_iload_n hx hb dL_law_602 rfl (lv_at hl 3 rfl) ?_
    refine lv_iconst (v := iI 3) hx hb dL_law_603 rfl ?_
    refine z_iadd hx hb dL_law_604 ?_
    refine z_sld hx hb hX hbl hbA hS (by omega) (by omega) hL hv3 dL_law_605 ?_
    refine z_cS (As := [.int (iI v1), .int (iI v2), .int (iI v3)]) (rest := [.int (iI (-1000000001))]) C (m_X6_key_n (l := l) (g := g) (q := ad 22) (qn := ad 23) (qp := ad 24) (qi := ad 25) (qk := ad 26) (qt := ad 27) (qw := ad 28) (qv := ad 29) (qr := ad 30) (ac := ac) (N := N) (pi_ := v1) (v := v2) (w := v3) (zN := zN) (g_pi_ := by omega) (g_v := by omega) (g_w := by omega) (rf := hac)) (cwV 3 C.2.2.2.2 gL_law_X6_key rfl rfl rfl (by decide +kernel) ⟨Nat.le_of_ble_eq_true rfl, Nat.le_of_ble_eq_true rfl⟩) hK hP [22, 23] rfl 22 rfl rfl rfl hl.1 rfl (Nat.le_of_ble_eq_true rfl) dL_law_606 ⟨by show cells ≤ 600000; omega, by show slots ≤ 7302250; omega⟩ ?_
    refine z_eqS (tgt := 805) hx hb dL_law_609 (by decide) (rfl) ?_
    exact hgo H locs _ _ bud ls ⟨N, P, IQ, KP, TU, PK, VO, RK, NB, RR, RS, RF, RE, WA, FD, OF, ST, FI, EN, CE, OR, ac, nx, fr, un, rk, he, kn, al, IM, IW, zN, hPR, hfr, hIM, hP, hD, hS⟩ (by omega) (by omega) (lv_sub hl [0, 1, 2, 3] rfl)
set_option maxHeartbeats 8000000 in
set_option maxRecDepth 100000 in
theorem op_keyAt {p : Program} {l : Launch} {e : Env} {s : State} {m : MethodId} {below : List Frame} {meth : Method} {c : Code} {Q : State → Prop} {A : Nat → Prop} {g : zG} {ad : Nat → Nat} {b0 L : Nat} {xs : Nat → Int32} {i_ : Int} (X : zX p s m c A g b0 L xs i_) (hgo : zL p l e s m below meth c Q A g ad b0 i_ 805) : zL p l e s m below meth c Q A g ad b0 i_ 614 := by
  obtain ⟨C, hX, hbl, hK, hO, hA, hbA, hi, hi2, hL⟩ := X
  have hx := C.1
  have hb := C.2.1
  intro H locs cells slots bud ls hI hcs hss hl
  obtain ⟨N, P, IQ, KP, TU, PK, VO, RK, NB, RR, RS, RF, RE, WA, FD, OF, ST, FI, EN, CE, OR, ac, nx, fr, un, rk, he, kn, al, IM, IW, zN, hPR, hfr, hIM, hP, hD, hS⟩ := hI
  have hPb := hPR.2.1
  have hPc := hPR.2.2.1
  have hPn := hPR.2.2.2.1
  have hPm := hPR.2.2.2.2.1
  obtain ⟨v1, hv1⟩ : ∃ v, v = sx xs (i_ + 1) := ⟨_, rfl⟩
  have g_v1 := sx_rg xs (i_ + 1)
  rw [← hv1] at g_v1
  by_cases hac : 0 ≤ v1
  · refine lv_aload_n hx hb dL_law_614 rfl (lv_at hl 1 rfl) ?_
    refine lv_aload_n hx hb dL_law_615 rfl (lv_at hl 0 rfl) ?_
    refine lv_iload_n hx hb dL_law_616 rfl (lv_at hl 3 rfl) ?_
    refine lv_iconst (v := iI 1) hx hb dL_law_617 rfl ?_
    refine z_iadd hx hb dL_law_618 ?_
    refine z_sld hx hb hX hbl hbA hS (by omega) (by omega) hL hv1 dL_law_619 ?_
    refine z_cE (As := [.int (iI v1)]) (rest := []) C (m_X5_keyAt (l := l) (g := g) (o := ad 0) (h := ad 1) (b := ad 4) (im := ad 10) (a := ad 11) (d := ad 15) (bb := ad 19) (fr := fr) (hn := ad 2) (hs := ad 3) (fl := N 0) (re := N 1) (NU := fun x => N (7 + x)) (SZ := fun x => N (2 + x)) (aw := ad 12) (af := ad 13) (ao := ad 14) (ds := ad 16) (df := ad 17) (de := ad 18) (bc := ad 20) (bo := ad 21) (WA := WA) (FD := FD) (ST := ST) (FI := FI) (EN := EN) (CE := CE) (OR := OR) (un := un) (rk := rk) (he := he) (kn := kn) (al := al) (kk := v1) (hfr := hfr) (f1 := zN.1) (f2 := zN.2.1) (z1 := zN.2.2.1) (a1 := by omega)) (cwV 1 C.2.2.2.2 gL_law_X5_keyAt rfl rfl rfl (by decide +kernel) ⟨Nat.le_of_ble_eq_true rfl, Nat.le_of_ble_eq_true rfl⟩) hK hP hD hS hA [0, 1, 2, 3, 11, 12, 13, 15, 16, 17, 18, 19, 20, 21] (by decide) rfl (fun _ => rfl) 0 rfl rfl rfl hl.1 rfl (Nat.le_of_ble_eq_true rfl) dL_law_620 ⟨by show cells ≤ 600000; omega, by show slots ≤ 7302250; omega⟩ (fun r_1 u_ H locs hq hP hD hS => ?_)
    have hP : zP g ([((ad 0), .inr (5, [.ref (ad 1), .ref (ad 4), .ref (ad 10), .ref (ad 11), .ref (ad 15), .ref (ad 19), .int (iI 1)])), ((ad 1), .inr (4, [.ref (ad 2), .ref (ad 3), .int (iI (N 0)), .int (iI (N 1))])), zI g (ad 2) 640 (fun x => N (7 + x)), zI g (ad 3) 5 (fun x => N (2 + x)), (ad 4, .inr (2, [.ref (ad 5), .ref (ad 6), .ref (ad 7), .ref (ad 8), .ref (ad 9), .int (iI nx), .int (iI ac)])), zI g (ad 5) 1024 NB, zI g (ad 6) 8 RR, zI g (ad 7) 8 RS, zI g (ad 8) 8 RF, zI g (ad 9) 8 RE, zQ g (ad 10) 2 IM, ((ad 11), .inr (3, [.ref (ad 12), .ref (ad 13), .ref (ad 14)])), zI g (ad 12) 8 (u_.1), zI g (ad 13) 80 (pf (fun x => N (7 + x)) (fun x => N (2 + x)) (N 0)), zI g (ad 14) 8 OF, ((ad 15), .inr (1, [.ref (ad 16), .ref (ad 17), .ref (ad 18), .int (iI (un_ (pf (fun x => N (7 + x)) (fun x => N (2 + x)) (N 0)) (N 1)))])), zI g (ad 16) 385 (stt (pf (fun x => N (7 + x)) (fun x => N (2 + x)) (N 0)) (N 1)), zI g (ad 17) 384 (u_.2.1), zI g (ad 18) 320 (u_.2.2.1), ((ad 19), .inr (0, [.ref (ad 20), .ref (ad 21), .int (iI (nt_ (pf (fun x => N (7 + x)) (fun x => N (2 + x)) (N 0)) (N 1))), .int (iI (he_ (pf (fun x => N (7 + x)) (fun x => N (2 + x)) (N 0)) (N 1))), .int (iI (ku_ (pf (fun x => N (7 + x)) (fun x => N (2 + x)) (N 0)) (N 1))), .int (iI (al_ (pf (fun x => N (7 + x)) (fun x => N (2 + x)) (N 0)) (N 1)))])), zI g (ad 20) 124 (V_ (pf (fun x => N (7 + x)) (fun x => N (2 + x)) (N 0)) (N 1)), zI g (ad 21) 124 (u_.2.2.2), (ad 22, .inr (6, [.ref (ad 23), .ref (ad 24), .int (iI ac), .ref (ad 25), .ref (ad 26), .ref (ad 27), .ref (ad 28), .ref (ad 29), .ref (ad 30)])), zI g (ad 23) 647 N, zI g (ad 24) 5176 P, zI g (ad 25) 1294 IQ, zB g (ad 26) 2 KP, zI g (ad 27) 8 TU, zI g (ad 28) 80 PK, zI g (ad 29) 124 VO, zB g (ad 30) 124 RK] ++ IW) H := hP
    have hD : va_D A ([((ad 0), .inr (5, [.ref (ad 1), .ref (ad 4), .ref (ad 10), .ref (ad 11), .ref (ad 15), .ref (ad 19), .int (iI 1)])), ((ad 1), .inr (4, [.ref (ad 2), .ref (ad 3), .int (iI (N 0)), .int (iI (N 1))])), zI g (ad 2) 640 (fun x => N (7 + x)), zI g (ad 3) 5 (fun x => N (2 + x)), (ad 4, .inr (2, [.ref (ad 5), .ref (ad 6), .ref (ad 7), .ref (ad 8), .ref (ad 9), .int (iI nx), .int (iI ac)])), zI g (ad 5) 1024 NB, zI g (ad 6) 8 RR, zI g (ad 7) 8 RS, zI g (ad 8) 8 RF, zI g (ad 9) 8 RE, zQ g (ad 10) 2 IM, ((ad 11), .inr (3, [.ref (ad 12), .ref (ad 13), .ref (ad 14)])), zI g (ad 12) 8 (u_.1), zI g (ad 13) 80 (pf (fun x => N (7 + x)) (fun x => N (2 + x)) (N 0)), zI g (ad 14) 8 OF, ((ad 15), .inr (1, [.ref (ad 16), .ref (ad 17), .ref (ad 18), .int (iI (un_ (pf (fun x => N (7 + x)) (fun x => N (2 + x)) (N 0)) (N 1)))])), zI g (ad 16) 385 (stt (pf (fun x => N (7 + x)) (fun x => N (2 + x)) (N 0)) (N 1)), zI g (ad 17) 384 (u_.2.1), zI g (ad 18) 320 (u_.2.2.1), ((ad 19), .inr (0, [.ref (ad 20), .ref (ad 21), .int (iI (nt_ (pf (fun x => N (7 + x)) (fun x => N (2 + x)) (N 0)) (N 1))), .int (iI (he_ (pf (fun x => N (7 + x)) (fun x => N (2 + x)) (N 0)) (N 1))), .int (iI (ku_ (pf (fun x => N (7 + x)) (fun x => N (2 + x)) (N 0)) (N 1))), .int (iI (al_ (pf (fun x => N (7 + x)) (fun x => N (2 + x)) (N 0)) (N 1)))])), zI g (ad 20) 124 (V_ (pf (fun x => N (7 + x)) (fun x => N (2 + x)) (N 0)) (N 1)), zI g (ad 21) 124 (u_.2.2.2), (ad 22, .inr (6, [.ref (ad 23), .ref (ad 24), .int (iI ac), .ref (ad 25), .ref (ad 26), .ref (ad 27), .ref (ad 28), .ref (ad 29), .ref (ad 30)])), zI g (ad 23) 647 N, zI g (ad 24) 5176 P, zI g (ad 25) 1294 IQ, zB g (ad 26) 2 KP, zI g (ad 27) 8 TU, zI g (ad 28) 80 PK, zI g (ad 29) 124 VO, zB g (ad 30) 124 RK] ++ IW) := hD
    refine lv_aload_n hx hb dL_law_623 rfl (lv_at hl 2 rfl) ?_
    refine lv_aload_n hx hb dL_law_624 rfl (lv_at hl 0 rfl) ?_
    refine lv_iload_n hx hb dL_law_625 rfl (lv_at hl 3 rfl) ?_
    refine lv_iconst (v := iI 1) hx hb dL_law_626 rfl ?_
    refine z_iadd hx hb dL_law_627 ?_
    refine z_sld hx hb hX hbl hbA hS (by omega) (by omega) hL hv1 dL_law_628 ?_
    refine z_cE (As := [.int (iI v1)]) (rest := [.int (iI r_1)]) C (m_X6_keyAt (l := l) (g := g) (q := ad 22) (qn := ad 23) (qp := ad 24) (qi := ad 25) (qk := ad 26) (qt := ad 27) (qw := ad 28) (qv := ad 29) (qr := ad 30) (ac := ac) (N := N) (TU := TU) (PK := PK) (kk := v1) (zN := zN) (a1 := by omega)) (cwV 1 C.2.2.2.2 gL_law_X6_keyAt rfl rfl rfl (by decide +kernel) ⟨Nat.le_of_ble_eq_true rfl, Nat.le_of_ble_eq_true rfl⟩) hK hP hD hS hA [22, 23, 27, 28] (by decide) rfl (fun _ => rfl) 22 rfl rfl rfl hl.1 rfl (Nat.le_of_ble_eq_true rfl) dL_law_629 ⟨by show cells ≤ 600000; omega, by show slots ≤ 7302250; omega⟩ (fun r_2 t_ H locs hm hP hD hS => ?_)
    have hP : zP g ([((ad 0), .inr (5, [.ref (ad 1), .ref (ad 4), .ref (ad 10), .ref (ad 11), .ref (ad 15), .ref (ad 19), .int (iI 1)])), ((ad 1), .inr (4, [.ref (ad 2), .ref (ad 3), .int (iI (N 0)), .int (iI (N 1))])), zI g (ad 2) 640 (fun x => N (7 + x)), zI g (ad 3) 5 (fun x => N (2 + x)), (ad 4, .inr (2, [.ref (ad 5), .ref (ad 6), .ref (ad 7), .ref (ad 8), .ref (ad 9), .int (iI nx), .int (iI ac)])), zI g (ad 5) 1024 NB, zI g (ad 6) 8 RR, zI g (ad 7) 8 RS, zI g (ad 8) 8 RF, zI g (ad 9) 8 RE, zQ g (ad 10) 2 IM, ((ad 11), .inr (3, [.ref (ad 12), .ref (ad 13), .ref (ad 14)])), zI g (ad 12) 8 (u_.1), zI g (ad 13) 80 (pf (fun x => N (7 + x)) (fun x => N (2 + x)) (N 0)), zI g (ad 14) 8 OF, ((ad 15), .inr (1, [.ref (ad 16), .ref (ad 17), .ref (ad 18), .int (iI (un_ (pf (fun x => N (7 + x)) (fun x => N (2 + x)) (N 0)) (N 1)))])), zI g (ad 16) 385 (stt (pf (fun x => N (7 + x)) (fun x => N (2 + x)) (N 0)) (N 1)), zI g (ad 17) 384 (u_.2.1), zI g (ad 18) 320 (u_.2.2.1), ((ad 19), .inr (0, [.ref (ad 20), .ref (ad 21), .int (iI (nt_ (pf (fun x => N (7 + x)) (fun x => N (2 + x)) (N 0)) (N 1))), .int (iI (he_ (pf (fun x => N (7 + x)) (fun x => N (2 + x)) (N 0)) (N 1))), .int (iI (ku_ (pf (fun x => N (7 + x)) (fun x => N (2 + x)) (N 0)) (N 1))), .int (iI (al_ (pf (fun x => N (7 + x)) (fun x => N (2 + x)) (N 0)) (N 1)))])), zI g (ad 20) 124 (V_ (pf (fun x => N (7 + x)) (fun x => N (2 + x)) (N 0)) (N 1)), zI g (ad 21) 124 (u_.2.2.2), ((ad 22), .inr (6, [.ref (ad 23), .ref (ad 24), .int (iI ac), .ref (ad 25), .ref (ad 26), .ref (ad 27), .ref (ad 28), .ref (ad 29), .ref (ad 30)])), zI g (ad 23) 647 N, zI g (ad 24) 5176 P, zI g (ad 25) 1294 IQ, zB g (ad 26) 2 KP, zI g (ad 27) 8 (t_.1), zI g (ad 28) 80 (t_.2), zI g (ad 29) 124 VO, zB g (ad 30) 124 RK] ++ IW) H := hP
    have hD : va_D A ([((ad 0), .inr (5, [.ref (ad 1), .ref (ad 4), .ref (ad 10), .ref (ad 11), .ref (ad 15), .ref (ad 19), .int (iI 1)])), ((ad 1), .inr (4, [.ref (ad 2), .ref (ad 3), .int (iI (N 0)), .int (iI (N 1))])), zI g (ad 2) 640 (fun x => N (7 + x)), zI g (ad 3) 5 (fun x => N (2 + x)), (ad 4, .inr (2, [.ref (ad 5), .ref (ad 6), .ref (ad 7), .ref (ad 8), .ref (ad 9), .int (iI nx), .int (iI ac)])), zI g (ad 5) 1024 NB, zI g (ad 6) 8 RR, zI g (ad 7) 8 RS, zI g (ad 8) 8 RF, zI g (ad 9) 8 RE, zQ g (ad 10) 2 IM, ((ad 11), .inr (3, [.ref (ad 12), .ref (ad 13), .ref (ad 14)])), zI g (ad 12) 8 (u_.1), zI g (ad 13) 80 (pf (fun x => N (7 + x)) (fun x => N (2 + x)) (N 0)), zI g (ad 14) 8 OF, ((ad 15), .inr (1, [.ref (ad 16), .ref (ad 17), .ref (ad 18), .int (iI (un_ (pf (fun x => N (7 + x)) (fun x => N (2 + x)) (N 0)) (N 1)))])), zI g (ad 16) 385 (stt (pf (fun x => N (7 + x)) (fun x => N (2 + x)) (N 0)) (N 1)), zI g (ad 17) 384 (u_.2.1), zI g (ad 18) 320 (u_.2.2.1), ((ad 19), .inr (0, [.ref (ad 20), .ref (ad 21), .int (iI (nt_ (pf (fun x => N (7 + x)) (fun x => N (2 + x)) (N 0)) (N 1))), .int (iI (he_ (pf (fun x => N (7 + x)) (fun x => N (2 + x)) (N 0)) (N 1))), .int (iI (ku_ (pf (fun x => N (7 + x)) (fun x => N (2 + x)) (N 0)) (N 1))), .int (iI (al_ (pf (fun x => N (7 + x)) (fun x => N (2 + x)) (N 0)) (N 1)))])), zI g (ad 20) 124 (V_ (pf (fun x => N (7 + x)) (fun x => N (2 + x)) (N 0)) (N 1)), zI g (ad 21) 124 (u_.2.2.2), ((ad 22), .inr (6, [.ref (ad 23), .ref (ad 24), .int (iI ac), .ref (ad 25), .ref (ad 26), .ref (ad 27), .ref (ad 28), .ref (ad 29), .ref (ad 30)])), zI g (ad 23) 647 N, zI g (ad 24) 5176 P, zI g (ad 25) 1294 IQ, zB g (ad 26) 2 KP, zI g (ad 27) 8 (t_.1), zI g (ad 28) 80 (t_.2), zI g (ad 29) 124 VO, zB g (ad 30) 124 RK] ++ IW) := hD
    refine z_eqS (tgt := 805) hx hb dL_law_632 (by decide) ((hq.1.trans (kr_cong (fun j g1 g2 => by show stt (FDn N) (N 1) (j + 1) - stt (FDn N) (N 1) j = cnt (FDn N) (N 1) j 64; rw [stt_s _ _ (by omega)]; omega))).trans hm.symm) ?_
    exact hgo H locs _ _ bud ls ⟨N, P, IQ, KP, (t_.1), (t_.2), VO, RK, NB, RR, RS, RF, RE, (u_.1), (pf (fun x => N (7 + x)) (fun x => N (2 + x)) (N 0)), OF, (stt (pf (fun x => N (7 + x)) (fun x => N (2 + x)) (N 0)) (N 1)), (u_.2.1), (u_.2.2.1), (V_ (pf (fun x => N (7 + x)) (fun x => N (2 + x)) (N 0)) (N 1)), (u_.2.2.2), ac, nx, 1, (un_ (pf (fun x => N (7 + x)) (fun x => N (2 + x)) (N 0)) (N 1)), (nt_ (pf (fun x => N (7 + x)) (fun x => N (2 + x)) (N 0)) (N 1)), (he_ (pf (fun x => N (7 + x)) (fun x => N (2 + x)) (N 0)) (N 1)), (ku_ (pf (fun x => N (7 + x)) (fun x => N (2 + x)) (N 0)) (N 1)), (al_ (pf (fun x => N (7 + x)) (fun x => N (2 + x)) (N 0)) (N 1)), IM, IW, zN, hPR, Or.inr ⟨rfl, fun j _ _ => rfl, fun j _ _ => rfl, fun j _ _ => rfl, rfl, rfl, rfl, rfl, rfl, hq.2⟩, hIM, hP, hD, hS⟩ (by omega) (by omega) (lv_sub hl [0, 1, 2, 3] rfl)
  · refine lv_aload_n hx hb dL_law_614 rfl (lv_at hl 1 rfl) ?_
    refine lv_aload_n hx hb dL_law_615 rfl (lv_at hl 0 rfl) ?_
    refine lv_iload_n hx hb dL_law_616 rfl (lv_at hl 3 rfl) ?_
    refine lv_iconst (v := iI 1) hx hb dL_law_617 rfl ?_
    refine z_iadd hx hb dL_law_618 ?_
    refine z_sld hx hb hX hbl hbA hS (by omega) (by omega) hL hv1 dL_law_619 ?_
    refine z_cS (As := [.int (iI v1)]) (rest := []) C (m_X5_keyAt_n (l := l) (g := g) (o := ad 0) (h := ad 1) (b := ad 4) (im := ad 10) (a := ad 11) (d := ad 15) (bb := ad 19) (fr := fr) (kk := v1) (g_kk := by omega) (rf := by omega)) (cwV 1 C.2.2.2.2 gL_law_X5_keyAt rfl rfl rfl (by decide +kernel) ⟨Nat.le_of_ble_eq_true rfl, Nat.le_of_ble_eq_true rfl⟩) hK hP [0] rfl 0 rfl rfl rfl hl.1 rfl (Nat.le_of_ble_eq_true rfl) dL_law_620 ⟨by show cells ≤ 600000; omega, by show slots ≤ 7302250; omega⟩ ?_
    refine lv_aload_n hx hb dL_law_623 rfl (lv_at hl 2 rfl) ?_
    refine lv_aload_n hx hb dL_law_624 rfl (lv_at hl 0 rfl) ?_
    refine lv_iload_n hx hb dL_law_625 rfl (lv_at hl 3 rfl) ?_
    refine lv_iconst (v := iI 1) hx hb dL_law_626 rfl ?_
    refine z_iadd hx hb dL_law_627 ?_
    refine z_sld hx hb hX hbl hbA hS (by omega) (by omega) hL hv1 dL_law_628 ?_
    refine z_cS (As := [.int (iI v1)]) (rest := [.int (iI (-1000000002))]) C (m_X6_keyAt_n (l := l) (g := g) (q := ad 22) (qn := ad 23) (qp := ad 24) (qi := ad 25) (qk := ad 26) (qt := ad 27) (qw := ad 28) (qv := ad 29) (qr := ad 30) (ac := ac) (kk := v1) (g_kk := by omega) (rf := by omega)) (cwV 1 C.2.2.2.2 gL_law_X6_keyAt rfl rfl rfl (by decide +kernel) ⟨Nat.le_of_ble_eq_true rfl, Nat.le_of_ble_eq_true rfl⟩) hK hP [22] rfl 22 rfl rfl rfl hl.1 rfl (Nat.le_of_ble_eq_true rfl) dL_law_629 ⟨by show cells ≤ 600000; omega, by show slots ≤ 7302250; omega⟩ ?_
    refine z_eqS (tgt := 805) hx hb dL_law_632 (by decide) (rfl) ?_
    exact hgo H locs _ _ bud ls ⟨N, P, IQ, KP, TU, PK, VO, RK, NB, RR, RS, RF, RE, WA, FD, OF, ST, FI, EN, CE, OR, ac, nx, fr, un, rk, he, kn, al, IM, IW, zN, hPR, hfr, hIM, hP, hD, hS⟩ (by omega) (by omega) (lv_sub hl [0, 1, 2, 3] rfl)
set_option maxHeartbeats 8000000 in
set_option maxRecDepth 100000 in
theorem op_places {p : Program} {l : Launch} {e : Env} {s : State} {m : MethodId} {below : List Frame} {meth : Method} {c : Code} {Q : State → Prop} {A : Nat → Prop} {g : zG} {ad : Nat → Nat} {b0 L : Nat} {xs : Nat → Int32} {i_ : Int} (X : zX p s m c A g b0 L xs i_) (hgo : zL p l e s m below meth c Q A g ad b0 i_ 805) : zL p l e s m below meth c Q A g ad b0 i_ 637 := by
  obtain ⟨C, hX, hbl, hK, hO, hA, hbA, hi, hi2, hL⟩ := X
  have hx := C.1
  have hb := C.2.1
  intro H locs cells slots bud ls hI hcs hss hl
  obtain ⟨N, P, IQ, KP, TU, PK, VO, RK, NB, RR, RS, RF, RE, WA, FD, OF, ST, FI, EN, CE, OR, ac, nx, fr, un, rk, he, kn, al, IM, IW, zN, hPR, hfr, hIM, hP, hD, hS⟩ := hI
  have hPb := hPR.2.1
  have hPc := hPR.2.2.1
  have hPn := hPR.2.2.2.1
  have hPm := hPR.2.2.2.2.1
  obtain ⟨v1, hv1⟩ : ∃ v, v = sx xs (i_ + 1) := ⟨_, rfl⟩
  have g_v1 := sx_rg xs (i_ + 1)
  rw [← hv1] at g_v1
  by_cases hac : 64 ≤ v1 ∧ v1 ≤ 383
  · refine lv_aload_n hx hb dL_law_637 rfl (lv_at hl 1 rfl) ?_
    refine lv_aload_n hx hb dL_law_638 rfl (lv_at hl 0 rfl) ?_
    refine lv_iload_n hx hb dL_law_639 rfl (lv_at hl 3 rfl) ?_
    refine lv_iconst (v := iI 1) hx hb dL_law_640 rfl ?_
    refine z_iadd hx hb dL_law_641 ?_
    refine z_sld hx hb hX hbl hbA hS (by omega) (by omega) hL hv1 dL_law_642 ?_
    refine z_cE (As := [.int (iI v1)]) (rest := []) C (m_X5_places (l := l) (g := g) (o := ad 0) (h := ad 1) (b := ad 4) (im := ad 10) (a := ad 11) (d := ad 15) (bb := ad 19) (fr := fr) (hn := ad 2) (hs := ad 3) (fl := N 0) (re := N 1) (NU := fun x => N (7 + x)) (SZ := fun x => N (2 + x)) (aw := ad 12) (af := ad 13) (ao := ad 14) (ds := ad 16) (df := ad 17) (de := ad 18) (bc := ad 20) (bo := ad 21) (WA := WA) (FD := FD) (ST := ST) (FI := FI) (EN := EN) (CE := CE) (OR := OR) (un := un) (rk := rk) (he := he) (kn := kn) (al := al) (key := v1) (hfr := hfr) (f1 := zN.1) (f2 := zN.2.1) (z1 := zN.2.2.1) (a1 := by omega)) (cwV 1 C.2.2.2.2 gL_law_X5_places rfl rfl rfl (by decide +kernel) ⟨Nat.le_of_ble_eq_true rfl, Nat.le_of_ble_eq_true rfl⟩) hK hP hD hS hA [0, 1, 2, 3, 11, 12, 13, 15, 16, 17, 18, 19, 20, 21] (by decide) rfl (fun _ => rfl) 0 rfl rfl rfl hl.1 rfl (Nat.le_of_ble_eq_true rfl) dL_law_643 ⟨by show cells ≤ 600000; omega, by show slots ≤ 7302250; omega⟩ (fun r_1 u_ H locs hq hP hD hS => ?_)
    have hP : zP g ([((ad 0), .inr (5, [.ref (ad 1), .ref (ad 4), .ref (ad 10), .ref (ad 11), .ref (ad 15), .ref (ad 19), .int (iI 1)])), ((ad 1), .inr (4, [.ref (ad 2), .ref (ad 3), .int (iI (N 0)), .int (iI (N 1))])), zI g (ad 2) 640 (fun x => N (7 + x)), zI g (ad 3) 5 (fun x => N (2 + x)), (ad 4, .inr (2, [.ref (ad 5), .ref (ad 6), .ref (ad 7), .ref (ad 8), .ref (ad 9), .int (iI nx), .int (iI ac)])), zI g (ad 5) 1024 NB, zI g (ad 6) 8 RR, zI g (ad 7) 8 RS, zI g (ad 8) 8 RF, zI g (ad 9) 8 RE, zQ g (ad 10) 2 IM, ((ad 11), .inr (3, [.ref (ad 12), .ref (ad 13), .ref (ad 14)])), zI g (ad 12) 8 (u_.1), zI g (ad 13) 80 (pf (fun x => N (7 + x)) (fun x => N (2 + x)) (N 0)), zI g (ad 14) 8 OF, ((ad 15), .inr (1, [.ref (ad 16), .ref (ad 17), .ref (ad 18), .int (iI (un_ (pf (fun x => N (7 + x)) (fun x => N (2 + x)) (N 0)) (N 1)))])), zI g (ad 16) 385 (stt (pf (fun x => N (7 + x)) (fun x => N (2 + x)) (N 0)) (N 1)), zI g (ad 17) 384 (u_.2.1), zI g (ad 18) 320 (u_.2.2.1), ((ad 19), .inr (0, [.ref (ad 20), .ref (ad 21), .int (iI (nt_ (pf (fun x => N (7 + x)) (fun x => N (2 + x)) (N 0)) (N 1))), .int (iI (he_ (pf (fun x => N (7 + x)) (fun x => N (2 + x)) (N 0)) (N 1))), .int (iI (ku_ (pf (fun x => N (7 + x)) (fun x => N (2 + x)) (N 0)) (N 1))), .int (iI (al_ (pf (fun x => N (7 + x)) (fun x => N (2 + x)) (N 0)) (N 1)))])), zI g (ad 20) 124 (V_ (pf (fun x => N (7 + x)) (fun x => N (2 + x)) (N 0)) (N 1)), zI g (ad 21) 124 (u_.2.2.2), (ad 22, .inr (6, [.ref (ad 23), .ref (ad 24), .int (iI ac), .ref (ad 25), .ref (ad 26), .ref (ad 27), .ref (ad 28), .ref (ad 29), .ref (ad 30)])), zI g (ad 23) 647 N, zI g (ad 24) 5176 P, zI g (ad 25) 1294 IQ, zB g (ad 26) 2 KP, zI g (ad 27) 8 TU, zI g (ad 28) 80 PK, zI g (ad 29) 124 VO, zB g (ad 30) 124 RK] ++ IW) H := hP
    have hD : va_D A ([((ad 0), .inr (5, [.ref (ad 1), .ref (ad 4), .ref (ad 10), .ref (ad 11), .ref (ad 15), .ref (ad 19), .int (iI 1)])), ((ad 1), .inr (4, [.ref (ad 2), .ref (ad 3), .int (iI (N 0)), .int (iI (N 1))])), zI g (ad 2) 640 (fun x => N (7 + x)), zI g (ad 3) 5 (fun x => N (2 + x)), (ad 4, .inr (2, [.ref (ad 5), .ref (ad 6), .ref (ad 7), .ref (ad 8), .ref (ad 9), .int (iI nx), .int (iI ac)])), zI g (ad 5) 1024 NB, zI g (ad 6) 8 RR, zI g (ad 7) 8 RS, zI g (ad 8) 8 RF, zI g (ad 9) 8 RE, zQ g (ad 10) 2 IM, ((ad 11), .inr (3, [.ref (ad 12), .ref (ad 13), .ref (ad 14)])), zI g (ad 12) 8 (u_.1), zI g (ad 13) 80 (pf (fun x => N (7 + x)) (fun x => N (2 + x)) (N 0)), zI g (ad 14) 8 OF, ((ad 15), .inr (1, [.ref (ad 16), .ref (ad 17), .ref (ad 18), .int (iI (un_ (pf (fun x => N (7 + x)) (fun x => N (2 + x)) (N 0)) (N 1)))])), zI g (ad 16) 385 (stt (pf (fun x => N (7 + x)) (fun x => N (2 + x)) (N 0)) (N 1)), zI g (ad 17) 384 (u_.2.1), zI g (ad 18) 320 (u_.2.2.1), ((ad 19), .inr (0, [.ref (ad 20), .ref (ad 21), .int (iI (nt_ (pf (fun x => N (7 + x)) (fun x => N (2 + x)) (N 0)) (N 1))), .int (iI (he_ (pf (fun x => N (7 + x)) (fun x => N (2 + x)) (N 0)) (N 1))), .int (iI (ku_ (pf (fun x => N (7 + x)) (fun x => N (2 + x)) (N 0)) (N 1))), .int (iI (al_ (pf (fun x => N (7 + x)) (fun x => N (2 + x)) (N 0)) (N 1)))])), zI g (ad 20) 124 (V_ (pf (fun x => N (7 + x)) (fun x => N (2 + x)) (N 0)) (N 1)), zI g (ad 21) 124 (u_.2.2.2), (ad 22, .inr (6, [.ref (ad 23), .ref (ad 24), .int (iI ac), .ref (ad 25), .ref (ad 26), .ref (ad 27), .ref (ad 28), .ref (ad 29), .ref (ad 30)])), zI g (ad 23) 647 N, zI g (ad 24) 5176 P, zI g (ad 25) 1294 IQ, zB g (ad 26) 2 KP, zI g (ad 27) 8 TU, zI g (ad 28) 80 PK, zI g (ad 29) 124 VO, zB g (ad 30) 124 RK] ++ IW) := hD
    refine lv_aload_n hx hb dL_law_646 rfl (lv_at hl 2 rfl) ?_
    refine lv_aload_n hx hb dL_law_647 rfl (lv_at hl 0 rfl) ?_
    refine lv_iload_n hx hb dL_law_648 rfl (lv_at hl 3 rfl) ?_
    refine lv_iconst (v := iI 1) hx hb dL_law_649 rfl ?_
    refine z_iadd hx hb dL_law_650 ?_
    refine z_sld hx hb hX hbl hbA hS (by omega) (by omega) hL hv1 dL_law_651 ?_
    refine z_cE (As := [.int (iI v1)]) (rest := [.int (iI r_1)]) C (m_X6_places (l := l) (g := g) (q := ad 22) (qn := ad 23) (qp := ad 24) (qi := ad 25) (qk := ad 26) (qt := ad 27) (qw := ad 28) (qv := ad 29) (qr := ad 30) (ac := ac) (N := N) (TU := TU) (PK := PK) (key := v1) (zN := zN) (a1 := by omega)) (cwV 1 C.2.2.2.2 gL_law_X6_places rfl rfl rfl (by decide +kernel) ⟨Nat.le_of_ble_eq_true rfl, Nat.le_of_ble_eq_true rfl⟩) hK hP hD hS hA [22, 23, 27, 28] (by decide) rfl (fun _ => rfl) 22 rfl rfl rfl hl.1 rfl (Nat.le_of_ble_eq_true rfl) dL_law_652 ⟨by show cells ≤ 600000; omega, by show slots ≤ 7302250; omega⟩ (fun r_2 t_ H locs hm hP hD hS => ?_)
    have hP : zP g ([((ad 0), .inr (5, [.ref (ad 1), .ref (ad 4), .ref (ad 10), .ref (ad 11), .ref (ad 15), .ref (ad 19), .int (iI 1)])), ((ad 1), .inr (4, [.ref (ad 2), .ref (ad 3), .int (iI (N 0)), .int (iI (N 1))])), zI g (ad 2) 640 (fun x => N (7 + x)), zI g (ad 3) 5 (fun x => N (2 + x)), (ad 4, .inr (2, [.ref (ad 5), .ref (ad 6), .ref (ad 7), .ref (ad 8), .ref (ad 9), .int (iI nx), .int (iI ac)])), zI g (ad 5) 1024 NB, zI g (ad 6) 8 RR, zI g (ad 7) 8 RS, zI g (ad 8) 8 RF, zI g (ad 9) 8 RE, zQ g (ad 10) 2 IM, ((ad 11), .inr (3, [.ref (ad 12), .ref (ad 13), .ref (ad 14)])), zI g (ad 12) 8 (u_.1), zI g (ad 13) 80 (pf (fun x => N (7 + x)) (fun x => N (2 + x)) (N 0)), zI g (ad 14) 8 OF, ((ad 15), .inr (1, [.ref (ad 16), .ref (ad 17), .ref (ad 18), .int (iI (un_ (pf (fun x => N (7 + x)) (fun x => N (2 + x)) (N 0)) (N 1)))])), zI g (ad 16) 385 (stt (pf (fun x => N (7 + x)) (fun x => N (2 + x)) (N 0)) (N 1)), zI g (ad 17) 384 (u_.2.1), zI g (ad 18) 320 (u_.2.2.1), ((ad 19), .inr (0, [.ref (ad 20), .ref (ad 21), .int (iI (nt_ (pf (fun x => N (7 + x)) (fun x => N (2 + x)) (N 0)) (N 1))), .int (iI (he_ (pf (fun x => N (7 + x)) (fun x => N (2 + x)) (N 0)) (N 1))), .int (iI (ku_ (pf (fun x => N (7 + x)) (fun x => N (2 + x)) (N 0)) (N 1))), .int (iI (al_ (pf (fun x => N (7 + x)) (fun x => N (2 + x)) (N 0)) (N 1)))])), zI g (ad 20) 124 (V_ (pf (fun x => N (7 + x)) (fun x => N (2 + x)) (N 0)) (N 1)), zI g (ad 21) 124 (u_.2.2.2), ((ad 22), .inr (6, [.ref (ad 23), .ref (ad 24), .int (iI ac), .ref (ad 25), .ref (ad 26), .ref (ad 27), .ref (ad 28), .ref (ad 29), .ref (ad 30)])), zI g (ad 23) 647 N, zI g (ad 24) 5176 P, zI g (ad 25) 1294 IQ, zB g (ad 26) 2 KP, zI g (ad 27) 8 (t_.1), zI g (ad 28) 80 (t_.2), zI g (ad 29) 124 VO, zB g (ad 30) 124 RK] ++ IW) H := hP
    have hD : va_D A ([((ad 0), .inr (5, [.ref (ad 1), .ref (ad 4), .ref (ad 10), .ref (ad 11), .ref (ad 15), .ref (ad 19), .int (iI 1)])), ((ad 1), .inr (4, [.ref (ad 2), .ref (ad 3), .int (iI (N 0)), .int (iI (N 1))])), zI g (ad 2) 640 (fun x => N (7 + x)), zI g (ad 3) 5 (fun x => N (2 + x)), (ad 4, .inr (2, [.ref (ad 5), .ref (ad 6), .ref (ad 7), .ref (ad 8), .ref (ad 9), .int (iI nx), .int (iI ac)])), zI g (ad 5) 1024 NB, zI g (ad 6) 8 RR, zI g (ad 7) 8 RS, zI g (ad 8) 8 RF, zI g (ad 9) 8 RE, zQ g (ad 10) 2 IM, ((ad 11), .inr (3, [.ref (ad 12), .ref (ad 13), .ref (ad 14)])), zI g (ad 12) 8 (u_.1), zI g (ad 13) 80 (pf (fun x => N (7 + x)) (fun x => N (2 + x)) (N 0)), zI g (ad 14) 8 OF, ((ad 15), .inr (1, [.ref (ad 16), .ref (ad 17), .ref (ad 18), .int (iI (un_ (pf (fun x => N (7 + x)) (fun x => N (2 + x)) (N 0)) (N 1)))])), zI g (ad 16) 385 (stt (pf (fun x => N (7 + x)) (fun x => N (2 + x)) (N 0)) (N 1)), zI g (ad 17) 384 (u_.2.1), zI g (ad 18) 320 (u_.2.2.1), ((ad 19), .inr (0, [.ref (ad 20), .ref (ad 21), .int (iI (nt_ (pf (fun x => N (7 + x)) (fun x => N (2 + x)) (N 0)) (N 1))), .int (iI (he_ (pf (fun x => N (7 + x)) (fun x => N (2 + x)) (N 0)) (N 1))), .int (iI (ku_ (pf (fun x => N (7 + x)) (fun x => N (2 + x)) (N 0)) (N 1))), .int (iI (al_ (pf (fun x => N (7 + x)) (fun x => N (2 + x)) (N 0)) (N 1)))])), zI g (ad 20) 124 (V_ (pf (fun x => N (7 + x)) (fun x => N (2 + x)) (N 0)) (N 1)), zI g (ad 21) 124 (u_.2.2.2), ((ad 22), .inr (6, [.ref (ad 23), .ref (ad 24), .int (iI ac), .ref (ad 25), .ref (ad 26), .ref (ad 27), .ref (ad 28), .ref (ad 29), .ref (ad 30)])), zI g (ad 23) 647 N, zI g (ad 24) 5176 P, zI g (ad 25) 1294 IQ, zB g (ad 26) 2 KP, zI g (ad 27) 8 (t_.1), zI g (ad 28) 80 (t_.2), zI g (ad 29) 124 VO, zB g (ad 30) 124 RK] ++ IW) := hD
    refine z_eqS (tgt := 805) hx hb dL_law_655 (by decide) ((hq.1.trans (show stt (FDn N) (N 1) (v1 + 1) - stt (FDn N) (N 1) v1 = cnt (FDn N) (N 1) v1 64 by rw [stt_s _ _ (by omega)]; omega)).trans hm.symm) ?_
    exact hgo H locs _ _ bud ls ⟨N, P, IQ, KP, (t_.1), (t_.2), VO, RK, NB, RR, RS, RF, RE, (u_.1), (pf (fun x => N (7 + x)) (fun x => N (2 + x)) (N 0)), OF, (stt (pf (fun x => N (7 + x)) (fun x => N (2 + x)) (N 0)) (N 1)), (u_.2.1), (u_.2.2.1), (V_ (pf (fun x => N (7 + x)) (fun x => N (2 + x)) (N 0)) (N 1)), (u_.2.2.2), ac, nx, 1, (un_ (pf (fun x => N (7 + x)) (fun x => N (2 + x)) (N 0)) (N 1)), (nt_ (pf (fun x => N (7 + x)) (fun x => N (2 + x)) (N 0)) (N 1)), (he_ (pf (fun x => N (7 + x)) (fun x => N (2 + x)) (N 0)) (N 1)), (ku_ (pf (fun x => N (7 + x)) (fun x => N (2 + x)) (N 0)) (N 1)), (al_ (pf (fun x => N (7 + x)) (fun x => N (2 + x)) (N 0)) (N 1)), IM, IW, zN, hPR, Or.inr ⟨rfl, fun j _ _ => rfl, fun j _ _ => rfl, fun j _ _ => rfl, rfl, rfl, rfl, rfl, rfl, hq.2⟩, hIM, hP, hD, hS⟩ (by omega) (by omega) (lv_sub hl [0, 1, 2, 3] rfl)
  · refine lv_aload_n hx hb dL_law_637 rfl (lv_at hl 1 rfl) ?_
    refine lv_aload_n hx hb dL_law_638 rfl (lv_at hl 0 rfl) ?_
    refine lv_iload_n hx hb dL_law_639 rfl (lv_at hl 3 rfl) ?_
    refine lv_iconst (v := iI 1) hx hb dL_law_640 rfl ?_
    refine z_iadd hx hb dL_law_641 ?_
    refine z_sld hx hb hX hbl hbA hS (by omega) (by omega) hL hv1 dL_law_642 ?_
    refine z_cS (As := [.int (iI v1)]) (rest := []) C (m_X5_places_n (l := l) (g := g) (o := ad 0) (h := ad 1) (b := ad 4) (im := ad 10) (a := ad 11) (d := ad 15) (bb := ad 19) (fr := fr) (key := v1) (g_key := by omega) (rf := hac)) (cwV 1 C.2.2.2.2 gL_law_X5_places rfl rfl rfl (by decide +kernel) ⟨Nat.le_of_ble_eq_true rfl, Nat.le_of_ble_eq_true rfl⟩) hK hP [0] rfl 0 rfl rfl rfl hl.1 rfl (Nat.le_of_ble_eq_true rfl) dL_law_643 ⟨by show cells ≤ 600000; omega, by show slots ≤ 7302250; omega⟩ ?_
    refine lv_aload_n hx hb dL_law_646 rfl (lv_at hl 2 rfl) ?_
    refine lv_aload_n hx hb dL_law_647 rfl (lv_at hl 0 rfl) ?_
    refine lv_iload_n hx hb dL_law_648 rfl (lv_at hl 3 rfl) ?_
    refine lv_iconst (v := iI 1) hx hb dL_law_649 rfl ?_
    refine z_iadd hx hb dL_law_650 ?_
    refine z_sld hx hb hX hbl hbA hS (by omega) (by omega) hL hv1 dL_law_651 ?_
    refine z_cS (As := [.int (iI v1)]) (rest := [.int (iI (-1000000002))]) C (m_X6_places_n (l := l) (g := g) (q := ad 22) (qn := ad 23) (qp := ad 24) (qi := ad 25) (qk := ad 26) (qt := ad 27) (qw := ad 28) (qv := ad 29) (qr := ad 30) (ac := ac) (key := v1) (g_key := by omega) (rf := hac)) (cwV 1 C.2.2.2.2 gL_law_X6_places rfl rfl rfl (by decide +kernel) ⟨Nat.le_of_ble_eq_true rfl, Nat.le_of_ble_eq_true rfl⟩) hK hP [22] rfl 22 rfl rfl rfl hl.1 rfl (Nat.le_of_ble_eq_true rfl) dL_law_652 ⟨by show cells ≤ 600000; omega, by show slots ≤ 7302250; omega⟩ ?_
    refine z_eqS (tgt := 805) hx hb dL_law_655 (by decide) (rfl) ?_
    exact hgo H locs _ _ bud ls ⟨N, P, IQ, KP, TU, PK, VO, RK, NB, RR, RS, RF, RE, WA, FD, OF, ST, FI, EN, CE, OR, ac, nx, fr, un, rk, he, kn, al, IM, IW, zN, hPR, hfr, hIM, hP, hD, hS⟩ (by omega) (by omega) (lv_sub hl [0, 1, 2, 3] rfl)
set_option maxHeartbeats 8000000 in
set_option maxRecDepth 100000 in
theorem op_place {p : Program} {l : Launch} {e : Env} {s : State} {m : MethodId} {below : List Frame} {meth : Method} {c : Code} {Q : State → Prop} {A : Nat → Prop} {g : zG} {ad : Nat → Nat} {b0 L : Nat} {xs : Nat → Int32} {i_ : Int} (X : zX p s m c A g b0 L xs i_) (hgo : zL p l e s m below meth c Q A g ad b0 i_ 805) : zL p l e s m below meth c Q A g ad b0 i_ 660 := by
  obtain ⟨C, hX, hbl, hK, hO, hA, hbA, hi, hi2, hL⟩ := X
  have hx := C.1
  have hb := C.2.1
  intro H locs cells slots bud ls hI hcs hss hl
  obtain ⟨N, P, IQ, KP, TU, PK, VO, RK, NB, RR, RS, RF, RE, WA, FD, OF, ST, FI, EN, CE, OR, ac, nx, fr, un, rk, he, kn, al, IM, IW, zN, hPR, hfr, hIM, hP, hD, hS⟩ := hI
  have hPb := hPR.2.1
  have hPc := hPR.2.2.1
  have hPn := hPR.2.2.2.1
  have hPm := hPR.2.2.2.2.1
  obtain ⟨v1, hv1⟩ : ∃ v, v = sx xs (i_ + 1) := ⟨_, rfl⟩
  have g_v1 := sx_rg xs (i_ + 1)
  rw [← hv1] at g_v1
  obtain ⟨v2, hv2⟩ : ∃ v, v = sx xs (i_ + 2) := ⟨_, rfl⟩
  have g_v2 := sx_rg xs (i_ + 2)
  rw [← hv2] at g_v2
  by_cases hac : (64 ≤ v1 ∧ v1 ≤ 383) ∧ 0 ≤ v2
  · refine lv_aload_n hx hb dL_law_660 rfl (lv_at hl 1 rfl) ?_
    refine lv_aload_n hx hb dL_law_661 rfl (lv_at hl 0 rfl) ?_
    refine lv_iload_n hx hb dL_law_662 rfl (lv_at hl 3 rfl) ?_
    refine lv_iconst (v := iI 1) hx hb dL_law_663 rfl ?_
    refine z_iadd hx hb dL_law_664 ?_
    refine z_sld hx hb hX hbl hbA hS (by omega) (by omega) hL hv1 dL_law_665 ?_
    refine lv_aload_n hx hb dL_law_666 rfl (lv_at hl 0 rfl) ?_
    refine lv_iload_n hx hb dL_law_667 rfl (lv_at hl 3 rfl) ?_
    refine lv_iconst (v := iI 2) hx hb dL_law_668 rfl ?_
    refine z_iadd hx hb dL_law_669 ?_
    refine z_sld hx hb hX hbl hbA hS (by omega) (by omega) hL hv2 dL_law_670 ?_
    refine z_cE (As := [.int (iI v1), .int (iI v2)]) (rest := []) C (m_X5_place (l := l) (g := g) (o := ad 0) (h := ad 1) (b := ad 4) (im := ad 10) (a := ad 11) (d := ad 15) (bb := ad 19) (fr := fr) (hn := ad 2) (hs := ad 3) (fl := N 0) (re := N 1) (NU := fun x => N (7 + x)) (SZ := fun x => N (2 + x)) (aw := ad 12) (af := ad 13) (ao := ad 14) (ds := ad 16) (df := ad 17) (de := ad 18) (bc := ad 20) (bo := ad 21) (WA := WA) (FD := FD) (ST := ST) (FI := FI) (EN := EN) (CE := CE) (OR := OR) (un := un) (rk := rk) (he := he) (kn := kn) (al := al) (key := v1) (ix := v2) (hfr := hfr) (f1 := zN.1) (f2 := zN.2.1) (z1 := zN.2.2.1) (a1 := by omega) (a2 := by omega)) (cwV 2 C.2.2.2.2 gL_law_X5_place rfl rfl rfl (by decide +kernel) ⟨Nat.le_of_ble_eq_true rfl, Nat.le_of_ble_eq_true rfl⟩) hK hP hD hS hA [0, 1, 2, 3, 11, 12, 13, 15, 16, 17, 18, 19, 20, 21] (by decide) rfl (fun _ => rfl) 0 rfl rfl rfl hl.1 rfl (Nat.le_of_ble_eq_true rfl) dL_law_671 ⟨by show cells ≤ 600000; omega, by show slots ≤ 7302250; omega⟩ (fun r_1 u_ H locs hq hP hD hS => ?_)
    have hP : zP g ([((ad 0), .inr (5, [.ref (ad 1), .ref (ad 4), .ref (ad 10), .ref (ad 11), .ref (ad 15), .ref (ad 19), .int (iI 1)])), ((ad 1), .inr (4, [.ref (ad 2), .ref (ad 3), .int (iI (N 0)), .int (iI (N 1))])), zI g (ad 2) 640 (fun x => N (7 + x)), zI g (ad 3) 5 (fun x => N (2 + x)), (ad 4, .inr (2, [.ref (ad 5), .ref (ad 6), .ref (ad 7), .ref (ad 8), .ref (ad 9), .int (iI nx), .int (iI ac)])), zI g (ad 5) 1024 NB, zI g (ad 6) 8 RR, zI g (ad 7) 8 RS, zI g (ad 8) 8 RF, zI g (ad 9) 8 RE, zQ g (ad 10) 2 IM, ((ad 11), .inr (3, [.ref (ad 12), .ref (ad 13), .ref (ad 14)])), zI g (ad 12) 8 (u_.1), zI g (ad 13) 80 (pf (fun x => N (7 + x)) (fun x => N (2 + x)) (N 0)), zI g (ad 14) 8 OF, ((ad 15), .inr (1, [.ref (ad 16), .ref (ad 17), .ref (ad 18), .int (iI (un_ (pf (fun x => N (7 + x)) (fun x => N (2 + x)) (N 0)) (N 1)))])), zI g (ad 16) 385 (stt (pf (fun x => N (7 + x)) (fun x => N (2 + x)) (N 0)) (N 1)), zI g (ad 17) 384 (u_.2.1), zI g (ad 18) 320 (u_.2.2.1), ((ad 19), .inr (0, [.ref (ad 20), .ref (ad 21), .int (iI (nt_ (pf (fun x => N (7 + x)) (fun x => N (2 + x)) (N 0)) (N 1))), .int (iI (he_ (pf (fun x => N (7 + x)) (fun x => N (2 + x)) (N 0)) (N 1))), .int (iI (ku_ (pf (fun x => N (7 + x)) (fun x => N (2 + x)) (N 0)) (N 1))), .int (iI (al_ (pf (fun x => N (7 + x)) (fun x => N (2 + x)) (N 0)) (N 1)))])), zI g (ad 20) 124 (V_ (pf (fun x => N (7 + x)) (fun x => N (2 + x)) (N 0)) (N 1)), zI g (ad 21) 124 (u_.2.2.2), (ad 22, .inr (6, [.ref (ad 23), .ref (ad 24), .int (iI ac), .ref (ad 25), .ref (ad 26), .ref (ad 27), .ref (ad 28), .ref (ad 29), .ref (ad 30)])), zI g (ad 23) 647 N, zI g (ad 24) 5176 P, zI g (ad 25) 1294 IQ, zB g (ad 26) 2 KP, zI g (ad 27) 8 TU, zI g (ad 28) 80 PK, zI g (ad 29) 124 VO, zB g (ad 30) 124 RK] ++ IW) H := hP
    have hD : va_D A ([((ad 0), .inr (5, [.ref (ad 1), .ref (ad 4), .ref (ad 10), .ref (ad 11), .ref (ad 15), .ref (ad 19), .int (iI 1)])), ((ad 1), .inr (4, [.ref (ad 2), .ref (ad 3), .int (iI (N 0)), .int (iI (N 1))])), zI g (ad 2) 640 (fun x => N (7 + x)), zI g (ad 3) 5 (fun x => N (2 + x)), (ad 4, .inr (2, [.ref (ad 5), .ref (ad 6), .ref (ad 7), .ref (ad 8), .ref (ad 9), .int (iI nx), .int (iI ac)])), zI g (ad 5) 1024 NB, zI g (ad 6) 8 RR, zI g (ad 7) 8 RS, zI g (ad 8) 8 RF, zI g (ad 9) 8 RE, zQ g (ad 10) 2 IM, ((ad 11), .inr (3, [.ref (ad 12), .ref (ad 13), .ref (ad 14)])), zI g (ad 12) 8 (u_.1), zI g (ad 13) 80 (pf (fun x => N (7 + x)) (fun x => N (2 + x)) (N 0)), zI g (ad 14) 8 OF, ((ad 15), .inr (1, [.ref (ad 16), .ref (ad 17), .ref (ad 18), .int (iI (un_ (pf (fun x => N (7 + x)) (fun x => N (2 + x)) (N 0)) (N 1)))])), zI g (ad 16) 385 (stt (pf (fun x => N (7 + x)) (fun x => N (2 + x)) (N 0)) (N 1)), zI g (ad 17) 384 (u_.2.1), zI g (ad 18) 320 (u_.2.2.1), ((ad 19), .inr (0, [.ref (ad 20), .ref (ad 21), .int (iI (nt_ (pf (fun x => N (7 + x)) (fun x => N (2 + x)) (N 0)) (N 1))), .int (iI (he_ (pf (fun x => N (7 + x)) (fun x => N (2 + x)) (N 0)) (N 1))), .int (iI (ku_ (pf (fun x => N (7 + x)) (fun x => N (2 + x)) (N 0)) (N 1))), .int (iI (al_ (pf (fun x => N (7 + x)) (fun x => N (2 + x)) (N 0)) (N 1)))])), zI g (ad 20) 124 (V_ (pf (fun x => N (7 + x)) (fun x => N (2 + x)) (N 0)) (N 1)), zI g (ad 21) 124 (u_.2.2.2), (ad 22, .inr (6, [.ref (ad 23), .ref (ad 24), .int (iI ac), .ref (ad 25), .ref (ad 26), .ref (ad 27), .ref (ad 28), .ref (ad 29), .ref (ad 30)])), zI g (ad 23) 647 N, zI g (ad 24) 5176 P, zI g (ad 25) 1294 IQ, zB g (ad 26) 2 KP, zI g (ad 27) 8 TU, zI g (ad 28) 80 PK, zI g (ad 29) 124 VO, zB g (ad 30) 124 RK] ++ IW) := hD
    refine lv_aload_n hx hb dL_law_674 rfl (lv_at hl 2 rfl) ?_
    refine lv_aload_n hx hb dL_law_675 rfl (lv_at hl 0 rfl) ?_
    refine lv_iload_n hx hb dL_law_676 rfl (lv_at hl 3 rfl) ?_
    refine lv_iconst (v := iI 1) hx hb dL_law_677 rfl ?_
    refine z_iadd hx hb dL_law_678 ?_
    refine z_sld hx hb hX hbl hbA hS (by omega) (by omega) hL hv1 dL_law_679 ?_
    refine lv_aload_n hx hb dL_law_680 rfl (lv_at hl 0 rfl) ?_
    refine lv_iload_n hx hb dL_law_681 rfl (lv_at hl 3 rfl) ?_
    refine lv_iconst (v := iI 2) hx hb dL_law_682 rfl ?_
    refine z_iadd hx hb dL_law_683 ?_
    refine z_sld hx hb hX hbl hbA hS (by omega) (by omega) hL hv2 dL_law_684 ?_
    refine z_cE (As := [.int (iI v1), .int (iI v2)]) (rest := [.int (iI r_1)]) C (m_X6_place (l := l) (g := g) (q := ad 22) (qn := ad 23) (qp := ad 24) (qi := ad 25) (qk := ad 26) (qt := ad 27) (qw := ad 28) (qv := ad 29) (qr := ad 30) (ac := ac) (N := N) (TU := TU) (PK := PK) (EN := u_.2.2.1) (key := v1) (ix := v2) (zN := zN) (a1 := by omega) (a2 := by omega) (hE := hq.2.1)) (cwV 2 C.2.2.2.2 gL_law_X6_place rfl rfl rfl (by decide +kernel) ⟨Nat.le_of_ble_eq_true rfl, Nat.le_of_ble_eq_true rfl⟩) hK hP hD hS hA [22, 23, 27, 28] (by decide) rfl (fun _ => rfl) 22 rfl rfl rfl hl.1 rfl (Nat.le_of_ble_eq_true rfl) dL_law_685 ⟨by show cells ≤ 600000; omega, by show slots ≤ 7302250; omega⟩ (fun r_2 t_ H locs hm hP hD hS => ?_)
    have hP : zP g ([((ad 0), .inr (5, [.ref (ad 1), .ref (ad 4), .ref (ad 10), .ref (ad 11), .ref (ad 15), .ref (ad 19), .int (iI 1)])), ((ad 1), .inr (4, [.ref (ad 2), .ref (ad 3), .int (iI (N 0)), .int (iI (N 1))])), zI g (ad 2) 640 (fun x => N (7 + x)), zI g (ad 3) 5 (fun x => N (2 + x)), (ad 4, .inr (2, [.ref (ad 5), .ref (ad 6), .ref (ad 7), .ref (ad 8), .ref (ad 9), .int (iI nx), .int (iI ac)])), zI g (ad 5) 1024 NB, zI g (ad 6) 8 RR, zI g (ad 7) 8 RS, zI g (ad 8) 8 RF, zI g (ad 9) 8 RE, zQ g (ad 10) 2 IM, ((ad 11), .inr (3, [.ref (ad 12), .ref (ad 13), .ref (ad 14)])), zI g (ad 12) 8 (u_.1), zI g (ad 13) 80 (pf (fun x => N (7 + x)) (fun x => N (2 + x)) (N 0)), zI g (ad 14) 8 OF, ((ad 15), .inr (1, [.ref (ad 16), .ref (ad 17), .ref (ad 18), .int (iI (un_ (pf (fun x => N (7 + x)) (fun x => N (2 + x)) (N 0)) (N 1)))])), zI g (ad 16) 385 (stt (pf (fun x => N (7 + x)) (fun x => N (2 + x)) (N 0)) (N 1)), zI g (ad 17) 384 (u_.2.1), zI g (ad 18) 320 (u_.2.2.1), ((ad 19), .inr (0, [.ref (ad 20), .ref (ad 21), .int (iI (nt_ (pf (fun x => N (7 + x)) (fun x => N (2 + x)) (N 0)) (N 1))), .int (iI (he_ (pf (fun x => N (7 + x)) (fun x => N (2 + x)) (N 0)) (N 1))), .int (iI (ku_ (pf (fun x => N (7 + x)) (fun x => N (2 + x)) (N 0)) (N 1))), .int (iI (al_ (pf (fun x => N (7 + x)) (fun x => N (2 + x)) (N 0)) (N 1)))])), zI g (ad 20) 124 (V_ (pf (fun x => N (7 + x)) (fun x => N (2 + x)) (N 0)) (N 1)), zI g (ad 21) 124 (u_.2.2.2), ((ad 22), .inr (6, [.ref (ad 23), .ref (ad 24), .int (iI ac), .ref (ad 25), .ref (ad 26), .ref (ad 27), .ref (ad 28), .ref (ad 29), .ref (ad 30)])), zI g (ad 23) 647 N, zI g (ad 24) 5176 P, zI g (ad 25) 1294 IQ, zB g (ad 26) 2 KP, zI g (ad 27) 8 (t_.1), zI g (ad 28) 80 (t_.2), zI g (ad 29) 124 VO, zB g (ad 30) 124 RK] ++ IW) H := hP
    have hD : va_D A ([((ad 0), .inr (5, [.ref (ad 1), .ref (ad 4), .ref (ad 10), .ref (ad 11), .ref (ad 15), .ref (ad 19), .int (iI 1)])), ((ad 1), .inr (4, [.ref (ad 2), .ref (ad 3), .int (iI (N 0)), .int (iI (N 1))])), zI g (ad 2) 640 (fun x => N (7 + x)), zI g (ad 3) 5 (fun x => N (2 + x)), (ad 4, .inr (2, [.ref (ad 5), .ref (ad 6), .ref (ad 7), .ref (ad 8), .ref (ad 9), .int (iI nx), .int (iI ac)])), zI g (ad 5) 1024 NB, zI g (ad 6) 8 RR, zI g (ad 7) 8 RS, zI g (ad 8) 8 RF, zI g (ad 9) 8 RE, zQ g (ad 10) 2 IM, ((ad 11), .inr (3, [.ref (ad 12), .ref (ad 13), .ref (ad 14)])), zI g (ad 12) 8 (u_.1), zI g (ad 13) 80 (pf (fun x => N (7 + x)) (fun x => N (2 + x)) (N 0)), zI g (ad 14) 8 OF, ((ad 15), .inr (1, [.ref (ad 16), .ref (ad 17), .ref (ad 18), .int (iI (un_ (pf (fun x => N (7 + x)) (fun x => N (2 + x)) (N 0)) (N 1)))])), zI g (ad 16) 385 (stt (pf (fun x => N (7 + x)) (fun x => N (2 + x)) (N 0)) (N 1)), zI g (ad 17) 384 (u_.2.1), zI g (ad 18) 320 (u_.2.2.1), ((ad 19), .inr (0, [.ref (ad 20), .ref (ad 21), .int (iI (nt_ (pf (fun x => N (7 + x)) (fun x => N (2 + x)) (N 0)) (N 1))), .int (iI (he_ (pf (fun x => N (7 + x)) (fun x => N (2 + x)) (N 0)) (N 1))), .int (iI (ku_ (pf (fun x => N (7 + x)) (fun x => N (2 + x)) (N 0)) (N 1))), .int (iI (al_ (pf (fun x => N (7 + x)) (fun x => N (2 + x)) (N 0)) (N 1)))])), zI g (ad 20) 124 (V_ (pf (fun x => N (7 + x)) (fun x => N (2 + x)) (N 0)) (N 1)), zI g (ad 21) 124 (u_.2.2.2), ((ad 22), .inr (6, [.ref (ad 23), .ref (ad 24), .int (iI ac), .ref (ad 25), .ref (ad 26), .ref (ad 27), .ref (ad 28), .ref (ad 29), .ref (ad 30)])), zI g (ad 23) 647 N, zI g (ad 24) 5176 P, zI g (ad 25) 1294 IQ, zB g (ad 26) 2 KP, zI g (ad 27) 8 (t_.1), zI g (ad 28) 80 (t_.2), zI g (ad 29) 124 VO, zB g (ad 30) 124 RK] ++ IW) := hD
    refine z_eqS (tgt := 805) hx hb dL_law_688 (by decide) (hq.1.trans hm.symm) ?_
    exact hgo H locs _ _ bud ls ⟨N, P, IQ, KP, (t_.1), (t_.2), VO, RK, NB, RR, RS, RF, RE, (u_.1), (pf (fun x => N (7 + x)) (fun x => N (2 + x)) (N 0)), OF, (stt (pf (fun x => N (7 + x)) (fun x => N (2 + x)) (N 0)) (N 1)), (u_.2.1), (u_.2.2.1), (V_ (pf (fun x => N (7 + x)) (fun x => N (2 + x)) (N 0)) (N 1)), (u_.2.2.2), ac, nx, 1, (un_ (pf (fun x => N (7 + x)) (fun x => N (2 + x)) (N 0)) (N 1)), (nt_ (pf (fun x => N (7 + x)) (fun x => N (2 + x)) (N 0)) (N 1)), (he_ (pf (fun x => N (7 + x)) (fun x => N (2 + x)) (N 0)) (N 1)), (ku_ (pf (fun x => N (7 + x)) (fun x => N (2 + x)) (N 0)) (N 1)), (al_ (pf (fun x => N (7 + x)) (fun x => N (2 + x)) (N 0)) (N 1)), IM, IW, zN, hPR, Or.inr ⟨rfl, fun j _ _ => rfl, fun j _ _ => rfl, fun j _ _ => rfl, rfl, rfl, rfl, rfl, rfl, hq.2⟩, hIM, hP, hD, hS⟩ (by omega) (by omega) (lv_sub hl [0, 1, 2, 3] rfl)
  · refine lv_aload_n hx hb dL_law_660 rfl (lv_at hl 1 rfl) ?_
    refine lv_aload_n hx hb dL_law_661 rfl (lv_at hl 0 rfl) ?_
    refine lv_iload_n hx hb dL_law_662 rfl (lv_at hl 3 rfl) ?_
    refine lv_iconst (v := iI 1) hx hb dL_law_663 rfl ?_
    refine z_iadd hx hb dL_law_664 ?_
    refine z_sld hx hb hX hbl hbA hS (by omega) (by omega) hL hv1 dL_law_665 ?_
    refine lv_aload_n hx hb dL_law_666 rfl (lv_at hl 0 rfl) ?_
    refine lv_iload_n hx hb dL_law_667 rfl (lv_at hl 3 rfl) ?_
    refine lv_iconst (v := iI 2) hx hb dL_law_668 rfl ?_
    refine z_iadd hx hb dL_law_669 ?_
    refine z_sld hx hb hX hbl hbA hS (by omega) (by omega) hL hv2 dL_law_670 ?_
    refine z_cS (As := [.int (iI v1), .int (iI v2)]) (rest := []) C (m_X5_place_n (l := l) (g := g) (o := ad 0) (h := ad 1) (b := ad 4) (im := ad 10) (a := ad 11) (d := ad 15) (bb := ad 19) (fr := fr) (key := v1) (ix := v2) (g_key := by omega) (g_ix := by omega) (rf := hac)) (cwV 2 C.2.2.2.2 gL_law_X5_place rfl rfl rfl (by decide +kernel) ⟨Nat.le_of_ble_eq_true rfl, Nat.le_of_ble_eq_true rfl⟩) hK hP [0] rfl 0 rfl rfl rfl hl.1 rfl (Nat.le_of_ble_eq_true rfl) dL_law_671 ⟨by show cells ≤ 600000; omega, by show slots ≤ 7302250; omega⟩ ?_
    refine lv_aload_n hx hb dL_law_674 rfl (lv_at hl 2 rfl) ?_
    refine lv_aload_n hx hb dL_law_675 rfl (lv_at hl 0 rfl) ?_
    refine lv_iload_n hx hb dL_law_676 rfl (lv_at hl 3 rfl) ?_
    refine lv_iconst (v := iI 1) hx hb dL_law_677 rfl ?_
    refine z_iadd hx hb dL_law_678 ?_
    refine z_sld hx hb hX hbl hbA hS (by omega) (by omega) hL hv1 dL_law_679 ?_
    refine lv_aload_n hx hb dL_law_680 rfl (lv_at hl 0 rfl) ?_
    refine lv_iload_n hx hb dL_law_681 rfl (lv_at hl 3 rfl) ?_
    refine lv_iconst (v := iI 2) hx hb dL_law_682 rfl ?_
    refine z_iadd hx hb dL_law_683 ?_
    refine z_sld hx hb hX hbl hbA hS (by omega) (by omega) hL hv2 dL_law_684 ?_
    refine z_cS (As := [.int (iI v1), .int (iI v2)]) (rest := [.int (iI (-1000000002))]) C (m_X6_place_n (l := l) (g := g) (q := ad 22) (qn := ad 23) (qp := ad 24) (qi := ad 25) (qk := ad 26) (qt := ad 27) (qw := ad 28) (qv := ad 29) (qr := ad 30) (ac := ac) (key := v1) (ix := v2) (g_key := by omega) (g_ix := by omega) (rf := hac)) (cwV 2 C.2.2.2.2 gL_law_X6_place rfl rfl rfl (by decide +kernel) ⟨Nat.le_of_ble_eq_true rfl, Nat.le_of_ble_eq_true rfl⟩) hK hP [22] rfl 22 rfl rfl rfl hl.1 rfl (Nat.le_of_ble_eq_true rfl) dL_law_685 ⟨by show cells ≤ 600000; omega, by show slots ≤ 7302250; omega⟩ ?_
    refine z_eqS (tgt := 805) hx hb dL_law_688 (by decide) (rfl) ?_
    exact hgo H locs _ _ bud ls ⟨N, P, IQ, KP, TU, PK, VO, RK, NB, RR, RS, RF, RE, WA, FD, OF, ST, FI, EN, CE, OR, ac, nx, fr, un, rk, he, kn, al, IM, IW, zN, hPR, hfr, hIM, hP, hD, hS⟩ (by omega) (by omega) (lv_sub hl [0, 1, 2, 3] rfl)
set_option maxHeartbeats 8000000 in
set_option maxRecDepth 100000 in
theorem op_votes {p : Program} {l : Launch} {e : Env} {s : State} {m : MethodId} {below : List Frame} {meth : Method} {c : Code} {Q : State → Prop} {A : Nat → Prop} {g : zG} {ad : Nat → Nat} {b0 L : Nat} {xs : Nat → Int32} {i_ : Int} (X : zX p s m c A g b0 L xs i_) (hgo : zL p l e s m below meth c Q A g ad b0 i_ 805) : zL p l e s m below meth c Q A g ad b0 i_ 693 := by
  obtain ⟨C, hX, hbl, hK, hO, hA, hbA, hi, hi2, hL⟩ := X
  have hx := C.1
  have hb := C.2.1
  intro H locs cells slots bud ls hI hcs hss hl
  obtain ⟨N, P, IQ, KP, TU, PK, VO, RK, NB, RR, RS, RF, RE, WA, FD, OF, ST, FI, EN, CE, OR, ac, nx, fr, un, rk, he, kn, al, IM, IW, zN, hPR, hfr, hIM, hP, hD, hS⟩ := hI
  have hPb := hPR.2.1
  have hPc := hPR.2.2.1
  have hPn := hPR.2.2.2.1
  have hPm := hPR.2.2.2.2.1
  obtain ⟨v1, hv1⟩ : ∃ v, v = sx xs (i_ + 1) := ⟨_, rfl⟩
  have g_v1 := sx_rg xs (i_ + 1)
  rw [← hv1] at g_v1
  obtain ⟨v2, hv2⟩ : ∃ v, v = sx xs (i_ + 2) := ⟨_, rfl⟩
  have g_v2 := sx_rg xs (i_ + 2)
  rw [← hv2] at g_v2
  by_cases hac : (0 ≤ v1 ∧ v1 ≤ 3) ∧ (-15 ≤ v2 ∧ v2 ≤ 15)
  · refine lv_aload_n hx hb dL_law_693 rfl (lv_at hl 1 rfl) ?_
    refine lv_aload_n hx hb dL_law_694 rfl (lv_at hl 0 rfl) ?_
    refine lv_iload_n hx hb dL_law_695 rfl (lv_at hl 3 rfl) ?_
    refine lv_iconst (v := iI 1) hx hb dL_law_696 rfl ?_
    refine z_iadd hx hb dL_law_697 ?_
    refine z_sld hx hb hX hbl hbA hS (by omega) (by omega) hL hv1 dL_law_698 ?_
    refine lv_aload_n hx hb dL_law_699 rfl (lv_at hl 0 rfl) ?_
    refine lv_iload_n hx hb dL_law_700 rfl (lv_at hl 3 rfl) ?_
    refine lv_iconst (v := iI 2) hx hb dL_law_701 rfl ?_
    refine z_iadd hx hb dL_law_702 ?_
    refine z_sld hx hb hX hbl hbA hS (by omega) (by omega) hL hv2 dL_law_703 ?_
    refine z_cE (As := [.int (iI v1), .int (iI v2)]) (rest := []) C (m_X5_votes (l := l) (g := g) (o := ad 0) (h := ad 1) (b := ad 4) (im := ad 10) (a := ad 11) (d := ad 15) (bb := ad 19) (fr := fr) (hn := ad 2) (hs := ad 3) (fl := N 0) (re := N 1) (NU := fun x => N (7 + x)) (SZ := fun x => N (2 + x)) (aw := ad 12) (af := ad 13) (ao := ad 14) (ds := ad 16) (df := ad 17) (de := ad 18) (bc := ad 20) (bo := ad 21) (WA := WA) (FD := FD) (ST := ST) (FI := FI) (EN := EN) (CE := CE) (OR := OR) (un := un) (rk := rk) (he := he) (kn := kn) (al := al) (pi_ := v1) (q_ := v2) (hfr := hfr) (f1 := zN.1) (f2 := zN.2.1) (z1 := zN.2.2.1) (a1 := by omega) (a2 := by omega)) (cwV 2 C.2.2.2.2 gL_law_X5_votes rfl rfl rfl (by decide +kernel) ⟨Nat.le_of_ble_eq_true rfl, Nat.le_of_ble_eq_true rfl⟩) hK hP hD hS hA [0, 1, 2, 3, 11, 12, 13, 15, 16, 17, 18, 19, 20, 21] (by decide) rfl (fun _ => rfl) 0 rfl rfl rfl hl.1 rfl (Nat.le_of_ble_eq_true rfl) dL_law_704 ⟨by show cells ≤ 600000; omega, by show slots ≤ 7302250; omega⟩ (fun r_1 u_ H locs hq hP hD hS => ?_)
    have hP : zP g ([((ad 0), .inr (5, [.ref (ad 1), .ref (ad 4), .ref (ad 10), .ref (ad 11), .ref (ad 15), .ref (ad 19), .int (iI 1)])), ((ad 1), .inr (4, [.ref (ad 2), .ref (ad 3), .int (iI (N 0)), .int (iI (N 1))])), zI g (ad 2) 640 (fun x => N (7 + x)), zI g (ad 3) 5 (fun x => N (2 + x)), (ad 4, .inr (2, [.ref (ad 5), .ref (ad 6), .ref (ad 7), .ref (ad 8), .ref (ad 9), .int (iI nx), .int (iI ac)])), zI g (ad 5) 1024 NB, zI g (ad 6) 8 RR, zI g (ad 7) 8 RS, zI g (ad 8) 8 RF, zI g (ad 9) 8 RE, zQ g (ad 10) 2 IM, ((ad 11), .inr (3, [.ref (ad 12), .ref (ad 13), .ref (ad 14)])), zI g (ad 12) 8 (u_.1), zI g (ad 13) 80 (pf (fun x => N (7 + x)) (fun x => N (2 + x)) (N 0)), zI g (ad 14) 8 OF, ((ad 15), .inr (1, [.ref (ad 16), .ref (ad 17), .ref (ad 18), .int (iI (un_ (pf (fun x => N (7 + x)) (fun x => N (2 + x)) (N 0)) (N 1)))])), zI g (ad 16) 385 (stt (pf (fun x => N (7 + x)) (fun x => N (2 + x)) (N 0)) (N 1)), zI g (ad 17) 384 (u_.2.1), zI g (ad 18) 320 (u_.2.2.1), ((ad 19), .inr (0, [.ref (ad 20), .ref (ad 21), .int (iI (nt_ (pf (fun x => N (7 + x)) (fun x => N (2 + x)) (N 0)) (N 1))), .int (iI (he_ (pf (fun x => N (7 + x)) (fun x => N (2 + x)) (N 0)) (N 1))), .int (iI (ku_ (pf (fun x => N (7 + x)) (fun x => N (2 + x)) (N 0)) (N 1))), .int (iI (al_ (pf (fun x => N (7 + x)) (fun x => N (2 + x)) (N 0)) (N 1)))])), zI g (ad 20) 124 (V_ (pf (fun x => N (7 + x)) (fun x => N (2 + x)) (N 0)) (N 1)), zI g (ad 21) 124 (u_.2.2.2), (ad 22, .inr (6, [.ref (ad 23), .ref (ad 24), .int (iI ac), .ref (ad 25), .ref (ad 26), .ref (ad 27), .ref (ad 28), .ref (ad 29), .ref (ad 30)])), zI g (ad 23) 647 N, zI g (ad 24) 5176 P, zI g (ad 25) 1294 IQ, zB g (ad 26) 2 KP, zI g (ad 27) 8 TU, zI g (ad 28) 80 PK, zI g (ad 29) 124 VO, zB g (ad 30) 124 RK] ++ IW) H := hP
    have hD : va_D A ([((ad 0), .inr (5, [.ref (ad 1), .ref (ad 4), .ref (ad 10), .ref (ad 11), .ref (ad 15), .ref (ad 19), .int (iI 1)])), ((ad 1), .inr (4, [.ref (ad 2), .ref (ad 3), .int (iI (N 0)), .int (iI (N 1))])), zI g (ad 2) 640 (fun x => N (7 + x)), zI g (ad 3) 5 (fun x => N (2 + x)), (ad 4, .inr (2, [.ref (ad 5), .ref (ad 6), .ref (ad 7), .ref (ad 8), .ref (ad 9), .int (iI nx), .int (iI ac)])), zI g (ad 5) 1024 NB, zI g (ad 6) 8 RR, zI g (ad 7) 8 RS, zI g (ad 8) 8 RF, zI g (ad 9) 8 RE, zQ g (ad 10) 2 IM, ((ad 11), .inr (3, [.ref (ad 12), .ref (ad 13), .ref (ad 14)])), zI g (ad 12) 8 (u_.1), zI g (ad 13) 80 (pf (fun x => N (7 + x)) (fun x => N (2 + x)) (N 0)), zI g (ad 14) 8 OF, ((ad 15), .inr (1, [.ref (ad 16), .ref (ad 17), .ref (ad 18), .int (iI (un_ (pf (fun x => N (7 + x)) (fun x => N (2 + x)) (N 0)) (N 1)))])), zI g (ad 16) 385 (stt (pf (fun x => N (7 + x)) (fun x => N (2 + x)) (N 0)) (N 1)), zI g (ad 17) 384 (u_.2.1), zI g (ad 18) 320 (u_.2.2.1), ((ad 19), .inr (0, [.ref (ad 20), .ref (ad 21), .int (iI (nt_ (pf (fun x => N (7 + x)) (fun x => N (2 + x)) (N 0)) (N 1))), .int (iI (he_ (pf (fun x => N (7 + x)) (fun x => N (2 + x)) (N 0)) (N 1))), .int (iI (ku_ (pf (fun x => N (7 + x)) (fun x => N (2 + x)) (N 0)) (N 1))), .int (iI (al_ (pf (fun x => N (7 + x)) (fun x => N (2 + x)) (N 0)) (N 1)))])), zI g (ad 20) 124 (V_ (pf (fun x => N (7 + x)) (fun x => N (2 + x)) (N 0)) (N 1)), zI g (ad 21) 124 (u_.2.2.2), (ad 22, .inr (6, [.ref (ad 23), .ref (ad 24), .int (iI ac), .ref (ad 25), .ref (ad 26), .ref (ad 27), .ref (ad 28), .ref (ad 29), .ref (ad 30)])), zI g (ad 23) 647 N, zI g (ad 24) 5176 P, zI g (ad 25) 1294 IQ, zB g (ad 26) 2 KP, zI g (ad 27) 8 TU, zI g (ad 28) 80 PK, zI g (ad 29) 124 VO, zB g (ad 30) 124 RK] ++ IW) := hD
    refine lv_aload_n hx hb dL_law_707 rfl (lv_at hl 2 rfl) ?_
    refine lv_aload_n hx hb dL_law_708 rfl (lv_at hl 0 rfl) ?_
    refine lv_iload_n hx hb dL_law_709 rfl (lv_at hl 3 rfl) ?_
    refine lv_iconst (v := iI 1) hx hb dL_law_710 rfl ?_
    refine z_iadd hx hb dL_law_711 ?_
    refine z_sld hx hb hX hbl hbA hS (by omega) (by omega) hL hv1 dL_law_712 ?_
    refine lv_aload_n hx hb dL_law_713 rfl (lv_at hl 0 rfl) ?_
    refine lv_iload_n hx hb dL_law_714 rfl (lv_at hl 3 rfl) ?_
    refine lv_iconst (v := iI 2) hx hb dL_law_715 rfl ?_
    refine z_iadd hx hb dL_law_716 ?_
    refine z_sld hx hb hX hbl hbA hS (by omega) (by omega) hL hv2 dL_law_717 ?_
    refine z_cE (As := [.int (iI v1), .int (iI v2)]) (rest := [.int (iI r_1)]) C (m_X6_votes (l := l) (g := g) (q := ad 22) (qn := ad 23) (qp := ad 24) (qi := ad 25) (qk := ad 26) (qt := ad 27) (qw := ad 28) (qv := ad 29) (qr := ad 30) (ac := ac) (N := N) (TU := TU) (PK := PK) (VO := VO) (RK := RK) (pi_ := v1) (q_ := v2) (zN := zN) (a1 := by omega) (a2 := by omega)) (cwV 2 C.2.2.2.2 gL_law_X6_votes rfl rfl rfl (by decide +kernel) ⟨Nat.le_of_ble_eq_true rfl, Nat.le_of_ble_eq_true rfl⟩) hK hP hD hS hA [22, 23, 27, 28, 29, 30] (by decide) rfl (fun _ => rfl) 22 rfl rfl rfl hl.1 rfl (Nat.le_of_ble_eq_true rfl) dL_law_718 ⟨by show cells ≤ 600000; omega, by show slots ≤ 7302250; omega⟩ (fun r_2 t_ H locs hm hP hD hS => ?_)
    have hP : zP g ([((ad 0), .inr (5, [.ref (ad 1), .ref (ad 4), .ref (ad 10), .ref (ad 11), .ref (ad 15), .ref (ad 19), .int (iI 1)])), ((ad 1), .inr (4, [.ref (ad 2), .ref (ad 3), .int (iI (N 0)), .int (iI (N 1))])), zI g (ad 2) 640 (fun x => N (7 + x)), zI g (ad 3) 5 (fun x => N (2 + x)), (ad 4, .inr (2, [.ref (ad 5), .ref (ad 6), .ref (ad 7), .ref (ad 8), .ref (ad 9), .int (iI nx), .int (iI ac)])), zI g (ad 5) 1024 NB, zI g (ad 6) 8 RR, zI g (ad 7) 8 RS, zI g (ad 8) 8 RF, zI g (ad 9) 8 RE, zQ g (ad 10) 2 IM, ((ad 11), .inr (3, [.ref (ad 12), .ref (ad 13), .ref (ad 14)])), zI g (ad 12) 8 (u_.1), zI g (ad 13) 80 (pf (fun x => N (7 + x)) (fun x => N (2 + x)) (N 0)), zI g (ad 14) 8 OF, ((ad 15), .inr (1, [.ref (ad 16), .ref (ad 17), .ref (ad 18), .int (iI (un_ (pf (fun x => N (7 + x)) (fun x => N (2 + x)) (N 0)) (N 1)))])), zI g (ad 16) 385 (stt (pf (fun x => N (7 + x)) (fun x => N (2 + x)) (N 0)) (N 1)), zI g (ad 17) 384 (u_.2.1), zI g (ad 18) 320 (u_.2.2.1), ((ad 19), .inr (0, [.ref (ad 20), .ref (ad 21), .int (iI (nt_ (pf (fun x => N (7 + x)) (fun x => N (2 + x)) (N 0)) (N 1))), .int (iI (he_ (pf (fun x => N (7 + x)) (fun x => N (2 + x)) (N 0)) (N 1))), .int (iI (ku_ (pf (fun x => N (7 + x)) (fun x => N (2 + x)) (N 0)) (N 1))), .int (iI (al_ (pf (fun x => N (7 + x)) (fun x => N (2 + x)) (N 0)) (N 1)))])), zI g (ad 20) 124 (V_ (pf (fun x => N (7 + x)) (fun x => N (2 + x)) (N 0)) (N 1)), zI g (ad 21) 124 (u_.2.2.2), ((ad 22), .inr (6, [.ref (ad 23), .ref (ad 24), .int (iI ac), .ref (ad 25), .ref (ad 26), .ref (ad 27), .ref (ad 28), .ref (ad 29), .ref (ad 30)])), zI g (ad 23) 647 N, zI g (ad 24) 5176 P, zI g (ad 25) 1294 IQ, zB g (ad 26) 2 KP, zI g (ad 27) 8 (t_.1), zI g (ad 28) 80 (t_.2), zI g (ad 29) 124 (V_ (FDn N) (N 1)), zB g (ad 30) 124 (fun _ => 0)] ++ IW) H := hP
    have hD : va_D A ([((ad 0), .inr (5, [.ref (ad 1), .ref (ad 4), .ref (ad 10), .ref (ad 11), .ref (ad 15), .ref (ad 19), .int (iI 1)])), ((ad 1), .inr (4, [.ref (ad 2), .ref (ad 3), .int (iI (N 0)), .int (iI (N 1))])), zI g (ad 2) 640 (fun x => N (7 + x)), zI g (ad 3) 5 (fun x => N (2 + x)), (ad 4, .inr (2, [.ref (ad 5), .ref (ad 6), .ref (ad 7), .ref (ad 8), .ref (ad 9), .int (iI nx), .int (iI ac)])), zI g (ad 5) 1024 NB, zI g (ad 6) 8 RR, zI g (ad 7) 8 RS, zI g (ad 8) 8 RF, zI g (ad 9) 8 RE, zQ g (ad 10) 2 IM, ((ad 11), .inr (3, [.ref (ad 12), .ref (ad 13), .ref (ad 14)])), zI g (ad 12) 8 (u_.1), zI g (ad 13) 80 (pf (fun x => N (7 + x)) (fun x => N (2 + x)) (N 0)), zI g (ad 14) 8 OF, ((ad 15), .inr (1, [.ref (ad 16), .ref (ad 17), .ref (ad 18), .int (iI (un_ (pf (fun x => N (7 + x)) (fun x => N (2 + x)) (N 0)) (N 1)))])), zI g (ad 16) 385 (stt (pf (fun x => N (7 + x)) (fun x => N (2 + x)) (N 0)) (N 1)), zI g (ad 17) 384 (u_.2.1), zI g (ad 18) 320 (u_.2.2.1), ((ad 19), .inr (0, [.ref (ad 20), .ref (ad 21), .int (iI (nt_ (pf (fun x => N (7 + x)) (fun x => N (2 + x)) (N 0)) (N 1))), .int (iI (he_ (pf (fun x => N (7 + x)) (fun x => N (2 + x)) (N 0)) (N 1))), .int (iI (ku_ (pf (fun x => N (7 + x)) (fun x => N (2 + x)) (N 0)) (N 1))), .int (iI (al_ (pf (fun x => N (7 + x)) (fun x => N (2 + x)) (N 0)) (N 1)))])), zI g (ad 20) 124 (V_ (pf (fun x => N (7 + x)) (fun x => N (2 + x)) (N 0)) (N 1)), zI g (ad 21) 124 (u_.2.2.2), ((ad 22), .inr (6, [.ref (ad 23), .ref (ad 24), .int (iI ac), .ref (ad 25), .ref (ad 26), .ref (ad 27), .ref (ad 28), .ref (ad 29), .ref (ad 30)])), zI g (ad 23) 647 N, zI g (ad 24) 5176 P, zI g (ad 25) 1294 IQ, zB g (ad 26) 2 KP, zI g (ad 27) 8 (t_.1), zI g (ad 28) 80 (t_.2), zI g (ad 29) 124 (V_ (FDn N) (N 1)), zB g (ad 30) 124 (fun _ => 0)] ++ IW) := hD
    refine z_eqS (tgt := 805) hx hb dL_law_721 (by decide) (hq.1.trans hm.symm) ?_
    exact hgo H locs _ _ bud ls ⟨N, P, IQ, KP, (t_.1), (t_.2), (V_ (FDn N) (N 1)), (fun _ => 0), NB, RR, RS, RF, RE, (u_.1), (pf (fun x => N (7 + x)) (fun x => N (2 + x)) (N 0)), OF, (stt (pf (fun x => N (7 + x)) (fun x => N (2 + x)) (N 0)) (N 1)), (u_.2.1), (u_.2.2.1), (V_ (pf (fun x => N (7 + x)) (fun x => N (2 + x)) (N 0)) (N 1)), (u_.2.2.2), ac, nx, 1, (un_ (pf (fun x => N (7 + x)) (fun x => N (2 + x)) (N 0)) (N 1)), (nt_ (pf (fun x => N (7 + x)) (fun x => N (2 + x)) (N 0)) (N 1)), (he_ (pf (fun x => N (7 + x)) (fun x => N (2 + x)) (N 0)) (N 1)), (ku_ (pf (fun x => N (7 + x)) (fun x => N (2 + x)) (N 0)) (N 1)), (al_ (pf (fun x => N (7 + x)) (fun x => N (2 + x)) (N 0)) (N 1)), IM, IW, zN, hPR, Or.inr ⟨rfl, fun j _ _ => rfl, fun j _ _ => rfl, fun j _ _ => rfl, rfl, rfl, rfl, rfl, rfl, hq.2⟩, hIM, hP, hD, hS⟩ (by omega) (by omega) (lv_sub hl [0, 1, 2, 3] rfl)
  · refine lv_aload_n hx hb dL_law_693 rfl (lv_at hl 1 rfl) ?_
    refine lv_aload_n hx hb dL_law_694 rfl (lv_at hl 0 rfl) ?_
    refine lv_iload_n hx hb dL_law_695 rfl (lv_at hl 3 rfl) ?_
    refine lv_iconst (v := iI 1) hx hb dL_law_696 rfl ?_
    refine z_iadd hx hb dL_law_697 ?_
    refine z_sld hx hb hX hbl hbA hS (by omega) (by omega) hL hv1 dL_law_698 ?_
    refine lv_aload_n hx hb dL_law_699 rfl (lv_at hl 0 rfl) ?_
    refine lv_iload_n hx hb dL_law_700 rfl (lv_at hl 3 rfl) ?_
    refine lv_iconst (v := iI 2) hx hb dL_law_701 rfl ?_
    refine z_iadd hx hb dL_law_702 ?_
    refine z_sld hx hb hX hbl hbA hS (by omega) (by omega) hL hv2 dL_law_703 ?_
    refine z_cS (As := [.int (iI v1), .int (iI v2)]) (rest := []) C (m_X5_votes_n (l := l) (g := g) (o := ad 0) (h := ad 1) (b := ad 4) (im := ad 10) (a := ad 11) (d := ad 15) (bb := ad 19) (fr := fr) (pi_ := v1) (q_ := v2) (g_pi_ := by omega) (g_q_ := by omega) (rf := hac)) (cwV 2 C.2.2.2.2 gL_law_X5_votes rfl rfl rfl (by decide +kernel) ⟨Nat.le_of_ble_eq_true rfl, Nat.le_of_ble_eq_true rfl⟩) hK hP [0] rfl 0 rfl rfl rfl hl.1 rfl (Nat.le_of_ble_eq_true rfl) dL_law_704 ⟨by show cells ≤ 600000; omega, by show slots ≤ 7302250; omega⟩ ?_
    refine lv_aload_n hx hb dL_law_707 rfl (lv_at hl 2 rfl) ?_
    refine lv_aload_n hx hb dL_law_708 rfl (lv_at hl 0 rfl) ?_
    refine lv_iload_n hx hb dL_law_709 rfl (lv_at hl 3 rfl) ?_
    refine lv_iconst (v := iI 1) hx hb dL_law_710 rfl ?_
    refine z_iadd hx hb dL_law_711 ?_
    refine z_sld hx hb hX hbl hbA hS (by omega) (by omega) hL hv1 dL_law_712 ?_
    refine lv_aload_n hx hb dL_law_713 rfl (lv_at hl 0 rfl) ?_
    refine lv_iload_n hx hb dL_law_714 rfl (lv_at hl 3 rfl) ?_
    refine lv_iconst (v := iI 2) hx hb dL_law_715 rfl ?_
    refine z_iadd hx hb dL_law_716 ?_
    refine z_sld hx hb hX hbl hbA hS (by omega) (by omega) hL hv2 dL_law_717 ?_
    refine z_cS (As := [.int (iI v1), .int (iI v2)]) (rest := [.int (iI (if ¬ (0 ≤ v1 ∧ v1 ≤ 3) then -1000000001 else -1000000002))]) C (m_X6_votes_n (l := l) (g := g) (q := ad 22) (qn := ad 23) (qp := ad 24) (qi := ad 25) (qk := ad 26) (qt := ad 27) (qw := ad 28) (qv := ad 29) (qr := ad 30) (ac := ac) (pi_ := v1) (q_ := v2) (g_pi_ := by omega) (g_q_ := by omega) (rf := hac)) (cwV 2 C.2.2.2.2 gL_law_X6_votes rfl rfl rfl (by decide +kernel) ⟨Nat.le_of_ble_eq_true rfl, Nat.le_of_ble_eq_true rfl⟩) hK hP [22] rfl 22 rfl rfl rfl hl.1 rfl (Nat.le_of_ble_eq_true rfl) dL_law_718 ⟨by show cells ≤ 600000; omega, by show slots ≤ 7302250; omega⟩ ?_
    refine z_eqS (tgt := 805) hx hb dL_law_721 (by decide) (rfl) ?_
    exact hgo H locs _ _ bud ls ⟨N, P, IQ, KP, TU, PK, VO, RK, NB, RR, RS, RF, RE, WA, FD, OF, ST, FI, EN, CE, OR, ac, nx, fr, un, rk, he, kn, al, IM, IW, zN, hPR, hfr, hIM, hP, hD, hS⟩ (by omega) (by omega) (lv_sub hl [0, 1, 2, 3] rfl)
set_option maxHeartbeats 8000000 in
set_option maxRecDepth 100000 in
theorem op_rank {p : Program} {l : Launch} {e : Env} {s : State} {m : MethodId} {below : List Frame} {meth : Method} {c : Code} {Q : State → Prop} {A : Nat → Prop} {g : zG} {ad : Nat → Nat} {b0 L : Nat} {xs : Nat → Int32} {i_ : Int} (X : zX p s m c A g b0 L xs i_) (hgo : zL p l e s m below meth c Q A g ad b0 i_ 805) : zL p l e s m below meth c Q A g ad b0 i_ 726 := by
  obtain ⟨C, hX, hbl, hK, hO, hA, hbA, hi, hi2, hL⟩ := X
  have hx := C.1
  have hb := C.2.1
  intro H locs cells slots bud ls hI hcs hss hl
  obtain ⟨N, P, IQ, KP, TU, PK, VO, RK, NB, RR, RS, RF, RE, WA, FD, OF, ST, FI, EN, CE, OR, ac, nx, fr, un, rk, he, kn, al, IM, IW, zN, hPR, hfr, hIM, hP, hD, hS⟩ := hI
  have hPb := hPR.2.1
  have hPc := hPR.2.2.1
  have hPn := hPR.2.2.2.1
  have hPm := hPR.2.2.2.2.1
  obtain ⟨v1, hv1⟩ : ∃ v, v = sx xs (i_ + 1) := ⟨_, rfl⟩
  have g_v1 := sx_rg xs (i_ + 1)
  rw [← hv1] at g_v1
  obtain ⟨v2, hv2⟩ : ∃ v, v = sx xs (i_ + 2) := ⟨_, rfl⟩
  have g_v2 := sx_rg xs (i_ + 2)
  rw [← hv2] at g_v2
  by_cases hac : 0 ≤ v1 ∧ (0 ≤ v2 ∧ v2 ≤ 2)
  · refine lv_aload_n hx hb dL_law_726 rfl (lv_at hl 1 rfl) ?_
    refine lv_aload_n hx hb dL_law_727 rfl (lv_at hl 0 rfl) ?_
    refine lv_iload_n hx hb dL_law_728 rfl (lv_at hl 3 rfl) ?_
    refine lv_iconst (v := iI 1) hx hb dL_law_729 rfl ?_
    refine z_iadd hx hb dL_law_730 ?_
    refine z_sld hx hb hX hbl hbA hS (by omega) (by omega) hL hv1 dL_law_731 ?_
    refine lv_aload_n hx hb dL_law_732 rfl (lv_at hl 0 rfl) ?_
    refine lv_iload_n hx hb dL_law_733 rfl (lv_at hl 3 rfl) ?_
    refine lv_iconst (v := iI 2) hx hb dL_law_734 rfl ?_
    refine z_iadd hx hb dL_law_735 ?_
    refine z_sld hx hb hX hbl hbA hS (by omega) (by omega) hL hv2 dL_law_736 ?_
    refine z_cE (As := [.int (iI v1), .int (iI v2)]) (rest := []) C (m_X5_rank (l := l) (g := g) (o := ad 0) (h := ad 1) (b := ad 4) (im := ad 10) (a := ad 11) (d := ad 15) (bb := ad 19) (fr := fr) (hn := ad 2) (hs := ad 3) (fl := N 0) (re := N 1) (NU := fun x => N (7 + x)) (SZ := fun x => N (2 + x)) (aw := ad 12) (af := ad 13) (ao := ad 14) (ds := ad 16) (df := ad 17) (de := ad 18) (bc := ad 20) (bo := ad 21) (WA := WA) (FD := FD) (ST := ST) (FI := FI) (EN := EN) (CE := CE) (OR := OR) (un := un) (rk := rk) (he := he) (kn := kn) (al := al) (k := v1) (wh := v2) (hfr := hfr) (f1 := zN.1) (f2 := zN.2.1) (z1 := zN.2.2.1) (a1 := by omega) (a2 := by omega)) (cwV 2 C.2.2.2.2 gL_law_X5_rank rfl rfl rfl (by decide +kernel) ⟨Nat.le_of_ble_eq_true rfl, Nat.le_of_ble_eq_true rfl⟩) hK hP hD hS hA [0, 1, 2, 3, 11, 12, 13, 15, 16, 17, 18, 19, 20, 21] (by decide) rfl (fun _ => rfl) 0 rfl rfl rfl hl.1 rfl (Nat.le_of_ble_eq_true rfl) dL_law_737 ⟨by show cells ≤ 600000; omega, by show slots ≤ 7302250; omega⟩ (fun r_1 u_ H locs hq hP hD hS => ?_)
    have hP : zP g ([((ad 0), .inr (5, [.ref (ad 1), .ref (ad 4), .ref (ad 10), .ref (ad 11), .ref (ad 15), .ref (ad 19), .int (iI 1)])), ((ad 1), .inr (4, [.ref (ad 2), .ref (ad 3), .int (iI (N 0)), .int (iI (N 1))])), zI g (ad 2) 640 (fun x => N (7 + x)), zI g (ad 3) 5 (fun x => N (2 + x)), (ad 4, .inr (2, [.ref (ad 5), .ref (ad 6), .ref (ad 7), .ref (ad 8), .ref (ad 9), .int (iI nx), .int (iI ac)])), zI g (ad 5) 1024 NB, zI g (ad 6) 8 RR, zI g (ad 7) 8 RS, zI g (ad 8) 8 RF, zI g (ad 9) 8 RE, zQ g (ad 10) 2 IM, ((ad 11), .inr (3, [.ref (ad 12), .ref (ad 13), .ref (ad 14)])), zI g (ad 12) 8 (u_.1), zI g (ad 13) 80 (pf (fun x => N (7 + x)) (fun x => N (2 + x)) (N 0)), zI g (ad 14) 8 OF, ((ad 15), .inr (1, [.ref (ad 16), .ref (ad 17), .ref (ad 18), .int (iI (un_ (pf (fun x => N (7 + x)) (fun x => N (2 + x)) (N 0)) (N 1)))])), zI g (ad 16) 385 (stt (pf (fun x => N (7 + x)) (fun x => N (2 + x)) (N 0)) (N 1)), zI g (ad 17) 384 (u_.2.1), zI g (ad 18) 320 (u_.2.2.1), ((ad 19), .inr (0, [.ref (ad 20), .ref (ad 21), .int (iI (nt_ (pf (fun x => N (7 + x)) (fun x => N (2 + x)) (N 0)) (N 1))), .int (iI (he_ (pf (fun x => N (7 + x)) (fun x => N (2 + x)) (N 0)) (N 1))), .int (iI (ku_ (pf (fun x => N (7 + x)) (fun x => N (2 + x)) (N 0)) (N 1))), .int (iI (al_ (pf (fun x => N (7 + x)) (fun x => N (2 + x)) (N 0)) (N 1)))])), zI g (ad 20) 124 (V_ (pf (fun x => N (7 + x)) (fun x => N (2 + x)) (N 0)) (N 1)), zI g (ad 21) 124 (u_.2.2.2), (ad 22, .inr (6, [.ref (ad 23), .ref (ad 24), .int (iI ac), .ref (ad 25), .ref (ad 26), .ref (ad 27), .ref (ad 28), .ref (ad 29), .ref (ad 30)])), zI g (ad 23) 647 N, zI g (ad 24) 5176 P, zI g (ad 25) 1294 IQ, zB g (ad 26) 2 KP, zI g (ad 27) 8 TU, zI g (ad 28) 80 PK, zI g (ad 29) 124 VO, zB g (ad 30) 124 RK] ++ IW) H := hP
    have hD : va_D A ([((ad 0), .inr (5, [.ref (ad 1), .ref (ad 4), .ref (ad 10), .ref (ad 11), .ref (ad 15), .ref (ad 19), .int (iI 1)])), ((ad 1), .inr (4, [.ref (ad 2), .ref (ad 3), .int (iI (N 0)), .int (iI (N 1))])), zI g (ad 2) 640 (fun x => N (7 + x)), zI g (ad 3) 5 (fun x => N (2 + x)), (ad 4, .inr (2, [.ref (ad 5), .ref (ad 6), .ref (ad 7), .ref (ad 8), .ref (ad 9), .int (iI nx), .int (iI ac)])), zI g (ad 5) 1024 NB, zI g (ad 6) 8 RR, zI g (ad 7) 8 RS, zI g (ad 8) 8 RF, zI g (ad 9) 8 RE, zQ g (ad 10) 2 IM, ((ad 11), .inr (3, [.ref (ad 12), .ref (ad 13), .ref (ad 14)])), zI g (ad 12) 8 (u_.1), zI g (ad 13) 80 (pf (fun x => N (7 + x)) (fun x => N (2 + x)) (N 0)), zI g (ad 14) 8 OF, ((ad 15), .inr (1, [.ref (ad 16), .ref (ad 17), .ref (ad 18), .int (iI (un_ (pf (fun x => N (7 + x)) (fun x => N (2 + x)) (N 0)) (N 1)))])), zI g (ad 16) 385 (stt (pf (fun x => N (7 + x)) (fun x => N (2 + x)) (N 0)) (N 1)), zI g (ad 17) 384 (u_.2.1), zI g (ad 18) 320 (u_.2.2.1), ((ad 19), .inr (0, [.ref (ad 20), .ref (ad 21), .int (iI (nt_ (pf (fun x => N (7 + x)) (fun x => N (2 + x)) (N 0)) (N 1))), .int (iI (he_ (pf (fun x => N (7 + x)) (fun x => N (2 + x)) (N 0)) (N 1))), .int (iI (ku_ (pf (fun x => N (7 + x)) (fun x => N (2 + x)) (N 0)) (N 1))), .int (iI (al_ (pf (fun x => N (7 + x)) (fun x => N (2 + x)) (N 0)) (N 1)))])), zI g (ad 20) 124 (V_ (pf (fun x => N (7 + x)) (fun x => N (2 + x)) (N 0)) (N 1)), zI g (ad 21) 124 (u_.2.2.2), (ad 22, .inr (6, [.ref (ad 23), .ref (ad 24), .int (iI ac), .ref (ad 25), .ref (ad 26), .ref (ad 27), .ref (ad 28), .ref (ad 29), .ref (ad 30)])), zI g (ad 23) 647 N, zI g (ad 24) 5176 P, zI g (ad 25) 1294 IQ, zB g (ad 26) 2 KP, zI g (ad 27) 8 TU, zI g (ad 28) 80 PK, zI g (ad 29) 124 VO, zB g (ad 30) 124 RK] ++ IW) := hD
    refine lv_aload_n hx hb dL_law_740 rfl (lv_at hl 2 rfl) ?_
    refine lv_aload_n hx hb dL_law_741 rfl (lv_at hl 0 rfl) ?_
    refine lv_iload_n hx hb dL_law_742 rfl (lv_at hl 3 rfl) ?_
    refine lv_iconst (v := iI 1) hx hb dL_law_743 rfl ?_
    refine z_iadd hx hb dL_law_744 ?_
    refine z_sld hx hb hX hbl hbA hS (by omega) (by omega) hL hv1 dL_law_745 ?_
    refine lv_aload_n hx hb dL_law_746 rfl (lv_at hl 0 rfl) ?_
    refine lv_iload_n hx hb dL_law_747 rfl (lv_at hl 3 rfl) ?_
    refine lv_iconst (v := iI 2) hx hb dL_law_748 rfl ?_
    refine z_iadd hx hb dL_law_749 ?_
    refine z_sld hx hb hX hbl hbA hS (by omega) (by omega) hL hv2 dL_law_750 ?_
    refine z_cE (As := [.int (iI v1), .int (iI v2)]) (rest := [.int (iI r_1)]) C (m_X6_rank (l := l) (g := g) (q := ad 22) (qn := ad 23) (qp := ad 24) (qi := ad 25) (qk := ad 26) (qt := ad 27) (qw := ad 28) (qv := ad 29) (qr := ad 30) (ac := ac) (N := N) (TU := TU) (PK := PK) (VO := VO) (RK := RK) (O := u_.2.2.2) (k := v1) (wh := v2) (zN := zN) (a1 := by omega) (a2 := by omega) (hO := hq.2.2.2)) (cwV 2 C.2.2.2.2 gL_law_X6_rank rfl rfl rfl (by decide +kernel) ⟨Nat.le_of_ble_eq_true rfl, Nat.le_of_ble_eq_true rfl⟩) hK hP hD hS hA [22, 23, 27, 28, 29, 30] (by decide) rfl (fun _ => rfl) 22 rfl rfl rfl hl.1 rfl (Nat.le_of_ble_eq_true rfl) dL_law_751 ⟨by show cells ≤ 600000; omega, by show slots ≤ 7302250; omega⟩ (fun r_2 t_ H locs hm hP hD hS => ?_)
    have hP : zP g ([((ad 0), .inr (5, [.ref (ad 1), .ref (ad 4), .ref (ad 10), .ref (ad 11), .ref (ad 15), .ref (ad 19), .int (iI 1)])), ((ad 1), .inr (4, [.ref (ad 2), .ref (ad 3), .int (iI (N 0)), .int (iI (N 1))])), zI g (ad 2) 640 (fun x => N (7 + x)), zI g (ad 3) 5 (fun x => N (2 + x)), (ad 4, .inr (2, [.ref (ad 5), .ref (ad 6), .ref (ad 7), .ref (ad 8), .ref (ad 9), .int (iI nx), .int (iI ac)])), zI g (ad 5) 1024 NB, zI g (ad 6) 8 RR, zI g (ad 7) 8 RS, zI g (ad 8) 8 RF, zI g (ad 9) 8 RE, zQ g (ad 10) 2 IM, ((ad 11), .inr (3, [.ref (ad 12), .ref (ad 13), .ref (ad 14)])), zI g (ad 12) 8 (u_.1), zI g (ad 13) 80 (pf (fun x => N (7 + x)) (fun x => N (2 + x)) (N 0)), zI g (ad 14) 8 OF, ((ad 15), .inr (1, [.ref (ad 16), .ref (ad 17), .ref (ad 18), .int (iI (un_ (pf (fun x => N (7 + x)) (fun x => N (2 + x)) (N 0)) (N 1)))])), zI g (ad 16) 385 (stt (pf (fun x => N (7 + x)) (fun x => N (2 + x)) (N 0)) (N 1)), zI g (ad 17) 384 (u_.2.1), zI g (ad 18) 320 (u_.2.2.1), ((ad 19), .inr (0, [.ref (ad 20), .ref (ad 21), .int (iI (nt_ (pf (fun x => N (7 + x)) (fun x => N (2 + x)) (N 0)) (N 1))), .int (iI (he_ (pf (fun x => N (7 + x)) (fun x => N (2 + x)) (N 0)) (N 1))), .int (iI (ku_ (pf (fun x => N (7 + x)) (fun x => N (2 + x)) (N 0)) (N 1))), .int (iI (al_ (pf (fun x => N (7 + x)) (fun x => N (2 + x)) (N 0)) (N 1)))])), zI g (ad 20) 124 (V_ (pf (fun x => N (7 + x)) (fun x => N (2 + x)) (N 0)) (N 1)), zI g (ad 21) 124 (u_.2.2.2), ((ad 22), .inr (6, [.ref (ad 23), .ref (ad 24), .int (iI ac), .ref (ad 25), .ref (ad 26), .ref (ad 27), .ref (ad 28), .ref (ad 29), .ref (ad 30)])), zI g (ad 23) 647 N, zI g (ad 24) 5176 P, zI g (ad 25) 1294 IQ, zB g (ad 26) 2 KP, zI g (ad 27) 8 (t_.1), zI g (ad 28) 80 (t_.2.1), zI g (ad 29) 124 (V_ (FDn N) (N 1)), zB g (ad 30) 124 (t_.2.2)] ++ IW) H := hP
    have hD : va_D A ([((ad 0), .inr (5, [.ref (ad 1), .ref (ad 4), .ref (ad 10), .ref (ad 11), .ref (ad 15), .ref (ad 19), .int (iI 1)])), ((ad 1), .inr (4, [.ref (ad 2), .ref (ad 3), .int (iI (N 0)), .int (iI (N 1))])), zI g (ad 2) 640 (fun x => N (7 + x)), zI g (ad 3) 5 (fun x => N (2 + x)), (ad 4, .inr (2, [.ref (ad 5), .ref (ad 6), .ref (ad 7), .ref (ad 8), .ref (ad 9), .int (iI nx), .int (iI ac)])), zI g (ad 5) 1024 NB, zI g (ad 6) 8 RR, zI g (ad 7) 8 RS, zI g (ad 8) 8 RF, zI g (ad 9) 8 RE, zQ g (ad 10) 2 IM, ((ad 11), .inr (3, [.ref (ad 12), .ref (ad 13), .ref (ad 14)])), zI g (ad 12) 8 (u_.1), zI g (ad 13) 80 (pf (fun x => N (7 + x)) (fun x => N (2 + x)) (N 0)), zI g (ad 14) 8 OF, ((ad 15), .inr (1, [.ref (ad 16), .ref (ad 17), .ref (ad 18), .int (iI (un_ (pf (fun x => N (7 + x)) (fun x => N (2 + x)) (N 0)) (N 1)))])), zI g (ad 16) 385 (stt (pf (fun x => N (7 + x)) (fun x => N (2 + x)) (N 0)) (N 1)), zI g (ad 17) 384 (u_.2.1), zI g (ad 18) 320 (u_.2.2.1), ((ad 19), .inr (0, [.ref (ad 20), .ref (ad 21), .int (iI (nt_ (pf (fun x => N (7 + x)) (fun x => N (2 + x)) (N 0)) (N 1))), .int (iI (he_ (pf (fun x => N (7 + x)) (fun x => N (2 + x)) (N 0)) (N 1))), .int (iI (ku_ (pf (fun x => N (7 + x)) (fun x => N (2 + x)) (N 0)) (N 1))), .int (iI (al_ (pf (fun x => N (7 + x)) (fun x => N (2 + x)) (N 0)) (N 1)))])), zI g (ad 20) 124 (V_ (pf (fun x => N (7 + x)) (fun x => N (2 + x)) (N 0)) (N 1)), zI g (ad 21) 124 (u_.2.2.2), ((ad 22), .inr (6, [.ref (ad 23), .ref (ad 24), .int (iI ac), .ref (ad 25), .ref (ad 26), .ref (ad 27), .ref (ad 28), .ref (ad 29), .ref (ad 30)])), zI g (ad 23) 647 N, zI g (ad 24) 5176 P, zI g (ad 25) 1294 IQ, zB g (ad 26) 2 KP, zI g (ad 27) 8 (t_.1), zI g (ad 28) 80 (t_.2.1), zI g (ad 29) 124 (V_ (FDn N) (N 1)), zB g (ad 30) 124 (t_.2.2)] ++ IW) := hD
    refine z_eqS (tgt := 805) hx hb dL_law_754 (by decide) (hq.1.trans hm.symm) ?_
    exact hgo H locs _ _ bud ls ⟨N, P, IQ, KP, (t_.1), (t_.2.1), (V_ (FDn N) (N 1)), (t_.2.2), NB, RR, RS, RF, RE, (u_.1), (pf (fun x => N (7 + x)) (fun x => N (2 + x)) (N 0)), OF, (stt (pf (fun x => N (7 + x)) (fun x => N (2 + x)) (N 0)) (N 1)), (u_.2.1), (u_.2.2.1), (V_ (pf (fun x => N (7 + x)) (fun x => N (2 + x)) (N 0)) (N 1)), (u_.2.2.2), ac, nx, 1, (un_ (pf (fun x => N (7 + x)) (fun x => N (2 + x)) (N 0)) (N 1)), (nt_ (pf (fun x => N (7 + x)) (fun x => N (2 + x)) (N 0)) (N 1)), (he_ (pf (fun x => N (7 + x)) (fun x => N (2 + x)) (N 0)) (N 1)), (ku_ (pf (fun x => N (7 + x)) (fun x => N (2 + x)) (N 0)) (N 1)), (al_ (pf (fun x => N (7 + x)) (fun x => N (2 + x)) (N 0)) (N 1)), IM, IW, zN, hPR, Or.inr ⟨rfl, fun j _ _ => rfl, fun j _ _ => rfl, fun j _ _ => rfl, rfl, rfl, rfl, rfl, rfl, hq.2⟩, hIM, hP, hD, hS⟩ (by omega) (by omega) (lv_sub hl [0, 1, 2, 3] rfl)
  · refine lv_aload_n hx hb dL_law_726 rfl (lv_at hl 1 rfl) ?_
    refine lv_aload_n hx hb dL_law_727 rfl (lv_at hl 0 rfl) ?_
    refine lv_iload_n hx hb dL_law_728 rfl (lv_at hl 3 rfl) ?_
    refine lv_iconst (v := iI 1) hx hb dL_law_729 rfl ?_
    refine z_iadd hx hb dL_law_730 ?_
    refine z_sld hx hb hX hbl hbA hS (by omega) (by omega) hL hv1 dL_law_731 ?_
    refine lv_aload_n hx hb dL_law_732 rfl (lv_at hl 0 rfl) ?_
    refine lv_iload_n hx hb dL_law_733 rfl (lv_at hl 3 rfl) ?_
    refine lv_iconst (v := iI 2) hx hb dL_law_734 rfl ?_
    refine z_iadd hx hb dL_law_735 ?_
    refine z_sld hx hb hX hbl hbA hS (by omega) (by omega) hL hv2 dL_law_736 ?_
    refine z_cS (As := [.int (iI v1), .int (iI v2)]) (rest := []) C (m_X5_rank_n (l := l) (g := g) (o := ad 0) (h := ad 1) (b := ad 4) (im := ad 10) (a := ad 11) (d := ad 15) (bb := ad 19) (fr := fr) (k := v1) (wh := v2) (g_k := by omega) (g_wh := by omega) (rf := hac)) (cwV 2 C.2.2.2.2 gL_law_X5_rank rfl rfl rfl (by decide +kernel) ⟨Nat.le_of_ble_eq_true rfl, Nat.le_of_ble_eq_true rfl⟩) hK hP [0] rfl 0 rfl rfl rfl hl.1 rfl (Nat.le_of_ble_eq_true rfl) dL_law_737 ⟨by show cells ≤ 600000; omega, by show slots ≤ 7302250; omega⟩ ?_
    refine lv_aload_n hx hb dL_law_740 rfl (lv_at hl 2 rfl) ?_
    refine lv_aload_n hx hb dL_law_741 rfl (lv_at hl 0 rfl) ?_
    refine lv_iload_n hx hb dL_law_742 rfl (lv_at hl 3 rfl) ?_
    refine lv_iconst (v := iI 1) hx hb dL_law_743 rfl ?_
    refine z_iadd hx hb dL_law_744 ?_
    refine z_sld hx hb hX hbl hbA hS (by omega) (by omega) hL hv1 dL_law_745 ?_
    refine lv_aload_n hx hb dL_law_746 rfl (lv_at hl 0 rfl) ?_
    refine lv_iload_n hx hb dL_law_747 rfl (lv_at hl 3 rfl) ?_
    refine lv_iconst (v := iI 2) hx hb dL_law_748 rfl ?_
    refine z_iadd hx hb dL_law_749 ?_
    refine z_sld hx hb hX hbl hbA hS (by omega) (by omega) hL hv2 dL_law_750 ?_
    refine z_cS (As := [.int (iI v1), .int (iI v2)]) (rest := [.int (iI (-1000000002))]) C (m_X6_rank_n (l := l) (g := g) (q := ad 22) (qn := ad 23) (qp := ad 24) (qi := ad 25) (qk := ad 26) (qt := ad 27) (qw := ad 28) (qv := ad 29) (qr := ad 30) (ac := ac) (k := v1) (wh := v2) (g_k := by omega) (g_wh := by omega) (rf := hac)) (cwV 2 C.2.2.2.2 gL_law_X6_rank rfl rfl rfl (by decide +kernel) ⟨Nat.le_of_ble_eq_true rfl, Nat.le_of_ble_eq_true rfl⟩) hK hP [22] rfl 22 rfl rfl rfl hl.1 rfl (Nat.le_of_ble_eq_true rfl) dL_law_751 ⟨by show cells ≤ 600000; omega, by show slots ≤ 7302250; omega⟩ ?_
    refine z_eqS (tgt := 805) hx hb dL_law_754 (by decide) (rfl) ?_
    exact hgo H locs _ _ bud ls ⟨N, P, IQ, KP, TU, PK, VO, RK, NB, RR, RS, RF, RE, WA, FD, OF, ST, FI, EN, CE, OR, ac, nx, fr, un, rk, he, kn, al, IM, IW, zN, hPR, hfr, hIM, hP, hD, hS⟩ (by omega) (by omega) (lv_sub hl [0, 1, 2, 3] rfl)
