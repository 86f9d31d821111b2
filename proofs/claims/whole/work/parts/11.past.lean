set_option maxRecDepth 20000 in
theorem in_X2_depth_X2 : ∀ w ∈ u_ws RX2 TX2 7, w ∈ wsX2_depth := zmem_of _ [2, 3, 4, 5, 6, 7, 8] (by decide +kernel)
set_option maxHeartbeats 4000000 in
set_option maxRecDepth 100000 in
theorem m_X2_depth (l : Launch) (g : zG) (b bn br bs bf be : Nat) (nx dp : Int)  : zS l yX2_depth wsX2_depth ({ frames := 0, cells := 0, slots := 0, locals := 0 }) g [.ref b] [(b, .inr (2, [.ref bn, .ref br, .ref bs, .ref bf, .ref be, .int (iI nx), .int (iI dp)]))] dp := by
  refine z_entS (cc := cX2_depth) (nL := 1) (ret := (some .int)) (own := RX2) (by decide) rfl rfl (Nat.le_of_ble_eq_true rfl) ?_
  intro p e s m below meth c Q ls C hlk hr hQ hP hK hl
  have hx := C.1
  have hb := C.2.1
  have hl : lv_has ls 1 [(0, .ref b)] := hl
  refine lv_aload_n hx hb dX2_depth_0 rfl (lv_at hl 0 rfl) ?_
  refine z_get (v := .int (iI dp)) (Cn := RX2) (T := TX2) (N := 7) (ci := 2) C in_X2_depth_X2 hK hP 0 rfl rfl 6 (by decide) (List.mem_of_getElem? (i := 1) rfl) rfl dX2_depth_1 ?_
  exact z_retS hx hb hlk hr hQ dX2_depth_4 (rfl)
set_option maxRecDepth 20000 in
theorem in_X2_forget_X2 : ∀ w ∈ u_ws RX2 TX2 7, w ∈ wsX2_forget := zmem_of _ [2, 3, 4, 5, 6, 7, 8] (by decide +kernel)
set_option maxHeartbeats 4000000 in
set_option maxRecDepth 100000 in
theorem m_X2_forget (l : Launch) (g : zG) (b bn br bs bf be : Nat) (nx dp : Int)  : zV l yX2_forget wsX2_forget ({ frames := 0, cells := 0, slots := 0, locals := 0 }) g [.ref b] [(b, .inr (2, [.ref bn, .ref br, .ref bs, .ref bf, .ref be, .int (iI nx), .int (iI dp)]))] (S := Unit) (fun _ => True) (fun _ => [(b, .inr (2, [.ref bn, .ref br, .ref bs, .ref bf, .ref be, .int (iI nx), .int (iI 0)]))]) := by
  refine z_entV (cc := cX2_forget) (nL := 1) (ret := none) (own := RX2) (by decide) rfl rfl (Nat.le_of_ble_eq_true rfl) ?_
  intro p e s m below meth c Q ls A C hlk hr hQ hP hK hD hA hS hl
  have hx := C.1
  have hb := C.2.1
  have hl : lv_has ls 1 [(0, .ref b)] := hl
  obtain ⟨H, hHe⟩ : ∃ H, H = s.heap := ⟨_, rfl⟩
  obtain ⟨locs, hLe⟩ : ∃ q : List Loc, q = [] := ⟨_, rfl⟩
  have hP : zP g [(b, .inr (2, [.ref bn, .ref br, .ref bs, .ref bf, .ref be, .int (iI nx), .int (iI dp)]))] H := by rw [hHe]; exact hP
  have hS : va_S A s.heap H locs := by rw [hHe, hLe]; exact hS
  suffices hgo : W p l e ({ frames := 0, cells := 0, slots := 0, locals := 0 }) s m ([.ref b] : List Value).toArray below meth c H locs 0 0 Q (F0 m 0 ls []) by rw [hHe, hLe] at hgo; exact hgo
  clear hHe hLe
  refine lv_aload_n hx hb dX2_forget_0 rfl (lv_at hl 0 rfl) ?_
  refine lv_iconst (v := iI 0) hx hb dX2_forget_1 rfl ?_
  refine z_put (v := .int (iI 0)) (Cn := RX2) (T := TX2) (N := 7) (ci := 2) C in_X2_forget_X2 tyX2 tyX2_ok nmX2 hK hP hD hS 0 rfl rfl 6 (by decide) (List.mem_of_getElem? (i := 1) rfl) rfl rfl rfl (Nat.le_of_ble_eq_true rfl) dX2_forget_2 (fun H locs hP hD hS => ?_)
  have hP : zP g [(b, .inr (2, [.ref bn, .ref br, .ref bs, .ref bf, .ref be, .int (iI nx), .int (iI 0)]))] H := hP
  have hD : va_D A [(b, .inr (2, [.ref bn, .ref br, .ref bs, .ref bf, .ref be, .int (iI nx), .int (iI 0)]))] := hD
  exact z_retV hx hb hlk hr hQ dX2_forget_5 hS () (trivial) (hP)
set_option maxRecDepth 20000 in
theorem in_X2_remember_X2 : ∀ w ∈ u_ws RX2 TX2 7, w ∈ wsX2_remember := zmem_of _ [37, 38, 39, 40, 41, 42, 43] (by decide +kernel)
set_option maxHeartbeats 4000000 in
set_option maxRecDepth 100000 in
theorem m_X2_remember (l : Launch) (g : zG) (b bn br bs bf be : Nat) (nx dp : Int) (NB RR RS RF RE : Int → Int) (h hn hs : Nat) (NU SZ : Int → Int) (fl re : Int) (row : Int) (h1 : 0 ≤ row) (h2 : row < 5) (h3 : 0 ≤ nx) (h4 : nx < 8) (h5 : 0 ≤ dp) (h6 : dp ≤ 8) : zV l yX2_remember wsX2_remember ({ frames := 2, cells := 0, slots := 0, locals := 83 }) g [.ref b, .ref h, .int (iI row)] [(b, .inr (2, [.ref bn, .ref br, .ref bs, .ref bf, .ref be, .int (iI nx), .int (iI dp)])), zI g bn 1024 NB, zI g br 8 RR, zI g bs 8 RS, zI g bf 8 RF, zI g be 8 RE, (h, .inr (4, [.ref hn, .ref hs, .int (iI fl), .int (iI re)])), zI g hn 640 NU, zI g hs 5 SZ] (S := Unit) (fun _ => True) (fun _ => [(b, .inr (2, [.ref bn, .ref br, .ref bs, .ref bf, .ref be, .int (iI ((nx + 1) % 8)), .int (iI (min (dp + 1) 8))])), zI g bn 1024 (fun j => if nx * 128 ≤ j ∧ j < nx * 128 + 128 then NU (row * 128 + (j - nx * 128)) else NB j), zI g br 8 (ups RR nx row), zI g bs 8 (ups RS nx (SZ row)), zI g bf 8 (ups RF nx fl), zI g be 8 (ups RE nx re), (h, .inr (4, [.ref hn, .ref hs, .int (iI fl), .int (iI re)])), zI g hn 640 NU, zI g hs 5 SZ]) := by
  refine z_entV (cc := cX2_remember) (nL := 3) (ret := none) (own := RX2) (by decide) rfl rfl (Nat.le_of_ble_eq_true rfl) ?_
  intro p e s m below meth c Q ls A C hlk hr hQ hP hK hD hA hS hl
  have hx := C.1
  have hb := C.2.1
  have hl : lv_has ls 3 [(0, .ref b), (1, .ref h), (2, .int (iI row))] := hl
  obtain ⟨H, hHe⟩ : ∃ H, H = s.heap := ⟨_, rfl⟩
  obtain ⟨locs, hLe⟩ : ∃ q : List Loc, q = [] := ⟨_, rfl⟩
  have hP : zP g [(b, .inr (2, [.ref bn, .ref br, .ref bs, .ref bf, .ref be, .int (iI nx), .int (iI dp)])), zI g bn 1024 NB, zI g br 8 RR, zI g bs 8 RS, zI g bf 8 RF, zI g be 8 RE, (h, .inr (4, [.ref hn, .ref hs, .int (iI fl), .int (iI re)])), zI g hn 640 NU, zI g hs 5 SZ] H := by rw [hHe]; exact hP
  have hS : va_S A s.heap H locs := by rw [hHe, hLe]; exact hS
  suffices hgo : W p l e ({ frames := 2, cells := 0, slots := 0, locals := 83 }) s m ([.ref b, .ref h, .int (iI row)] : List Value).toArray below meth c H locs 0 0 Q (F0 m 0 ls []) by rw [hHe, hLe] at hgo; exact hgo
  clear hHe hLe
  refine lv_aload_n hx hb dX2_remember_0 rfl (lv_at hl 1 rfl) ?_
  refine lv_iload_n hx hb dX2_remember_1 rfl (lv_at hl 2 rfl) ?_
  refine lv_aload_n hx hb dX2_remember_2 rfl (lv_at hl 0 rfl) ?_
  refine z_get (v := .ref bn) (Cn := RX2) (T := TX2) (N := 7) (ci := 2) C in_X2_remember_X2 hK hP 0 rfl rfl 0 (by decide) (List.mem_of_getElem? (i := 1) rfl) rfl dX2_remember_3 ?_
  refine lv_aload_n hx hb dX2_remember_6 rfl (lv_at hl 0 rfl) ?_
  refine z_get (v := .int (iI nx)) (Cn := RX2) (T := TX2) (N := 7) (ci := 2) C in_X2_remember_X2 hK hP 0 rfl rfl 5 (by decide) (List.mem_of_getElem? (i := 2) rfl) rfl dX2_remember_7 ?_
  refine lv_sipush (v := iI 128) hx hb dX2_remember_10 (by decide +kernel) ?_
  refine z_imul hx hb dX2_remember_13 ?_
  refine z_cV (As := [.int (iI row), .ref bn, .int (iI (nx * 128))]) (rest := []) C (m_X4_copyRowTo (l := l) (g := g) (h := h) (hn := hn) (hs := hs) (fl := fl) (re := re) (NU := NU) (t := bn) (F := NB) (row := row) (st := nx * 128) (h1 := by omega) (h2 := by omega) (h3 := by omega) (h4 := by omega)) (cwV 3 C.2.2.2.2 gX2_remember_X4_copyRowTo rfl rfl rfl (by decide +kernel) ⟨Nat.le_of_ble_eq_true rfl, Nat.le_of_ble_eq_true rfl⟩) hK hP hD hS hA [6, 7, 1] (by decide) rfl (fun _ => rfl) 6 rfl rfl rfl hl.1 rfl (Nat.le_of_ble_eq_true rfl) dX2_remember_14 ⟨Nat.zero_le _, Nat.zero_le _⟩ (fun u_1 H locs hq_2 hP hD hS => ?_)
  have hP : zP g [(b, .inr (2, [.ref bn, .ref br, .ref bs, .ref bf, .ref be, .int (iI nx), .int (iI dp)])), zI g bn 1024 (fun j => if (nx * 128) ≤ j ∧ j < (nx * 128) + 128 then NU (row * 128 + (j - (nx * 128))) else NB j), zI g br 8 RR, zI g bs 8 RS, zI g bf 8 RF, zI g be 8 RE, (h, .inr (4, [.ref hn, .ref hs, .int (iI fl), .int (iI re)])), zI g hn 640 NU, zI g hs 5 SZ] H := hP
  have hD : va_D A [(b, .inr (2, [.ref bn, .ref br, .ref bs, .ref bf, .ref be, .int (iI nx), .int (iI dp)])), zI g bn 1024 (fun j => if (nx * 128) ≤ j ∧ j < (nx * 128) + 128 then NU (row * 128 + (j - (nx * 128))) else NB j), zI g br 8 RR, zI g bs 8 RS, zI g bf 8 RF, zI g be 8 RE, (h, .inr (4, [.ref hn, .ref hs, .int (iI fl), .int (iI re)])), zI g hn 640 NU, zI g hs 5 SZ] := hD
  refine lv_aload_n hx hb dX2_remember_17 rfl (lv_at hl 0 rfl) ?_
  refine z_get (v := .ref br) (Cn := RX2) (T := TX2) (N := 7) (ci := 2) C in_X2_remember_X2 hK hP 0 rfl rfl 1 (by decide) (List.mem_of_getElem? (i := 3) rfl) rfl dX2_remember_18 ?_
  refine lv_aload_n hx hb dX2_remember_21 rfl (lv_at hl 0 rfl) ?_
  refine z_get (v := .int (iI nx)) (Cn := RX2) (T := TX2) (N := 7) (ci := 2) C in_X2_remember_X2 hK hP 0 rfl rfl 5 (by decide) (List.mem_of_getElem? (i := 2) rfl) rfl dX2_remember_22 ?_
  refine lv_iload_n hx hb dX2_remember_25 rfl (lv_at hl 2 rfl) ?_
  refine z_iast hx hb hK hP hD hS 2 rfl (by omega) (by omega) (Nat.le_of_ble_eq_true rfl) dX2_remember_26 (fun H locs hP hD hS => ?_)
  have hP : zP g [(b, .inr (2, [.ref bn, .ref br, .ref bs, .ref bf, .ref be, .int (iI nx), .int (iI dp)])), zI g bn 1024 (fun j => if (nx * 128) ≤ j ∧ j < (nx * 128) + 128 then NU (row * 128 + (j - (nx * 128))) else NB j), zI g br 8 (ups RR nx row), zI g bs 8 RS, zI g bf 8 RF, zI g be 8 RE, (h, .inr (4, [.ref hn, .ref hs, .int (iI fl), .int (iI re)])), zI g hn 640 NU, zI g hs 5 SZ] H := hP
  have hD : va_D A [(b, .inr (2, [.ref bn, .ref br, .ref bs, .ref bf, .ref be, .int (iI nx), .int (iI dp)])), zI g bn 1024 (fun j => if (nx * 128) ≤ j ∧ j < (nx * 128) + 128 then NU (row * 128 + (j - (nx * 128))) else NB j), zI g br 8 (ups RR nx row), zI g bs 8 RS, zI g bf 8 RF, zI g be 8 RE, (h, .inr (4, [.ref hn, .ref hs, .int (iI fl), .int (iI re)])), zI g hn 640 NU, zI g hs 5 SZ] := hD
  refine lv_aload_n hx hb dX2_remember_27 rfl (lv_at hl 0 rfl) ?_
  refine z_get (v := .ref bs) (Cn := RX2) (T := TX2) (N := 7) (ci := 2) C in_X2_remember_X2 hK hP 0 rfl rfl 2 (by decide) (List.mem_of_getElem? (i := 4) rfl) rfl dX2_remember_28 ?_
  refine lv_aload_n hx hb dX2_remember_31 rfl (lv_at hl 0 rfl) ?_
  refine z_get (v := .int (iI nx)) (Cn := RX2) (T := TX2) (N := 7) (ci := 2) C in_X2_remember_X2 hK hP 0 rfl rfl 5 (by decide) (List.mem_of_getElem? (i := 2) rfl) rfl dX2_remember_32 ?_
  refine lv_aload_n hx hb dX2_remember_35 rfl (lv_at hl 1 rfl) ?_
  refine lv_iload_n hx hb dX2_remember_36 rfl (lv_at hl 2 rfl) ?_
  refine z_cS (As := [.int (iI row)]) (rest := [.int (iI nx), .ref bs]) C (m_X4_sizeOf (l := l) (g := g) (h := h) (hn := hn) (hs := hs) (fl := fl) (re := re) (SZ := SZ) (row := row) (h1 := by omega) (h2 := by omega)) (cwV 1 C.2.2.2.2 gX2_remember_X4_sizeOf rfl rfl rfl (by decide +kernel) ⟨Nat.le_of_ble_eq_true rfl, Nat.le_of_ble_eq_true rfl⟩) hK hP [6, 8] rfl 6 rfl rfl rfl hl.1 rfl (Nat.le_of_ble_eq_true rfl) dX2_remember_37 ⟨Nat.zero_le _, Nat.zero_le _⟩ ?_
  refine z_iast hx hb hK hP hD hS 3 rfl (by omega) (by omega) (Nat.le_of_ble_eq_true rfl) dX2_remember_40 (fun H locs hP hD hS => ?_)
  have hP : zP g [(b, .inr (2, [.ref bn, .ref br, .ref bs, .ref bf, .ref be, .int (iI nx), .int (iI dp)])), zI g bn 1024 (fun j => if (nx * 128) ≤ j ∧ j < (nx * 128) + 128 then NU (row * 128 + (j - (nx * 128))) else NB j), zI g br 8 (ups RR nx row), zI g bs 8 (ups RS nx (SZ row)), zI g bf 8 RF, zI g be 8 RE, (h, .inr (4, [.ref hn, .ref hs, .int (iI fl), .int (iI re)])), zI g hn 640 NU, zI g hs 5 SZ] H := hP
  have hD : va_D A [(b, .inr (2, [.ref bn, .ref br, .ref bs, .ref bf, .ref be, .int (iI nx), .int (iI dp)])), zI g bn 1024 (fun j => if (nx * 128) ≤ j ∧ j < (nx * 128) + 128 then NU (row * 128 + (j - (nx * 128))) else NB j), zI g br 8 (ups RR nx row), zI g bs 8 (ups RS nx (SZ row)), zI g bf 8 RF, zI g be 8 RE, (h, .inr (4, [.ref hn, .ref hs, .int (iI fl), .int (iI re)])), zI g hn 640 NU, zI g hs 5 SZ] := hD
  refine lv_aload_n hx hb dX2_remember_41 rfl (lv_at hl 0 rfl) ?_
  refine z_get (v := .ref bf) (Cn := RX2) (T := TX2) (N := 7) (ci := 2) C in_X2_remember_X2 hK hP 0 rfl rfl 3 (by decide) (List.mem_of_getElem? (i := 5) rfl) rfl dX2_remember_42 ?_
  refine lv_aload_n hx hb dX2_remember_45 rfl (lv_at hl 0 rfl) ?_
  refine z_get (v := .int (iI nx)) (Cn := RX2) (T := TX2) (N := 7) (ci := 2) C in_X2_remember_X2 hK hP 0 rfl rfl 5 (by decide) (List.mem_of_getElem? (i := 2) rfl) rfl dX2_remember_46 ?_
  refine lv_aload_n hx hb dX2_remember_49 rfl (lv_at hl 1 rfl) ?_
  refine z_cS (As := []) (rest := [.int (iI nx), .ref bf]) C (m_X4_floor (l := l) (g := g) (h := h) (hn := hn) (hs := hs) (fl := fl) (re := re) ) (cwV 0 C.2.2.2.2 gX2_remember_X4_floor rfl rfl rfl (by decide +kernel) ⟨Nat.le_of_ble_eq_true rfl, Nat.le_of_ble_eq_true rfl⟩) hK hP [6] rfl 6 rfl rfl rfl hl.1 rfl (Nat.le_of_ble_eq_true rfl) dX2_remember_50 ⟨Nat.zero_le _, Nat.zero_le _⟩ ?_
  refine z_iast hx hb hK hP hD hS 4 rfl (by omega) (by omega) (Nat.le_of_ble_eq_true rfl) dX2_remember_53 (fun H locs hP hD hS => ?_)
  have hP : zP g [(b, .inr (2, [.ref bn, .ref br, .ref bs, .ref bf, .ref be, .int (iI nx), .int (iI dp)])), zI g bn 1024 (fun j => if (nx * 128) ≤ j ∧ j < (nx * 128) + 128 then NU (row * 128 + (j - (nx * 128))) else NB j), zI g br 8 (ups RR nx row), zI g bs 8 (ups RS nx (SZ row)), zI g bf 8 (ups RF nx fl), zI g be 8 RE, (h, .inr (4, [.ref hn, .ref hs, .int (iI fl), .int (iI re)])), zI g hn 640 NU, zI g hs 5 SZ] H := hP
  have hD : va_D A [(b, .inr (2, [.ref bn, .ref br, .ref bs, .ref bf, .ref be, .int (iI nx), .int (iI dp)])), zI g bn 1024 (fun j => if (nx * 128) ≤ j ∧ j < (nx * 128) + 128 then NU (row * 128 + (j - (nx * 128))) else NB j), zI g br 8 (ups RR nx row), zI g bs 8 (ups RS nx (SZ row)), zI g bf 8 (ups RF nx fl), zI g be 8 RE, (h, .inr (4, [.ref hn, .ref hs, .int (iI fl), .int (iI re)])), zI g hn 640 NU, zI g hs 5 SZ] := hD
  refine lv_aload_n hx hb dX2_remember_54 rfl (lv_at hl 0 rfl) ?_
  refine z_get (v := .ref be) (Cn := RX2) (T := TX2) (N := 7) (ci := 2) C in_X2_remember_X2 hK hP 0 rfl rfl 4 (by decide) (List.mem_of_getElem? (i := 6) rfl) rfl dX2_remember_55 ?_
  refine lv_aload_n hx hb dX2_remember_58 rfl (lv_at hl 0 rfl) ?_
  refine z_get (v := .int (iI nx)) (Cn := RX2) (T := TX2) (N := 7) (ci := 2) C in_X2_remember_X2 hK hP 0 rfl rfl 5 (by decide) (List.mem_of_getElem? (i := 2) rfl) rfl dX2_remember_59 ?_
  refine lv_aload_n hx hb dX2_remember_62 rfl (lv_at hl 1 rfl) ?_
  refine z_cS (As := []) (rest := [.int (iI nx), .ref be]) C (m_X4_reach (l := l) (g := g) (h := h) (hn := hn) (hs := hs) (fl := fl) (re := re) ) (cwV 0 C.2.2.2.2 gX2_remember_X4_reach rfl rfl rfl (by decide +kernel) ⟨Nat.le_of_ble_eq_true rfl, Nat.le_of_ble_eq_true rfl⟩) hK hP [6] rfl 6 rfl rfl rfl hl.1 rfl (Nat.le_of_ble_eq_true rfl) dX2_remember_63 ⟨Nat.zero_le _, Nat.zero_le _⟩ ?_
  refine z_iast hx hb hK hP hD hS 5 rfl (by omega) (by omega) (Nat.le_of_ble_eq_true rfl) dX2_remember_66 (fun H locs hP hD hS => ?_)
  have hP : zP g [(b, .inr (2, [.ref bn, .ref br, .ref bs, .ref bf, .ref be, .int (iI nx), .int (iI dp)])), zI g bn 1024 (fun j => if (nx * 128) ≤ j ∧ j < (nx * 128) + 128 then NU (row * 128 + (j - (nx * 128))) else NB j), zI g br 8 (ups RR nx row), zI g bs 8 (ups RS nx (SZ row)), zI g bf 8 (ups RF nx fl), zI g be 8 (ups RE nx re), (h, .inr (4, [.ref hn, .ref hs, .int (iI fl), .int (iI re)])), zI g hn 640 NU, zI g hs 5 SZ] H := hP
  have hD : va_D A [(b, .inr (2, [.ref bn, .ref br, .ref bs, .ref bf, .ref be, .int (iI nx), .int (iI dp)])), zI g bn 1024 (fun j => if (nx * 128) ≤ j ∧ j < (nx * 128) + 128 then NU (row * 128 + (j - (nx * 128))) else NB j), zI g br 8 (ups RR nx row), zI g bs 8 (ups RS nx (SZ row)), zI g bf 8 (ups RF nx fl), zI g be 8 (ups RE nx re), (h, .inr (4, [.ref hn, .ref hs, .int (iI fl), .int (iI re)])), zI g hn 640 NU, zI g hs 5 SZ] := hD
  refine lv_aload_n hx hb dX2_remember_67 rfl (lv_at hl 0 rfl) ?_
  refine lv_aload_n hx hb dX2_remember_68 rfl (lv_at hl 0 rfl) ?_
  refine z_get (v := .int (iI nx)) (Cn := RX2) (T := TX2) (N := 7) (ci := 2) C in_X2_remember_X2 hK hP 0 rfl rfl 5 (by decide) (List.mem_of_getElem? (i := 2) rfl) rfl dX2_remember_69 ?_
  refine lv_iconst (v := iI 1) hx hb dX2_remember_72 rfl ?_
  refine z_iadd hx hb dX2_remember_73 ?_
  refine lv_bipush (v := iI 8) hx hb dX2_remember_74 (by decide +kernel) ?_
  refine z_iremN hx hb dX2_remember_76 (by omega) (by omega) (by omega) (by omega) ?_
  refine z_put (v := .int (iI ((nx + 1) % 8))) (Cn := RX2) (T := TX2) (N := 7) (ci := 2) C in_X2_remember_X2 tyX2 tyX2_ok nmX2 hK hP hD hS 0 rfl rfl 5 (by decide) (List.mem_of_getElem? (i := 2) rfl) rfl rfl rfl (Nat.le_of_ble_eq_true rfl) dX2_remember_77 (fun H locs hP hD hS => ?_)
  have hP : zP g [(b, .inr (2, [.ref bn, .ref br, .ref bs, .ref bf, .ref be, .int (iI ((nx + 1) % 8)), .int (iI dp)])), zI g bn 1024 (fun j => if (nx * 128) ≤ j ∧ j < (nx * 128) + 128 then NU (row * 128 + (j - (nx * 128))) else NB j), zI g br 8 (ups RR nx row), zI g bs 8 (ups RS nx (SZ row)), zI g bf 8 (ups RF nx fl), zI g be 8 (ups RE nx re), (h, .inr (4, [.ref hn, .ref hs, .int (iI fl), .int (iI re)])), zI g hn 640 NU, zI g hs 5 SZ] H := hP
  have hD : va_D A [(b, .inr (2, [.ref bn, .ref br, .ref bs, .ref bf, .ref be, .int (iI ((nx + 1) % 8)), .int (iI dp)])), zI g bn 1024 (fun j => if (nx * 128) ≤ j ∧ j < (nx * 128) + 128 then NU (row * 128 + (j - (nx * 128))) else NB j), zI g br 8 (ups RR nx row), zI g bs 8 (ups RS nx (SZ row)), zI g bf 8 (ups RF nx fl), zI g be 8 (ups RE nx re), (h, .inr (4, [.ref hn, .ref hs, .int (iI fl), .int (iI re)])), zI g hn 640 NU, zI g hs 5 SZ] := hD
  refine lv_aload_n hx hb dX2_remember_80 rfl (lv_at hl 0 rfl) ?_
  refine lv_aload_n hx hb dX2_remember_81 rfl (lv_at hl 0 rfl) ?_
  refine z_get (v := .int (iI dp)) (Cn := RX2) (T := TX2) (N := 7) (ci := 2) C in_X2_remember_X2 hK hP 0 rfl rfl 6 (by decide) (List.mem_of_getElem? (i := 7) rfl) rfl dX2_remember_82 ?_
  refine lv_iconst (v := iI 1) hx hb dX2_remember_85 rfl ?_
  refine z_iadd hx hb dX2_remember_86 ?_
  refine lv_bipush (v := iI 8) hx hb dX2_remember_87 (by decide +kernel) ?_
  refine z_mmin C hl.1 (List.mem_of_getElem? (i := 8) rfl) (List.mem_of_getElem? (i := 9) rfl) (List.mem_of_getElem? (i := 10) rfl) (List.mem_of_getElem? (i := 11) rfl) (Nat.le_of_ble_eq_true rfl) (Nat.le_of_ble_eq_true rfl) (Nat.zero_le _) (Nat.zero_le _) dX2_remember_89 ?_
  refine z_top (b := min (dp + 1) 8) (by rw [zr_of (by omega) (by omega), zr_of (by omega) (by omega)]; split <;> omega) ?_
  refine z_put (v := .int (iI (min (dp + 1) 8))) (Cn := RX2) (T := TX2) (N := 7) (ci := 2) C in_X2_remember_X2 tyX2 tyX2_ok nmX2 hK hP hD hS 0 rfl rfl 6 (by decide) (List.mem_of_getElem? (i := 7) rfl) rfl rfl rfl (Nat.le_of_ble_eq_true rfl) dX2_remember_92 (fun H locs hP hD hS => ?_)
  have hP : zP g [(b, .inr (2, [.ref bn, .ref br, .ref bs, .ref bf, .ref be, .int (iI ((nx + 1) % 8)), .int (iI (min (dp + 1) 8))])), zI g bn 1024 (fun j => if (nx * 128) ≤ j ∧ j < (nx * 128) + 128 then NU (row * 128 + (j - (nx * 128))) else NB j), zI g br 8 (ups RR nx row), zI g bs 8 (ups RS nx (SZ row)), zI g bf 8 (ups RF nx fl), zI g be 8 (ups RE nx re), (h, .inr (4, [.ref hn, .ref hs, .int (iI fl), .int (iI re)])), zI g hn 640 NU, zI g hs 5 SZ] H := hP
  have hD : va_D A [(b, .inr (2, [.ref bn, .ref br, .ref bs, .ref bf, .ref be, .int (iI ((nx + 1) % 8)), .int (iI (min (dp + 1) 8))])), zI g bn 1024 (fun j => if (nx * 128) ≤ j ∧ j < (nx * 128) + 128 then NU (row * 128 + (j - (nx * 128))) else NB j), zI g br 8 (ups RR nx row), zI g bs 8 (ups RS nx (SZ row)), zI g bf 8 (ups RF nx fl), zI g be 8 (ups RE nx re), (h, .inr (4, [.ref hn, .ref hs, .int (iI fl), .int (iI re)])), zI g hn 640 NU, zI g hs 5 SZ] := hD
  exact z_retV hx hb hlk hr hQ dX2_remember_95 hS () (trivial) (hP)
set_option maxRecDepth 20000 in
theorem in_X2_restoreLatest_X2 : ∀ w ∈ u_ws RX2 TX2 7, w ∈ wsX2_restoreLatest := zmem_of _ [29, 30, 31, 32, 33, 34, 35] (by decide +kernel)
set_option maxHeartbeats 4000000 in
set_option maxRecDepth 100000 in
theorem m_X2_restoreLatest (l : Launch) (g : zG) (b bn br bs bf be : Nat) (nx dp : Int) (NB RR RS RF RE : Int → Int) (h hn hs : Nat) (NU SZ : Int → Int) (fl re : Int) (h3 : 0 ≤ nx) (h4 : nx < 8) (h5 : 0 < dp) (h6 : dp ≤ 8) (h7 : 0 ≤ RR ((nx + 7) % 8)) (h8 : RR ((nx + 7) % 8) < 5) : zV l yX2_restoreLatest wsX2_restoreLatest ({ frames := 2, cells := 0, slots := 0, locals := 84 }) g [.ref b, .ref h] [(b, .inr (2, [.ref bn, .ref br, .ref bs, .ref bf, .ref be, .int (iI nx), .int (iI dp)])), zI g bn 1024 NB, zI g br 8 RR, zI g bs 8 RS, zI g bf 8 RF, zI g be 8 RE, (h, .inr (4, [.ref hn, .ref hs, .int (iI fl), .int (iI re)])), zI g hn 640 NU, zI g hs 5 SZ] (S := Unit) (fun _ => True) (fun _ => [(b, .inr (2, [.ref bn, .ref br, .ref bs, .ref bf, .ref be, .int (iI ((nx + 7) % 8)), .int (iI (dp - 1))])), zI g bn 1024 NB, zI g br 8 RR, zI g bs 8 RS, zI g bf 8 RF, zI g be 8 RE, (h, .inr (4, [.ref hn, .ref hs, .int (iI (RF ((nx + 7) % 8))), .int (iI (RE ((nx + 7) % 8)))])), zI g hn 640 (fun j => if RR ((nx + 7) % 8) * 128 ≤ j ∧ j < RR ((nx + 7) % 8) * 128 + 128 then NB ((nx + 7) % 8 * 128 + (j - RR ((nx + 7) % 8) * 128)) else NU j), zI g hs 5 (ups SZ (RR ((nx + 7) % 8)) (RS ((nx + 7) % 8)))]) := by
  refine z_entV (cc := cX2_restoreLatest) (nL := 2) (ret := none) (own := RX2) (by decide) rfl rfl (Nat.le_of_ble_eq_true rfl) ?_
  intro p e s m below meth c Q ls A C hlk hr hQ hP hK hD hA hS hl
  have hx := C.1
  have hb := C.2.1
  have hl : lv_has ls 2 [(0, .ref b), (1, .ref h)] := hl
  obtain ⟨H, hHe⟩ : ∃ H, H = s.heap := ⟨_, rfl⟩
  obtain ⟨locs, hLe⟩ : ∃ q : List Loc, q = [] := ⟨_, rfl⟩
  have hP : zP g [(b, .inr (2, [.ref bn, .ref br, .ref bs, .ref bf, .ref be, .int (iI nx), .int (iI dp)])), zI g bn 1024 NB, zI g br 8 RR, zI g bs 8 RS, zI g bf 8 RF, zI g be 8 RE, (h, .inr (4, [.ref hn, .ref hs, .int (iI fl), .int (iI re)])), zI g hn 640 NU, zI g hs 5 SZ] H := by rw [hHe]; exact hP
  have hS : va_S A s.heap H locs := by rw [hHe, hLe]; exact hS
  suffices hgo : W p l e ({ frames := 2, cells := 0, slots := 0, locals := 84 }) s m ([.ref b, .ref h] : List Value).toArray below meth c H locs 0 0 Q (F0 m 0 ls []) by rw [hHe, hLe] at hgo; exact hgo
  clear hHe hLe
  refine lv_aload_n hx hb dX2_restoreLatest_0 rfl (lv_at hl 0 rfl) ?_
  refine z_get (v := .int (iI dp)) (Cn := RX2) (T := TX2) (N := 7) (ci := 2) C in_X2_restoreLatest_X2 hK hP 0 rfl rfl 6 (by decide) (List.mem_of_getElem? (i := 1) rfl) rfl dX2_restoreLatest_1 ?_
  refine z_if_ne (tgt := 8) hx hb dX2_restoreLatest_4 (by decide) (by omega) (fun c_1 => ?_) (fun c_1 => ?_)
  · refine lv_aload_n hx hb dX2_restoreLatest_8 rfl (lv_at hl 0 rfl) ?_
    refine lv_aload_n hx hb dX2_restoreLatest_9 rfl (lv_at hl 0 rfl) ?_
    refine z_get (v := .int (iI nx)) (Cn := RX2) (T := TX2) (N := 7) (ci := 2) C in_X2_restoreLatest_X2 hK hP 0 rfl rfl 5 (by decide) (List.mem_of_getElem? (i := 2) rfl) rfl dX2_restoreLatest_10 ?_
    refine lv_bipush (v := iI 8) hx hb dX2_restoreLatest_13 (by decide +kernel) ?_
    refine z_iadd hx hb dX2_restoreLatest_15 ?_
    refine lv_iconst (v := iI 1) hx hb dX2_restoreLatest_16 rfl ?_
    refine z_isub hx hb dX2_restoreLatest_17 ?_
    refine z_top (b := nx + 7) (by omega) ?_
    refine lv_bipush (v := iI 8) hx hb dX2_restoreLatest_18 (by decide +kernel) ?_
    refine z_iremN hx hb dX2_restoreLatest_20 (by omega) (by omega) (by omega) (by omega) ?_
    refine z_put (v := .int (iI ((nx + 7) % 8))) (Cn := RX2) (T := TX2) (N := 7) (ci := 2) C in_X2_restoreLatest_X2 tyX2 tyX2_ok nmX2 hK hP hD hS 0 rfl rfl 5 (by decide) (List.mem_of_getElem? (i := 2) rfl) rfl rfl rfl (Nat.le_of_ble_eq_true rfl) dX2_restoreLatest_21 (fun H locs hP hD hS => ?_)
    have hP : zP g [(b, .inr (2, [.ref bn, .ref br, .ref bs, .ref bf, .ref be, .int (iI ((nx + 7) % 8)), .int (iI dp)])), zI g bn 1024 NB, zI g br 8 RR, zI g bs 8 RS, zI g bf 8 RF, zI g be 8 RE, (h, .inr (4, [.ref hn, .ref hs, .int (iI fl), .int (iI re)])), zI g hn 640 NU, zI g hs 5 SZ] H := hP
    have hD : va_D A [(b, .inr (2, [.ref bn, .ref br, .ref bs, .ref bf, .ref be, .int (iI ((nx + 7) % 8)), .int (iI dp)])), zI g bn 1024 NB, zI g br 8 RR, zI g bs 8 RS, zI g bf 8 RF, zI g be 8 RE, (h, .inr (4, [.ref hn, .ref hs, .int (iI fl), .int (iI re)])), zI g hn 640 NU, zI g hs 5 SZ] := hD
    refine lv_aload_n hx hb dX2_restoreLatest_24 rfl (lv_at hl 0 rfl) ?_
    refine lv_dup hx hb dX2_restoreLatest_25 rfl ?_
    refine z_get (v := .int (iI dp)) (Cn := RX2) (T := TX2) (N := 7) (ci := 2) C in_X2_restoreLatest_X2 hK hP 0 rfl rfl 6 (by decide) (List.mem_of_getElem? (i := 1) rfl) rfl dX2_restoreLatest_26 ?_
    refine lv_iconst (v := iI 1) hx hb dX2_restoreLatest_29 rfl ?_
    refine z_isub hx hb dX2_restoreLatest_30 ?_
    refine z_put (v := .int (iI (dp - 1))) (Cn := RX2) (T := TX2) (N := 7) (ci := 2) C in_X2_restoreLatest_X2 tyX2 tyX2_ok nmX2 hK hP hD hS 0 rfl rfl 6 (by decide) (List.mem_of_getElem? (i := 1) rfl) rfl rfl rfl (Nat.le_of_ble_eq_true rfl) dX2_restoreLatest_31 (fun H locs hP hD hS => ?_)
    have hP : zP g [(b, .inr (2, [.ref bn, .ref br, .ref bs, .ref bf, .ref be, .int (iI ((nx + 7) % 8)), .int (iI (dp - 1))])), zI g bn 1024 NB, zI g br 8 RR, zI g bs 8 RS, zI g bf 8 RF, zI g be 8 RE, (h, .inr (4, [.ref hn, .ref hs, .int (iI fl), .int (iI re)])), zI g hn 640 NU, zI g hs 5 SZ] H := hP
    have hD : va_D A [(b, .inr (2, [.ref bn, .ref br, .ref bs, .ref bf, .ref be, .int (iI ((nx + 7) % 8)), .int (iI (dp - 1))])), zI g bn 1024 NB, zI g br 8 RR, zI g bs 8 RS, zI g bf 8 RF, zI g be 8 RE, (h, .inr (4, [.ref hn, .ref hs, .int (iI fl), .int (iI re)])), zI g hn 640 NU, zI g hs 5 SZ] := hD
    refine lv_aload_n hx hb dX2_restoreLatest_34 rfl (lv_at hl 1 rfl) ?_
    refine lv_aload_n hx hb dX2_restoreLatest_35 rfl (lv_at hl 0 rfl) ?_
    refine z_get (v := .ref br) (Cn := RX2) (T := TX2) (N := 7) (ci := 2) C in_X2_restoreLatest_X2 hK hP 0 rfl rfl 1 (by decide) (List.mem_of_getElem? (i := 3) rfl) rfl dX2_restoreLatest_36 ?_
    refine lv_aload_n hx hb dX2_restoreLatest_39 rfl (lv_at hl 0 rfl) ?_
    refine z_get (v := .int (iI ((nx + 7) % 8))) (Cn := RX2) (T := TX2) (N := 7) (ci := 2) C in_X2_restoreLatest_X2 hK hP 0 rfl rfl 5 (by decide) (List.mem_of_getElem? (i := 2) rfl) rfl dX2_restoreLatest_40 ?_
    refine z_iald hx hb hK hP 2 rfl (by omega) (by omega) (Nat.le_of_ble_eq_true rfl) dX2_restoreLatest_43 ?_
    refine lv_aload_n hx hb dX2_restoreLatest_44 rfl (lv_at hl 0 rfl) ?_
    refine z_get (v := .ref bn) (Cn := RX2) (T := TX2) (N := 7) (ci := 2) C in_X2_restoreLatest_X2 hK hP 0 rfl rfl 0 (by decide) (List.mem_of_getElem? (i := 4) rfl) rfl dX2_restoreLatest_45 ?_
    refine lv_aload_n hx hb dX2_restoreLatest_48 rfl (lv_at hl 0 rfl) ?_
    refine z_get (v := .int (iI ((nx + 7) % 8))) (Cn := RX2) (T := TX2) (N := 7) (ci := 2) C in_X2_restoreLatest_X2 hK hP 0 rfl rfl 5 (by decide) (List.mem_of_getElem? (i := 2) rfl) rfl dX2_restoreLatest_49 ?_
    refine lv_sipush (v := iI 128) hx hb dX2_restoreLatest_52 (by decide +kernel) ?_
    refine z_imul hx hb dX2_restoreLatest_55 ?_
    refine lv_aload_n hx hb dX2_restoreLatest_56 rfl (lv_at hl 0 rfl) ?_
    refine z_get (v := .ref bs) (Cn := RX2) (T := TX2) (N := 7) (ci := 2) C in_X2_restoreLatest_X2 hK hP 0 rfl rfl 2 (by decide) (List.mem_of_getElem? (i := 5) rfl) rfl dX2_restoreLatest_57 ?_
    refine lv_aload_n hx hb dX2_restoreLatest_60 rfl (lv_at hl 0 rfl) ?_
    refine z_get (v := .int (iI ((nx + 7) % 8))) (Cn := RX2) (T := TX2) (N := 7) (ci := 2) C in_X2_restoreLatest_X2 hK hP 0 rfl rfl 5 (by decide) (List.mem_of_getElem? (i := 2) rfl) rfl dX2_restoreLatest_61 ?_
    refine z_iald hx hb hK hP 3 rfl (by omega) (by omega) (Nat.le_of_ble_eq_true rfl) dX2_restoreLatest_64 ?_
    refine z_cV (As := [.int (iI (RR ((nx + 7) % 8))), .ref bn, .int (iI (((nx + 7) % 8) * 128)), .int (iI (RS ((nx + 7) % 8)))]) (rest := []) C (m_X4_takeRow (l := l) (g := g) (h := h) (hn := hn) (hs := hs) (NU := NU) (SZ := SZ) (fl := fl) (re := re) (t := bn) (F := NB) (row := RR ((nx + 7) % 8)) (st := ((nx + 7) % 8) * 128) (sz := RS ((nx + 7) % 8)) (h1 := by omega) (h2 := by omega) (h3 := by omega) (h4 := by omega)) (cwV 4 C.2.2.2.2 gX2_restoreLatest_X4_takeRow rfl rfl rfl (by decide +kernel) ⟨Nat.le_of_ble_eq_true rfl, Nat.le_of_ble_eq_true rfl⟩) hK hP hD hS hA [6, 7, 8, 1] (by decide) rfl (fun _ => rfl) 6 rfl rfl rfl hl.1 rfl (Nat.le_of_ble_eq_true rfl) dX2_restoreLatest_65 ⟨Nat.zero_le _, Nat.zero_le _⟩ (fun u_2 H locs hq_3 hP hD hS => ?_)
    have hP : zP g [(b, .inr (2, [.ref bn, .ref br, .ref bs, .ref bf, .ref be, .int (iI ((nx + 7) % 8)), .int (iI (dp - 1))])), zI g bn 1024 NB, zI g br 8 RR, zI g bs 8 RS, zI g bf 8 RF, zI g be 8 RE, (h, .inr (4, [.ref hn, .ref hs, .int (iI fl), .int (iI re)])), zI g hn 640 (fun j => if (RR ((nx + 7) % 8)) * 128 ≤ j ∧ j < (RR ((nx + 7) % 8)) * 128 + 128 then NB ((((nx + 7) % 8) * 128) + (j - (RR ((nx + 7) % 8)) * 128)) else NU j), zI g hs 5 (ups SZ (RR ((nx + 7) % 8)) (RS ((nx + 7) % 8)))] H := hP
    have hD : va_D A [(b, .inr (2, [.ref bn, .ref br, .ref bs, .ref bf, .ref be, .int (iI ((nx + 7) % 8)), .int (iI (dp - 1))])), zI g bn 1024 NB, zI g br 8 RR, zI g bs 8 RS, zI g bf 8 RF, zI g be 8 RE, (h, .inr (4, [.ref hn, .ref hs, .int (iI fl), .int (iI re)])), zI g hn 640 (fun j => if (RR ((nx + 7) % 8)) * 128 ≤ j ∧ j < (RR ((nx + 7) % 8)) * 128 + 128 then NB ((((nx + 7) % 8) * 128) + (j - (RR ((nx + 7) % 8)) * 128)) else NU j), zI g hs 5 (ups SZ (RR ((nx + 7) % 8)) (RS ((nx + 7) % 8)))] := hD
    refine lv_aload_n hx hb dX2_restoreLatest_68 rfl (lv_at hl 1 rfl) ?_
    refine lv_aload_n hx hb dX2_restoreLatest_69 rfl (lv_at hl 0 rfl) ?_
    refine z_get (v := .ref bf) (Cn := RX2) (T := TX2) (N := 7) (ci := 2) C in_X2_restoreLatest_X2 hK hP 0 rfl rfl 3 (by decide) (List.mem_of_getElem? (i := 6) rfl) rfl dX2_restoreLatest_70 ?_
    refine lv_aload_n hx hb dX2_restoreLatest_73 rfl (lv_at hl 0 rfl) ?_
    refine z_get (v := .int (iI ((nx + 7) % 8))) (Cn := RX2) (T := TX2) (N := 7) (ci := 2) C in_X2_restoreLatest_X2 hK hP 0 rfl rfl 5 (by decide) (List.mem_of_getElem? (i := 2) rfl) rfl dX2_restoreLatest_74 ?_
    refine z_iald hx hb hK hP 4 rfl (by omega) (by omega) (Nat.le_of_ble_eq_true rfl) dX2_restoreLatest_77 ?_
    refine z_cV (As := [.int (iI (RF ((nx + 7) % 8)))]) (rest := []) C (m_X4_setFloor (l := l) (g := g) (h := h) (hn := hn) (hs := hs) (fl := fl) (re := re) (v := RF ((nx + 7) % 8)) ) (cwV 1 C.2.2.2.2 gX2_restoreLatest_X4_setFloor rfl rfl rfl (by decide +kernel) ⟨Nat.le_of_ble_eq_true rfl, Nat.le_of_ble_eq_true rfl⟩) hK hP hD hS hA [6] (by decide) rfl (fun _ => rfl) 6 rfl rfl rfl hl.1 rfl (Nat.le_of_ble_eq_true rfl) dX2_restoreLatest_78 ⟨Nat.zero_le _, Nat.zero_le _⟩ (fun u_4 H locs hq_5 hP hD hS => ?_)
    have hP : zP g [(b, .inr (2, [.ref bn, .ref br, .ref bs, .ref bf, .ref be, .int (iI ((nx + 7) % 8)), .int (iI (dp - 1))])), zI g bn 1024 NB, zI g br 8 RR, zI g bs 8 RS, zI g bf 8 RF, zI g be 8 RE, (h, .inr (4, [.ref hn, .ref hs, .int (iI (RF ((nx + 7) % 8))), .int (iI re)])), zI g hn 640 (fun j => if (RR ((nx + 7) % 8)) * 128 ≤ j ∧ j < (RR ((nx + 7) % 8)) * 128 + 128 then NB ((((nx + 7) % 8) * 128) + (j - (RR ((nx + 7) % 8)) * 128)) else NU j), zI g hs 5 (ups SZ (RR ((nx + 7) % 8)) (RS ((nx + 7) % 8)))] H := hP
    have hD : va_D A [(b, .inr (2, [.ref bn, .ref br, .ref bs, .ref bf, .ref be, .int (iI ((nx + 7) % 8)), .int (iI (dp - 1))])), zI g bn 1024 NB, zI g br 8 RR, zI g bs 8 RS, zI g bf 8 RF, zI g be 8 RE, (h, .inr (4, [.ref hn, .ref hs, .int (iI (RF ((nx + 7) % 8))), .int (iI re)])), zI g hn 640 (fun j => if (RR ((nx + 7) % 8)) * 128 ≤ j ∧ j < (RR ((nx + 7) % 8)) * 128 + 128 then NB ((((nx + 7) % 8) * 128) + (j - (RR ((nx + 7) % 8)) * 128)) else NU j), zI g hs 5 (ups SZ (RR ((nx + 7) % 8)) (RS ((nx + 7) % 8)))] := hD
    refine lv_aload_n hx hb dX2_restoreLatest_81 rfl (lv_at hl 1 rfl) ?_
    refine lv_aload_n hx hb dX2_restoreLatest_82 rfl (lv_at hl 0 rfl) ?_
    refine z_get (v := .ref be) (Cn := RX2) (T := TX2) (N := 7) (ci := 2) C in_X2_restoreLatest_X2 hK hP 0 rfl rfl 4 (by decide) (List.mem_of_getElem? (i := 7) rfl) rfl dX2_restoreLatest_83 ?_
    refine lv_aload_n hx hb dX2_restoreLatest_86 rfl (lv_at hl 0 rfl) ?_
    refine z_get (v := .int (iI ((nx + 7) % 8))) (Cn := RX2) (T := TX2) (N := 7) (ci := 2) C in_X2_restoreLatest_X2 hK hP 0 rfl rfl 5 (by decide) (List.mem_of_getElem? (i := 2) rfl) rfl dX2_restoreLatest_87 ?_
    refine z_iald hx hb hK hP 5 rfl (by omega) (by omega) (Nat.le_of_ble_eq_true rfl) dX2_restoreLatest_90 ?_
    refine z_cV (As := [.int (iI (RE ((nx + 7) % 8)))]) (rest := []) C (m_X4_setReach (l := l) (g := g) (h := h) (hn := hn) (hs := hs) (fl := (RF ((nx + 7) % 8))) (re := re) (v := RE ((nx + 7) % 8)) ) (cwV 1 C.2.2.2.2 gX2_restoreLatest_X4_setReach rfl rfl rfl (by decide +kernel) ⟨Nat.le_of_ble_eq_true rfl, Nat.le_of_ble_eq_true rfl⟩) hK hP hD hS hA [6] (by decide) rfl (fun _ => rfl) 6 rfl rfl rfl hl.1 rfl (Nat.le_of_ble_eq_true rfl) dX2_restoreLatest_91 ⟨Nat.zero_le _, Nat.zero_le _⟩ (fun u_6 H locs hq_7 hP hD hS => ?_)
    have hP : zP g [(b, .inr (2, [.ref bn, .ref br, .ref bs, .ref bf, .ref be, .int (iI ((nx + 7) % 8)), .int (iI (dp - 1))])), zI g bn 1024 NB, zI g br 8 RR, zI g bs 8 RS, zI g bf 8 RF, zI g be 8 RE, (h, .inr (4, [.ref hn, .ref hs, .int (iI (RF ((nx + 7) % 8))), .int (iI (RE ((nx + 7) % 8)))])), zI g hn 640 (fun j => if (RR ((nx + 7) % 8)) * 128 ≤ j ∧ j < (RR ((nx + 7) % 8)) * 128 + 128 then NB ((((nx + 7) % 8) * 128) + (j - (RR ((nx + 7) % 8)) * 128)) else NU j), zI g hs 5 (ups SZ (RR ((nx + 7) % 8)) (RS ((nx + 7) % 8)))] H := hP
    have hD : va_D A [(b, .inr (2, [.ref bn, .ref br, .ref bs, .ref bf, .ref be, .int (iI ((nx + 7) % 8)), .int (iI (dp - 1))])), zI g bn 1024 NB, zI g br 8 RR, zI g bs 8 RS, zI g bf 8 RF, zI g be 8 RE, (h, .inr (4, [.ref hn, .ref hs, .int (iI (RF ((nx + 7) % 8))), .int (iI (RE ((nx + 7) % 8)))])), zI g hn 640 (fun j => if (RR ((nx + 7) % 8)) * 128 ≤ j ∧ j < (RR ((nx + 7) % 8)) * 128 + 128 then NB ((((nx + 7) % 8) * 128) + (j - (RR ((nx + 7) % 8)) * 128)) else NU j), zI g hs 5 (ups SZ (RR ((nx + 7) % 8)) (RS ((nx + 7) % 8)))] := hD
    exact z_retV hx hb hlk hr hQ dX2_restoreLatest_94 hS () (trivial) (hP)
  · exfalso; omega
