set_option maxRecDepth 20000 in
theorem in_X0_clear_X0 : ∀ w ∈ u_ws RX0 TX0 6, w ∈ wsX0_clear := zmem_of _ [6, 7, 8, 9, 10, 11] (by decide +kernel)
set_option maxHeartbeats 4000000 in
set_option maxRecDepth 100000 in
theorem m_X0_clear (l : Launch) (g : zG) (bb bc bo : Nat) (rk he kn al : Int) (CE : Int → Int)  : zV l yX0_clear wsX0_clear ({ frames := 0, cells := 0, slots := 0, locals := 0 }) g [.ref bb] [(bb, .inr (0, [.ref bc, .ref bo, .int (iI rk), .int (iI he), .int (iI kn), .int (iI al)])), zI g bc 124 CE] (S := Unit) (fun _ => True) (fun _ => [(bb, .inr (0, [.ref bc, .ref bo, .int (iI 0), .int (iI 0), .int (iI 0), .int (iI 0)])), zI g bc 124 (fun _ => 0)]) := by
  refine z_entV (cc := cX0_clear) (nL := 2) (ret := none) (own := RX0) (by decide) rfl rfl (Nat.le_of_ble_eq_true rfl) ?_
  intro p e s m below meth c Q ls A C hlk hr hQ hP hK hD hA hS hl
  have hx := C.1
  have hb := C.2.1
  have hl : lv_has ls 2 [(0, .ref bb)] := hl
  obtain ⟨H, hHe⟩ : ∃ H, H = s.heap := ⟨_, rfl⟩
  obtain ⟨locs, hLe⟩ : ∃ q : List Loc, q = [] := ⟨_, rfl⟩
  have hP : zP g [(bb, .inr (0, [.ref bc, .ref bo, .int (iI rk), .int (iI he), .int (iI kn), .int (iI al)])), zI g bc 124 CE] H := by rw [hHe]; exact hP
  have hS : va_S A s.heap H locs := by rw [hHe, hLe]; exact hS
  suffices hgo : W p l e ({ frames := 0, cells := 0, slots := 0, locals := 0 }) s m ([.ref bb] : List Value).toArray below meth c H locs 0 0 Q (F0 m 0 ls []) by rw [hHe, hLe] at hgo; exact hgo
  clear hHe hLe
  refine lv_iconst (v := iI 0) hx hb dX0_clear_0 rfl ?_
  refine lv_istore_n (lv' := [(1, .int (iI 0)), (0, .ref bb)]) hx hb dX0_clear_1 rfl hl (by decide) rfl (fun ls hl => ?_)
  have L2 : ∀ (n : Nat) (k : Int) (CE : Int → Int), (i1 : 0 ≤ k) → (i2 : k ≤ 124) → (i3 : ∀ j, 0 ≤ j → j < k → CE j = 0) → (hms : 124 - k < (n : Int)) → ∀ (H : Heap) (locs : List Loc) (ls : Array Slot), lv_has ls 2 [(0, .ref bb), (1, .int (iI k))] → zP g [(bb, .inr (0, [.ref bc, .ref bo, .int (iI rk), .int (iI he), .int (iI kn), .int (iI al)])), zI g bc 124 CE] H → va_D A [(bb, .inr (0, [.ref bc, .ref bo, .int (iI rk), .int (iI he), .int (iI kn), .int (iI al)])), zI g bc 124 CE] → va_S A s.heap H locs → W p l e ({ frames := 0, cells := 0, slots := 0, locals := 0 }) s m ([.ref bb] : List Value).toArray below meth c H locs 0 0 Q (F0 m 2 ls []) := by
    clear hP hD hS hl
    intro n
    induction n with
    | zero =>
      intro k CE i1 i2 i3 hms H locs ls hl hP hD hS
      exfalso; omega
    | succ n ih2 =>
      intro k CE i1 i2 i3 hms H locs ls hl hP hD hS
      refine lv_iload_n hx hb dX0_clear_2 rfl (lv_at hl 1 rfl) ?_
      refine lv_bipush (v := iI 124) hx hb dX0_clear_3 (by decide +kernel) ?_
      refine z_icmp_ge (tgt := 21) hx hb dX0_clear_5 (by decide) (by omega) (by omega) (fun c_1 => ?_) (fun c_1 => ?_)
      · have hP := zP_arr hP 1 (fun _ => 0) rfl (fun j g1 g2 => i3 j g1 (by omega))
        have hD := zD_set (c1 := (zI g bc 124 (fun _ => 0)).2) hD 1 rfl
        have hP : zP g [(bb, .inr (0, [.ref bc, .ref bo, .int (iI rk), .int (iI he), .int (iI kn), .int (iI al)])), zI g bc 124 (fun _ => 0)] H := hP
        have hD : va_D A [(bb, .inr (0, [.ref bc, .ref bo, .int (iI rk), .int (iI he), .int (iI kn), .int (iI al)])), zI g bc 124 (fun _ => 0)] := hD
        refine lv_aload_n hx hb dX0_clear_21 rfl (lv_at hl 0 rfl) ?_
        refine lv_iconst (v := iI 0) hx hb dX0_clear_22 rfl ?_
        refine z_put (v := .int (iI 0)) (Cn := RX0) (T := TX0) (N := 6) (ci := 0) C in_X0_clear_X0 tyX0 tyX0_ok nmX0 hK hP hD hS 0 rfl rfl 2 (by decide) (List.mem_of_getElem? (i := 2) rfl) rfl rfl rfl (Nat.le_of_ble_eq_true rfl) dX0_clear_23 (fun H locs hP hD hS => ?_)
        have hP : zP g [(bb, .inr (0, [.ref bc, .ref bo, .int (iI 0), .int (iI he), .int (iI kn), .int (iI al)])), zI g bc 124 (fun _ => 0)] H := hP
        have hD : va_D A [(bb, .inr (0, [.ref bc, .ref bo, .int (iI 0), .int (iI he), .int (iI kn), .int (iI al)])), zI g bc 124 (fun _ => 0)] := hD
        refine lv_aload_n hx hb dX0_clear_26 rfl (lv_at hl 0 rfl) ?_
        refine lv_iconst (v := iI 0) hx hb dX0_clear_27 rfl ?_
        refine z_put (v := .int (iI 0)) (Cn := RX0) (T := TX0) (N := 6) (ci := 0) C in_X0_clear_X0 tyX0 tyX0_ok nmX0 hK hP hD hS 0 rfl rfl 3 (by decide) (List.mem_of_getElem? (i := 3) rfl) rfl rfl rfl (Nat.le_of_ble_eq_true rfl) dX0_clear_28 (fun H locs hP hD hS => ?_)
        have hP : zP g [(bb, .inr (0, [.ref bc, .ref bo, .int (iI 0), .int (iI 0), .int (iI kn), .int (iI al)])), zI g bc 124 (fun _ => 0)] H := hP
        have hD : va_D A [(bb, .inr (0, [.ref bc, .ref bo, .int (iI 0), .int (iI 0), .int (iI kn), .int (iI al)])), zI g bc 124 (fun _ => 0)] := hD
        refine lv_aload_n hx hb dX0_clear_31 rfl (lv_at hl 0 rfl) ?_
        refine lv_iconst (v := iI 0) hx hb dX0_clear_32 rfl ?_
        refine z_put (v := .int (iI 0)) (Cn := RX0) (T := TX0) (N := 6) (ci := 0) C in_X0_clear_X0 tyX0 tyX0_ok nmX0 hK hP hD hS 0 rfl rfl 4 (by decide) (List.mem_of_getElem? (i := 4) rfl) rfl rfl rfl (Nat.le_of_ble_eq_true rfl) dX0_clear_33 (fun H locs hP hD hS => ?_)
        have hP : zP g [(bb, .inr (0, [.ref bc, .ref bo, .int (iI 0), .int (iI 0), .int (iI 0), .int (iI al)])), zI g bc 124 (fun _ => 0)] H := hP
        have hD : va_D A [(bb, .inr (0, [.ref bc, .ref bo, .int (iI 0), .int (iI 0), .int (iI 0), .int (iI al)])), zI g bc 124 (fun _ => 0)] := hD
        refine lv_aload_n hx hb dX0_clear_36 rfl (lv_at hl 0 rfl) ?_
        refine lv_iconst (v := iI 0) hx hb dX0_clear_37 rfl ?_
        refine z_put (v := .int (iI 0)) (Cn := RX0) (T := TX0) (N := 6) (ci := 0) C in_X0_clear_X0 tyX0 tyX0_ok nmX0 hK hP hD hS 0 rfl rfl 5 (by decide) (List.mem_of_getElem? (i := 5) rfl) rfl rfl rfl (Nat.le_of_ble_eq_true rfl) dX0_clear_38 (fun H locs hP hD hS => ?_)
        have hP : zP g [(bb, .inr (0, [.ref bc, .ref bo, .int (iI 0), .int (iI 0), .int (iI 0), .int (iI 0)])), zI g bc 124 (fun _ => 0)] H := hP
        have hD : va_D A [(bb, .inr (0, [.ref bc, .ref bo, .int (iI 0), .int (iI 0), .int (iI 0), .int (iI 0)])), zI g bc 124 (fun _ => 0)] := hD
        exact z_retV hx hb hlk hr hQ dX0_clear_41 hS () (trivial) (hP)
      · refine lv_aload_n hx hb dX0_clear_8 rfl (lv_at hl 0 rfl) ?_
        refine z_get (v := .ref bc) (Cn := RX0) (T := TX0) (N := 6) (ci := 0) C in_X0_clear_X0 hK hP 0 rfl rfl 0 (by decide) (List.mem_of_getElem? (i := 1) rfl) rfl dX0_clear_9 ?_
        refine lv_iload_n hx hb dX0_clear_12 rfl (lv_at hl 1 rfl) ?_
        refine lv_iconst (v := iI 0) hx hb dX0_clear_13 rfl ?_
        refine z_iast hx hb hK hP hD hS 1 rfl (by omega) (by omega) (Nat.le_of_ble_eq_true rfl) dX0_clear_14 (fun H locs hP hD hS => ?_)
        have hP : zP g [(bb, .inr (0, [.ref bc, .ref bo, .int (iI rk), .int (iI he), .int (iI kn), .int (iI al)])), zI g bc 124 (ups CE k 0)] H := hP
        have hD : va_D A [(bb, .inr (0, [.ref bc, .ref bo, .int (iI rk), .int (iI he), .int (iI kn), .int (iI al)])), zI g bc 124 (ups CE k 0)] := hD
        refine z_iinc (b := k + 1) (lv' := [(1, .int (iI (k + 1))), (0, .ref bb)]) hx hb dX0_clear_15 hl (k := 1) rfl (rfl) (by decide) rfl (fun ls hl => ?_)
        refine lv_goto (tgt := 2) hx hb dX0_clear_18 (by decide) ?_
        exact ih2 (k + 1) (ups CE k 0) (by omega) (by omega) (fun j g1 g2 => by by_cases hj : j = k; (· rw [hj, ups_s]); (· rw [ups_n _ _ hj]; exact i3 j g1 (by omega))) (by omega) H locs ls (lv_sub hl [1, 0] rfl) (hP) (hD) hS
  exact L2 (125) 0 CE (by omega) (by omega) (fun j g1 g2 => by omega) (by omega) H locs ls (lv_sub hl [1, 0] rfl) (hP) (hD) hS
set_option maxRecDepth 20000 in
theorem in_X0_castFor_X0 : ∀ w ∈ u_ws RX0 TX0 6, w ∈ wsX0_castFor := zmem_of _ [16, 17, 18, 19, 20, 21] (by decide +kernel)
set_option maxHeartbeats 4000000 in
set_option maxRecDepth 100000 in
theorem m_X0_castFor (l : Launch) (g : zG) (bb bc bo : Nat) (rk he kn al : Int) (d ds df de : Nat) (un : Int) (CE EN FD : Int → Int) (re key u : Int) (k1 : 0 ≤ key) (k2 : key < 384) (u1 : 0 ≤ u) (u2 : u < 16) (hE : enOK FD re EN) (hT : stt FD re 384 ≤ 320) : zV l yX0_castFor wsX0_castFor ({ frames := 2, cells := 0, slots := 0, locals := 43 }) g [.ref bb, .ref d, .int (iI key), .int (iI u)] [(bb, .inr (0, [.ref bc, .ref bo, .int (iI rk), .int (iI he), .int (iI kn), .int (iI al)])), zI g bc 124 CE, (d, .inr (1, [.ref ds, .ref df, .ref de, .int (iI un)])), zI g ds 385 (stt FD re), zI g de 320 EN] (S := Unit) (fun _ => sumZ (fun x => CE x + vc FD re u key x 64) 124 = sumZ CE 124 + cnt FD re key 64) (fun _ => [(bb, .inr (0, [.ref bc, .ref bo, .int (iI rk), .int (iI he), .int (iI (kn + bI (0 < cnt FD re key 64))), .int (iI (al + cnt FD re key 64))])), zI g bc 124 (fun x => CE x + vc FD re u key x 64), (d, .inr (1, [.ref ds, .ref df, .ref de, .int (iI un)])), zI g ds 385 (stt FD re), zI g de 320 EN]) := by
  refine z_entV (cc := cX0_castFor) (nL := 9) (ret := none) (own := RX0) (by decide) rfl rfl (Nat.le_of_ble_eq_true rfl) ?_
  intro p e s m below meth c Q ls A C hlk hr hQ hP hK hD hA hS hl
  have hx := C.1
  have hb := C.2.1
  have hl : lv_has ls 9 [(0, .ref bb), (1, .ref d), (2, .int (iI key)), (3, .int (iI u))] := hl
  obtain ⟨H, hHe⟩ : ∃ H, H = s.heap := ⟨_, rfl⟩
  obtain ⟨locs, hLe⟩ : ∃ q : List Loc, q = [] := ⟨_, rfl⟩
  have hP : zP g [(bb, .inr (0, [.ref bc, .ref bo, .int (iI rk), .int (iI he), .int (iI kn), .int (iI al)])), zI g bc 124 CE, (d, .inr (1, [.ref ds, .ref df, .ref de, .int (iI un)])), zI g ds 385 (stt FD re), zI g de 320 EN] H := by rw [hHe]; exact hP
  have hS : va_S A s.heap H locs := by rw [hHe, hLe]; exact hS
  suffices hgo : W p l e ({ frames := 2, cells := 0, slots := 0, locals := 43 }) s m ([.ref bb, .ref d, .int (iI key), .int (iI u)] : List Value).toArray below meth c H locs 0 0 Q (F0 m 0 ls []) by rw [hHe, hLe] at hgo; exact hgo
  clear hHe hLe
  have hcr := cnt_rg FD re key (J := 64) (by omega)
  have hs1 := stt_rg (k := key) k1 (by omega) hT
  have hs2 := stt_rg (k := key + 1) (by omega) (by omega) hT
  have hss := stt_s FD re k1
  refine lv_aload_n hx hb dX0_castFor_0 rfl (lv_at hl 1 rfl) ?_
  refine lv_iload_n hx hb dX0_castFor_1 rfl (lv_at hl 2 rfl) ?_
  refine z_cS (As := [.int (iI key)]) (rest := []) C (m_X1_placesOf (l := l) (g := g) (d := d) (ds := ds) (df := df) (de := de) (un := un) (ST := stt FD re) (key := key) (k1 := by omega) (k2 := by omega)) (cwV 1 C.2.2.2.2 gX0_castFor_X1_placesOf rfl rfl rfl (by decide +kernel) ⟨Nat.le_of_ble_eq_true rfl, Nat.le_of_ble_eq_true rfl⟩) hK hP [2, 3] rfl 2 rfl rfl rfl hl.1 rfl (Nat.le_of_ble_eq_true rfl) dX0_castFor_2 ⟨Nat.zero_le _, Nat.zero_le _⟩ ?_
  refine z_top (b := cnt FD re key 64) (by rw [hss]; omega) ?_
  refine lv_istore (lv' := [(4, .int (iI (cnt FD re key 64))), (0, .ref bb), (1, .ref d), (2, .int (iI key)), (3, .int (iI u))]) hx hb dX0_castFor_5 hl (by decide) rfl (fun ls hl => ?_)
  refine lv_iload hx hb dX0_castFor_7 (lv_at hl 0 rfl) ?_
  refine z_if_le (tgt := 22) hx hb dX0_castFor_9 (by decide) (by omega) (fun hc => ?_) (fun hc => ?_)
  · have hP := zP_fld hP 0 rfl 4 (kn + bI (0 < cnt FD re key 64)) rfl (by rw [bI_f (by omega)]; omega)
    have hD := zD_set (c1 := ((bb, .inr (0, [.ref bc, .ref bo, .int (iI rk), .int (iI he), .int (iI (kn + bI (0 < cnt FD re key 64))), .int (iI al)]))).2) hD 0 rfl
    have hP : zP g [(bb, .inr (0, [.ref bc, .ref bo, .int (iI rk), .int (iI he), .int (iI (kn + bI (0 < cnt FD re key 64))), .int (iI al)])), zI g bc 124 CE, (d, .inr (1, [.ref ds, .ref df, .ref de, .int (iI un)])), zI g ds 385 (stt FD re), zI g de 320 EN] H := hP
    have hD : va_D A [(bb, .inr (0, [.ref bc, .ref bo, .int (iI rk), .int (iI he), .int (iI (kn + bI (0 < cnt FD re key 64))), .int (iI al)])), zI g bc 124 CE, (d, .inr (1, [.ref ds, .ref df, .ref de, .int (iI un)])), zI g ds 385 (stt FD re), zI g de 320 EN] := hD
    refine lv_iconst (v := iI 0) hx hb dX0_castFor_22 rfl ?_
    refine lv_istore (lv' := [(5, .int (iI 0)), (4, .int (iI (cnt FD re key 64))), (0, .ref bb), (1, .ref d), (2, .int (iI key)), (3, .int (iI u))]) hx hb dX0_castFor_23 hl (by decide) rfl (fun ls hl => ?_)
    have L25 : ∀ (n : Nat) (ix : Int) (CF : Int → Int), (i1 : 0 ≤ ix) → (i2 : ix ≤ cnt FD re key 64) → (i3 : ∀ j, 0 ≤ j → j < 124 → CF j = CE j + vci FD re u key j ix) → (i4 : sumZ CF 124 = sumZ CE 124 + ix) → (hms : cnt FD re key 64 - ix < (n : Int)) → ∀ (H : Heap) (locs : List Loc) (ls : Array Slot), lv_has ls 9 [(0, .ref bb), (1, .ref d), (2, .int (iI key)), (3, .int (iI u)), (4, .int (iI (cnt FD re key 64))), (5, .int (iI ix))] → zP g [(bb, .inr (0, [.ref bc, .ref bo, .int (iI rk), .int (iI he), .int (iI (kn + bI (0 < cnt FD re key 64))), .int (iI (al + ix))])), zI g bc 124 CF, (d, .inr (1, [.ref ds, .ref df, .ref de, .int (iI un)])), zI g ds 385 (stt FD re), zI g de 320 EN] H → va_D A [(bb, .inr (0, [.ref bc, .ref bo, .int (iI rk), .int (iI he), .int (iI (kn + bI (0 < cnt FD re key 64))), .int (iI (al + ix))])), zI g bc 124 CF, (d, .inr (1, [.ref ds, .ref df, .ref de, .int (iI un)])), zI g ds 385 (stt FD re), zI g de 320 EN] → va_S A s.heap H locs → W p l e ({ frames := 2, cells := 0, slots := 0, locals := 43 }) s m ([.ref bb, .ref d, .int (iI key), .int (iI u)] : List Value).toArray below meth c H locs 0 0 Q (F0 m 25 ls []) := by
      clear hP hD hS hl
      intro n
      induction n with
      | zero =>
        intro ix CF i1 i2 i3 i4 hms H locs ls hl hP hD hS
        exfalso; omega
      | succ n ih25 =>
        intro ix CF i1 i2 i3 i4 hms H locs ls hl hP hD hS
        refine lv_iload hx hb dX0_castFor_25 (lv_at hl 5 rfl) ?_
        refine lv_iload hx hb dX0_castFor_27 (lv_at hl 4 rfl) ?_
        refine z_icmp_ge (tgt := 95) hx hb dX0_castFor_29 (by decide) (by omega) (by omega) (fun c_1 => ?_) (fun c_1 => ?_)
        · have hP := zP_arr hP 1 (fun x => CE x + vc FD re u key x 64) rfl (fun j g1 g2 => by rw [i3 j g1 (by omega), show ix = cnt FD re key 64 by omega, vci_e])
          have hD := zD_set (c1 := (zI g bc 124 (fun x => CE x + vc FD re u key x 64)).2) hD 1 rfl
          have hP : zP g [(bb, .inr (0, [.ref bc, .ref bo, .int (iI rk), .int (iI he), .int (iI (kn + bI (0 < cnt FD re key 64))), .int (iI (al + ix))])), zI g bc 124 (fun x => CE x + vc FD re u key x 64), (d, .inr (1, [.ref ds, .ref df, .ref de, .int (iI un)])), zI g ds 385 (stt FD re), zI g de 320 EN] H := hP
          have hD : va_D A [(bb, .inr (0, [.ref bc, .ref bo, .int (iI rk), .int (iI he), .int (iI (kn + bI (0 < cnt FD re key 64))), .int (iI (al + ix))])), zI g bc 124 (fun x => CE x + vc FD re u key x 64), (d, .inr (1, [.ref ds, .ref df, .ref de, .int (iI un)])), zI g ds 385 (stt FD re), zI g de 320 EN] := hD
          have hP := zP_fld hP 0 rfl 5 (al + cnt FD re key 64) rfl (by rw [show ix = cnt FD re key 64 by omega])
          have hD := zD_set (c1 := ((bb, .inr (0, [.ref bc, .ref bo, .int (iI rk), .int (iI he), .int (iI (kn + bI (0 < cnt FD re key 64))), .int (iI (al + cnt FD re key 64))]))).2) hD 0 rfl
          have hP : zP g [(bb, .inr (0, [.ref bc, .ref bo, .int (iI rk), .int (iI he), .int (iI (kn + bI (0 < cnt FD re key 64))), .int (iI (al + cnt FD re key 64))])), zI g bc 124 (fun x => CE x + vc FD re u key x 64), (d, .inr (1, [.ref ds, .ref df, .ref de, .int (iI un)])), zI g ds 385 (stt FD re), zI g de 320 EN] H := hP
          have hD : va_D A [(bb, .inr (0, [.ref bc, .ref bo, .int (iI rk), .int (iI he), .int (iI (kn + bI (0 < cnt FD re key 64))), .int (iI (al + cnt FD re key 64))])), zI g bc 124 (fun x => CE x + vc FD re u key x 64), (d, .inr (1, [.ref ds, .ref df, .ref de, .int (iI un)])), zI g ds 385 (stt FD re), zI g de 320 EN] := hD
          exact z_retV hx hb hlk hr hQ dX0_castFor_95 hS () (by
          have e9 : sumZ (fun x => CE x + vc FD re u key x 64) 124 = sumZ CF 124 := sumZ_cong (fun j g1 g2 => by rw [i3 j g1 g2, show ix = cnt FD re key 64 by omega, vci_e])
          rw [e9, i4, show ix = cnt FD re key 64 by omega]) (hP)
        · obtain ⟨J, J1, J2, J3, J4⟩ := cnt_nth (FD := FD) (re := re) (key := key) 64 ix i1 (by omega)
          have J2 : J < 64 := by omega
          have hvr := vcl_rg (x := J) (u := u) (by omega) (by omega) (by omega) (by omega)
          refine lv_aload_n hx hb dX0_castFor_32 rfl (lv_at hl 1 rfl) ?_
          refine lv_iload_n hx hb dX0_castFor_33 rfl (lv_at hl 2 rfl) ?_
          refine lv_iload hx hb dX0_castFor_34 (lv_at hl 5 rfl) ?_
          refine z_cS (As := [.int (iI key), .int (iI ix)]) (rest := []) C (m_X1_placeOf (l := l) (g := g) (d := d) (ds := ds) (df := df) (de := de) (un := un) (ST := stt FD re) (EN := EN) (key := key) (ix := ix) (k1 := by omega) (k2 := by omega) (x1 := by omega) (x2 := by omega) (s1 := hs1.1) (s2 := hs2.1) (s3 := hs2.2) (s4 := hs1.2)) (cwV 2 C.2.2.2.2 gX0_castFor_X1_placeOf rfl rfl rfl (by decide +kernel) ⟨Nat.le_of_ble_eq_true rfl, Nat.le_of_ble_eq_true rfl⟩) hK hP [2, 3, 4] rfl 2 rfl rfl rfl hl.1 rfl (Nat.le_of_ble_eq_true rfl) dX0_castFor_36 ⟨Nat.zero_le _, Nat.zero_le _⟩ ?_
          refine z_top (b := 1000 * (J / 16) + J % 16) (by rw [if_pos (by rw [hss]; omega), ← J4]; exact hE key J k1 k2 J1 J2 J3) ?_
          refine lv_istore (lv' := [(6, .int (iI (1000 * (J / 16) + J % 16))), (0, .ref bb), (1, .ref d), (2, .int (iI key)), (3, .int (iI u)), (4, .int (iI (cnt FD re key 64))), (5, .int (iI ix))]) hx hb dX0_castFor_39 hl (by decide) rfl (fun ls hl => ?_)
          refine lv_iload hx hb dX0_castFor_41 (lv_at hl 0 rfl) ?_
          refine lv_sipush (v := iI 1000) hx hb dX0_castFor_43 (by decide +kernel) ?_
          refine z_idivN hx hb dX0_castFor_46 (by omega) (by omega) (by omega) (by omega) ?_
          refine z_top (b := J / 16) (by omega) ?_
          refine lv_istore (lv' := [(7, .int (iI (J / 16))), (6, .int (iI (1000 * (J / 16) + J % 16))), (0, .ref bb), (1, .ref d), (2, .int (iI key)), (3, .int (iI u)), (4, .int (iI (cnt FD re key 64))), (5, .int (iI ix))]) hx hb dX0_castFor_47 hl (by decide) rfl (fun ls hl => ?_)
          refine lv_iload hx hb dX0_castFor_49 (lv_at hl 1 rfl) ?_
          refine lv_sipush (v := iI 1000) hx hb dX0_castFor_51 (by decide +kernel) ?_
          refine z_iremN hx hb dX0_castFor_54 (by omega) (by omega) (by omega) (by omega) ?_
          refine z_top (b := J % 16) (by omega) ?_
          refine lv_iload_n hx hb dX0_castFor_55 rfl (lv_at hl 5 rfl) ?_
          refine z_isub hx hb dX0_castFor_56 ?_
          refine lv_istore (lv' := [(8, .int (iI ((J % 16) - u))), (7, .int (iI (J / 16))), (6, .int (iI (1000 * (J / 16) + J % 16))), (0, .ref bb), (1, .ref d), (2, .int (iI key)), (3, .int (iI u)), (4, .int (iI (cnt FD re key 64))), (5, .int (iI ix))]) hx hb dX0_castFor_57 hl (by decide) rfl (fun ls hl => ?_)
          refine lv_aload_n hx hb dX0_castFor_59 rfl (lv_at hl 3 rfl) ?_
          refine z_get (v := .ref bc) (Cn := RX0) (T := TX0) (N := 6) (ci := 0) C in_X0_castFor_X0 hK hP 0 rfl rfl 0 (by decide) (List.mem_of_getElem? (i := 2) rfl) rfl dX0_castFor_60 ?_
          refine lv_iload hx hb dX0_castFor_63 (lv_at hl 1 rfl) ?_
          refine lv_bipush (v := iI 31) hx hb dX0_castFor_65 (by decide +kernel) ?_
          refine z_imul hx hb dX0_castFor_67 ?_
          refine lv_iload hx hb dX0_castFor_68 (lv_at hl 0 rfl) ?_
          refine z_iadd hx hb dX0_castFor_70 ?_
          refine lv_bipush (v := iI 15) hx hb dX0_castFor_71 (by decide +kernel) ?_
          refine z_iadd hx hb dX0_castFor_73 ?_
          refine z_top (b := vcl J u) (rfl) ?_
          refine lv_dup2_11 hx hb dX0_castFor_74 rfl rfl ?_
          refine z_iald hx hb hK hP 1 rfl (by omega) (by omega) (Nat.le_of_ble_eq_true rfl) dX0_castFor_75 ?_
          refine lv_iconst (v := iI 1) hx hb dX0_castFor_76 rfl ?_
          refine z_iadd hx hb dX0_castFor_77 ?_
          refine z_iast hx hb hK hP hD hS 1 rfl (by omega) (by omega) (Nat.le_of_ble_eq_true rfl) dX0_castFor_78 (fun H locs hP hD hS => ?_)
          have hP : zP g [(bb, .inr (0, [.ref bc, .ref bo, .int (iI rk), .int (iI he), .int (iI (kn + bI (0 < cnt FD re key 64))), .int (iI (al + ix))])), zI g bc 124 (ups CF (vcl J u) ((CF (vcl J u)) + 1)), (d, .inr (1, [.ref ds, .ref df, .ref de, .int (iI un)])), zI g ds 385 (stt FD re), zI g de 320 EN] H := hP
          have hD : va_D A [(bb, .inr (0, [.ref bc, .ref bo, .int (iI rk), .int (iI he), .int (iI (kn + bI (0 < cnt FD re key 64))), .int (iI (al + ix))])), zI g bc 124 (ups CF (vcl J u) ((CF (vcl J u)) + 1)), (d, .inr (1, [.ref ds, .ref df, .ref de, .int (iI un)])), zI g ds 385 (stt FD re), zI g de 320 EN] := hD
          refine lv_aload_n hx hb dX0_castFor_79 rfl (lv_at hl 3 rfl) ?_
          refine lv_dup hx hb dX0_castFor_80 rfl ?_
          refine z_get (v := .int (iI (al + ix))) (Cn := RX0) (T := TX0) (N := 6) (ci := 0) C in_X0_castFor_X0 hK hP 0 rfl rfl 5 (by decide) (List.mem_of_getElem? (i := 3) rfl) rfl dX0_castFor_81 ?_
          refine lv_iconst (v := iI 1) hx hb dX0_castFor_84 rfl ?_
          refine z_iadd hx hb dX0_castFor_85 ?_
          refine z_put (v := .int (iI ((al + ix) + 1))) (Cn := RX0) (T := TX0) (N := 6) (ci := 0) C in_X0_castFor_X0 tyX0 tyX0_ok nmX0 hK hP hD hS 0 rfl rfl 5 (by decide) (List.mem_of_getElem? (i := 3) rfl) rfl rfl rfl (Nat.le_of_ble_eq_true rfl) dX0_castFor_86 (fun H locs hP hD hS => ?_)
          have hP : zP g [(bb, .inr (0, [.ref bc, .ref bo, .int (iI rk), .int (iI he), .int (iI (kn + bI (0 < cnt FD re key 64))), .int (iI ((al + ix) + 1))])), zI g bc 124 (ups CF (vcl J u) ((CF (vcl J u)) + 1)), (d, .inr (1, [.ref ds, .ref df, .ref de, .int (iI un)])), zI g ds 385 (stt FD re), zI g de 320 EN] H := hP
          have hD : va_D A [(bb, .inr (0, [.ref bc, .ref bo, .int (iI rk), .int (iI he), .int (iI (kn + bI (0 < cnt FD re key 64))), .int (iI ((al + ix) + 1))])), zI g bc 124 (ups CF (vcl J u) ((CF (vcl J u)) + 1)), (d, .inr (1, [.ref ds, .ref df, .ref de, .int (iI un)])), zI g ds 385 (stt FD re), zI g de 320 EN] := hD
          refine z_iinc (b := ix + 1) (lv' := [(5, .int (iI (ix + 1))), (8, .int (iI ((J % 16) - u))), (7, .int (iI (J / 16))), (6, .int (iI (1000 * (J / 16) + J % 16))), (0, .ref bb), (1, .ref d), (2, .int (iI key)), (3, .int (iI u)), (4, .int (iI (cnt FD re key 64)))]) hx hb dX0_castFor_89 hl (k := 8) rfl (rfl) (by decide) rfl (fun ls hl => ?_)
          refine lv_goto (tgt := 25) hx hb dX0_castFor_92 (by decide) ?_
          have hP := zP_fld hP 0 rfl 5 (al + (ix + 1)) rfl (by omega)
          have hD := zD_set (c1 := ((bb, .inr (0, [.ref bc, .ref bo, .int (iI rk), .int (iI he), .int (iI (kn + bI (0 < cnt FD re key 64))), .int (iI (al + (ix + 1)))]))).2) hD 0 rfl
          have hP : zP g [(bb, .inr (0, [.ref bc, .ref bo, .int (iI rk), .int (iI he), .int (iI (kn + bI (0 < cnt FD re key 64))), .int (iI (al + (ix + 1)))])), zI g bc 124 (ups CF (vcl J u) ((CF (vcl J u)) + 1)), (d, .inr (1, [.ref ds, .ref df, .ref de, .int (iI un)])), zI g ds 385 (stt FD re), zI g de 320 EN] H := hP
          have hD : va_D A [(bb, .inr (0, [.ref bc, .ref bo, .int (iI rk), .int (iI he), .int (iI (kn + bI (0 < cnt FD re key 64))), .int (iI (al + (ix + 1)))])), zI g bc 124 (ups CF (vcl J u) ((CF (vcl J u)) + 1)), (d, .inr (1, [.ref ds, .ref df, .ref de, .int (iI un)])), zI g ds 385 (stt FD re), zI g de 320 EN] := hD
          exact ih25 (ix + 1) (ups CF (vcl J u) ((CF (vcl J u)) + 1)) (by omega) (by omega) (fun j g1 g2 => by by_cases hj : j = vcl J u; (· rw [hj, ups_s, ← J4, vci_s _ J1 J2 J3, bI_t rfl, J4, i3 _ (by omega) (by omega)]; omega); (· rw [ups_n _ _ hj, ← J4, vci_s _ J1 J2 J3, bI_f (fun z => hj z.symm), J4, i3 j g1 g2]; omega)) (by rw [sumZ_ups _ _ _ (by omega) (by omega)]; omega) (by omega) H locs ls (lv_sub hl [4, 5, 6, 7, 8, 0] rfl) (hP) (hD) hS
    have hP := zP_fld hP 0 rfl 5 (al + 0) rfl (by omega)
    have hD := zD_set (c1 := ((bb, .inr (0, [.ref bc, .ref bo, .int (iI rk), .int (iI he), .int (iI (kn + bI (0 < cnt FD re key 64))), .int (iI (al + 0))]))).2) hD 0 rfl
    have hP : zP g [(bb, .inr (0, [.ref bc, .ref bo, .int (iI rk), .int (iI he), .int (iI (kn + bI (0 < cnt FD re key 64))), .int (iI (al + 0))])), zI g bc 124 CE, (d, .inr (1, [.ref ds, .ref df, .ref de, .int (iI un)])), zI g ds 385 (stt FD re), zI g de 320 EN] H := hP
    have hD : va_D A [(bb, .inr (0, [.ref bc, .ref bo, .int (iI rk), .int (iI he), .int (iI (kn + bI (0 < cnt FD re key 64))), .int (iI (al + 0))])), zI g bc 124 CE, (d, .inr (1, [.ref ds, .ref df, .ref de, .int (iI un)])), zI g ds 385 (stt FD re), zI g de 320 EN] := hD
    exact L25 (65) 0 CE (by omega) (by omega) (fun j g1 g2 => by rw [vci_0]; omega) (by omega) (by omega) H locs ls (lv_sub hl [2, 3, 4, 5, 1, 0] rfl) (hP) (hD) hS
  · refine lv_aload_n hx hb dX0_castFor_12 rfl (lv_at hl 1 rfl) ?_
    refine lv_dup hx hb dX0_castFor_13 rfl ?_
    refine z_get (v := .int (iI kn)) (Cn := RX0) (T := TX0) (N := 6) (ci := 0) C in_X0_castFor_X0 hK hP 0 rfl rfl 4 (by decide) (List.mem_of_getElem? (i := 1) rfl) rfl dX0_castFor_14 ?_
    refine lv_iconst (v := iI 1) hx hb dX0_castFor_17 rfl ?_
    refine z_iadd hx hb dX0_castFor_18 ?_
    refine z_put (v := .int (iI (kn + 1))) (Cn := RX0) (T := TX0) (N := 6) (ci := 0) C in_X0_castFor_X0 tyX0 tyX0_ok nmX0 hK hP hD hS 0 rfl rfl 4 (by decide) (List.mem_of_getElem? (i := 1) rfl) rfl rfl rfl (Nat.le_of_ble_eq_true rfl) dX0_castFor_19 (fun H locs hP hD hS => ?_)
    have hP : zP g [(bb, .inr (0, [.ref bc, .ref bo, .int (iI rk), .int (iI he), .int (iI (kn + 1)), .int (iI al)])), zI g bc 124 CE, (d, .inr (1, [.ref ds, .ref df, .ref de, .int (iI un)])), zI g ds 385 (stt FD re), zI g de 320 EN] H := hP
    have hD : va_D A [(bb, .inr (0, [.ref bc, .ref bo, .int (iI rk), .int (iI he), .int (iI (kn + 1)), .int (iI al)])), zI g bc 124 CE, (d, .inr (1, [.ref ds, .ref df, .ref de, .int (iI un)])), zI g ds 385 (stt FD re), zI g de 320 EN] := hD
    have hP := zP_fld hP 0 rfl 4 (kn + bI (0 < cnt FD re key 64)) rfl (by rw [bI_t (by omega)])
    have hD := zD_set (c1 := ((bb, .inr (0, [.ref bc, .ref bo, .int (iI rk), .int (iI he), .int (iI (kn + bI (0 < cnt FD re key 64))), .int (iI al)]))).2) hD 0 rfl
    have hP : zP g [(bb, .inr (0, [.ref bc, .ref bo, .int (iI rk), .int (iI he), .int (iI (kn + bI (0 < cnt FD re key 64))), .int (iI al)])), zI g bc 124 CE, (d, .inr (1, [.ref ds, .ref df, .ref de, .int (iI un)])), zI g ds 385 (stt FD re), zI g de 320 EN] H := hP
    have hD : va_D A [(bb, .inr (0, [.ref bc, .ref bo, .int (iI rk), .int (iI he), .int (iI (kn + bI (0 < cnt FD re key 64))), .int (iI al)])), zI g bc 124 CE, (d, .inr (1, [.ref ds, .ref df, .ref de, .int (iI un)])), zI g ds 385 (stt FD re), zI g de 320 EN] := hD
    refine lv_iconst (v := iI 0) hx hb dX0_castFor_22 rfl ?_
    refine lv_istore (lv' := [(5, .int (iI 0)), (4, .int (iI (cnt FD re key 64))), (0, .ref bb), (1, .ref d), (2, .int (iI key)), (3, .int (iI u))]) hx hb dX0_castFor_23 hl (by decide) rfl (fun ls hl => ?_)
    have L25 : ∀ (n : Nat) (ix : Int) (CF : Int → Int), (i1 : 0 ≤ ix) → (i2 : ix ≤ cnt FD re key 64) → (i3 : ∀ j, 0 ≤ j → j < 124 → CF j = CE j + vci FD re u key j ix) → (i4 : sumZ CF 124 = sumZ CE 124 + ix) → (hms : cnt FD re key 64 - ix < (n : Int)) → ∀ (H : Heap) (locs : List Loc) (ls : Array Slot), lv_has ls 9 [(0, .ref bb), (1, .ref d), (2, .int (iI key)), (3, .int (iI u)), (4, .int (iI (cnt FD re key 64))), (5, .int (iI ix))] → zP g [(bb, .inr (0, [.ref bc, .ref bo, .int (iI rk), .int (iI he), .int (iI (kn + bI (0 < cnt FD re key 64))), .int (iI (al + ix))])), zI g bc 124 CF, (d, .inr (1, [.ref ds, .ref df, .ref de, .int (iI un)])), zI g ds 385 (stt FD re), zI g de 320 EN] H → va_D A [(bb, .inr (0, [.ref bc, .ref bo, .int (iI rk), .int (iI he), .int (iI (kn + bI (0 < cnt FD re key 64))), .int (iI (al + ix))])), zI g bc 124 CF, (d, .inr (1, [.ref ds, .ref df, .ref de, .int (iI un)])), zI g ds 385 (stt FD re), zI g de 320 EN] → va_S A s.heap H locs → W p l e ({ frames := 2, cells := 0, slots := 0, locals := 43 }) s m ([.ref bb, .ref d, .int (iI key), .int (iI u)] : List Value).toArray below meth c H locs 0 0 Q (F0 m 25 ls []) := by
      clear hP hD hS hl
      intro n
      induction n with
      | zero =>
        intro ix CF i1 i2 i3 i4 hms H locs ls hl hP hD hS
        exfalso; omega
      | succ n ih25 =>
        intro ix CF i1 i2 i3 i4 hms H locs ls hl hP hD hS
        refine lv_iload hx hb dX0_castFor_25 (lv_at hl 5 rfl) ?_
        refine lv_iload hx hb dX0_castFor_27 (lv_at hl 4 rfl) ?_
        refine z_icmp_ge (tgt := 95) hx hb dX0_castFor_29 (by decide) (by omega) (by omega) (fun c_2 => ?_) (fun c_2 => ?_)
        · have hP := zP_arr hP 1 (fun x => CE x + vc FD re u key x 64) rfl (fun j g1 g2 => by rw [i3 j g1 (by omega), show ix = cnt FD re key 64 by omega, vci_e])
          have hD := zD_set (c1 := (zI g bc 124 (fun x => CE x + vc FD re u key x 64)).2) hD 1 rfl
          have hP : zP g [(bb, .inr (0, [.ref bc, .ref bo, .int (iI rk), .int (iI he), .int (iI (kn + bI (0 < cnt FD re key 64))), .int (iI (al + ix))])), zI g bc 124 (fun x => CE x + vc FD re u key x 64), (d, .inr (1, [.ref ds, .ref df, .ref de, .int (iI un)])), zI g ds 385 (stt FD re), zI g de 320 EN] H := hP
          have hD : va_D A [(bb, .inr (0, [.ref bc, .ref bo, .int (iI rk), .int (iI he), .int (iI (kn + bI (0 < cnt FD re key 64))), .int (iI (al + ix))])), zI g bc 124 (fun x => CE x + vc FD re u key x 64), (d, .inr (1, [.ref ds, .ref df, .ref de, .int (iI un)])), zI g ds 385 (stt FD re), zI g de 320 EN] := hD
          have hP := zP_fld hP 0 rfl 5 (al + cnt FD re key 64) rfl (by rw [show ix = cnt FD re key 64 by omega])
          have hD := zD_set (c1 := ((bb, .inr (0, [.ref bc, .ref bo, .int (iI rk), .int (iI he), .int (iI (kn + bI (0 < cnt FD re key 64))), .int (iI (al + cnt FD re key 64))]))).2) hD 0 rfl
          have hP : zP g [(bb, .inr (0, [.ref bc, .ref bo, .int (iI rk), .int (iI he), .int (iI (kn + bI (0 < cnt FD re key 64))), .int (iI (al + cnt FD re key 64))])), zI g bc 124 (fun x => CE x + vc FD re u key x 64), (d, .inr (1, [.ref ds, .ref df, .ref de, .int (iI un)])), zI g ds 385 (stt FD re), zI g de 320 EN] H := hP
          have hD : va_D A [(bb, .inr (0, [.ref bc, .ref bo, .int (iI rk), .int (iI he), .int (iI (kn + bI (0 < cnt FD re key 64))), .int (iI (al + cnt FD re key 64))])), zI g bc 124 (fun x => CE x + vc FD re u key x 64), (d, .inr (1, [.ref ds, .ref df, .ref de, .int (iI un)])), zI g ds 385 (stt FD re), zI g de 320 EN] := hD
          exact z_retV hx hb hlk hr hQ dX0_castFor_95 hS () (by
          have e9 : sumZ (fun x => CE x + vc FD re u key x 64) 124 = sumZ CF 124 := sumZ_cong (fun j g1 g2 => by rw [i3 j g1 g2, show ix = cnt FD re key 64 by omega, vci_e])
          rw [e9, i4, show ix = cnt FD re key 64 by omega]) (hP)
        · obtain ⟨J, J1, J2, J3, J4⟩ := cnt_nth (FD := FD) (re := re) (key := key) 64 ix i1 (by omega)
          have J2 : J < 64 := by omega
          have hvr := vcl_rg (x := J) (u := u) (by omega) (by omega) (by omega) (by omega)
          refine lv_aload_n hx hb dX0_castFor_32 rfl (lv_at hl 1 rfl) ?_
          refine lv_iload_n hx hb dX0_castFor_33 rfl (lv_at hl 2 rfl) ?_
          refine lv_iload hx hb dX0_castFor_34 (lv_at hl 5 rfl) ?_
          refine z_cS (As := [.int (iI key), .int (iI ix)]) (rest := []) C (m_X1_placeOf (l := l) (g := g) (d := d) (ds := ds) (df := df) (de := de) (un := un) (ST := stt FD re) (EN := EN) (key := key) (ix := ix) (k1 := by omega) (k2 := by omega) (x1 := by omega) (x2 := by omega) (s1 := hs1.1) (s2 := hs2.1) (s3 := hs2.2) (s4 := hs1.2)) (cwV 2 C.2.2.2.2 gX0_castFor_X1_placeOf rfl rfl rfl (by decide +kernel) ⟨Nat.le_of_ble_eq_true rfl, Nat.le_of_ble_eq_true rfl⟩) hK hP [2, 3, 4] rfl 2 rfl rfl rfl hl.1 rfl (Nat.le_of_ble_eq_true rfl) dX0_castFor_36 ⟨Nat.zero_le _, Nat.zero_le _⟩ ?_
          refine z_top (b := 1000 * (J / 16) + J % 16) (by rw [if_pos (by rw [hss]; omega), ← J4]; exact hE key J k1 k2 J1 J2 J3) ?_
          refine lv_istore (lv' := [(6, .int (iI (1000 * (J / 16) + J % 16))), (0, .ref bb), (1, .ref d), (2, .int (iI key)), (3, .int (iI u)), (4, .int (iI (cnt FD re key 64))), (5, .int (iI ix))]) hx hb dX0_castFor_39 hl (by decide) rfl (fun ls hl => ?_)
          refine lv_iload hx hb dX0_castFor_41 (lv_at hl 0 rfl) ?_
          refine lv_sipush (v := iI 1000) hx hb dX0_castFor_43 (by decide +kernel) ?_
          refine z_idivN hx hb dX0_castFor_46 (by omega) (by omega) (by omega) (by omega) ?_
          refine z_top (b := J / 16) (by omega) ?_
          refine lv_istore (lv' := [(7, .int (iI (J / 16))), (6, .int (iI (1000 * (J / 16) + J % 16))), (0, .ref bb), (1, .ref d), (2, .int (iI key)), (3, .int (iI u)), (4, .int (iI (cnt FD re key 64))), (5, .int (iI ix))]) hx hb dX0_castFor_47 hl (by decide) rfl (fun ls hl => ?_)
          refine lv_iload hx hb dX0_castFor_49 (lv_at hl 1 rfl) ?_
          refine lv_sipush (v := iI 1000) hx hb dX0_castFor_51 (by decide +kernel) ?_
          refine z_iremN hx hb dX0_castFor_54 (by omega) (by omega) (by omega) (by omega) ?_
          refine z_top (b := J % 16) (by omega) ?_
          refine lv_iload_n hx hb dX0_castFor_55 rfl (lv_at hl 5 rfl) ?_
          refine z_isub hx hb dX0_castFor_56 ?_
          refine lv_istore (lv' := [(8, .int (iI ((J % 16) - u))), (7, .int (iI (J / 16))), (6, .int (iI (1000 * (J / 16) + J % 16))), (0, .ref bb), (1, .ref d), (2, .int (iI key)), (3, .int (iI u)), (4, .int (iI (cnt FD re key 64))), (5, .int (iI ix))]) hx hb dX0_castFor_57 hl (by decide) rfl (fun ls hl => ?_)
          refine lv_aload_n hx hb dX0_castFor_59 rfl (lv_at hl 3 rfl) ?_
          refine z_get (v := .ref bc) (Cn := RX0) (T := TX0) (N := 6) (ci := 0) C in_X0_castFor_X0 hK hP 0 rfl rfl 0 (by decide) (List.mem_of_getElem? (i := 2) rfl) rfl dX0_castFor_60 ?_
          refine lv_iload hx hb dX0_castFor_63 (lv_at hl 1 rfl) ?_
          refine lv_bipush (v := iI 31) hx hb dX0_castFor_65 (by decide +kernel) ?_
          refine z_imul hx hb dX0_castFor_67 ?_
          refine lv_iload hx hb dX0_castFor_68 (lv_at hl 0 rfl) ?_
          refine z_iadd hx hb dX0_castFor_70 ?_
          refine lv_bipush (v := iI 15) hx hb dX0_castFor_71 (by decide +kernel) ?_
          refine z_iadd hx hb dX0_castFor_73 ?_
          refine z_top (b := vcl J u) (rfl) ?_
          refine lv_dup2_11 hx hb dX0_castFor_74 rfl rfl ?_
          refine z_iald hx hb hK hP 1 rfl (by omega) (by omega) (Nat.le_of_ble_eq_true rfl) dX0_castFor_75 ?_
          refine lv_iconst (v := iI 1) hx hb dX0_castFor_76 rfl ?_
          refine z_iadd hx hb dX0_castFor_77 ?_
          refine z_iast hx hb hK hP hD hS 1 rfl (by omega) (by omega) (Nat.le_of_ble_eq_true rfl) dX0_castFor_78 (fun H locs hP hD hS => ?_)
          have hP : zP g [(bb, .inr (0, [.ref bc, .ref bo, .int (iI rk), .int (iI he), .int (iI (kn + bI (0 < cnt FD re key 64))), .int (iI (al + ix))])), zI g bc 124 (ups CF (vcl J u) ((CF (vcl J u)) + 1)), (d, .inr (1, [.ref ds, .ref df, .ref de, .int (iI un)])), zI g ds 385 (stt FD re), zI g de 320 EN] H := hP
          have hD : va_D A [(bb, .inr (0, [.ref bc, .ref bo, .int (iI rk), .int (iI he), .int (iI (kn + bI (0 < cnt FD re key 64))), .int (iI (al + ix))])), zI g bc 124 (ups CF (vcl J u) ((CF (vcl J u)) + 1)), (d, .inr (1, [.ref ds, .ref df, .ref de, .int (iI un)])), zI g ds 385 (stt FD re), zI g de 320 EN] := hD
          refine lv_aload_n hx hb dX0_castFor_79 rfl (lv_at hl 3 rfl) ?_
          refine lv_dup hx hb dX0_castFor_80 rfl ?_
          refine z_get (v := .int (iI (al + ix))) (Cn := RX0) (T := TX0) (N := 6) (ci := 0) C in_X0_castFor_X0 hK hP 0 rfl rfl 5 (by decide) (List.mem_of_getElem? (i := 3) rfl) rfl dX0_castFor_81 ?_
          refine lv_iconst (v := iI 1) hx hb dX0_castFor_84 rfl ?_
          refine z_iadd hx hb dX0_castFor_85 ?_
          refine z_put (v := .int (iI ((al + ix) + 1))) (Cn := RX0) (T := TX0) (N := 6) (ci := 0) C in_X0_castFor_X0 tyX0 tyX0_ok nmX0 hK hP hD hS 0 rfl rfl 5 (by decide) (List.mem_of_getElem? (i := 3) rfl) rfl rfl rfl (Nat.le_of_ble_eq_true rfl) dX0_castFor_86 (fun H locs hP hD hS => ?_)
          have hP : zP g [(bb, .inr (0, [.ref bc, .ref bo, .int (iI rk), .int (iI he), .int (iI (kn + bI (0 < cnt FD re key 64))), .int (iI ((al + ix) + 1))])), zI g bc 124 (ups CF (vcl J u) ((CF (vcl J u)) + 1)), (d, .inr (1, [.ref ds, .ref df, .ref de, .int (iI un)])), zI g ds 385 (stt FD re), zI g de 320 EN] H := hP
          have hD : va_D A [(bb, .inr (0, [.ref bc, .ref bo, .int (iI rk), .int (iI he), .int (iI (kn + bI (0 < cnt FD re key 64))), .int (iI ((al + ix) + 1))])), zI g bc 124 (ups CF (vcl J u) ((CF (vcl J u)) + 1)), (d, .inr (1, [.ref ds, .ref df, .ref de, .int (iI un)])), zI g ds 385 (stt FD re), zI g de 320 EN] := hD
          refine z_iinc (b := ix + 1) (lv' := [(5, .int (iI (ix + 1))), (8, .int (iI ((J % 16) - u))), (7, .int (iI (J / 16))), (6, .int (iI (1000 * (J / 16) + J % 16))), (0, .ref bb), (1, .ref d), (2, .int (iI key)), (3, .int (iI u)), (4, .int (iI (cnt FD re key 64)))]) hx hb dX0_castFor_89 hl (k := 8) rfl (rfl) (by decide) rfl (fun ls hl => ?_)
          refine lv_goto (tgt := 25) hx hb dX0_castFor_92 (by decide) ?_
          have hP := zP_fld hP 0 rfl 5 (al + (ix + 1)) rfl (by omega)
          have hD := zD_set (c1 := ((bb, .inr (0, [.ref bc, .ref bo, .int (iI rk), .int (iI he), .int (iI (kn + bI (0 < cnt FD re key 64))), .int (iI (al + (ix + 1)))]))).2) hD 0 rfl
          have hP : zP g [(bb, .inr (0, [.ref bc, .ref bo, .int (iI rk), .int (iI he), .int (iI (kn + bI (0 < cnt FD re key 64))), .int (iI (al + (ix + 1)))])), zI g bc 124 (ups CF (vcl J u) ((CF (vcl J u)) + 1)), (d, .inr (1, [.ref ds, .ref df, .ref de, .int (iI un)])), zI g ds 385 (stt FD re), zI g de 320 EN] H := hP
          have hD : va_D A [(bb, .inr (0, [.ref bc, .ref bo, .int (iI rk), .int (iI he), .int (iI (kn + bI (0 < cnt FD re key 64))), .int (iI (al + (ix + 1)))])), zI g bc 124 (ups CF (vcl J u) ((CF (vcl J u)) + 1)), (d, .inr (1, [.ref ds, .ref df, .ref de, .int (iI un)])), zI g ds 385 (stt FD re), zI g de 320 EN] := hD
          exact ih25 (ix + 1) (ups CF (vcl J u) ((CF (vcl J u)) + 1)) (by omega) (by omega) (fun j g1 g2 => by by_cases hj : j = vcl J u; (· rw [hj, ups_s, ← J4, vci_s _ J1 J2 J3, bI_t rfl, J4, i3 _ (by omega) (by omega)]; omega); (· rw [ups_n _ _ hj, ← J4, vci_s _ J1 J2 J3, bI_f (fun z => hj z.symm), J4, i3 j g1 g2]; omega)) (by rw [sumZ_ups _ _ _ (by omega) (by omega)]; omega) (by omega) H locs ls (lv_sub hl [4, 5, 6, 7, 8, 0] rfl) (hP) (hD) hS
    have hP := zP_fld hP 0 rfl 5 (al + 0) rfl (by omega)
    have hD := zD_set (c1 := ((bb, .inr (0, [.ref bc, .ref bo, .int (iI rk), .int (iI he), .int (iI (kn + bI (0 < cnt FD re key 64))), .int (iI (al + 0))]))).2) hD 0 rfl
    have hP : zP g [(bb, .inr (0, [.ref bc, .ref bo, .int (iI rk), .int (iI he), .int (iI (kn + bI (0 < cnt FD re key 64))), .int (iI (al + 0))])), zI g bc 124 CE, (d, .inr (1, [.ref ds, .ref df, .ref de, .int (iI un)])), zI g ds 385 (stt FD re), zI g de 320 EN] H := hP
    have hD : va_D A [(bb, .inr (0, [.ref bc, .ref bo, .int (iI rk), .int (iI he), .int (iI (kn + bI (0 < cnt FD re key 64))), .int (iI (al + 0))])), zI g bc 124 CE, (d, .inr (1, [.ref ds, .ref df, .ref de, .int (iI un)])), zI g ds 385 (stt FD re), zI g de 320 EN] := hD
    exact L25 (65) 0 CE (by omega) (by omega) (fun j g1 g2 => by rw [vci_0]; omega) (by omega) (by omega) H locs ls (lv_sub hl [2, 3, 4, 5, 1, 0] rfl) (hP) (hD) hS
