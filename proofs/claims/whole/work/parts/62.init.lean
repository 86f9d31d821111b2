set_option maxRecDepth 20000 in
theorem in_m_X4_init_X4 : ∀ w ∈ u_ws RX4 TX4 4, w ∈ wsX4_init := zmem_of _ [9, 10, 11, 12] (by decide +kernel)
set_option maxHeartbeats 4000000 in
set_option maxRecDepth 100000 in
theorem m_X4_init (l : Launch) (g : zG) (h : Nat)  : zN l yX4_init wsX4_init ({ frames := 1, cells := 2, slots := 645, locals := 20 }) g [.ref h] [(h, .inr (4, [.null, .null, .int (iI 0), .int (iI 0)]))] 2 645 (fun u => [(h, .inr (4, [.ref (u 0), .ref (u 1), .int (iI 50), .int (iI 3)])), zI g (u 0) 640 (fun _ => 0), zI g (u 1) 5 (fun _ => 0)]) := by
  refine z_entN (cc := cX4_init) (nL := 1) (ret := none) (own := RX4) (by decide) rfl rfl rfl (Nat.le_of_ble_eq_true rfl) ?_
  intro p e s m below meth c Q ls A C hlk hr hQ hP hK hD hA hS hl hO hni
  have hx := C.1
  have hb := C.2.1
  have hl : lv_has ls 1 [(0, .ref h)] := hl
  obtain ⟨H, hHe⟩ : ∃ H, H = s.heap := ⟨_, rfl⟩
  obtain ⟨locs, hLe⟩ : ∃ q : List Loc, q = [] := ⟨_, rfl⟩
  have hP : zP g [(h, .inr (4, [.null, .null, .int (iI 0), .int (iI 0)]))] H := by rw [hHe]; exact hP
  have hS : va_S A s.heap H locs := by rw [hHe, hLe]; exact hS
  suffices hgo : W p l e ({ frames := 1, cells := 2, slots := 645, locals := 20 }) s m ([.ref h] : List Value).toArray below meth c H locs 0 0 Q (F0 m 0 ls []) by rw [hHe, hLe] at hgo; exact hgo
  clear hHe hLe
  refine lv_aload_n hx hb dX4_init_0 rfl (lv_at hl 0 rfl) ?_
  refine z_obj C hl.1 (List.mem_of_getElem? (i := 1) rfl) (List.mem_of_getElem? (i := 2) rfl) (List.mem_of_getElem? (i := 3) rfl) dX4_init_1 (Nat.le_of_ble_eq_true rfl) (Nat.le_of_ble_eq_true rfl) ?_
  refine lv_aload_n hx hb dX4_init_4 rfl (lv_at hl 0 rfl) ?_
  refine lv_sipush (v := iI 640) hx hb dX4_init_5 (by decide +kernel) ?_
  refine z_newa C (List.mem_of_getElem? (i := 4) rfl) hK hP hD hS hA 640 rfl (Nat.le_of_ble_eq_true rfl) (Nat.le_of_ble_eq_true rfl) (Nat.le_of_ble_eq_true rfl) dX4_init_8 (fun q_1 H hP hD hS => ?_)
  have hP : zP g [(h, .inr (4, [.null, .null, .int (iI 0), .int (iI 0)])), zI g q_1 640 (fun _ => 0)] H := hP
  have hD : va_D A [(h, .inr (4, [.null, .null, .int (iI 0), .int (iI 0)])), zI g q_1 640 (fun _ => 0)] := hD
  refine z_putF (v := .ref q_1) (Cn := RX4) (T := TX4) (N := 4) (ci := 4) C in_m_X4_init_X4 tyX4 tyX4_ok nmX4 hK hP hD hS 0 rfl rfl 0 (by decide) (List.mem_of_getElem? (i := 5) rfl) rfl hni rfl rfl rfl (Nat.le_of_ble_eq_true rfl) dX4_init_10 (fun H locs hP hD hS => ?_)
  have hP : zP g [(h, .inr (4, [.ref q_1, .null, .int (iI 0), .int (iI 0)])), zI g q_1 640 (fun _ => 0)] H := hP
  have hD : va_D A [(h, .inr (4, [.ref q_1, .null, .int (iI 0), .int (iI 0)])), zI g q_1 640 (fun _ => 0)] := hD
  refine lv_aload_n hx hb dX4_init_13 rfl (lv_at hl 0 rfl) ?_
  refine lv_iconst (v := iI 5) hx hb dX4_init_14 rfl ?_
  refine z_newa C (List.mem_of_getElem? (i := 4) rfl) hK hP hD hS hA 5 rfl (Nat.le_of_ble_eq_true rfl) (Nat.le_of_ble_eq_true rfl) (Nat.le_of_ble_eq_true rfl) dX4_init_15 (fun q_2 H hP hD hS => ?_)
  have hP : zP g [(h, .inr (4, [.ref q_1, .null, .int (iI 0), .int (iI 0)])), zI g q_1 640 (fun _ => 0), zI g q_2 5 (fun _ => 0)] H := hP
  have hD : va_D A [(h, .inr (4, [.ref q_1, .null, .int (iI 0), .int (iI 0)])), zI g q_1 640 (fun _ => 0), zI g q_2 5 (fun _ => 0)] := hD
  refine z_putF (v := .ref q_2) (Cn := RX4) (T := TX4) (N := 4) (ci := 4) C in_m_X4_init_X4 tyX4 tyX4_ok nmX4 hK hP hD hS 0 rfl rfl 1 (by decide) (List.mem_of_getElem? (i := 6) rfl) rfl hni rfl rfl rfl (Nat.le_of_ble_eq_true rfl) dX4_init_17 (fun H locs hP hD hS => ?_)
  have hP : zP g [(h, .inr (4, [.ref q_1, .ref q_2, .int (iI 0), .int (iI 0)])), zI g q_1 640 (fun _ => 0), zI g q_2 5 (fun _ => 0)] H := hP
  have hD : va_D A [(h, .inr (4, [.ref q_1, .ref q_2, .int (iI 0), .int (iI 0)])), zI g q_1 640 (fun _ => 0), zI g q_2 5 (fun _ => 0)] := hD
  refine lv_aload_n hx hb dX4_init_20 rfl (lv_at hl 0 rfl) ?_
  refine lv_bipush (v := iI 50) hx hb dX4_init_21 (by decide +kernel) ?_
  refine z_put (v := .int (iI 50)) (Cn := RX4) (T := TX4) (N := 4) (ci := 4) C in_m_X4_init_X4 tyX4 tyX4_ok nmX4 hK hP hD hS 0 rfl rfl 2 (by decide) (List.mem_of_getElem? (i := 7) rfl) rfl rfl rfl (Nat.le_of_ble_eq_true rfl) dX4_init_23 (fun H locs hP hD hS => ?_)
  have hP : zP g [(h, .inr (4, [.ref q_1, .ref q_2, .int (iI 50), .int (iI 0)])), zI g q_1 640 (fun _ => 0), zI g q_2 5 (fun _ => 0)] H := hP
  have hD : va_D A [(h, .inr (4, [.ref q_1, .ref q_2, .int (iI 50), .int (iI 0)])), zI g q_1 640 (fun _ => 0), zI g q_2 5 (fun _ => 0)] := hD
  refine lv_aload_n hx hb dX4_init_26 rfl (lv_at hl 0 rfl) ?_
  refine lv_iconst (v := iI 3) hx hb dX4_init_27 rfl ?_
  refine z_put (v := .int (iI 3)) (Cn := RX4) (T := TX4) (N := 4) (ci := 4) C in_m_X4_init_X4 tyX4 tyX4_ok nmX4 hK hP hD hS 0 rfl rfl 3 (by decide) (List.mem_of_getElem? (i := 8) rfl) rfl rfl rfl (Nat.le_of_ble_eq_true rfl) dX4_init_28 (fun H locs hP hD hS => ?_)
  have hP : zP g [(h, .inr (4, [.ref q_1, .ref q_2, .int (iI 50), .int (iI 3)])), zI g q_1 640 (fun _ => 0), zI g q_2 5 (fun _ => 0)] H := hP
  have hD : va_D A [(h, .inr (4, [.ref q_1, .ref q_2, .int (iI 50), .int (iI 3)])), zI g q_1 640 (fun _ => 0), zI g q_2 5 (fun _ => 0)] := hD
  refine W.widen (k := 2) (n := 645) (Nat.le_of_ble_eq_true rfl) (Nat.le_of_ble_eq_true rfl) ?_
  exact z_retN hx hb hlk hr hQ dX4_init_31 hS (fun k => match k with | 0 => q_1 | _ => q_2) hP hD
set_option maxRecDepth 20000 in
theorem in_m_X2_init_X2 : ∀ w ∈ u_ws RX2 TX2 7, w ∈ wsX2_init := zmem_of _ [10, 11, 12, 13, 14, 15, 16] (by decide +kernel)
set_option maxHeartbeats 4000000 in
set_option maxRecDepth 100000 in
theorem m_X2_init (l : Launch) (g : zG) (b : Nat)  : zN l yX2_init wsX2_init ({ frames := 1, cells := 5, slots := 1056, locals := 20 }) g [.ref b] [(b, .inr (2, [.null, .null, .null, .null, .null, .int (iI 0), .int (iI 0)]))] 5 1056 (fun u => [(b, .inr (2, [.ref (u 0), .ref (u 1), .ref (u 2), .ref (u 3), .ref (u 4), .int (iI 0), .int (iI 0)])), zI g (u 0) 1024 (fun _ => 0), zI g (u 1) 8 (fun _ => 0), zI g (u 2) 8 (fun _ => 0), zI g (u 3) 8 (fun _ => 0), zI g (u 4) 8 (fun _ => 0)]) := by
  refine z_entN (cc := cX2_init) (nL := 1) (ret := none) (own := RX2) (by decide) rfl rfl rfl (Nat.le_of_ble_eq_true rfl) ?_
  intro p e s m below meth c Q ls A C hlk hr hQ hP hK hD hA hS hl hO hni
  have hx := C.1
  have hb := C.2.1
  have hl : lv_has ls 1 [(0, .ref b)] := hl
  obtain ⟨H, hHe⟩ : ∃ H, H = s.heap := ⟨_, rfl⟩
  obtain ⟨locs, hLe⟩ : ∃ q : List Loc, q = [] := ⟨_, rfl⟩
  have hP : zP g [(b, .inr (2, [.null, .null, .null, .null, .null, .int (iI 0), .int (iI 0)]))] H := by rw [hHe]; exact hP
  have hS : va_S A s.heap H locs := by rw [hHe, hLe]; exact hS
  suffices hgo : W p l e ({ frames := 1, cells := 5, slots := 1056, locals := 20 }) s m ([.ref b] : List Value).toArray below meth c H locs 0 0 Q (F0 m 0 ls []) by rw [hHe, hLe] at hgo; exact hgo
  clear hHe hLe
  refine lv_aload_n hx hb dX2_init_0 rfl (lv_at hl 0 rfl) ?_
  refine z_obj C hl.1 (List.mem_of_getElem? (i := 1) rfl) (List.mem_of_getElem? (i := 2) rfl) (List.mem_of_getElem? (i := 3) rfl) dX2_init_1 (Nat.le_of_ble_eq_true rfl) (Nat.le_of_ble_eq_true rfl) ?_
  refine lv_aload_n hx hb dX2_init_4 rfl (lv_at hl 0 rfl) ?_
  refine lv_sipush (v := iI 1024) hx hb dX2_init_5 (by decide +kernel) ?_
  refine z_newa C (List.mem_of_getElem? (i := 4) rfl) hK hP hD hS hA 1024 rfl (Nat.le_of_ble_eq_true rfl) (Nat.le_of_ble_eq_true rfl) (Nat.le_of_ble_eq_true rfl) dX2_init_8 (fun q_1 H hP hD hS => ?_)
  have hP : zP g [(b, .inr (2, [.null, .null, .null, .null, .null, .int (iI 0), .int (iI 0)])), zI g q_1 1024 (fun _ => 0)] H := hP
  have hD : va_D A [(b, .inr (2, [.null, .null, .null, .null, .null, .int (iI 0), .int (iI 0)])), zI g q_1 1024 (fun _ => 0)] := hD
  refine z_putF (v := .ref q_1) (Cn := RX2) (T := TX2) (N := 7) (ci := 2) C in_m_X2_init_X2 tyX2 tyX2_ok nmX2 hK hP hD hS 0 rfl rfl 0 (by decide) (List.mem_of_getElem? (i := 5) rfl) rfl hni rfl rfl rfl (Nat.le_of_ble_eq_true rfl) dX2_init_10 (fun H locs hP hD hS => ?_)
  have hP : zP g [(b, .inr (2, [.ref q_1, .null, .null, .null, .null, .int (iI 0), .int (iI 0)])), zI g q_1 1024 (fun _ => 0)] H := hP
  have hD : va_D A [(b, .inr (2, [.ref q_1, .null, .null, .null, .null, .int (iI 0), .int (iI 0)])), zI g q_1 1024 (fun _ => 0)] := hD
  refine lv_aload_n hx hb dX2_init_13 rfl (lv_at hl 0 rfl) ?_
  refine lv_bipush (v := iI 8) hx hb dX2_init_14 (by decide +kernel) ?_
  refine z_newa C (List.mem_of_getElem? (i := 4) rfl) hK hP hD hS hA 8 rfl (Nat.le_of_ble_eq_true rfl) (Nat.le_of_ble_eq_true rfl) (Nat.le_of_ble_eq_true rfl) dX2_init_16 (fun q_2 H hP hD hS => ?_)
  have hP : zP g [(b, .inr (2, [.ref q_1, .null, .null, .null, .null, .int (iI 0), .int (iI 0)])), zI g q_1 1024 (fun _ => 0), zI g q_2 8 (fun _ => 0)] H := hP
  have hD : va_D A [(b, .inr (2, [.ref q_1, .null, .null, .null, .null, .int (iI 0), .int (iI 0)])), zI g q_1 1024 (fun _ => 0), zI g q_2 8 (fun _ => 0)] := hD
  refine z_putF (v := .ref q_2) (Cn := RX2) (T := TX2) (N := 7) (ci := 2) C in_m_X2_init_X2 tyX2 tyX2_ok nmX2 hK hP hD hS 0 rfl rfl 1 (by decide) (List.mem_of_getElem? (i := 6) rfl) rfl hni rfl rfl rfl (Nat.le_of_ble_eq_true rfl) dX2_init_18 (fun H locs hP hD hS => ?_)
  have hP : zP g [(b, .inr (2, [.ref q_1, .ref q_2, .null, .null, .null, .int (iI 0), .int (iI 0)])), zI g q_1 1024 (fun _ => 0), zI g q_2 8 (fun _ => 0)] H := hP
  have hD : va_D A [(b, .inr (2, [.ref q_1, .ref q_2, .null, .null, .null, .int (iI 0), .int (iI 0)])), zI g q_1 1024 (fun _ => 0), zI g q_2 8 (fun _ => 0)] := hD
  refine lv_aload_n hx hb dX2_init_21 rfl (lv_at hl 0 rfl) ?_
  refine lv_bipush (v := iI 8) hx hb dX2_init_22 (by decide +kernel) ?_
  refine z_newa C (List.mem_of_getElem? (i := 4) rfl) hK hP hD hS hA 8 rfl (Nat.le_of_ble_eq_true rfl) (Nat.le_of_ble_eq_true rfl) (Nat.le_of_ble_eq_true rfl) dX2_init_24 (fun q_3 H hP hD hS => ?_)
  have hP : zP g [(b, .inr (2, [.ref q_1, .ref q_2, .null, .null, .null, .int (iI 0), .int (iI 0)])), zI g q_1 1024 (fun _ => 0), zI g q_2 8 (fun _ => 0), zI g q_3 8 (fun _ => 0)] H := hP
  have hD : va_D A [(b, .inr (2, [.ref q_1, .ref q_2, .null, .null, .null, .int (iI 0), .int (iI 0)])), zI g q_1 1024 (fun _ => 0), zI g q_2 8 (fun _ => 0), zI g q_3 8 (fun _ => 0)] := hD
  refine z_putF (v := .ref q_3) (Cn := RX2) (T := TX2) (N := 7) (ci := 2) C in_m_X2_init_X2 tyX2 tyX2_ok nmX2 hK hP hD hS 0 rfl rfl 2 (by decide) (List.mem_of_getElem? (i := 7) rfl) rfl hni rfl rfl rfl (Nat.le_of_ble_eq_true rfl) dX2_init_26 (fun H locs hP hD hS => ?_)
  have hP : zP g [(b, .inr (2, [.ref q_1, .ref q_2, .ref q_3, .null, .null, .int (iI 0), .int (iI 0)])), zI g q_1 1024 (fun _ => 0), zI g q_2 8 (fun _ => 0), zI g q_3 8 (fun _ => 0)] H := hP
  have hD : va_D A [(b, .inr (2, [.ref q_1, .ref q_2, .ref q_3, .null, .null, .int (iI 0), .int (iI 0)])), zI g q_1 1024 (fun _ => 0), zI g q_2 8 (fun _ => 0), zI g q_3 8 (fun _ => 0)] := hD
  refine lv_aload_n hx hb dX2_init_29 rfl (lv_at hl 0 rfl) ?_
  refine lv_bipush (v := iI 8) hx hb dX2_init_30 (by decide +kernel) ?_
  refine z_newa C (List.mem_of_getElem? (i := 4) rfl) hK hP hD hS hA 8 rfl (Nat.le_of_ble_eq_true rfl) (Nat.le_of_ble_eq_true rfl) (Nat.le_of_ble_eq_true rfl) dX2_init_32 (fun q_4 H hP hD hS => ?_)
  have hP : zP g [(b, .inr (2, [.ref q_1, .ref q_2, .ref q_3, .null, .null, .int (iI 0), .int (iI 0)])), zI g q_1 1024 (fun _ => 0), zI g q_2 8 (fun _ => 0), zI g q_3 8 (fun _ => 0), zI g q_4 8 (fun _ => 0)] H := hP
  have hD : va_D A [(b, .inr (2, [.ref q_1, .ref q_2, .ref q_3, .null, .null, .int (iI 0), .int (iI 0)])), zI g q_1 1024 (fun _ => 0), zI g q_2 8 (fun _ => 0), zI g q_3 8 (fun _ => 0), zI g q_4 8 (fun _ => 0)] := hD
  refine z_putF (v := .ref q_4) (Cn := RX2) (T := TX2) (N := 7) (ci := 2) C in_m_X2_init_X2 tyX2 tyX2_ok nmX2 hK hP hD hS 0 rfl rfl 3 (by decide) (List.mem_of_getElem? (i := 8) rfl) rfl hni rfl rfl rfl (Nat.le_of_ble_eq_true rfl) dX2_init_34 (fun H locs hP hD hS => ?_)
  have hP : zP g [(b, .inr (2, [.ref q_1, .ref q_2, .ref q_3, .ref q_4, .null, .int (iI 0), .int (iI 0)])), zI g q_1 1024 (fun _ => 0), zI g q_2 8 (fun _ => 0), zI g q_3 8 (fun _ => 0), zI g q_4 8 (fun _ => 0)] H := hP
  have hD : va_D A [(b, .inr (2, [.ref q_1, .ref q_2, .ref q_3, .ref q_4, .null, .int (iI 0), .int (iI 0)])), zI g q_1 1024 (fun _ => 0), zI g q_2 8 (fun _ => 0), zI g q_3 8 (fun _ => 0), zI g q_4 8 (fun _ => 0)] := hD
  refine lv_aload_n hx hb dX2_init_37 rfl (lv_at hl 0 rfl) ?_
  refine lv_bipush (v := iI 8) hx hb dX2_init_38 (by decide +kernel) ?_
  refine z_newa C (List.mem_of_getElem? (i := 4) rfl) hK hP hD hS hA 8 rfl (Nat.le_of_ble_eq_true rfl) (Nat.le_of_ble_eq_true rfl) (Nat.le_of_ble_eq_true rfl) dX2_init_40 (fun q_5 H hP hD hS => ?_)
  have hP : zP g [(b, .inr (2, [.ref q_1, .ref q_2, .ref q_3, .ref q_4, .null, .int (iI 0), .int (iI 0)])), zI g q_1 1024 (fun _ => 0), zI g q_2 8 (fun _ => 0), zI g q_3 8 (fun _ => 0), zI g q_4 8 (fun _ => 0), zI g q_5 8 (fun _ => 0)] H := hP
  have hD : va_D A [(b, .inr (2, [.ref q_1, .ref q_2, .ref q_3, .ref q_4, .null, .int (iI 0), .int (iI 0)])), zI g q_1 1024 (fun _ => 0), zI g q_2 8 (fun _ => 0), zI g q_3 8 (fun _ => 0), zI g q_4 8 (fun _ => 0), zI g q_5 8 (fun _ => 0)] := hD
  refine z_putF (v := .ref q_5) (Cn := RX2) (T := TX2) (N := 7) (ci := 2) C in_m_X2_init_X2 tyX2 tyX2_ok nmX2 hK hP hD hS 0 rfl rfl 4 (by decide) (List.mem_of_getElem? (i := 9) rfl) rfl hni rfl rfl rfl (Nat.le_of_ble_eq_true rfl) dX2_init_42 (fun H locs hP hD hS => ?_)
  have hP : zP g [(b, .inr (2, [.ref q_1, .ref q_2, .ref q_3, .ref q_4, .ref q_5, .int (iI 0), .int (iI 0)])), zI g q_1 1024 (fun _ => 0), zI g q_2 8 (fun _ => 0), zI g q_3 8 (fun _ => 0), zI g q_4 8 (fun _ => 0), zI g q_5 8 (fun _ => 0)] H := hP
  have hD : va_D A [(b, .inr (2, [.ref q_1, .ref q_2, .ref q_3, .ref q_4, .ref q_5, .int (iI 0), .int (iI 0)])), zI g q_1 1024 (fun _ => 0), zI g q_2 8 (fun _ => 0), zI g q_3 8 (fun _ => 0), zI g q_4 8 (fun _ => 0), zI g q_5 8 (fun _ => 0)] := hD
  refine W.widen (k := 5) (n := 1056) (Nat.le_of_ble_eq_true rfl) (Nat.le_of_ble_eq_true rfl) ?_
  exact z_retN hx hb hlk hr hQ dX2_init_45 hS (fun k => match k with | 0 => q_1 | 1 => q_2 | 2 => q_3 | 3 => q_4 | _ => q_5) hP hD
set_option maxRecDepth 20000 in
theorem in_m_X3_init_X3 : ∀ w ∈ u_ws RX3 TX3 3, w ∈ wsX3_init := zmem_of _ [8, 9, 10] (by decide +kernel)
set_option maxHeartbeats 4000000 in
set_option maxRecDepth 100000 in
theorem m_X3_init (l : Launch) (g : zG) (a : Nat)  : zN l yX3_init wsX3_init ({ frames := 1, cells := 3, slots := 96, locals := 20 }) g [.ref a] [(a, .inr (3, [.null, .null, .null]))] 3 96 (fun u => [(a, .inr (3, [.ref (u 0), .ref (u 1), .ref (u 2)])), zI g (u 0) 8 (fun _ => 0), zI g (u 1) 80 (fun _ => 0), zI g (u 2) 8 (fun _ => 0)]) := by
  refine z_entN (cc := cX3_init) (nL := 1) (ret := none) (own := RX3) (by decide) rfl rfl rfl (Nat.le_of_ble_eq_true rfl) ?_
  intro p e s m below meth c Q ls A C hlk hr hQ hP hK hD hA hS hl hO hni
  have hx := C.1
  have hb := C.2.1
  have hl : lv_has ls 1 [(0, .ref a)] := hl
  obtain ⟨H, hHe⟩ : ∃ H, H = s.heap := ⟨_, rfl⟩
  obtain ⟨locs, hLe⟩ : ∃ q : List Loc, q = [] := ⟨_, rfl⟩
  have hP : zP g [(a, .inr (3, [.null, .null, .null]))] H := by rw [hHe]; exact hP
  have hS : va_S A s.heap H locs := by rw [hHe, hLe]; exact hS
  suffices hgo : W p l e ({ frames := 1, cells := 3, slots := 96, locals := 20 }) s m ([.ref a] : List Value).toArray below meth c H locs 0 0 Q (F0 m 0 ls []) by rw [hHe, hLe] at hgo; exact hgo
  clear hHe hLe
  refine lv_aload_n hx hb dX3_init_0 rfl (lv_at hl 0 rfl) ?_
  refine z_obj C hl.1 (List.mem_of_getElem? (i := 1) rfl) (List.mem_of_getElem? (i := 2) rfl) (List.mem_of_getElem? (i := 3) rfl) dX3_init_1 (Nat.le_of_ble_eq_true rfl) (Nat.le_of_ble_eq_true rfl) ?_
  refine lv_aload_n hx hb dX3_init_4 rfl (lv_at hl 0 rfl) ?_
  refine lv_bipush (v := iI 8) hx hb dX3_init_5 (by decide +kernel) ?_
  refine z_newa C (List.mem_of_getElem? (i := 4) rfl) hK hP hD hS hA 8 rfl (Nat.le_of_ble_eq_true rfl) (Nat.le_of_ble_eq_true rfl) (Nat.le_of_ble_eq_true rfl) dX3_init_7 (fun q_1 H hP hD hS => ?_)
  have hP : zP g [(a, .inr (3, [.null, .null, .null])), zI g q_1 8 (fun _ => 0)] H := hP
  have hD : va_D A [(a, .inr (3, [.null, .null, .null])), zI g q_1 8 (fun _ => 0)] := hD
  refine z_putF (v := .ref q_1) (Cn := RX3) (T := TX3) (N := 3) (ci := 3) C in_m_X3_init_X3 tyX3 tyX3_ok nmX3 hK hP hD hS 0 rfl rfl 0 (by decide) (List.mem_of_getElem? (i := 5) rfl) rfl hni rfl rfl rfl (Nat.le_of_ble_eq_true rfl) dX3_init_9 (fun H locs hP hD hS => ?_)
  have hP : zP g [(a, .inr (3, [.ref q_1, .null, .null])), zI g q_1 8 (fun _ => 0)] H := hP
  have hD : va_D A [(a, .inr (3, [.ref q_1, .null, .null])), zI g q_1 8 (fun _ => 0)] := hD
  refine lv_aload_n hx hb dX3_init_12 rfl (lv_at hl 0 rfl) ?_
  refine lv_bipush (v := iI 80) hx hb dX3_init_13 (by decide +kernel) ?_
  refine z_newa C (List.mem_of_getElem? (i := 4) rfl) hK hP hD hS hA 80 rfl (Nat.le_of_ble_eq_true rfl) (Nat.le_of_ble_eq_true rfl) (Nat.le_of_ble_eq_true rfl) dX3_init_15 (fun q_2 H hP hD hS => ?_)
  have hP : zP g [(a, .inr (3, [.ref q_1, .null, .null])), zI g q_1 8 (fun _ => 0), zI g q_2 80 (fun _ => 0)] H := hP
  have hD : va_D A [(a, .inr (3, [.ref q_1, .null, .null])), zI g q_1 8 (fun _ => 0), zI g q_2 80 (fun _ => 0)] := hD
  refine z_putF (v := .ref q_2) (Cn := RX3) (T := TX3) (N := 3) (ci := 3) C in_m_X3_init_X3 tyX3 tyX3_ok nmX3 hK hP hD hS 0 rfl rfl 1 (by decide) (List.mem_of_getElem? (i := 6) rfl) rfl hni rfl rfl rfl (Nat.le_of_ble_eq_true rfl) dX3_init_17 (fun H locs hP hD hS => ?_)
  have hP : zP g [(a, .inr (3, [.ref q_1, .ref q_2, .null])), zI g q_1 8 (fun _ => 0), zI g q_2 80 (fun _ => 0)] H := hP
  have hD : va_D A [(a, .inr (3, [.ref q_1, .ref q_2, .null])), zI g q_1 8 (fun _ => 0), zI g q_2 80 (fun _ => 0)] := hD
  refine lv_aload_n hx hb dX3_init_20 rfl (lv_at hl 0 rfl) ?_
  refine lv_bipush (v := iI 8) hx hb dX3_init_21 (by decide +kernel) ?_
  refine z_newa C (List.mem_of_getElem? (i := 4) rfl) hK hP hD hS hA 8 rfl (Nat.le_of_ble_eq_true rfl) (Nat.le_of_ble_eq_true rfl) (Nat.le_of_ble_eq_true rfl) dX3_init_23 (fun q_3 H hP hD hS => ?_)
  have hP : zP g [(a, .inr (3, [.ref q_1, .ref q_2, .null])), zI g q_1 8 (fun _ => 0), zI g q_2 80 (fun _ => 0), zI g q_3 8 (fun _ => 0)] H := hP
  have hD : va_D A [(a, .inr (3, [.ref q_1, .ref q_2, .null])), zI g q_1 8 (fun _ => 0), zI g q_2 80 (fun _ => 0), zI g q_3 8 (fun _ => 0)] := hD
  refine z_putF (v := .ref q_3) (Cn := RX3) (T := TX3) (N := 3) (ci := 3) C in_m_X3_init_X3 tyX3 tyX3_ok nmX3 hK hP hD hS 0 rfl rfl 2 (by decide) (List.mem_of_getElem? (i := 7) rfl) rfl hni rfl rfl rfl (Nat.le_of_ble_eq_true rfl) dX3_init_25 (fun H locs hP hD hS => ?_)
  have hP : zP g [(a, .inr (3, [.ref q_1, .ref q_2, .ref q_3])), zI g q_1 8 (fun _ => 0), zI g q_2 80 (fun _ => 0), zI g q_3 8 (fun _ => 0)] H := hP
  have hD : va_D A [(a, .inr (3, [.ref q_1, .ref q_2, .ref q_3])), zI g q_1 8 (fun _ => 0), zI g q_2 80 (fun _ => 0), zI g q_3 8 (fun _ => 0)] := hD
  refine W.widen (k := 3) (n := 96) (Nat.le_of_ble_eq_true rfl) (Nat.le_of_ble_eq_true rfl) ?_
  exact z_retN hx hb hlk hr hQ dX3_init_28 hS (fun k => match k with | 0 => q_1 | 1 => q_2 | _ => q_3) hP hD
set_option maxRecDepth 20000 in
theorem in_m_X1_init_X1 : ∀ w ∈ u_ws RX1 TX1 4, w ∈ wsX1_init := zmem_of _ [8, 9, 10, 11] (by decide +kernel)
set_option maxHeartbeats 4000000 in
set_option maxRecDepth 100000 in
theorem m_X1_init (l : Launch) (g : zG) (d : Nat)  : zN l yX1_init wsX1_init ({ frames := 1, cells := 3, slots := 1089, locals := 20 }) g [.ref d] [(d, .inr (1, [.null, .null, .null, .int (iI 0)]))] 3 1089 (fun u => [(d, .inr (1, [.ref (u 0), .ref (u 1), .ref (u 2), .int (iI 0)])), zI g (u 0) 385 (fun _ => 0), zI g (u 1) 384 (fun _ => 0), zI g (u 2) 320 (fun _ => 0)]) := by
  refine z_entN (cc := cX1_init) (nL := 1) (ret := none) (own := RX1) (by decide) rfl rfl rfl (Nat.le_of_ble_eq_true rfl) ?_
  intro p e s m below meth c Q ls A C hlk hr hQ hP hK hD hA hS hl hO hni
  have hx := C.1
  have hb := C.2.1
  have hl : lv_has ls 1 [(0, .ref d)] := hl
  obtain ⟨H, hHe⟩ : ∃ H, H = s.heap := ⟨_, rfl⟩
  obtain ⟨locs, hLe⟩ : ∃ q : List Loc, q = [] := ⟨_, rfl⟩
  have hP : zP g [(d, .inr (1, [.null, .null, .null, .int (iI 0)]))] H := by rw [hHe]; exact hP
  have hS : va_S A s.heap H locs := by rw [hHe, hLe]; exact hS
  suffices hgo : W p l e ({ frames := 1, cells := 3, slots := 1089, locals := 20 }) s m ([.ref d] : List Value).toArray below meth c H locs 0 0 Q (F0 m 0 ls []) by rw [hHe, hLe] at hgo; exact hgo
  clear hHe hLe
  refine lv_aload_n hx hb dX1_init_0 rfl (lv_at hl 0 rfl) ?_
  refine z_obj C hl.1 (List.mem_of_getElem? (i := 1) rfl) (List.mem_of_getElem? (i := 2) rfl) (List.mem_of_getElem? (i := 3) rfl) dX1_init_1 (Nat.le_of_ble_eq_true rfl) (Nat.le_of_ble_eq_true rfl) ?_
  refine lv_aload_n hx hb dX1_init_4 rfl (lv_at hl 0 rfl) ?_
  refine lv_sipush (v := iI 385) hx hb dX1_init_5 (by decide +kernel) ?_
  refine z_newa C (List.mem_of_getElem? (i := 4) rfl) hK hP hD hS hA 385 rfl (Nat.le_of_ble_eq_true rfl) (Nat.le_of_ble_eq_true rfl) (Nat.le_of_ble_eq_true rfl) dX1_init_8 (fun q_1 H hP hD hS => ?_)
  have hP : zP g [(d, .inr (1, [.null, .null, .null, .int (iI 0)])), zI g q_1 385 (fun _ => 0)] H := hP
  have hD : va_D A [(d, .inr (1, [.null, .null, .null, .int (iI 0)])), zI g q_1 385 (fun _ => 0)] := hD
  refine z_putF (v := .ref q_1) (Cn := RX1) (T := TX1) (N := 4) (ci := 1) C in_m_X1_init_X1 tyX1 tyX1_ok nmX1 hK hP hD hS 0 rfl rfl 0 (by decide) (List.mem_of_getElem? (i := 5) rfl) rfl hni rfl rfl rfl (Nat.le_of_ble_eq_true rfl) dX1_init_10 (fun H locs hP hD hS => ?_)
  have hP : zP g [(d, .inr (1, [.ref q_1, .null, .null, .int (iI 0)])), zI g q_1 385 (fun _ => 0)] H := hP
  have hD : va_D A [(d, .inr (1, [.ref q_1, .null, .null, .int (iI 0)])), zI g q_1 385 (fun _ => 0)] := hD
  refine lv_aload_n hx hb dX1_init_13 rfl (lv_at hl 0 rfl) ?_
  refine lv_sipush (v := iI 384) hx hb dX1_init_14 (by decide +kernel) ?_
  refine z_newa C (List.mem_of_getElem? (i := 4) rfl) hK hP hD hS hA 384 rfl (Nat.le_of_ble_eq_true rfl) (Nat.le_of_ble_eq_true rfl) (Nat.le_of_ble_eq_true rfl) dX1_init_17 (fun q_2 H hP hD hS => ?_)
  have hP : zP g [(d, .inr (1, [.ref q_1, .null, .null, .int (iI 0)])), zI g q_1 385 (fun _ => 0), zI g q_2 384 (fun _ => 0)] H := hP
  have hD : va_D A [(d, .inr (1, [.ref q_1, .null, .null, .int (iI 0)])), zI g q_1 385 (fun _ => 0), zI g q_2 384 (fun _ => 0)] := hD
  refine z_putF (v := .ref q_2) (Cn := RX1) (T := TX1) (N := 4) (ci := 1) C in_m_X1_init_X1 tyX1 tyX1_ok nmX1 hK hP hD hS 0 rfl rfl 1 (by decide) (List.mem_of_getElem? (i := 6) rfl) rfl hni rfl rfl rfl (Nat.le_of_ble_eq_true rfl) dX1_init_19 (fun H locs hP hD hS => ?_)
  have hP : zP g [(d, .inr (1, [.ref q_1, .ref q_2, .null, .int (iI 0)])), zI g q_1 385 (fun _ => 0), zI g q_2 384 (fun _ => 0)] H := hP
  have hD : va_D A [(d, .inr (1, [.ref q_1, .ref q_2, .null, .int (iI 0)])), zI g q_1 385 (fun _ => 0), zI g q_2 384 (fun _ => 0)] := hD
  refine lv_aload_n hx hb dX1_init_22 rfl (lv_at hl 0 rfl) ?_
  refine lv_sipush (v := iI 320) hx hb dX1_init_23 (by decide +kernel) ?_
  refine z_newa C (List.mem_of_getElem? (i := 4) rfl) hK hP hD hS hA 320 rfl (Nat.le_of_ble_eq_true rfl) (Nat.le_of_ble_eq_true rfl) (Nat.le_of_ble_eq_true rfl) dX1_init_26 (fun q_3 H hP hD hS => ?_)
  have hP : zP g [(d, .inr (1, [.ref q_1, .ref q_2, .null, .int (iI 0)])), zI g q_1 385 (fun _ => 0), zI g q_2 384 (fun _ => 0), zI g q_3 320 (fun _ => 0)] H := hP
  have hD : va_D A [(d, .inr (1, [.ref q_1, .ref q_2, .null, .int (iI 0)])), zI g q_1 385 (fun _ => 0), zI g q_2 384 (fun _ => 0), zI g q_3 320 (fun _ => 0)] := hD
  refine z_putF (v := .ref q_3) (Cn := RX1) (T := TX1) (N := 4) (ci := 1) C in_m_X1_init_X1 tyX1 tyX1_ok nmX1 hK hP hD hS 0 rfl rfl 2 (by decide) (List.mem_of_getElem? (i := 7) rfl) rfl hni rfl rfl rfl (Nat.le_of_ble_eq_true rfl) dX1_init_28 (fun H locs hP hD hS => ?_)
  have hP : zP g [(d, .inr (1, [.ref q_1, .ref q_2, .ref q_3, .int (iI 0)])), zI g q_1 385 (fun _ => 0), zI g q_2 384 (fun _ => 0), zI g q_3 320 (fun _ => 0)] H := hP
  have hD : va_D A [(d, .inr (1, [.ref q_1, .ref q_2, .ref q_3, .int (iI 0)])), zI g q_1 385 (fun _ => 0), zI g q_2 384 (fun _ => 0), zI g q_3 320 (fun _ => 0)] := hD
  refine W.widen (k := 3) (n := 1089) (Nat.le_of_ble_eq_true rfl) (Nat.le_of_ble_eq_true rfl) ?_
  exact z_retN hx hb hlk hr hQ dX1_init_31 hS (fun k => match k with | 0 => q_1 | 1 => q_2 | _ => q_3) hP hD
set_option maxRecDepth 20000 in
theorem in_m_X0_init_X0 : ∀ w ∈ u_ws RX0 TX0 6, w ∈ wsX0_init := zmem_of _ [7, 8, 9, 10, 11, 12] (by decide +kernel)
set_option maxHeartbeats 4000000 in
set_option maxRecDepth 100000 in
theorem m_X0_init (l : Launch) (g : zG) (bb : Nat)  : zN l yX0_init wsX0_init ({ frames := 1, cells := 2, slots := 248, locals := 20 }) g [.ref bb] [(bb, .inr (0, [.null, .null, .int (iI 0), .int (iI 0), .int (iI 0), .int (iI 0)]))] 2 248 (fun u => [(bb, .inr (0, [.ref (u 0), .ref (u 1), .int (iI 0), .int (iI 0), .int (iI 0), .int (iI 0)])), zI g (u 0) 124 (fun _ => 0), zI g (u 1) 124 (fun _ => 0)]) := by
  refine z_entN (cc := cX0_init) (nL := 1) (ret := none) (own := RX0) (by decide) rfl rfl rfl (Nat.le_of_ble_eq_true rfl) ?_
  intro p e s m below meth c Q ls A C hlk hr hQ hP hK hD hA hS hl hO hni
  have hx := C.1
  have hb := C.2.1
  have hl : lv_has ls 1 [(0, .ref bb)] := hl
  obtain ⟨H, hHe⟩ : ∃ H, H = s.heap := ⟨_, rfl⟩
  obtain ⟨locs, hLe⟩ : ∃ q : List Loc, q = [] := ⟨_, rfl⟩
  have hP : zP g [(bb, .inr (0, [.null, .null, .int (iI 0), .int (iI 0), .int (iI 0), .int (iI 0)]))] H := by rw [hHe]; exact hP
  have hS : va_S A s.heap H locs := by rw [hHe, hLe]; exact hS
  suffices hgo : W p l e ({ frames := 1, cells := 2, slots := 248, locals := 20 }) s m ([.ref bb] : List Value).toArray below meth c H locs 0 0 Q (F0 m 0 ls []) by rw [hHe, hLe] at hgo; exact hgo
  clear hHe hLe
  refine lv_aload_n hx hb dX0_init_0 rfl (lv_at hl 0 rfl) ?_
  refine z_obj C hl.1 (List.mem_of_getElem? (i := 1) rfl) (List.mem_of_getElem? (i := 2) rfl) (List.mem_of_getElem? (i := 3) rfl) dX0_init_1 (Nat.le_of_ble_eq_true rfl) (Nat.le_of_ble_eq_true rfl) ?_
  refine lv_aload_n hx hb dX0_init_4 rfl (lv_at hl 0 rfl) ?_
  refine lv_bipush (v := iI 124) hx hb dX0_init_5 (by decide +kernel) ?_
  refine z_newa C (List.mem_of_getElem? (i := 4) rfl) hK hP hD hS hA 124 rfl (Nat.le_of_ble_eq_true rfl) (Nat.le_of_ble_eq_true rfl) (Nat.le_of_ble_eq_true rfl) dX0_init_7 (fun q_1 H hP hD hS => ?_)
  have hP : zP g [(bb, .inr (0, [.null, .null, .int (iI 0), .int (iI 0), .int (iI 0), .int (iI 0)])), zI g q_1 124 (fun _ => 0)] H := hP
  have hD : va_D A [(bb, .inr (0, [.null, .null, .int (iI 0), .int (iI 0), .int (iI 0), .int (iI 0)])), zI g q_1 124 (fun _ => 0)] := hD
  refine z_putF (v := .ref q_1) (Cn := RX0) (T := TX0) (N := 6) (ci := 0) C in_m_X0_init_X0 tyX0 tyX0_ok nmX0 hK hP hD hS 0 rfl rfl 0 (by decide) (List.mem_of_getElem? (i := 5) rfl) rfl hni rfl rfl rfl (Nat.le_of_ble_eq_true rfl) dX0_init_9 (fun H locs hP hD hS => ?_)
  have hP : zP g [(bb, .inr (0, [.ref q_1, .null, .int (iI 0), .int (iI 0), .int (iI 0), .int (iI 0)])), zI g q_1 124 (fun _ => 0)] H := hP
  have hD : va_D A [(bb, .inr (0, [.ref q_1, .null, .int (iI 0), .int (iI 0), .int (iI 0), .int (iI 0)])), zI g q_1 124 (fun _ => 0)] := hD
  refine lv_aload_n hx hb dX0_init_12 rfl (lv_at hl 0 rfl) ?_
  refine lv_bipush (v := iI 124) hx hb dX0_init_13 (by decide +kernel) ?_
  refine z_newa C (List.mem_of_getElem? (i := 4) rfl) hK hP hD hS hA 124 rfl (Nat.le_of_ble_eq_true rfl) (Nat.le_of_ble_eq_true rfl) (Nat.le_of_ble_eq_true rfl) dX0_init_15 (fun q_2 H hP hD hS => ?_)
  have hP : zP g [(bb, .inr (0, [.ref q_1, .null, .int (iI 0), .int (iI 0), .int (iI 0), .int (iI 0)])), zI g q_1 124 (fun _ => 0), zI g q_2 124 (fun _ => 0)] H := hP
  have hD : va_D A [(bb, .inr (0, [.ref q_1, .null, .int (iI 0), .int (iI 0), .int (iI 0), .int (iI 0)])), zI g q_1 124 (fun _ => 0), zI g q_2 124 (fun _ => 0)] := hD
  refine z_putF (v := .ref q_2) (Cn := RX0) (T := TX0) (N := 6) (ci := 0) C in_m_X0_init_X0 tyX0 tyX0_ok nmX0 hK hP hD hS 0 rfl rfl 1 (by decide) (List.mem_of_getElem? (i := 6) rfl) rfl hni rfl rfl rfl (Nat.le_of_ble_eq_true rfl) dX0_init_17 (fun H locs hP hD hS => ?_)
  have hP : zP g [(bb, .inr (0, [.ref q_1, .ref q_2, .int (iI 0), .int (iI 0), .int (iI 0), .int (iI 0)])), zI g q_1 124 (fun _ => 0), zI g q_2 124 (fun _ => 0)] H := hP
  have hD : va_D A [(bb, .inr (0, [.ref q_1, .ref q_2, .int (iI 0), .int (iI 0), .int (iI 0), .int (iI 0)])), zI g q_1 124 (fun _ => 0), zI g q_2 124 (fun _ => 0)] := hD
  refine W.widen (k := 2) (n := 248) (Nat.le_of_ble_eq_true rfl) (Nat.le_of_ble_eq_true rfl) ?_
  exact z_retN hx hb hlk hr hQ dX0_init_20 hS (fun k => match k with | 0 => q_1 | _ => q_2) hP hD
