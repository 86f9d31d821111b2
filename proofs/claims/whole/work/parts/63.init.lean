set_option maxRecDepth 20000 in
theorem in_m_X6_init_X6 : ∀ w ∈ u_ws RX6 TX6 9, w ∈ wsX6_init := zmem_of _ [14, 15, 16, 17, 18, 19, 20, 21, 22] (by decide +kernel)
set_option maxHeartbeats 4000000 in
set_option maxRecDepth 100000 in
theorem m_X6_init (l : Launch) (g : zG) (q : Nat)  : zN l yX6_init wsX6_init ({ frames := 1, cells := 8, slots := 7455, locals := 20 }) g [.ref q] [(q, .inr (6, [.null, .null, .int (iI 0), .null, .null, .null, .null, .null, .null]))] 8 7455 (fun u => [(q, .inr (6, [.ref (u 0), .ref (u 1), .int (iI 0), .ref (u 2), .ref (u 3), .ref (u 4), .ref (u 5), .ref (u 6), .ref (u 7)])), zI g (u 0) 647 (ups (ups (fun _ => 0) 0 50) 1 3), zI g (u 1) 5176 (fun _ => 0), zI g (u 2) 1294 (fun _ => 0), zB g (u 3) 2 (fun _ => 0), zI g (u 4) 8 (fun _ => 0), zI g (u 5) 80 (fun _ => 0), zI g (u 6) 124 (fun _ => 0), zB g (u 7) 124 (fun _ => 0)]) := by
  refine z_entN (cc := cX6_init) (nL := 1) (ret := none) (own := RX6) (by decide) rfl rfl rfl (Nat.le_of_ble_eq_true rfl) ?_
  intro p e s m below meth c Q ls A C hlk hr hQ hP hK hD hA hS hl hO hni
  have hx := C.1
  have hb := C.2.1
  have hl : lv_has ls 1 [(0, .ref q)] := hl
  obtain ⟨H, hHe⟩ : ∃ H, H = s.heap := ⟨_, rfl⟩
  obtain ⟨locs, hLe⟩ : ∃ q : List Loc, q = [] := ⟨_, rfl⟩
  have hP : zP g [(q, .inr (6, [.null, .null, .int (iI 0), .null, .null, .null, .null, .null, .null]))] H := by rw [hHe]; exact hP
  have hS : va_S A s.heap H locs := by rw [hHe, hLe]; exact hS
  suffices hgo : W p l e ({ frames := 1, cells := 8, slots := 7455, locals := 20 }) s m ([.ref q] : List Value).toArray below meth c H locs 0 0 Q (F0 m 0 ls []) by rw [hHe, hLe] at hgo; exact hgo
  clear hHe hLe
  refine lv_aload_n hx hb dX6_init_0 rfl (lv_at hl 0 rfl) ?_
  refine z_obj C hl.1 (List.mem_of_getElem? (i := 1) rfl) (List.mem_of_getElem? (i := 2) rfl) (List.mem_of_getElem? (i := 3) rfl) dX6_init_1 (Nat.le_of_ble_eq_true rfl) (Nat.le_of_ble_eq_true rfl) ?_
  refine lv_aload_n hx hb dX6_init_4 rfl (lv_at hl 0 rfl) ?_
  refine lv_sipush (v := iI 647) hx hb dX6_init_5 (by decide +kernel) ?_
  refine z_newa C (List.mem_of_getElem? (i := 4) rfl) hK hP hD hS hA 647 rfl (Nat.le_of_ble_eq_true rfl) (Nat.le_of_ble_eq_true rfl) (Nat.le_of_ble_eq_true rfl) dX6_init_8 (fun q_1 H hP hD hS => ?_)
  have hP : zP g [(q, .inr (6, [.null, .null, .int (iI 0), .null, .null, .null, .null, .null, .null])), zI g q_1 647 (fun _ => 0)] H := hP
  have hD : va_D A [(q, .inr (6, [.null, .null, .int (iI 0), .null, .null, .null, .null, .null, .null])), zI g q_1 647 (fun _ => 0)] := hD
  refine z_putF (v := .ref q_1) (Cn := RX6) (T := TX6) (N := 9) (ci := 6) C in_m_X6_init_X6 tyX6 tyX6_ok nmX6 hK hP hD hS 0 rfl rfl 0 (by decide) (List.mem_of_getElem? (i := 5) rfl) rfl hni rfl rfl rfl (Nat.le_of_ble_eq_true rfl) dX6_init_10 (fun H locs hP hD hS => ?_)
  have hP : zP g [(q, .inr (6, [.ref q_1, .null, .int (iI 0), .null, .null, .null, .null, .null, .null])), zI g q_1 647 (fun _ => 0)] H := hP
  have hD : va_D A [(q, .inr (6, [.ref q_1, .null, .int (iI 0), .null, .null, .null, .null, .null, .null])), zI g q_1 647 (fun _ => 0)] := hD
  refine lv_aload_n hx hb dX6_init_13 rfl (lv_at hl 0 rfl) ?_
  refine lv_sipush (v := iI 5176) hx hb dX6_init_14 (by decide +kernel) ?_
  refine z_newa C (List.mem_of_getElem? (i := 4) rfl) hK hP hD hS hA 5176 rfl (Nat.le_of_ble_eq_true rfl) (Nat.le_of_ble_eq_true rfl) (Nat.le_of_ble_eq_true rfl) dX6_init_17 (fun q_2 H hP hD hS => ?_)
  have hP : zP g [(q, .inr (6, [.ref q_1, .null, .int (iI 0), .null, .null, .null, .null, .null, .null])), zI g q_1 647 (fun _ => 0), zI g q_2 5176 (fun _ => 0)] H := hP
  have hD : va_D A [(q, .inr (6, [.ref q_1, .null, .int (iI 0), .null, .null, .null, .null, .null, .null])), zI g q_1 647 (fun _ => 0), zI g q_2 5176 (fun _ => 0)] := hD
  refine z_putF (v := .ref q_2) (Cn := RX6) (T := TX6) (N := 9) (ci := 6) C in_m_X6_init_X6 tyX6 tyX6_ok nmX6 hK hP hD hS 0 rfl rfl 1 (by decide) (List.mem_of_getElem? (i := 6) rfl) rfl hni rfl rfl rfl (Nat.le_of_ble_eq_true rfl) dX6_init_19 (fun H locs hP hD hS => ?_)
  have hP : zP g [(q, .inr (6, [.ref q_1, .ref q_2, .int (iI 0), .null, .null, .null, .null, .null, .null])), zI g q_1 647 (fun _ => 0), zI g q_2 5176 (fun _ => 0)] H := hP
  have hD : va_D A [(q, .inr (6, [.ref q_1, .ref q_2, .int (iI 0), .null, .null, .null, .null, .null, .null])), zI g q_1 647 (fun _ => 0), zI g q_2 5176 (fun _ => 0)] := hD
  refine lv_aload_n hx hb dX6_init_22 rfl (lv_at hl 0 rfl) ?_
  refine lv_sipush (v := iI 1294) hx hb dX6_init_23 (by decide +kernel) ?_
  refine z_newa C (List.mem_of_getElem? (i := 4) rfl) hK hP hD hS hA 1294 rfl (Nat.le_of_ble_eq_true rfl) (Nat.le_of_ble_eq_true rfl) (Nat.le_of_ble_eq_true rfl) dX6_init_26 (fun q_3 H hP hD hS => ?_)
  have hP : zP g [(q, .inr (6, [.ref q_1, .ref q_2, .int (iI 0), .null, .null, .null, .null, .null, .null])), zI g q_1 647 (fun _ => 0), zI g q_2 5176 (fun _ => 0), zI g q_3 1294 (fun _ => 0)] H := hP
  have hD : va_D A [(q, .inr (6, [.ref q_1, .ref q_2, .int (iI 0), .null, .null, .null, .null, .null, .null])), zI g q_1 647 (fun _ => 0), zI g q_2 5176 (fun _ => 0), zI g q_3 1294 (fun _ => 0)] := hD
  refine z_putF (v := .ref q_3) (Cn := RX6) (T := TX6) (N := 9) (ci := 6) C in_m_X6_init_X6 tyX6 tyX6_ok nmX6 hK hP hD hS 0 rfl rfl 3 (by decide) (List.mem_of_getElem? (i := 7) rfl) rfl hni rfl rfl rfl (Nat.le_of_ble_eq_true rfl) dX6_init_28 (fun H locs hP hD hS => ?_)
  have hP : zP g [(q, .inr (6, [.ref q_1, .ref q_2, .int (iI 0), .ref q_3, .null, .null, .null, .null, .null])), zI g q_1 647 (fun _ => 0), zI g q_2 5176 (fun _ => 0), zI g q_3 1294 (fun _ => 0)] H := hP
  have hD : va_D A [(q, .inr (6, [.ref q_1, .ref q_2, .int (iI 0), .ref q_3, .null, .null, .null, .null, .null])), zI g q_1 647 (fun _ => 0), zI g q_2 5176 (fun _ => 0), zI g q_3 1294 (fun _ => 0)] := hD
  refine lv_aload_n hx hb dX6_init_31 rfl (lv_at hl 0 rfl) ?_
  refine lv_iconst (v := iI 2) hx hb dX6_init_32 rfl ?_
  refine z_newb C (List.mem_of_getElem? (i := 8) rfl) hK hP hD hS hA 2 rfl (Nat.le_of_ble_eq_true rfl) (Nat.le_of_ble_eq_true rfl) (Nat.le_of_ble_eq_true rfl) dX6_init_33 (fun q_4 H hP hD hS => ?_)
  have hP : zP g [(q, .inr (6, [.ref q_1, .ref q_2, .int (iI 0), .ref q_3, .null, .null, .null, .null, .null])), zI g q_1 647 (fun _ => 0), zI g q_2 5176 (fun _ => 0), zI g q_3 1294 (fun _ => 0), zB g q_4 2 (fun _ => 0)] H := hP
  have hD : va_D A [(q, .inr (6, [.ref q_1, .ref q_2, .int (iI 0), .ref q_3, .null, .null, .null, .null, .null])), zI g q_1 647 (fun _ => 0), zI g q_2 5176 (fun _ => 0), zI g q_3 1294 (fun _ => 0), zB g q_4 2 (fun _ => 0)] := hD
  refine z_putF (v := .ref q_4) (Cn := RX6) (T := TX6) (N := 9) (ci := 6) C in_m_X6_init_X6 tyX6 tyX6_ok nmX6 hK hP hD hS 0 rfl rfl 4 (by decide) (List.mem_of_getElem? (i := 9) rfl) rfl hni rfl rfl rfl (Nat.le_of_ble_eq_true rfl) dX6_init_35 (fun H locs hP hD hS => ?_)
  have hP : zP g [(q, .inr (6, [.ref q_1, .ref q_2, .int (iI 0), .ref q_3, .ref q_4, .null, .null, .null, .null])), zI g q_1 647 (fun _ => 0), zI g q_2 5176 (fun _ => 0), zI g q_3 1294 (fun _ => 0), zB g q_4 2 (fun _ => 0)] H := hP
  have hD : va_D A [(q, .inr (6, [.ref q_1, .ref q_2, .int (iI 0), .ref q_3, .ref q_4, .null, .null, .null, .null])), zI g q_1 647 (fun _ => 0), zI g q_2 5176 (fun _ => 0), zI g q_3 1294 (fun _ => 0), zB g q_4 2 (fun _ => 0)] := hD
  refine lv_aload_n hx hb dX6_init_38 rfl (lv_at hl 0 rfl) ?_
  refine lv_bipush (v := iI 8) hx hb dX6_init_39 (by decide +kernel) ?_
  refine z_newa C (List.mem_of_getElem? (i := 4) rfl) hK hP hD hS hA 8 rfl (Nat.le_of_ble_eq_true rfl) (Nat.le_of_ble_eq_true rfl) (Nat.le_of_ble_eq_true rfl) dX6_init_41 (fun q_5 H hP hD hS => ?_)
  have hP : zP g [(q, .inr (6, [.ref q_1, .ref q_2, .int (iI 0), .ref q_3, .ref q_4, .null, .null, .null, .null])), zI g q_1 647 (fun _ => 0), zI g q_2 5176 (fun _ => 0), zI g q_3 1294 (fun _ => 0), zB g q_4 2 (fun _ => 0), zI g q_5 8 (fun _ => 0)] H := hP
  have hD : va_D A [(q, .inr (6, [.ref q_1, .ref q_2, .int (iI 0), .ref q_3, .ref q_4, .null, .null, .null, .null])), zI g q_1 647 (fun _ => 0), zI g q_2 5176 (fun _ => 0), zI g q_3 1294 (fun _ => 0), zB g q_4 2 (fun _ => 0), zI g q_5 8 (fun _ => 0)] := hD
  refine z_putF (v := .ref q_5) (Cn := RX6) (T := TX6) (N := 9) (ci := 6) C in_m_X6_init_X6 tyX6 tyX6_ok nmX6 hK hP hD hS 0 rfl rfl 5 (by decide) (List.mem_of_getElem? (i := 10) rfl) rfl hni rfl rfl rfl (Nat.le_of_ble_eq_true rfl) dX6_init_43 (fun H locs hP hD hS => ?_)
  have hP : zP g [(q, .inr (6, [.ref q_1, .ref q_2, .int (iI 0), .ref q_3, .ref q_4, .ref q_5, .null, .null, .null])), zI g q_1 647 (fun _ => 0), zI g q_2 5176 (fun _ => 0), zI g q_3 1294 (fun _ => 0), zB g q_4 2 (fun _ => 0), zI g q_5 8 (fun _ => 0)] H := hP
  have hD : va_D A [(q, .inr (6, [.ref q_1, .ref q_2, .int (iI 0), .ref q_3, .ref q_4, .ref q_5, .null, .null, .null])), zI g q_1 647 (fun _ => 0), zI g q_2 5176 (fun _ => 0), zI g q_3 1294 (fun _ => 0), zB g q_4 2 (fun _ => 0), zI g q_5 8 (fun _ => 0)] := hD
  refine lv_aload_n hx hb dX6_init_46 rfl (lv_at hl 0 rfl) ?_
  refine lv_bipush (v := iI 80) hx hb dX6_init_47 (by decide +kernel) ?_
  refine z_newa C (List.mem_of_getElem? (i := 4) rfl) hK hP hD hS hA 80 rfl (Nat.le_of_ble_eq_true rfl) (Nat.le_of_ble_eq_true rfl) (Nat.le_of_ble_eq_true rfl) dX6_init_49 (fun q_6 H hP hD hS => ?_)
  have hP : zP g [(q, .inr (6, [.ref q_1, .ref q_2, .int (iI 0), .ref q_3, .ref q_4, .ref q_5, .null, .null, .null])), zI g q_1 647 (fun _ => 0), zI g q_2 5176 (fun _ => 0), zI g q_3 1294 (fun _ => 0), zB g q_4 2 (fun _ => 0), zI g q_5 8 (fun _ => 0), zI g q_6 80 (fun _ => 0)] H := hP
  have hD : va_D A [(q, .inr (6, [.ref q_1, .ref q_2, .int (iI 0), .ref q_3, .ref q_4, .ref q_5, .null, .null, .null])), zI g q_1 647 (fun _ => 0), zI g q_2 5176 (fun _ => 0), zI g q_3 1294 (fun _ => 0), zB g q_4 2 (fun _ => 0), zI g q_5 8 (fun _ => 0), zI g q_6 80 (fun _ => 0)] := hD
  refine z_putF (v := .ref q_6) (Cn := RX6) (T := TX6) (N := 9) (ci := 6) C in_m_X6_init_X6 tyX6 tyX6_ok nmX6 hK hP hD hS 0 rfl rfl 6 (by decide) (List.mem_of_getElem? (i := 11) rfl) rfl hni rfl rfl rfl (Nat.le_of_ble_eq_true rfl) dX6_init_51 (fun H locs hP hD hS => ?_)
  have hP : zP g [(q, .inr (6, [.ref q_1, .ref q_2, .int (iI 0), .ref q_3, .ref q_4, .ref q_5, .ref q_6, .null, .null])), zI g q_1 647 (fun _ => 0), zI g q_2 5176 (fun _ => 0), zI g q_3 1294 (fun _ => 0), zB g q_4 2 (fun _ => 0), zI g q_5 8 (fun _ => 0), zI g q_6 80 (fun _ => 0)] H := hP
  have hD : va_D A [(q, .inr (6, [.ref q_1, .ref q_2, .int (iI 0), .ref q_3, .ref q_4, .ref q_5, .ref q_6, .null, .null])), zI g q_1 647 (fun _ => 0), zI g q_2 5176 (fun _ => 0), zI g q_3 1294 (fun _ => 0), zB g q_4 2 (fun _ => 0), zI g q_5 8 (fun _ => 0), zI g q_6 80 (fun _ => 0)] := hD
  refine lv_aload_n hx hb dX6_init_54 rfl (lv_at hl 0 rfl) ?_
  refine lv_bipush (v := iI 124) hx hb dX6_init_55 (by decide +kernel) ?_
  refine z_newa C (List.mem_of_getElem? (i := 4) rfl) hK hP hD hS hA 124 rfl (Nat.le_of_ble_eq_true rfl) (Nat.le_of_ble_eq_true rfl) (Nat.le_of_ble_eq_true rfl) dX6_init_57 (fun q_7 H hP hD hS => ?_)
  have hP : zP g [(q, .inr (6, [.ref q_1, .ref q_2, .int (iI 0), .ref q_3, .ref q_4, .ref q_5, .ref q_6, .null, .null])), zI g q_1 647 (fun _ => 0), zI g q_2 5176 (fun _ => 0), zI g q_3 1294 (fun _ => 0), zB g q_4 2 (fun _ => 0), zI g q_5 8 (fun _ => 0), zI g q_6 80 (fun _ => 0), zI g q_7 124 (fun _ => 0)] H := hP
  have hD : va_D A [(q, .inr (6, [.ref q_1, .ref q_2, .int (iI 0), .ref q_3, .ref q_4, .ref q_5, .ref q_6, .null, .null])), zI g q_1 647 (fun _ => 0), zI g q_2 5176 (fun _ => 0), zI g q_3 1294 (fun _ => 0), zB g q_4 2 (fun _ => 0), zI g q_5 8 (fun _ => 0), zI g q_6 80 (fun _ => 0), zI g q_7 124 (fun _ => 0)] := hD
  refine z_putF (v := .ref q_7) (Cn := RX6) (T := TX6) (N := 9) (ci := 6) C in_m_X6_init_X6 tyX6 tyX6_ok nmX6 hK hP hD hS 0 rfl rfl 7 (by decide) (List.mem_of_getElem? (i := 12) rfl) rfl hni rfl rfl rfl (Nat.le_of_ble_eq_true rfl) dX6_init_59 (fun H locs hP hD hS => ?_)
  have hP : zP g [(q, .inr (6, [.ref q_1, .ref q_2, .int (iI 0), .ref q_3, .ref q_4, .ref q_5, .ref q_6, .ref q_7, .null])), zI g q_1 647 (fun _ => 0), zI g q_2 5176 (fun _ => 0), zI g q_3 1294 (fun _ => 0), zB g q_4 2 (fun _ => 0), zI g q_5 8 (fun _ => 0), zI g q_6 80 (fun _ => 0), zI g q_7 124 (fun _ => 0)] H := hP
  have hD : va_D A [(q, .inr (6, [.ref q_1, .ref q_2, .int (iI 0), .ref q_3, .ref q_4, .ref q_5, .ref q_6, .ref q_7, .null])), zI g q_1 647 (fun _ => 0), zI g q_2 5176 (fun _ => 0), zI g q_3 1294 (fun _ => 0), zB g q_4 2 (fun _ => 0), zI g q_5 8 (fun _ => 0), zI g q_6 80 (fun _ => 0), zI g q_7 124 (fun _ => 0)] := hD
  refine lv_aload_n hx hb dX6_init_62 rfl (lv_at hl 0 rfl) ?_
  refine lv_bipush (v := iI 124) hx hb dX6_init_63 (by decide +kernel) ?_
  refine z_newb C (List.mem_of_getElem? (i := 8) rfl) hK hP hD hS hA 124 rfl (Nat.le_of_ble_eq_true rfl) (Nat.le_of_ble_eq_true rfl) (Nat.le_of_ble_eq_true rfl) dX6_init_65 (fun q_8 H hP hD hS => ?_)
  have hP : zP g [(q, .inr (6, [.ref q_1, .ref q_2, .int (iI 0), .ref q_3, .ref q_4, .ref q_5, .ref q_6, .ref q_7, .null])), zI g q_1 647 (fun _ => 0), zI g q_2 5176 (fun _ => 0), zI g q_3 1294 (fun _ => 0), zB g q_4 2 (fun _ => 0), zI g q_5 8 (fun _ => 0), zI g q_6 80 (fun _ => 0), zI g q_7 124 (fun _ => 0), zB g q_8 124 (fun _ => 0)] H := hP
  have hD : va_D A [(q, .inr (6, [.ref q_1, .ref q_2, .int (iI 0), .ref q_3, .ref q_4, .ref q_5, .ref q_6, .ref q_7, .null])), zI g q_1 647 (fun _ => 0), zI g q_2 5176 (fun _ => 0), zI g q_3 1294 (fun _ => 0), zB g q_4 2 (fun _ => 0), zI g q_5 8 (fun _ => 0), zI g q_6 80 (fun _ => 0), zI g q_7 124 (fun _ => 0), zB g q_8 124 (fun _ => 0)] := hD
  refine z_putF (v := .ref q_8) (Cn := RX6) (T := TX6) (N := 9) (ci := 6) C in_m_X6_init_X6 tyX6 tyX6_ok nmX6 hK hP hD hS 0 rfl rfl 8 (by decide) (List.mem_of_getElem? (i := 13) rfl) rfl hni rfl rfl rfl (Nat.le_of_ble_eq_true rfl) dX6_init_67 (fun H locs hP hD hS => ?_)
  have hP : zP g [(q, .inr (6, [.ref q_1, .ref q_2, .int (iI 0), .ref q_3, .ref q_4, .ref q_5, .ref q_6, .ref q_7, .ref q_8])), zI g q_1 647 (fun _ => 0), zI g q_2 5176 (fun _ => 0), zI g q_3 1294 (fun _ => 0), zB g q_4 2 (fun _ => 0), zI g q_5 8 (fun _ => 0), zI g q_6 80 (fun _ => 0), zI g q_7 124 (fun _ => 0), zB g q_8 124 (fun _ => 0)] H := hP
  have hD : va_D A [(q, .inr (6, [.ref q_1, .ref q_2, .int (iI 0), .ref q_3, .ref q_4, .ref q_5, .ref q_6, .ref q_7, .ref q_8])), zI g q_1 647 (fun _ => 0), zI g q_2 5176 (fun _ => 0), zI g q_3 1294 (fun _ => 0), zB g q_4 2 (fun _ => 0), zI g q_5 8 (fun _ => 0), zI g q_6 80 (fun _ => 0), zI g q_7 124 (fun _ => 0), zB g q_8 124 (fun _ => 0)] := hD
  refine lv_aload_n hx hb dX6_init_70 rfl (lv_at hl 0 rfl) ?_
  refine z_get (v := .ref q_1) (Cn := RX6) (T := TX6) (N := 9) (ci := 6) C in_m_X6_init_X6 hK hP 0 rfl rfl 0 (by decide) (List.mem_of_getElem? (i := 5) rfl) rfl dX6_init_71 ?_
  refine lv_iconst (v := iI 0) hx hb dX6_init_74 rfl ?_
  refine lv_bipush (v := iI 50) hx hb dX6_init_75 (by decide +kernel) ?_
  refine z_iast hx hb hK hP hD hS 1 rfl (by omega) (by omega) (Nat.le_of_ble_eq_true rfl) dX6_init_77 (fun H locs hP hD hS => ?_)
  have hP : zP g [(q, .inr (6, [.ref q_1, .ref q_2, .int (iI 0), .ref q_3, .ref q_4, .ref q_5, .ref q_6, .ref q_7, .ref q_8])), zI g q_1 647 (ups (fun _ => 0) 0 50), zI g q_2 5176 (fun _ => 0), zI g q_3 1294 (fun _ => 0), zB g q_4 2 (fun _ => 0), zI g q_5 8 (fun _ => 0), zI g q_6 80 (fun _ => 0), zI g q_7 124 (fun _ => 0), zB g q_8 124 (fun _ => 0)] H := hP
  have hD : va_D A [(q, .inr (6, [.ref q_1, .ref q_2, .int (iI 0), .ref q_3, .ref q_4, .ref q_5, .ref q_6, .ref q_7, .ref q_8])), zI g q_1 647 (ups (fun _ => 0) 0 50), zI g q_2 5176 (fun _ => 0), zI g q_3 1294 (fun _ => 0), zB g q_4 2 (fun _ => 0), zI g q_5 8 (fun _ => 0), zI g q_6 80 (fun _ => 0), zI g q_7 124 (fun _ => 0), zB g q_8 124 (fun _ => 0)] := hD
  refine lv_aload_n hx hb dX6_init_78 rfl (lv_at hl 0 rfl) ?_
  refine z_get (v := .ref q_1) (Cn := RX6) (T := TX6) (N := 9) (ci := 6) C in_m_X6_init_X6 hK hP 0 rfl rfl 0 (by decide) (List.mem_of_getElem? (i := 5) rfl) rfl dX6_init_79 ?_
  refine lv_iconst (v := iI 1) hx hb dX6_init_82 rfl ?_
  refine lv_iconst (v := iI 3) hx hb dX6_init_83 rfl ?_
  refine z_iast hx hb hK hP hD hS 1 rfl (by omega) (by omega) (Nat.le_of_ble_eq_true rfl) dX6_init_84 (fun H locs hP hD hS => ?_)
  have hP : zP g [(q, .inr (6, [.ref q_1, .ref q_2, .int (iI 0), .ref q_3, .ref q_4, .ref q_5, .ref q_6, .ref q_7, .ref q_8])), zI g q_1 647 (ups (ups (fun _ => 0) 0 50) 1 3), zI g q_2 5176 (fun _ => 0), zI g q_3 1294 (fun _ => 0), zB g q_4 2 (fun _ => 0), zI g q_5 8 (fun _ => 0), zI g q_6 80 (fun _ => 0), zI g q_7 124 (fun _ => 0), zB g q_8 124 (fun _ => 0)] H := hP
  have hD : va_D A [(q, .inr (6, [.ref q_1, .ref q_2, .int (iI 0), .ref q_3, .ref q_4, .ref q_5, .ref q_6, .ref q_7, .ref q_8])), zI g q_1 647 (ups (ups (fun _ => 0) 0 50) 1 3), zI g q_2 5176 (fun _ => 0), zI g q_3 1294 (fun _ => 0), zB g q_4 2 (fun _ => 0), zI g q_5 8 (fun _ => 0), zI g q_6 80 (fun _ => 0), zI g q_7 124 (fun _ => 0), zB g q_8 124 (fun _ => 0)] := hD
  refine W.widen (k := 8) (n := 7455) (Nat.le_of_ble_eq_true rfl) (Nat.le_of_ble_eq_true rfl) ?_
  exact z_retN hx hb hlk hr hQ dX6_init_85 hS (fun k => match k with | 0 => q_1 | 1 => q_2 | 2 => q_3 | 3 => q_4 | 4 => q_5 | 5 => q_6 | 6 => q_7 | _ => q_8) hP hD
