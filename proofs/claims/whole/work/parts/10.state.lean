set_option maxRecDepth 20000 in
theorem in_X4_floor_X4 : ∀ w ∈ u_ws RX4 TX4 4, w ∈ wsX4_floor := zmem_of _ [2, 3, 4, 5] (by decide +kernel)
set_option maxHeartbeats 4000000 in
set_option maxRecDepth 100000 in
theorem m_X4_floor (l : Launch) (g : zG) (h hn hs : Nat) (fl re : Int)  : zS l yX4_floor wsX4_floor ({ frames := 0, cells := 0, slots := 0, locals := 0 }) g [.ref h] [(h, .inr (4, [.ref hn, .ref hs, .int (iI fl), .int (iI re)]))] fl := by
  refine z_entS (cc := cX4_floor) (nL := 1) (ret := (some .int)) (own := RX4) (by decide) rfl rfl (Nat.le_of_ble_eq_true rfl) ?_
  intro p e s m below meth c Q ls C hlk hr hQ hP hK hl
  have hx := C.1
  have hb := C.2.1
  have hl : lv_has ls 1 [(0, .ref h)] := hl
  refine lv_aload_n hx hb dX4_floor_0 rfl (lv_at hl 0 rfl) ?_
  refine z_get (v := .int (iI fl)) (Cn := RX4) (T := TX4) (N := 4) (ci := 4) C in_X4_floor_X4 hK hP 0 rfl rfl 2 (by decide) (List.mem_of_getElem? (i := 1) rfl) rfl dX4_floor_1 ?_
  exact z_retS hx hb hlk hr hQ dX4_floor_4 (rfl)
set_option maxRecDepth 20000 in
theorem in_X4_reach_X4 : ∀ w ∈ u_ws RX4 TX4 4, w ∈ wsX4_reach := zmem_of _ [2, 3, 4, 5] (by decide +kernel)
set_option maxHeartbeats 4000000 in
set_option maxRecDepth 100000 in
theorem m_X4_reach (l : Launch) (g : zG) (h hn hs : Nat) (fl re : Int)  : zS l yX4_reach wsX4_reach ({ frames := 0, cells := 0, slots := 0, locals := 0 }) g [.ref h] [(h, .inr (4, [.ref hn, .ref hs, .int (iI fl), .int (iI re)]))] re := by
  refine z_entS (cc := cX4_reach) (nL := 1) (ret := (some .int)) (own := RX4) (by decide) rfl rfl (Nat.le_of_ble_eq_true rfl) ?_
  intro p e s m below meth c Q ls C hlk hr hQ hP hK hl
  have hx := C.1
  have hb := C.2.1
  have hl : lv_has ls 1 [(0, .ref h)] := hl
  refine lv_aload_n hx hb dX4_reach_0 rfl (lv_at hl 0 rfl) ?_
  refine z_get (v := .int (iI re)) (Cn := RX4) (T := TX4) (N := 4) (ci := 4) C in_X4_reach_X4 hK hP 0 rfl rfl 3 (by decide) (List.mem_of_getElem? (i := 1) rfl) rfl dX4_reach_1 ?_
  exact z_retS hx hb hlk hr hQ dX4_reach_4 (rfl)
set_option maxRecDepth 20000 in
theorem in_X4_sizeOf_X4 : ∀ w ∈ u_ws RX4 TX4 4, w ∈ wsX4_sizeOf := zmem_of _ [2, 3, 4, 5] (by decide +kernel)
set_option maxHeartbeats 4000000 in
set_option maxRecDepth 100000 in
theorem m_X4_sizeOf (l : Launch) (g : zG) (h hn hs : Nat) (fl re : Int) (SZ : Int → Int) (row : Int) (h1 : 0 ≤ row) (h2 : row < 5) : zS l yX4_sizeOf wsX4_sizeOf ({ frames := 0, cells := 0, slots := 0, locals := 0 }) g [.ref h, .int (iI row)] [(h, .inr (4, [.ref hn, .ref hs, .int (iI fl), .int (iI re)])), zI g hs 5 SZ] (SZ row) := by
  refine z_entS (cc := cX4_sizeOf) (nL := 2) (ret := (some .int)) (own := RX4) (by decide) rfl rfl (Nat.le_of_ble_eq_true rfl) ?_
  intro p e s m below meth c Q ls C hlk hr hQ hP hK hl
  have hx := C.1
  have hb := C.2.1
  have hl : lv_has ls 2 [(0, .ref h), (1, .int (iI row))] := hl
  refine lv_aload_n hx hb dX4_sizeOf_0 rfl (lv_at hl 0 rfl) ?_
  refine z_get (v := .ref hs) (Cn := RX4) (T := TX4) (N := 4) (ci := 4) C in_X4_sizeOf_X4 hK hP 0 rfl rfl 1 (by decide) (List.mem_of_getElem? (i := 1) rfl) rfl dX4_sizeOf_1 ?_
  refine lv_iload_n hx hb dX4_sizeOf_4 rfl (lv_at hl 1 rfl) ?_
  refine z_iald hx hb hK hP 1 rfl (by omega) (by omega) (Nat.le_of_ble_eq_true rfl) dX4_sizeOf_5 ?_
  exact z_retS hx hb hlk hr hQ dX4_sizeOf_6 (rfl)
set_option maxRecDepth 20000 in
theorem in_X4_windowsOf_X4 : ∀ w ∈ u_ws RX4 TX4 4, w ∈ wsX4_windowsOf := zmem_of _ [2, 3, 4, 5] (by decide +kernel)
set_option maxHeartbeats 4000000 in
set_option maxRecDepth 100000 in
theorem m_X4_windowsOf (l : Launch) (g : zG) (h hn hs : Nat) (fl re : Int) (SZ : Int → Int) (row : Int) (h1 : 0 ≤ row) (h2 : row < 5) (h3 : 0 ≤ SZ row) (h4 : SZ row ≤ 128) : zS l yX4_windowsOf wsX4_windowsOf ({ frames := 0, cells := 0, slots := 0, locals := 0 }) g [.ref h, .int (iI row)] [(h, .inr (4, [.ref hn, .ref hs, .int (iI fl), .int (iI re)])), zI g hs 5 SZ] (SZ row / 8) := by
  refine z_entS (cc := cX4_windowsOf) (nL := 2) (ret := (some .int)) (own := RX4) (by decide) rfl rfl (Nat.le_of_ble_eq_true rfl) ?_
  intro p e s m below meth c Q ls C hlk hr hQ hP hK hl
  have hx := C.1
  have hb := C.2.1
  have hl : lv_has ls 2 [(0, .ref h), (1, .int (iI row))] := hl
  refine lv_aload_n hx hb dX4_windowsOf_0 rfl (lv_at hl 0 rfl) ?_
  refine z_get (v := .ref hs) (Cn := RX4) (T := TX4) (N := 4) (ci := 4) C in_X4_windowsOf_X4 hK hP 0 rfl rfl 1 (by decide) (List.mem_of_getElem? (i := 1) rfl) rfl dX4_windowsOf_1 ?_
  refine lv_iload_n hx hb dX4_windowsOf_4 rfl (lv_at hl 1 rfl) ?_
  refine z_iald hx hb hK hP 1 rfl (by omega) (by omega) (Nat.le_of_ble_eq_true rfl) dX4_windowsOf_5 ?_
  refine lv_bipush (v := iI 8) hx hb dX4_windowsOf_6 (by decide +kernel) ?_
  refine z_idivN hx hb dX4_windowsOf_8 (by omega) (by omega) (by omega) (by omega) ?_
  exact z_retS hx hb hlk hr hQ dX4_windowsOf_9 (rfl)
set_option maxRecDepth 20000 in
theorem in_X4_numberAt_X4 : ∀ w ∈ u_ws RX4 TX4 4, w ∈ wsX4_numberAt := zmem_of _ [2, 3, 4, 5] (by decide +kernel)
set_option maxHeartbeats 4000000 in
set_option maxRecDepth 100000 in
theorem m_X4_numberAt (l : Launch) (g : zG) (h hn hs : Nat) (fl re : Int) (NU : Int → Int) (row i : Int) (h1 : 0 ≤ row) (h2 : row < 5) (h3 : 0 ≤ i) (h4 : i < 128) : zS l yX4_numberAt wsX4_numberAt ({ frames := 0, cells := 0, slots := 0, locals := 0 }) g [.ref h, .int (iI row), .int (iI i)] [(h, .inr (4, [.ref hn, .ref hs, .int (iI fl), .int (iI re)])), zI g hn 640 NU] (NU (row * 128 + i)) := by
  refine z_entS (cc := cX4_numberAt) (nL := 3) (ret := (some .int)) (own := RX4) (by decide) rfl rfl (Nat.le_of_ble_eq_true rfl) ?_
  intro p e s m below meth c Q ls C hlk hr hQ hP hK hl
  have hx := C.1
  have hb := C.2.1
  have hl : lv_has ls 3 [(0, .ref h), (1, .int (iI row)), (2, .int (iI i))] := hl
  refine lv_aload_n hx hb dX4_numberAt_0 rfl (lv_at hl 0 rfl) ?_
  refine z_get (v := .ref hn) (Cn := RX4) (T := TX4) (N := 4) (ci := 4) C in_X4_numberAt_X4 hK hP 0 rfl rfl 0 (by decide) (List.mem_of_getElem? (i := 1) rfl) rfl dX4_numberAt_1 ?_
  refine lv_iload_n hx hb dX4_numberAt_4 rfl (lv_at hl 1 rfl) ?_
  refine lv_sipush (v := iI 128) hx hb dX4_numberAt_5 (by decide +kernel) ?_
  refine z_imul hx hb dX4_numberAt_8 ?_
  refine lv_iload_n hx hb dX4_numberAt_9 rfl (lv_at hl 2 rfl) ?_
  refine z_iadd hx hb dX4_numberAt_10 ?_
  refine z_iald hx hb hK hP 1 rfl (by omega) (by omega) (Nat.le_of_ble_eq_true rfl) dX4_numberAt_11 ?_
  exact z_retS hx hb hlk hr hQ dX4_numberAt_12 (rfl)
set_option maxRecDepth 20000 in
theorem in_X4_setFloor_X4 : ∀ w ∈ u_ws RX4 TX4 4, w ∈ wsX4_setFloor := zmem_of _ [2, 3, 4, 5] (by decide +kernel)
set_option maxHeartbeats 4000000 in
set_option maxRecDepth 100000 in
theorem m_X4_setFloor (l : Launch) (g : zG) (h hn hs : Nat) (fl re : Int) (v : Int)  : zV l yX4_setFloor wsX4_setFloor ({ frames := 0, cells := 0, slots := 0, locals := 0 }) g [.ref h, .int (iI v)] [(h, .inr (4, [.ref hn, .ref hs, .int (iI fl), .int (iI re)]))] (S := Unit) (fun _ => True) (fun _ => [(h, .inr (4, [.ref hn, .ref hs, .int (iI v), .int (iI re)]))]) := by
  refine z_entV (cc := cX4_setFloor) (nL := 2) (ret := none) (own := RX4) (by decide) rfl rfl (Nat.le_of_ble_eq_true rfl) ?_
  intro p e s m below meth c Q ls A C hlk hr hQ hP hK hD hA hS hl
  have hx := C.1
  have hb := C.2.1
  have hl : lv_has ls 2 [(0, .ref h), (1, .int (iI v))] := hl
  obtain ⟨H, hHe⟩ : ∃ H, H = s.heap := ⟨_, rfl⟩
  obtain ⟨locs, hLe⟩ : ∃ q : List Loc, q = [] := ⟨_, rfl⟩
  have hP : zP g [(h, .inr (4, [.ref hn, .ref hs, .int (iI fl), .int (iI re)]))] H := by rw [hHe]; exact hP
  have hS : va_S A s.heap H locs := by rw [hHe, hLe]; exact hS
  suffices hgo : W p l e ({ frames := 0, cells := 0, slots := 0, locals := 0 }) s m ([.ref h, .int (iI v)] : List Value).toArray below meth c H locs 0 0 Q (F0 m 0 ls []) by rw [hHe, hLe] at hgo; exact hgo
  clear hHe hLe
  refine lv_aload_n hx hb dX4_setFloor_0 rfl (lv_at hl 0 rfl) ?_
  refine lv_iload_n hx hb dX4_setFloor_1 rfl (lv_at hl 1 rfl) ?_
  refine z_put (v := .int (iI v)) (Cn := RX4) (T := TX4) (N := 4) (ci := 4) C in_X4_setFloor_X4 tyX4 tyX4_ok nmX4 hK hP hD hS 0 rfl rfl 2 (by decide) (List.mem_of_getElem? (i := 1) rfl) rfl rfl rfl (Nat.le_of_ble_eq_true rfl) dX4_setFloor_2 (fun H locs hP hD hS => ?_)
  have hP : zP g [(h, .inr (4, [.ref hn, .ref hs, .int (iI v), .int (iI re)]))] H := hP
  have hD : va_D A [(h, .inr (4, [.ref hn, .ref hs, .int (iI v), .int (iI re)]))] := hD
  exact z_retV hx hb hlk hr hQ dX4_setFloor_5 hS () (trivial) (hP)
set_option maxRecDepth 20000 in
theorem in_X4_setReach_X4 : ∀ w ∈ u_ws RX4 TX4 4, w ∈ wsX4_setReach := zmem_of _ [2, 3, 4, 5] (by decide +kernel)
set_option maxHeartbeats 4000000 in
set_option maxRecDepth 100000 in
theorem m_X4_setReach (l : Launch) (g : zG) (h hn hs : Nat) (fl re : Int) (v : Int)  : zV l yX4_setReach wsX4_setReach ({ frames := 0, cells := 0, slots := 0, locals := 0 }) g [.ref h, .int (iI v)] [(h, .inr (4, [.ref hn, .ref hs, .int (iI fl), .int (iI re)]))] (S := Unit) (fun _ => True) (fun _ => [(h, .inr (4, [.ref hn, .ref hs, .int (iI fl), .int (iI v)]))]) := by
  refine z_entV (cc := cX4_setReach) (nL := 2) (ret := none) (own := RX4) (by decide) rfl rfl (Nat.le_of_ble_eq_true rfl) ?_
  intro p e s m below meth c Q ls A C hlk hr hQ hP hK hD hA hS hl
  have hx := C.1
  have hb := C.2.1
  have hl : lv_has ls 2 [(0, .ref h), (1, .int (iI v))] := hl
  obtain ⟨H, hHe⟩ : ∃ H, H = s.heap := ⟨_, rfl⟩
  obtain ⟨locs, hLe⟩ : ∃ q : List Loc, q = [] := ⟨_, rfl⟩
  have hP : zP g [(h, .inr (4, [.ref hn, .ref hs, .int (iI fl), .int (iI re)]))] H := by rw [hHe]; exact hP
  have hS : va_S A s.heap H locs := by rw [hHe, hLe]; exact hS
  suffices hgo : W p l e ({ frames := 0, cells := 0, slots := 0, locals := 0 }) s m ([.ref h, .int (iI v)] : List Value).toArray below meth c H locs 0 0 Q (F0 m 0 ls []) by rw [hHe, hLe] at hgo; exact hgo
  clear hHe hLe
  refine lv_aload_n hx hb dX4_setReach_0 rfl (lv_at hl 0 rfl) ?_
  refine lv_iload_n hx hb dX4_setReach_1 rfl (lv_at hl 1 rfl) ?_
  refine z_put (v := .int (iI v)) (Cn := RX4) (T := TX4) (N := 4) (ci := 4) C in_X4_setReach_X4 tyX4 tyX4_ok nmX4 hK hP hD hS 0 rfl rfl 3 (by decide) (List.mem_of_getElem? (i := 1) rfl) rfl rfl rfl (Nat.le_of_ble_eq_true rfl) dX4_setReach_2 (fun H locs hP hD hS => ?_)
  have hP : zP g [(h, .inr (4, [.ref hn, .ref hs, .int (iI fl), .int (iI v)]))] H := hP
  have hD : va_D A [(h, .inr (4, [.ref hn, .ref hs, .int (iI fl), .int (iI v)]))] := hD
  exact z_retV hx hb hlk hr hQ dX4_setReach_5 hS () (trivial) (hP)
set_option maxRecDepth 20000 in
theorem in_X4_empty_X4 : ∀ w ∈ u_ws RX4 TX4 4, w ∈ wsX4_empty := zmem_of _ [2, 3, 4, 5] (by decide +kernel)
set_option maxHeartbeats 4000000 in
set_option maxRecDepth 100000 in
theorem m_X4_empty (l : Launch) (g : zG) (h hn hs : Nat) (fl re : Int) (SZ : Int → Int) (row : Int) (h1 : 0 ≤ row) (h2 : row < 5) : zV l yX4_empty wsX4_empty ({ frames := 0, cells := 0, slots := 0, locals := 0 }) g [.ref h, .int (iI row)] [(h, .inr (4, [.ref hn, .ref hs, .int (iI fl), .int (iI re)])), zI g hs 5 SZ] (S := Unit) (fun _ => True) (fun _ => [(h, .inr (4, [.ref hn, .ref hs, .int (iI fl), .int (iI re)])), zI g hs 5 (ups SZ row 0)]) := by
  refine z_entV (cc := cX4_empty) (nL := 2) (ret := none) (own := RX4) (by decide) rfl rfl (Nat.le_of_ble_eq_true rfl) ?_
  intro p e s m below meth c Q ls A C hlk hr hQ hP hK hD hA hS hl
  have hx := C.1
  have hb := C.2.1
  have hl : lv_has ls 2 [(0, .ref h), (1, .int (iI row))] := hl
  obtain ⟨H, hHe⟩ : ∃ H, H = s.heap := ⟨_, rfl⟩
  obtain ⟨locs, hLe⟩ : ∃ q : List Loc, q = [] := ⟨_, rfl⟩
  have hP : zP g [(h, .inr (4, [.ref hn, .ref hs, .int (iI fl), .int (iI re)])), zI g hs 5 SZ] H := by rw [hHe]; exact hP
  have hS : va_S A s.heap H locs := by rw [hHe, hLe]; exact hS
  suffices hgo : W p l e ({ frames := 0, cells := 0, slots := 0, locals := 0 }) s m ([.ref h, .int (iI row)] : List Value).toArray below meth c H locs 0 0 Q (F0 m 0 ls []) by rw [hHe, hLe] at hgo; exact hgo
  clear hHe hLe
  refine lv_aload_n hx hb dX4_empty_0 rfl (lv_at hl 0 rfl) ?_
  refine z_get (v := .ref hs) (Cn := RX4) (T := TX4) (N := 4) (ci := 4) C in_X4_empty_X4 hK hP 0 rfl rfl 1 (by decide) (List.mem_of_getElem? (i := 1) rfl) rfl dX4_empty_1 ?_
  refine lv_iload_n hx hb dX4_empty_4 rfl (lv_at hl 1 rfl) ?_
  refine lv_iconst (v := iI 0) hx hb dX4_empty_5 rfl ?_
  refine z_iast hx hb hK hP hD hS 1 rfl (by omega) (by omega) (Nat.le_of_ble_eq_true rfl) dX4_empty_6 (fun H locs hP hD hS => ?_)
  have hP : zP g [(h, .inr (4, [.ref hn, .ref hs, .int (iI fl), .int (iI re)])), zI g hs 5 (ups SZ row 0)] H := hP
  have hD : va_D A [(h, .inr (4, [.ref hn, .ref hs, .int (iI fl), .int (iI re)])), zI g hs 5 (ups SZ row 0)] := hD
  exact z_retV hx hb hlk hr hQ dX4_empty_7 hS () (trivial) (hP)
set_option maxRecDepth 20000 in
theorem in_X4_append_X4 : ∀ w ∈ u_ws RX4 TX4 4, w ∈ wsX4_append := zmem_of _ [3, 4, 5, 6] (by decide +kernel)
set_option maxHeartbeats 4000000 in
set_option maxRecDepth 100000 in
theorem m_X4_append (l : Launch) (g : zG) (h hn hs : Nat) (NU SZ : Int → Int) (fl re : Int) (row v : Int) (h1 : 0 ≤ row) (h2 : row < 5) (h3 : 0 ≤ SZ row) (h4 : SZ row < 128) : zV l yX4_append wsX4_append ({ frames := 0, cells := 0, slots := 0, locals := 0 }) g [.ref h, .int (iI row), .int (iI v)] [(h, .inr (4, [.ref hn, .ref hs, .int (iI fl), .int (iI re)])), zI g hn 640 NU, zI g hs 5 SZ] (S := Unit) (fun _ => True) (fun _ => [(h, .inr (4, [.ref hn, .ref hs, .int (iI fl), .int (iI re)])), zI g hn 640 (ups NU (row * 128 + SZ row) v), zI g hs 5 (ups SZ row (SZ row + 1))]) := by
  refine z_entV (cc := cX4_append) (nL := 4) (ret := none) (own := RX4) (by decide) rfl rfl (Nat.le_of_ble_eq_true rfl) ?_
  intro p e s m below meth c Q ls A C hlk hr hQ hP hK hD hA hS hl
  have hx := C.1
  have hb := C.2.1
  have hl : lv_has ls 4 [(0, .ref h), (1, .int (iI row)), (2, .int (iI v))] := hl
  obtain ⟨H, hHe⟩ : ∃ H, H = s.heap := ⟨_, rfl⟩
  obtain ⟨locs, hLe⟩ : ∃ q : List Loc, q = [] := ⟨_, rfl⟩
  have hP : zP g [(h, .inr (4, [.ref hn, .ref hs, .int (iI fl), .int (iI re)])), zI g hn 640 NU, zI g hs 5 SZ] H := by rw [hHe]; exact hP
  have hS : va_S A s.heap H locs := by rw [hHe, hLe]; exact hS
  suffices hgo : W p l e ({ frames := 0, cells := 0, slots := 0, locals := 0 }) s m ([.ref h, .int (iI row), .int (iI v)] : List Value).toArray below meth c H locs 0 0 Q (F0 m 0 ls []) by rw [hHe, hLe] at hgo; exact hgo
  clear hHe hLe
  refine lv_aload_n hx hb dX4_append_0 rfl (lv_at hl 0 rfl) ?_
  refine z_get (v := .ref hs) (Cn := RX4) (T := TX4) (N := 4) (ci := 4) C in_X4_append_X4 hK hP 0 rfl rfl 1 (by decide) (List.mem_of_getElem? (i := 1) rfl) rfl dX4_append_1 ?_
  refine lv_iload_n hx hb dX4_append_4 rfl (lv_at hl 1 rfl) ?_
  refine z_iald hx hb hK hP 2 rfl (by omega) (by omega) (Nat.le_of_ble_eq_true rfl) dX4_append_5 ?_
  refine lv_istore_n (lv' := [(3, .int (iI (SZ row))), (0, .ref h), (1, .int (iI row)), (2, .int (iI v))]) hx hb dX4_append_6 rfl hl (by decide) rfl (fun ls hl => ?_)
  refine lv_iload_n hx hb dX4_append_7 rfl (lv_at hl 0 rfl) ?_
  refine lv_sipush (v := iI 128) hx hb dX4_append_8 (by decide +kernel) ?_
  refine z_icmp_ge (tgt := 36) hx hb dX4_append_11 (by decide) (by omega) (by omega) (fun c_1 => ?_) (fun c_1 => ?_)
  · exfalso; omega
  · refine lv_aload_n hx hb dX4_append_14 rfl (lv_at hl 1 rfl) ?_
    refine z_get (v := .ref hn) (Cn := RX4) (T := TX4) (N := 4) (ci := 4) C in_X4_append_X4 hK hP 0 rfl rfl 0 (by decide) (List.mem_of_getElem? (i := 2) rfl) rfl dX4_append_15 ?_
    refine lv_iload_n hx hb dX4_append_18 rfl (lv_at hl 2 rfl) ?_
    refine lv_sipush (v := iI 128) hx hb dX4_append_19 (by decide +kernel) ?_
    refine z_imul hx hb dX4_append_22 ?_
    refine lv_iload_n hx hb dX4_append_23 rfl (lv_at hl 0 rfl) ?_
    refine z_iadd hx hb dX4_append_24 ?_
    refine lv_iload_n hx hb dX4_append_25 rfl (lv_at hl 3 rfl) ?_
    refine z_iast hx hb hK hP hD hS 1 rfl (by omega) (by omega) (Nat.le_of_ble_eq_true rfl) dX4_append_26 (fun H locs hP hD hS => ?_)
    have hP : zP g [(h, .inr (4, [.ref hn, .ref hs, .int (iI fl), .int (iI re)])), zI g hn 640 (ups NU ((row * 128) + (SZ row)) v), zI g hs 5 SZ] H := hP
    have hD : va_D A [(h, .inr (4, [.ref hn, .ref hs, .int (iI fl), .int (iI re)])), zI g hn 640 (ups NU ((row * 128) + (SZ row)) v), zI g hs 5 SZ] := hD
    refine lv_aload_n hx hb dX4_append_27 rfl (lv_at hl 1 rfl) ?_
    refine z_get (v := .ref hs) (Cn := RX4) (T := TX4) (N := 4) (ci := 4) C in_X4_append_X4 hK hP 0 rfl rfl 1 (by decide) (List.mem_of_getElem? (i := 1) rfl) rfl dX4_append_28 ?_
    refine lv_iload_n hx hb dX4_append_31 rfl (lv_at hl 2 rfl) ?_
    refine lv_iload_n hx hb dX4_append_32 rfl (lv_at hl 0 rfl) ?_
    refine lv_iconst (v := iI 1) hx hb dX4_append_33 rfl ?_
    refine z_iadd hx hb dX4_append_34 ?_
    refine z_iast hx hb hK hP hD hS 2 rfl (by omega) (by omega) (Nat.le_of_ble_eq_true rfl) dX4_append_35 (fun H locs hP hD hS => ?_)
    have hP : zP g [(h, .inr (4, [.ref hn, .ref hs, .int (iI fl), .int (iI re)])), zI g hn 640 (ups NU ((row * 128) + (SZ row)) v), zI g hs 5 (ups SZ row ((SZ row) + 1))] H := hP
    have hD : va_D A [(h, .inr (4, [.ref hn, .ref hs, .int (iI fl), .int (iI re)])), zI g hn 640 (ups NU ((row * 128) + (SZ row)) v), zI g hs 5 (ups SZ row ((SZ row) + 1))] := hD
    exact z_retV hx hb hlk hr hQ dX4_append_36 hS () (trivial) (hP)
set_option maxRecDepth 20000 in
theorem in_X4_replace_X4 : ∀ w ∈ u_ws RX4 TX4 4, w ∈ wsX4_replace := zmem_of _ [9, 10, 11, 12] (by decide +kernel)
set_option maxHeartbeats 4000000 in
set_option maxRecDepth 100000 in
theorem m_X4_replace (l : Launch) (g : zG) (h hn hs : Nat) (fl re : Int) (NU : Int → Int) (row i v : Int) (h1 : 0 ≤ row) (h2 : row < 5) (h3 : 0 ≤ i) (h4 : i < 128) (h5 : -100 ≤ NU (row * 128 + i) ∧ NU (row * 128 + i) ≤ 100) : zE l yX4_replace wsX4_replace ({ frames := 1, cells := 0, slots := 0, locals := 21 }) g [.ref h, .int (iI row), .int (iI i), .int (iI v)] [(h, .inr (4, [.ref hn, .ref hs, .int (iI fl), .int (iI re)])), zI g hn 640 NU] (S := Unit) (fun r _ => r = bI (cl v ≠ NU (row * 128 + i))) (fun _ => [(h, .inr (4, [.ref hn, .ref hs, .int (iI fl), .int (iI re)])), zI g hn 640 (ups NU (row * 128 + i) (cl v))]) := by
  refine z_entE (cc := cX4_replace) (nL := 7) (ret := (some .boolean)) (own := RX4) (by decide) rfl rfl (Nat.le_of_ble_eq_true rfl) ?_
  intro p e s m below meth c Q ls A C hlk hr hQ hP hK hD hA hS hl
  have hx := C.1
  have hb := C.2.1
  have hl : lv_has ls 7 [(0, .ref h), (1, .int (iI row)), (2, .int (iI i)), (3, .int (iI v))] := hl
  obtain ⟨H, hHe⟩ : ∃ H, H = s.heap := ⟨_, rfl⟩
  obtain ⟨locs, hLe⟩ : ∃ q : List Loc, q = [] := ⟨_, rfl⟩
  have hP : zP g [(h, .inr (4, [.ref hn, .ref hs, .int (iI fl), .int (iI re)])), zI g hn 640 NU] H := by rw [hHe]; exact hP
  have hS : va_S A s.heap H locs := by rw [hHe, hLe]; exact hS
  suffices hgo : W p l e ({ frames := 1, cells := 0, slots := 0, locals := 21 }) s m ([.ref h, .int (iI row), .int (iI i), .int (iI v)] : List Value).toArray below meth c H locs 0 0 Q (F0 m 0 ls []) by rw [hHe, hLe] at hgo; exact hgo
  clear hHe hLe
  refine lv_iload_n hx hb dX4_replace_0 rfl (lv_at hl 1 rfl) ?_
  refine lv_sipush (v := iI 128) hx hb dX4_replace_1 (by decide +kernel) ?_
  refine z_imul hx hb dX4_replace_4 ?_
  refine lv_iload_n hx hb dX4_replace_5 rfl (lv_at hl 2 rfl) ?_
  refine z_iadd hx hb dX4_replace_6 ?_
  refine lv_istore (lv' := [(4, .int (iI ((row * 128) + i))), (0, .ref h), (1, .int (iI row)), (2, .int (iI i)), (3, .int (iI v))]) hx hb dX4_replace_7 hl (by decide) rfl (fun ls hl => ?_)
  refine lv_aload_n hx hb dX4_replace_9 rfl (lv_at hl 1 rfl) ?_
  refine z_get (v := .ref hn) (Cn := RX4) (T := TX4) (N := 4) (ci := 4) C in_X4_replace_X4 hK hP 0 rfl rfl 0 (by decide) (List.mem_of_getElem? (i := 1) rfl) rfl dX4_replace_10 ?_
  refine lv_iload hx hb dX4_replace_13 (lv_at hl 0 rfl) ?_
  refine z_iald hx hb hK hP 1 rfl (by omega) (by omega) (Nat.le_of_ble_eq_true rfl) dX4_replace_15 ?_
  refine lv_istore (lv' := [(5, .int (iI (NU ((row * 128) + i)))), (4, .int (iI ((row * 128) + i))), (0, .ref h), (1, .int (iI row)), (2, .int (iI i)), (3, .int (iI v))]) hx hb dX4_replace_16 hl (by decide) rfl (fun ls hl => ?_)
  refine lv_bipush (v := iI (-100)) hx hb dX4_replace_18 (by decide +kernel) ?_
  refine lv_bipush (v := iI 100) hx hb dX4_replace_20 (by decide +kernel) ?_
  refine lv_iload_n hx hb dX4_replace_22 rfl (lv_at hl 5 rfl) ?_
  refine z_mmin C hl.1 (List.mem_of_getElem? (i := 2) rfl) (List.mem_of_getElem? (i := 3) rfl) (List.mem_of_getElem? (i := 4) rfl) (List.mem_of_getElem? (i := 5) rfl) (Nat.le_of_ble_eq_true rfl) (Nat.le_of_ble_eq_true rfl) (Nat.zero_le _) (Nat.zero_le _) dX4_replace_23 ?_
  refine z_mmax C hl.1 (List.mem_of_getElem? (i := 6) rfl) (List.mem_of_getElem? (i := 7) rfl) (List.mem_of_getElem? (i := 4) rfl) (List.mem_of_getElem? (i := 8) rfl) (Nat.le_of_ble_eq_true rfl) (Nat.le_of_ble_eq_true rfl) (Nat.zero_le _) (Nat.zero_le _) dX4_replace_26 ?_
  refine z_topI (b := cl v) (cl_mm v) ?_
  have hcl := cl_rg v
  refine lv_istore (lv' := [(6, .int (iI (cl v))), (5, .int (iI (NU ((row * 128) + i)))), (4, .int (iI ((row * 128) + i))), (0, .ref h), (1, .int (iI row)), (2, .int (iI i)), (3, .int (iI v))]) hx hb dX4_replace_29 hl (by decide) rfl (fun ls hl => ?_)
  refine lv_aload_n hx hb dX4_replace_31 rfl (lv_at hl 3 rfl) ?_
  refine z_get (v := .ref hn) (Cn := RX4) (T := TX4) (N := 4) (ci := 4) C in_X4_replace_X4 hK hP 0 rfl rfl 0 (by decide) (List.mem_of_getElem? (i := 1) rfl) rfl dX4_replace_32 ?_
  refine lv_iload hx hb dX4_replace_35 (lv_at hl 2 rfl) ?_
  refine lv_iload hx hb dX4_replace_37 (lv_at hl 0 rfl) ?_
  refine z_iast hx hb hK hP hD hS 1 rfl (by omega) (by omega) (Nat.le_of_ble_eq_true rfl) dX4_replace_39 (fun H locs hP hD hS => ?_)
  have hP : zP g [(h, .inr (4, [.ref hn, .ref hs, .int (iI fl), .int (iI re)])), zI g hn 640 (ups NU ((row * 128) + i) (cl v))] H := hP
  have hD : va_D A [(h, .inr (4, [.ref hn, .ref hs, .int (iI fl), .int (iI re)])), zI g hn 640 (ups NU ((row * 128) + i) (cl v))] := hD
  refine lv_iload hx hb dX4_replace_40 (lv_at hl 0 rfl) ?_
  refine lv_iload hx hb dX4_replace_42 (lv_at hl 1 rfl) ?_
  refine z_icmp_eq (tgt := 51) hx hb dX4_replace_44 (by decide) (by omega) (by omega) (fun c_1 => ?_) (fun c_1 => ?_)
  · refine lv_iconst (v := iI 0) hx hb dX4_replace_51 rfl ?_
    exact z_retEb hx hb hlk hr hQ dX4_replace_52 (by omega) hS () ((bI_f (fun h9 => h9 c_1)).symm) (hP)
  · refine lv_iconst (v := iI 1) hx hb dX4_replace_47 rfl ?_
    refine lv_goto (tgt := 52) hx hb dX4_replace_48 (by decide) ?_
    exact z_retEb hx hb hlk hr hQ dX4_replace_52 (by omega) hS () ((bI_t c_1).symm) (hP)
set_option maxRecDepth 20000 in
theorem in_X4_become_X4 : ∀ w ∈ u_ws RX4 TX4 4, w ∈ wsX4_become := zmem_of _ [9, 10, 11, 12] (by decide +kernel)
set_option maxHeartbeats 4000000 in
set_option maxRecDepth 100000 in
theorem m_X4_become (l : Launch) (g : zG) (h hn hs : Nat) (NU SZ : Int → Int) (fl re : Int) (k kn ks : Nat) (NV SV : Int → Int) (fm rm : Int)  : zV l yX4_become wsX4_become ({ frames := 1, cells := 0, slots := 0, locals := 60 }) g [.ref h, .ref k] [(h, .inr (4, [.ref hn, .ref hs, .int (iI fl), .int (iI re)])), zI g hn 640 NU, zI g hs 5 SZ, (k, .inr (4, [.ref kn, .ref ks, .int (iI fm), .int (iI rm)])), zI g kn 640 NV, zI g ks 5 SV] (S := Unit) (fun _ => True) (fun _ => [(h, .inr (4, [.ref hn, .ref hs, .int (iI fm), .int (iI rm)])), zI g hn 640 NV, zI g hs 5 SV, (k, .inr (4, [.ref kn, .ref ks, .int (iI fm), .int (iI rm)])), zI g kn 640 NV, zI g ks 5 SV]) := by
  refine z_entV (cc := cX4_become) (nL := 2) (ret := none) (own := RX4) (by decide) rfl rfl (Nat.le_of_ble_eq_true rfl) ?_
  intro p e s m below meth c Q ls A C hlk hr hQ hP hK hD hA hS hl
  have hx := C.1
  have hb := C.2.1
  have hl : lv_has ls 2 [(0, .ref h), (1, .ref k)] := hl
  obtain ⟨H, hHe⟩ : ∃ H, H = s.heap := ⟨_, rfl⟩
  obtain ⟨locs, hLe⟩ : ∃ q : List Loc, q = [] := ⟨_, rfl⟩
  have hP : zP g [(h, .inr (4, [.ref hn, .ref hs, .int (iI fl), .int (iI re)])), zI g hn 640 NU, zI g hs 5 SZ, (k, .inr (4, [.ref kn, .ref ks, .int (iI fm), .int (iI rm)])), zI g kn 640 NV, zI g ks 5 SV] H := by rw [hHe]; exact hP
  have hS : va_S A s.heap H locs := by rw [hHe, hLe]; exact hS
  suffices hgo : W p l e ({ frames := 1, cells := 0, slots := 0, locals := 60 }) s m ([.ref h, .ref k] : List Value).toArray below meth c H locs 0 0 Q (F0 m 0 ls []) by rw [hHe, hLe] at hgo; exact hgo
  clear hHe hLe
  refine lv_aload_n hx hb dX4_become_0 rfl (lv_at hl 1 rfl) ?_
  refine z_get (v := .ref kn) (Cn := RX4) (T := TX4) (N := 4) (ci := 4) C in_X4_become_X4 hK hP 3 rfl rfl 0 (by decide) (List.mem_of_getElem? (i := 1) rfl) rfl dX4_become_1 ?_
  refine lv_iconst (v := iI 0) hx hb dX4_become_4 rfl ?_
  refine lv_aload_n hx hb dX4_become_5 rfl (lv_at hl 0 rfl) ?_
  refine z_get (v := .ref hn) (Cn := RX4) (T := TX4) (N := 4) (ci := 4) C in_X4_become_X4 hK hP 0 rfl rfl 0 (by decide) (List.mem_of_getElem? (i := 1) rfl) rfl dX4_become_6 ?_
  refine lv_iconst (v := iI 0) hx hb dX4_become_9 rfl ?_
  refine lv_sipush (v := iI 640) hx hb dX4_become_10 (by decide +kernel) ?_
  refine z_copy C hl.1 (List.mem_of_getElem? (i := 2) rfl) (List.mem_of_getElem? (i := 3) rfl) (List.mem_of_getElem? (i := 4) rfl) (List.mem_of_getElem? (i := 5) rfl) hK hP hD hS 4 1 rfl rfl (by omega) (by omega) (by omega) (by omega) (by omega) (Nat.le_of_ble_eq_true rfl) (Nat.le_of_ble_eq_true rfl) (Nat.le_of_ble_eq_true rfl) (Nat.le_of_ble_eq_true rfl) dX4_become_13 (fun H locs hP hD hS => ?_)
  have hP : zP g [(h, .inr (4, [.ref hn, .ref hs, .int (iI fl), .int (iI re)])), zI g hn 640 (fun j => if 0 ≤ j ∧ j < 0 + 640 then NV (0 + (j - 0)) else NU j), zI g hs 5 SZ, (k, .inr (4, [.ref kn, .ref ks, .int (iI fm), .int (iI rm)])), zI g kn 640 NV, zI g ks 5 SV] H := hP
  have hD : va_D A [(h, .inr (4, [.ref hn, .ref hs, .int (iI fl), .int (iI re)])), zI g hn 640 (fun j => if 0 ≤ j ∧ j < 0 + 640 then NV (0 + (j - 0)) else NU j), zI g hs 5 SZ, (k, .inr (4, [.ref kn, .ref ks, .int (iI fm), .int (iI rm)])), zI g kn 640 NV, zI g ks 5 SV] := hD
  have hP := zP_arr hP 1 NV rfl (fun j h8 h9 => by rw [if_pos ⟨by omega, by omega⟩]; congr 1; omega)
  have hD := zD_set (c1 := (zI g hn 640 NV).2) hD 1 rfl
  have hP : zP g [(h, .inr (4, [.ref hn, .ref hs, .int (iI fl), .int (iI re)])), zI g hn 640 NV, zI g hs 5 SZ, (k, .inr (4, [.ref kn, .ref ks, .int (iI fm), .int (iI rm)])), zI g kn 640 NV, zI g ks 5 SV] H := hP
  have hD : va_D A [(h, .inr (4, [.ref hn, .ref hs, .int (iI fl), .int (iI re)])), zI g hn 640 NV, zI g hs 5 SZ, (k, .inr (4, [.ref kn, .ref ks, .int (iI fm), .int (iI rm)])), zI g kn 640 NV, zI g ks 5 SV] := hD
  refine lv_aload_n hx hb dX4_become_16 rfl (lv_at hl 1 rfl) ?_
  refine z_get (v := .ref ks) (Cn := RX4) (T := TX4) (N := 4) (ci := 4) C in_X4_become_X4 hK hP 3 rfl rfl 1 (by decide) (List.mem_of_getElem? (i := 6) rfl) rfl dX4_become_17 ?_
  refine lv_iconst (v := iI 0) hx hb dX4_become_20 rfl ?_
  refine lv_aload_n hx hb dX4_become_21 rfl (lv_at hl 0 rfl) ?_
  refine z_get (v := .ref hs) (Cn := RX4) (T := TX4) (N := 4) (ci := 4) C in_X4_become_X4 hK hP 0 rfl rfl 1 (by decide) (List.mem_of_getElem? (i := 6) rfl) rfl dX4_become_22 ?_
  refine lv_iconst (v := iI 0) hx hb dX4_become_25 rfl ?_
  refine lv_iconst (v := iI 5) hx hb dX4_become_26 rfl ?_
  refine z_copy C hl.1 (List.mem_of_getElem? (i := 2) rfl) (List.mem_of_getElem? (i := 3) rfl) (List.mem_of_getElem? (i := 4) rfl) (List.mem_of_getElem? (i := 5) rfl) hK hP hD hS 5 2 rfl rfl (by omega) (by omega) (by omega) (by omega) (by omega) (Nat.le_of_ble_eq_true rfl) (Nat.le_of_ble_eq_true rfl) (Nat.le_of_ble_eq_true rfl) (Nat.le_of_ble_eq_true rfl) dX4_become_27 (fun H locs hP hD hS => ?_)
  have hP : zP g [(h, .inr (4, [.ref hn, .ref hs, .int (iI fl), .int (iI re)])), zI g hn 640 NV, zI g hs 5 (fun j => if 0 ≤ j ∧ j < 0 + 5 then SV (0 + (j - 0)) else SZ j), (k, .inr (4, [.ref kn, .ref ks, .int (iI fm), .int (iI rm)])), zI g kn 640 NV, zI g ks 5 SV] H := hP
  have hD : va_D A [(h, .inr (4, [.ref hn, .ref hs, .int (iI fl), .int (iI re)])), zI g hn 640 NV, zI g hs 5 (fun j => if 0 ≤ j ∧ j < 0 + 5 then SV (0 + (j - 0)) else SZ j), (k, .inr (4, [.ref kn, .ref ks, .int (iI fm), .int (iI rm)])), zI g kn 640 NV, zI g ks 5 SV] := hD
  have hP := zP_arr hP 2 SV rfl (fun j h8 h9 => by rw [if_pos ⟨by omega, by omega⟩]; congr 1; omega)
  have hD := zD_set (c1 := (zI g hs 5 SV).2) hD 2 rfl
  have hP : zP g [(h, .inr (4, [.ref hn, .ref hs, .int (iI fl), .int (iI re)])), zI g hn 640 NV, zI g hs 5 SV, (k, .inr (4, [.ref kn, .ref ks, .int (iI fm), .int (iI rm)])), zI g kn 640 NV, zI g ks 5 SV] H := hP
  have hD : va_D A [(h, .inr (4, [.ref hn, .ref hs, .int (iI fl), .int (iI re)])), zI g hn 640 NV, zI g hs 5 SV, (k, .inr (4, [.ref kn, .ref ks, .int (iI fm), .int (iI rm)])), zI g kn 640 NV, zI g ks 5 SV] := hD
  refine lv_aload_n hx hb dX4_become_30 rfl (lv_at hl 0 rfl) ?_
  refine lv_aload_n hx hb dX4_become_31 rfl (lv_at hl 1 rfl) ?_
  refine z_get (v := .int (iI fm)) (Cn := RX4) (T := TX4) (N := 4) (ci := 4) C in_X4_become_X4 hK hP 3 rfl rfl 2 (by decide) (List.mem_of_getElem? (i := 7) rfl) rfl dX4_become_32 ?_
  refine z_put (v := .int (iI fm)) (Cn := RX4) (T := TX4) (N := 4) (ci := 4) C in_X4_become_X4 tyX4 tyX4_ok nmX4 hK hP hD hS 0 rfl rfl 2 (by decide) (List.mem_of_getElem? (i := 7) rfl) rfl rfl rfl (Nat.le_of_ble_eq_true rfl) dX4_become_35 (fun H locs hP hD hS => ?_)
  have hP : zP g [(h, .inr (4, [.ref hn, .ref hs, .int (iI fm), .int (iI re)])), zI g hn 640 NV, zI g hs 5 SV, (k, .inr (4, [.ref kn, .ref ks, .int (iI fm), .int (iI rm)])), zI g kn 640 NV, zI g ks 5 SV] H := hP
  have hD : va_D A [(h, .inr (4, [.ref hn, .ref hs, .int (iI fm), .int (iI re)])), zI g hn 640 NV, zI g hs 5 SV, (k, .inr (4, [.ref kn, .ref ks, .int (iI fm), .int (iI rm)])), zI g kn 640 NV, zI g ks 5 SV] := hD
  refine lv_aload_n hx hb dX4_become_38 rfl (lv_at hl 0 rfl) ?_
  refine lv_aload_n hx hb dX4_become_39 rfl (lv_at hl 1 rfl) ?_
  refine z_get (v := .int (iI rm)) (Cn := RX4) (T := TX4) (N := 4) (ci := 4) C in_X4_become_X4 hK hP 3 rfl rfl 3 (by decide) (List.mem_of_getElem? (i := 8) rfl) rfl dX4_become_40 ?_
  refine z_put (v := .int (iI rm)) (Cn := RX4) (T := TX4) (N := 4) (ci := 4) C in_X4_become_X4 tyX4 tyX4_ok nmX4 hK hP hD hS 0 rfl rfl 3 (by decide) (List.mem_of_getElem? (i := 8) rfl) rfl rfl rfl (Nat.le_of_ble_eq_true rfl) dX4_become_43 (fun H locs hP hD hS => ?_)
  have hP : zP g [(h, .inr (4, [.ref hn, .ref hs, .int (iI fm), .int (iI rm)])), zI g hn 640 NV, zI g hs 5 SV, (k, .inr (4, [.ref kn, .ref ks, .int (iI fm), .int (iI rm)])), zI g kn 640 NV, zI g ks 5 SV] H := hP
  have hD : va_D A [(h, .inr (4, [.ref hn, .ref hs, .int (iI fm), .int (iI rm)])), zI g hn 640 NV, zI g hs 5 SV, (k, .inr (4, [.ref kn, .ref ks, .int (iI fm), .int (iI rm)])), zI g kn 640 NV, zI g ks 5 SV] := hD
  exact z_retV hx hb hlk hr hQ dX4_become_46 hS () (trivial) (hP)
set_option maxRecDepth 20000 in
theorem in_X4_copyRowTo_X4 : ∀ w ∈ u_ws RX4 TX4 4, w ∈ wsX4_copyRowTo := zmem_of _ [6, 7, 8, 9] (by decide +kernel)
set_option maxHeartbeats 4000000 in
set_option maxRecDepth 100000 in
theorem m_X4_copyRowTo (l : Launch) (g : zG) (h hn hs : Nat) (fl re : Int) (NU : Int → Int) (t : Nat) (F : Int → Int) (row st : Int) (h1 : 0 ≤ row) (h2 : row < 5) (h3 : 0 ≤ st) (h4 : st + 128 ≤ 1024) : zV l yX4_copyRowTo wsX4_copyRowTo ({ frames := 1, cells := 0, slots := 0, locals := 60 }) g [.ref h, .int (iI row), .ref t, .int (iI st)] [(h, .inr (4, [.ref hn, .ref hs, .int (iI fl), .int (iI re)])), zI g hn 640 NU, zI g t 1024 F] (S := Unit) (fun _ => True) (fun _ => [(h, .inr (4, [.ref hn, .ref hs, .int (iI fl), .int (iI re)])), zI g hn 640 NU, zI g t 1024 (fun j => if st ≤ j ∧ j < st + 128 then NU (row * 128 + (j - st)) else F j)]) := by
  refine z_entV (cc := cX4_copyRowTo) (nL := 4) (ret := none) (own := RX4) (by decide) rfl rfl (Nat.le_of_ble_eq_true rfl) ?_
  intro p e s m below meth c Q ls A C hlk hr hQ hP hK hD hA hS hl
  have hx := C.1
  have hb := C.2.1
  have hl : lv_has ls 4 [(0, .ref h), (1, .int (iI row)), (2, .ref t), (3, .int (iI st))] := hl
  obtain ⟨H, hHe⟩ : ∃ H, H = s.heap := ⟨_, rfl⟩
  obtain ⟨locs, hLe⟩ : ∃ q : List Loc, q = [] := ⟨_, rfl⟩
  have hP : zP g [(h, .inr (4, [.ref hn, .ref hs, .int (iI fl), .int (iI re)])), zI g hn 640 NU, zI g t 1024 F] H := by rw [hHe]; exact hP
  have hS : va_S A s.heap H locs := by rw [hHe, hLe]; exact hS
  suffices hgo : W p l e ({ frames := 1, cells := 0, slots := 0, locals := 60 }) s m ([.ref h, .int (iI row), .ref t, .int (iI st)] : List Value).toArray below meth c H locs 0 0 Q (F0 m 0 ls []) by rw [hHe, hLe] at hgo; exact hgo
  clear hHe hLe
  refine lv_aload_n hx hb dX4_copyRowTo_0 rfl (lv_at hl 0 rfl) ?_
  refine z_get (v := .ref hn) (Cn := RX4) (T := TX4) (N := 4) (ci := 4) C in_X4_copyRowTo_X4 hK hP 0 rfl rfl 0 (by decide) (List.mem_of_getElem? (i := 1) rfl) rfl dX4_copyRowTo_1 ?_
  refine lv_iload_n hx hb dX4_copyRowTo_4 rfl (lv_at hl 1 rfl) ?_
  refine lv_sipush (v := iI 128) hx hb dX4_copyRowTo_5 (by decide +kernel) ?_
  refine z_imul hx hb dX4_copyRowTo_8 ?_
  refine lv_aload_n hx hb dX4_copyRowTo_9 rfl (lv_at hl 2 rfl) ?_
  refine lv_iload_n hx hb dX4_copyRowTo_10 rfl (lv_at hl 3 rfl) ?_
  refine lv_sipush (v := iI 128) hx hb dX4_copyRowTo_11 (by decide +kernel) ?_
  refine z_copy C hl.1 (List.mem_of_getElem? (i := 2) rfl) (List.mem_of_getElem? (i := 3) rfl) (List.mem_of_getElem? (i := 4) rfl) (List.mem_of_getElem? (i := 5) rfl) hK hP hD hS 1 2 rfl rfl (by omega) (by omega) (by omega) (by omega) (by omega) (Nat.le_of_ble_eq_true rfl) (Nat.le_of_ble_eq_true rfl) (Nat.le_of_ble_eq_true rfl) (Nat.le_of_ble_eq_true rfl) dX4_copyRowTo_14 (fun H locs hP hD hS => ?_)
  have hP : zP g [(h, .inr (4, [.ref hn, .ref hs, .int (iI fl), .int (iI re)])), zI g hn 640 NU, zI g t 1024 (fun j => if st ≤ j ∧ j < st + 128 then NU ((row * 128) + (j - st)) else F j)] H := hP
  have hD : va_D A [(h, .inr (4, [.ref hn, .ref hs, .int (iI fl), .int (iI re)])), zI g hn 640 NU, zI g t 1024 (fun j => if st ≤ j ∧ j < st + 128 then NU ((row * 128) + (j - st)) else F j)] := hD
  exact z_retV hx hb hlk hr hQ dX4_copyRowTo_17 hS () (trivial) (hP)
set_option maxRecDepth 20000 in
theorem in_X4_takeRow_X4 : ∀ w ∈ u_ws RX4 TX4 4, w ∈ wsX4_takeRow := zmem_of _ [7, 8, 9, 10] (by decide +kernel)
set_option maxHeartbeats 4000000 in
set_option maxRecDepth 100000 in
theorem m_X4_takeRow (l : Launch) (g : zG) (h hn hs : Nat) (NU SZ : Int → Int) (fl re : Int) (t : Nat) (F : Int → Int) (row st sz : Int) (h1 : 0 ≤ row) (h2 : row < 5) (h3 : 0 ≤ st) (h4 : st + 128 ≤ 1024) : zV l yX4_takeRow wsX4_takeRow ({ frames := 1, cells := 0, slots := 0, locals := 60 }) g [.ref h, .int (iI row), .ref t, .int (iI st), .int (iI sz)] [(h, .inr (4, [.ref hn, .ref hs, .int (iI fl), .int (iI re)])), zI g hn 640 NU, zI g hs 5 SZ, zI g t 1024 F] (S := Unit) (fun _ => True) (fun _ => [(h, .inr (4, [.ref hn, .ref hs, .int (iI fl), .int (iI re)])), zI g hn 640 (fun j => if row * 128 ≤ j ∧ j < row * 128 + 128 then F (st + (j - row * 128)) else NU j), zI g hs 5 (ups SZ row sz), zI g t 1024 F]) := by
  refine z_entV (cc := cX4_takeRow) (nL := 5) (ret := none) (own := RX4) (by decide) rfl rfl (Nat.le_of_ble_eq_true rfl) ?_
  intro p e s m below meth c Q ls A C hlk hr hQ hP hK hD hA hS hl
  have hx := C.1
  have hb := C.2.1
  have hl : lv_has ls 5 [(0, .ref h), (1, .int (iI row)), (2, .ref t), (3, .int (iI st)), (4, .int (iI sz))] := hl
  obtain ⟨H, hHe⟩ : ∃ H, H = s.heap := ⟨_, rfl⟩
  obtain ⟨locs, hLe⟩ : ∃ q : List Loc, q = [] := ⟨_, rfl⟩
  have hP : zP g [(h, .inr (4, [.ref hn, .ref hs, .int (iI fl), .int (iI re)])), zI g hn 640 NU, zI g hs 5 SZ, zI g t 1024 F] H := by rw [hHe]; exact hP
  have hS : va_S A s.heap H locs := by rw [hHe, hLe]; exact hS
  suffices hgo : W p l e ({ frames := 1, cells := 0, slots := 0, locals := 60 }) s m ([.ref h, .int (iI row), .ref t, .int (iI st), .int (iI sz)] : List Value).toArray below meth c H locs 0 0 Q (F0 m 0 ls []) by rw [hHe, hLe] at hgo; exact hgo
  clear hHe hLe
  refine lv_aload_n hx hb dX4_takeRow_0 rfl (lv_at hl 2 rfl) ?_
  refine lv_iload_n hx hb dX4_takeRow_1 rfl (lv_at hl 3 rfl) ?_
  refine lv_aload_n hx hb dX4_takeRow_2 rfl (lv_at hl 0 rfl) ?_
  refine z_get (v := .ref hn) (Cn := RX4) (T := TX4) (N := 4) (ci := 4) C in_X4_takeRow_X4 hK hP 0 rfl rfl 0 (by decide) (List.mem_of_getElem? (i := 1) rfl) rfl dX4_takeRow_3 ?_
  refine lv_iload_n hx hb dX4_takeRow_6 rfl (lv_at hl 1 rfl) ?_
  refine lv_sipush (v := iI 128) hx hb dX4_takeRow_7 (by decide +kernel) ?_
  refine z_imul hx hb dX4_takeRow_10 ?_
  refine lv_sipush (v := iI 128) hx hb dX4_takeRow_11 (by decide +kernel) ?_
  refine z_copy C hl.1 (List.mem_of_getElem? (i := 2) rfl) (List.mem_of_getElem? (i := 3) rfl) (List.mem_of_getElem? (i := 4) rfl) (List.mem_of_getElem? (i := 5) rfl) hK hP hD hS 3 1 rfl rfl (by omega) (by omega) (by omega) (by omega) (by omega) (Nat.le_of_ble_eq_true rfl) (Nat.le_of_ble_eq_true rfl) (Nat.le_of_ble_eq_true rfl) (Nat.le_of_ble_eq_true rfl) dX4_takeRow_14 (fun H locs hP hD hS => ?_)
  have hP : zP g [(h, .inr (4, [.ref hn, .ref hs, .int (iI fl), .int (iI re)])), zI g hn 640 (fun j => if row * 128 ≤ j ∧ j < (row * 128) + 128 then F (st + (j - (row * 128))) else NU j), zI g hs 5 SZ, zI g t 1024 F] H := hP
  have hD : va_D A [(h, .inr (4, [.ref hn, .ref hs, .int (iI fl), .int (iI re)])), zI g hn 640 (fun j => if row * 128 ≤ j ∧ j < (row * 128) + 128 then F (st + (j - (row * 128))) else NU j), zI g hs 5 SZ, zI g t 1024 F] := hD
  refine lv_aload_n hx hb dX4_takeRow_17 rfl (lv_at hl 0 rfl) ?_
  refine z_get (v := .ref hs) (Cn := RX4) (T := TX4) (N := 4) (ci := 4) C in_X4_takeRow_X4 hK hP 0 rfl rfl 1 (by decide) (List.mem_of_getElem? (i := 6) rfl) rfl dX4_takeRow_18 ?_
  refine lv_iload_n hx hb dX4_takeRow_21 rfl (lv_at hl 1 rfl) ?_
  refine lv_iload hx hb dX4_takeRow_22 (lv_at hl 4 rfl) ?_
  refine z_iast hx hb hK hP hD hS 2 rfl (by omega) (by omega) (Nat.le_of_ble_eq_true rfl) dX4_takeRow_24 (fun H locs hP hD hS => ?_)
  have hP : zP g [(h, .inr (4, [.ref hn, .ref hs, .int (iI fl), .int (iI re)])), zI g hn 640 (fun j => if row * 128 ≤ j ∧ j < (row * 128) + 128 then F (st + (j - (row * 128))) else NU j), zI g hs 5 (ups SZ row sz), zI g t 1024 F] H := hP
  have hD : va_D A [(h, .inr (4, [.ref hn, .ref hs, .int (iI fl), .int (iI re)])), zI g hn 640 (fun j => if row * 128 ≤ j ∧ j < (row * 128) + 128 then F (st + (j - (row * 128))) else NU j), zI g hs 5 (ups SZ row sz), zI g t 1024 F] := hD
  exact z_retV hx hb hlk hr hQ dX4_takeRow_25 hS () (trivial) (hP)
