set_option maxRecDepth 20000 in
theorem in_X0_rankCells_X0 : ∀ w ∈ u_ws RX0 TX0 6, w ∈ wsX0_rankCells := zmem_of _ [4, 5, 6, 7, 8, 9] (by decide +kernel)
set_option maxHeartbeats 4000000 in
set_option maxRecDepth 100000 in
theorem m_X0_rankCells (l : Launch) (g : zG) (bb bc bo : Nat) (he kn al : Int) (CE OR : Int → Int) (hV : ∀ j, 0 ≤ CE j ∧ CE j ≤ 100000) : zV l yX0_rankCells wsX0_rankCells ({ frames := 0, cells := 0, slots := 0, locals := 0 }) g [.ref bb] [(bb, .inr (0, [.ref bc, .ref bo, .int (iI 0), .int (iI he), .int (iI kn), .int (iI al)])), zI g bc 124 CE, zI g bo 124 OR] (S := (Int → Int)) (fun u => okO CE u (sumZ (fun x => bI (0 < CE x)) 124) 124) (fun u => [(bb, .inr (0, [.ref bc, .ref bo, .int (iI (sumZ (fun x => bI (0 < CE x)) 124)), .int (iI he), .int (iI kn), .int (iI al)])), zI g bc 124 CE, zI g bo 124 u]) := by
  refine z_entV (cc := cX0_rankCells) (nL := 3) (ret := none) (own := RX0) (by decide) rfl rfl (Nat.le_of_ble_eq_true rfl) ?_
  intro p e s m below meth c Q ls A C hlk hr hQ hP hK hD hA hS hl
  have hx := C.1
  have hb := C.2.1
  have hl : lv_has ls 3 [(0, .ref bb)] := hl
  obtain ⟨H, hHe⟩ : ∃ H, H = s.heap := ⟨_, rfl⟩
  obtain ⟨locs, hLe⟩ : ∃ q : List Loc, q = [] := ⟨_, rfl⟩
  have hP : zP g [(bb, .inr (0, [.ref bc, .ref bo, .int (iI 0), .int (iI he), .int (iI kn), .int (iI al)])), zI g bc 124 CE, zI g bo 124 OR] H := by rw [hHe]; exact hP
  have hS : va_S A s.heap H locs := by rw [hHe, hLe]; exact hS
  suffices hgo : W p l e ({ frames := 0, cells := 0, slots := 0, locals := 0 }) s m ([.ref bb] : List Value).toArray below meth c H locs 0 0 Q (F0 m 0 ls []) by rw [hHe, hLe] at hgo; exact hgo
  clear hHe hLe
  refine lv_iconst (v := iI 0) hx hb dX0_rankCells_0 rfl ?_
  refine lv_istore_n (lv' := [(1, .int (iI 0)), (0, .ref bb)]) hx hb dX0_rankCells_1 rfl hl (by decide) rfl (fun ls hl => ?_)
  have L2 : ∀ (n : Nat) (C_ : Int) (OR : Int → Int), (i1 : 0 ≤ C_) → (i2 : C_ ≤ 124) → (hO : okO CE OR (sumZ (fun x => bI (0 < CE x)) C_) C_) → (hms : 124 - C_ < (n : Int)) → ∀ (H : Heap) (locs : List Loc) (ls : Array Slot), lv_has ls 3 [(0, .ref bb), (1, .int (iI C_))] → zP g [(bb, .inr (0, [.ref bc, .ref bo, .int (iI (sumZ (fun x => bI (0 < CE x)) C_)), .int (iI he), .int (iI kn), .int (iI al)])), zI g bc 124 CE, zI g bo 124 OR] H → va_D A [(bb, .inr (0, [.ref bc, .ref bo, .int (iI (sumZ (fun x => bI (0 < CE x)) C_)), .int (iI he), .int (iI kn), .int (iI al)])), zI g bc 124 CE, zI g bo 124 OR] → va_S A s.heap H locs → W p l e ({ frames := 0, cells := 0, slots := 0, locals := 0 }) s m ([.ref bb] : List Value).toArray below meth c H locs 0 0 Q (F0 m 2 ls []) := by
    clear hP hD hS hl
    intro n
    induction n with
    | zero =>
      intro C_ OR i1 i2 hO hms H locs ls hl hP hD hS
      exfalso; omega
    | succ n ih2 =>
      intro C_ OR i1 i2 hO hms H locs ls hl hP hD hS
      have hVC := hV C_
      have hnr : 0 ≤ sumZ (fun x => bI (0 < CE x)) C_ ∧ sumZ (fun x => bI (0 < CE x)) C_ ≤ C_ := sumZ_01 i1 (fun _ _ _ => bI_rg _)
      refine lv_iload_n hx hb dX0_rankCells_2 rfl (lv_at hl 1 rfl) ?_
      refine lv_bipush (v := iI 124) hx hb dX0_rankCells_3 (by decide +kernel) ?_
      refine z_icmp_ge (tgt := 91) hx hb dX0_rankCells_5 (by decide) (by omega) (by omega) (fun c_1 => ?_) (fun c_1 => ?_)
      · obtain rfl : C_ = 124 := by omega
        exact z_retV hx hb hlk hr hQ dX0_rankCells_91 hS OR (hO) (hP)
      · refine lv_aload_n hx hb dX0_rankCells_8 rfl (lv_at hl 0 rfl) ?_
        refine z_get (v := .ref bc) (Cn := RX0) (T := TX0) (N := 6) (ci := 0) C in_X0_rankCells_X0 hK hP 0 rfl rfl 0 (by decide) (List.mem_of_getElem? (i := 1) rfl) rfl dX0_rankCells_9 ?_
        refine lv_iload_n hx hb dX0_rankCells_12 rfl (lv_at hl 1 rfl) ?_
        refine z_iald hx hb hK hP 1 rfl (by omega) (by omega) (Nat.le_of_ble_eq_true rfl) dX0_rankCells_13 ?_
        refine z_if_le (tgt := 85) hx hb dX0_rankCells_14 (by decide) (by omega) (fun hc => ?_) (fun hc => ?_)
        · refine z_iinc (b := C_ + 1) (lv' := [(1, .int (iI (C_ + 1))), (0, .ref bb)]) hx hb dX0_rankCells_85 hl (k := 1) rfl (rfl) (by decide) rfl (fun ls hl => ?_)
          refine lv_goto (tgt := 2) hx hb dX0_rankCells_88 (by decide) ?_
          have hP := zP_fld hP 0 rfl 2 (sumZ (fun x => bI (0 < CE x)) (C_ + 1)) rfl (by rw [sumZ_s _ i1, bI_f (by omega)]; omega)
          have hD := zD_set (c1 := ((bb, .inr (0, [.ref bc, .ref bo, .int (iI (sumZ (fun x => bI (0 < CE x)) (C_ + 1))), .int (iI he), .int (iI kn), .int (iI al)]))).2) hD 0 rfl
          have hP : zP g [(bb, .inr (0, [.ref bc, .ref bo, .int (iI (sumZ (fun x => bI (0 < CE x)) (C_ + 1))), .int (iI he), .int (iI kn), .int (iI al)])), zI g bc 124 CE, zI g bo 124 OR] H := hP
          have hD : va_D A [(bb, .inr (0, [.ref bc, .ref bo, .int (iI (sumZ (fun x => bI (0 < CE x)) (C_ + 1))), .int (iI he), .int (iI kn), .int (iI al)])), zI g bc 124 CE, zI g bo 124 OR] := hD
          exact ih2 (C_ + 1) OR (by omega) (by omega) (by rw [sumZ_s _ i1, bI_f (by omega), show sumZ (fun x => bI (0 < CE x)) C_ + 0 = sumZ (fun x => bI (0 < CE x)) C_ by omega]; exact okO_no hO (by omega)) (by omega) H locs ls (lv_sub hl [1, 0] rfl) (hP) (hD) hS
        · refine lv_aload_n hx hb dX0_rankCells_17 rfl (lv_at hl 0 rfl) ?_
          refine z_get (v := .int (iI (sumZ (fun x => bI (0 < CE x)) C_))) (Cn := RX0) (T := TX0) (N := 6) (ci := 0) C in_X0_rankCells_X0 hK hP 0 rfl rfl 2 (by decide) (List.mem_of_getElem? (i := 2) rfl) rfl dX0_rankCells_18 ?_
          refine lv_istore_n (lv' := [(2, .int (iI (sumZ (fun x => bI (0 < CE x)) C_))), (0, .ref bb), (1, .int (iI C_))]) hx hb dX0_rankCells_21 rfl hl (by decide) rfl (fun ls hl => ?_)
          have L22 : ∀ (n : Nat) (k : Int) (OO : Int → Int), (k1 : 0 ≤ k) → (k2 : k ≤ sumZ (fun x => bI (0 < CE x)) C_) → (o1 : ∀ i, 0 ≤ i → i < k → OO i = OR i) → (o2 : ∀ i, k < i → i ≤ sumZ (fun x => bI (0 < CE x)) C_ → OO i = OR (i - 1)) → (o3 : ∀ i, k ≤ i → i < sumZ (fun x => bI (0 < CE x)) C_ → CE (OR i) < CE C_) → (hms : k < (n : Int)) → ∀ (H : Heap) (locs : List Loc) (ls : Array Slot), lv_has ls 3 [(0, .ref bb), (1, .int (iI C_)), (2, .int (iI k))] → zP g [(bb, .inr (0, [.ref bc, .ref bo, .int (iI (sumZ (fun x => bI (0 < CE x)) C_)), .int (iI he), .int (iI kn), .int (iI al)])), zI g bc 124 CE, zI g bo 124 OO] H → va_D A [(bb, .inr (0, [.ref bc, .ref bo, .int (iI (sumZ (fun x => bI (0 < CE x)) C_)), .int (iI he), .int (iI kn), .int (iI al)])), zI g bc 124 CE, zI g bo 124 OO] → va_S A s.heap H locs → W p l e ({ frames := 0, cells := 0, slots := 0, locals := 0 }) s m ([.ref bb] : List Value).toArray below meth c H locs 0 0 Q (F0 m 22 ls []) := by
            clear hP hD hS hl
            intro n
            induction n with
            | zero =>
              intro k OO k1 k2 o1 o2 o3 hms H locs ls hl hP hD hS
              exfalso; omega
            | succ n ih22 =>
              intro k OO k1 k2 o1 o2 o3 hms H locs ls hl hP hD hS
              refine lv_iload_n hx hb dX0_rankCells_22 rfl (lv_at hl 2 rfl) ?_
              refine z_if_le (tgt := 68) hx hb dX0_rankCells_23 (by decide) (by omega) (fun c_2 => ?_) (fun c_2 => ?_)
              · refine lv_aload_n hx hb dX0_rankCells_68 rfl (lv_at hl 0 rfl) ?_
                refine z_get (v := .ref bo) (Cn := RX0) (T := TX0) (N := 6) (ci := 0) C in_X0_rankCells_X0 hK hP 0 rfl rfl 1 (by decide) (List.mem_of_getElem? (i := 3) rfl) rfl dX0_rankCells_69 ?_
                refine lv_iload_n hx hb dX0_rankCells_72 rfl (lv_at hl 2 rfl) ?_
                refine lv_iload_n hx hb dX0_rankCells_73 rfl (lv_at hl 1 rfl) ?_
                refine z_iast hx hb hK hP hD hS 2 rfl (by omega) (by omega) (Nat.le_of_ble_eq_true rfl) dX0_rankCells_74 (fun H locs hP hD hS => ?_)
                have hP : zP g [(bb, .inr (0, [.ref bc, .ref bo, .int (iI (sumZ (fun x => bI (0 < CE x)) C_)), .int (iI he), .int (iI kn), .int (iI al)])), zI g bc 124 CE, zI g bo 124 (ups OO k C_)] H := hP
                have hD : va_D A [(bb, .inr (0, [.ref bc, .ref bo, .int (iI (sumZ (fun x => bI (0 < CE x)) C_)), .int (iI he), .int (iI kn), .int (iI al)])), zI g bc 124 CE, zI g bo 124 (ups OO k C_)] := hD
                refine lv_aload_n hx hb dX0_rankCells_75 rfl (lv_at hl 0 rfl) ?_
                refine lv_dup hx hb dX0_rankCells_76 rfl ?_
                refine z_get (v := .int (iI (sumZ (fun x => bI (0 < CE x)) C_))) (Cn := RX0) (T := TX0) (N := 6) (ci := 0) C in_X0_rankCells_X0 hK hP 0 rfl rfl 2 (by decide) (List.mem_of_getElem? (i := 2) rfl) rfl dX0_rankCells_77 ?_
                refine lv_iconst (v := iI 1) hx hb dX0_rankCells_80 rfl ?_
                refine z_iadd hx hb dX0_rankCells_81 ?_
                refine z_put (v := .int (iI ((sumZ (fun x => bI (0 < CE x)) C_) + 1))) (Cn := RX0) (T := TX0) (N := 6) (ci := 0) C in_X0_rankCells_X0 tyX0 tyX0_ok nmX0 hK hP hD hS 0 rfl rfl 2 (by decide) (List.mem_of_getElem? (i := 2) rfl) rfl rfl rfl (Nat.le_of_ble_eq_true rfl) dX0_rankCells_82 (fun H locs hP hD hS => ?_)
                have hP : zP g [(bb, .inr (0, [.ref bc, .ref bo, .int (iI ((sumZ (fun x => bI (0 < CE x)) C_) + 1)), .int (iI he), .int (iI kn), .int (iI al)])), zI g bc 124 CE, zI g bo 124 (ups OO k C_)] H := hP
                have hD : va_D A [(bb, .inr (0, [.ref bc, .ref bo, .int (iI ((sumZ (fun x => bI (0 < CE x)) C_) + 1)), .int (iI he), .int (iI kn), .int (iI al)])), zI g bc 124 CE, zI g bo 124 (ups OO k C_)] := hD
                refine z_iinc (b := C_ + 1) (lv' := [(1, .int (iI (C_ + 1))), (0, .ref bb), (2, .int (iI k))]) hx hb dX0_rankCells_85 hl (k := 1) rfl (rfl) (by decide) rfl (fun ls hl => ?_)
                refine lv_goto (tgt := 2) hx hb dX0_rankCells_88 (by decide) ?_
                have hP := zP_fld hP 0 rfl 2 (sumZ (fun x => bI (0 < CE x)) (C_ + 1)) rfl (by rw [sumZ_s _ i1, bI_t hc])
                have hD := zD_set (c1 := ((bb, .inr (0, [.ref bc, .ref bo, .int (iI (sumZ (fun x => bI (0 < CE x)) (C_ + 1))), .int (iI he), .int (iI kn), .int (iI al)]))).2) hD 0 rfl
                have hP : zP g [(bb, .inr (0, [.ref bc, .ref bo, .int (iI (sumZ (fun x => bI (0 < CE x)) (C_ + 1))), .int (iI he), .int (iI kn), .int (iI al)])), zI g bc 124 CE, zI g bo 124 (ups OO k C_)] H := hP
                have hD : va_D A [(bb, .inr (0, [.ref bc, .ref bo, .int (iI (sumZ (fun x => bI (0 < CE x)) (C_ + 1))), .int (iI he), .int (iI kn), .int (iI al)])), zI g bc 124 CE, zI g bo 124 (ups OO k C_)] := hD
                exact ih2 (C_ + 1) (ups OO k C_) (by omega) (by omega) (by rw [sumZ_s _ i1, bI_t hc]; exact okO_ins hO (by omega) hc (by omega) (by omega) o1 o2 o3 (by omega)) (by omega) H locs ls (lv_sub hl [1, 0] rfl) (hP) (hD) hS
              · have hOk := hO.1 (k - 1) (by omega) (by omega)
                have eOk := o1 (k - 1) (by omega) (by omega)
                have hVk := hV (OO (k - 1))
                refine lv_aload_n hx hb dX0_rankCells_26 rfl (lv_at hl 0 rfl) ?_
                refine z_get (v := .ref bc) (Cn := RX0) (T := TX0) (N := 6) (ci := 0) C in_X0_rankCells_X0 hK hP 0 rfl rfl 0 (by decide) (List.mem_of_getElem? (i := 1) rfl) rfl dX0_rankCells_27 ?_
                refine lv_aload_n hx hb dX0_rankCells_30 rfl (lv_at hl 0 rfl) ?_
                refine z_get (v := .ref bo) (Cn := RX0) (T := TX0) (N := 6) (ci := 0) C in_X0_rankCells_X0 hK hP 0 rfl rfl 1 (by decide) (List.mem_of_getElem? (i := 3) rfl) rfl dX0_rankCells_31 ?_
                refine lv_iload_n hx hb dX0_rankCells_34 rfl (lv_at hl 2 rfl) ?_
                refine lv_iconst (v := iI 1) hx hb dX0_rankCells_35 rfl ?_
                refine z_isub hx hb dX0_rankCells_36 ?_
                refine z_iald hx hb hK hP 2 rfl (by omega) (by omega) (Nat.le_of_ble_eq_true rfl) dX0_rankCells_37 ?_
                refine z_iald hx hb hK hP 1 rfl (by omega) (by omega) (Nat.le_of_ble_eq_true rfl) dX0_rankCells_38 ?_
                refine lv_aload_n hx hb dX0_rankCells_39 rfl (lv_at hl 0 rfl) ?_
                refine z_get (v := .ref bc) (Cn := RX0) (T := TX0) (N := 6) (ci := 0) C in_X0_rankCells_X0 hK hP 0 rfl rfl 0 (by decide) (List.mem_of_getElem? (i := 1) rfl) rfl dX0_rankCells_40 ?_
                refine lv_iload_n hx hb dX0_rankCells_43 rfl (lv_at hl 1 rfl) ?_
                refine z_iald hx hb hK hP 1 rfl (by omega) (by omega) (Nat.le_of_ble_eq_true rfl) dX0_rankCells_44 ?_
                refine z_icmp_ge (tgt := 68) hx hb dX0_rankCells_45 (by decide) (by omega) (by omega) (fun hx2 => ?_) (fun hx2 => ?_)
                · refine lv_aload_n hx hb dX0_rankCells_68 rfl (lv_at hl 0 rfl) ?_
                  refine z_get (v := .ref bo) (Cn := RX0) (T := TX0) (N := 6) (ci := 0) C in_X0_rankCells_X0 hK hP 0 rfl rfl 1 (by decide) (List.mem_of_getElem? (i := 3) rfl) rfl dX0_rankCells_69 ?_
                  refine lv_iload_n hx hb dX0_rankCells_72 rfl (lv_at hl 2 rfl) ?_
                  refine lv_iload_n hx hb dX0_rankCells_73 rfl (lv_at hl 1 rfl) ?_
                  refine z_iast hx hb hK hP hD hS 2 rfl (by omega) (by omega) (Nat.le_of_ble_eq_true rfl) dX0_rankCells_74 (fun H locs hP hD hS => ?_)
                  have hP : zP g [(bb, .inr (0, [.ref bc, .ref bo, .int (iI (sumZ (fun x => bI (0 < CE x)) C_)), .int (iI he), .int (iI kn), .int (iI al)])), zI g bc 124 CE, zI g bo 124 (ups OO k C_)] H := hP
                  have hD : va_D A [(bb, .inr (0, [.ref bc, .ref bo, .int (iI (sumZ (fun x => bI (0 < CE x)) C_)), .int (iI he), .int (iI kn), .int (iI al)])), zI g bc 124 CE, zI g bo 124 (ups OO k C_)] := hD
                  refine lv_aload_n hx hb dX0_rankCells_75 rfl (lv_at hl 0 rfl) ?_
                  refine lv_dup hx hb dX0_rankCells_76 rfl ?_
                  refine z_get (v := .int (iI (sumZ (fun x => bI (0 < CE x)) C_))) (Cn := RX0) (T := TX0) (N := 6) (ci := 0) C in_X0_rankCells_X0 hK hP 0 rfl rfl 2 (by decide) (List.mem_of_getElem? (i := 2) rfl) rfl dX0_rankCells_77 ?_
                  refine lv_iconst (v := iI 1) hx hb dX0_rankCells_80 rfl ?_
                  refine z_iadd hx hb dX0_rankCells_81 ?_
                  refine z_put (v := .int (iI ((sumZ (fun x => bI (0 < CE x)) C_) + 1))) (Cn := RX0) (T := TX0) (N := 6) (ci := 0) C in_X0_rankCells_X0 tyX0 tyX0_ok nmX0 hK hP hD hS 0 rfl rfl 2 (by decide) (List.mem_of_getElem? (i := 2) rfl) rfl rfl rfl (Nat.le_of_ble_eq_true rfl) dX0_rankCells_82 (fun H locs hP hD hS => ?_)
                  have hP : zP g [(bb, .inr (0, [.ref bc, .ref bo, .int (iI ((sumZ (fun x => bI (0 < CE x)) C_) + 1)), .int (iI he), .int (iI kn), .int (iI al)])), zI g bc 124 CE, zI g bo 124 (ups OO k C_)] H := hP
                  have hD : va_D A [(bb, .inr (0, [.ref bc, .ref bo, .int (iI ((sumZ (fun x => bI (0 < CE x)) C_) + 1)), .int (iI he), .int (iI kn), .int (iI al)])), zI g bc 124 CE, zI g bo 124 (ups OO k C_)] := hD
                  refine z_iinc (b := C_ + 1) (lv' := [(1, .int (iI (C_ + 1))), (0, .ref bb), (2, .int (iI k))]) hx hb dX0_rankCells_85 hl (k := 1) rfl (rfl) (by decide) rfl (fun ls hl => ?_)
                  refine lv_goto (tgt := 2) hx hb dX0_rankCells_88 (by decide) ?_
                  have hP := zP_fld hP 0 rfl 2 (sumZ (fun x => bI (0 < CE x)) (C_ + 1)) rfl (by rw [sumZ_s _ i1, bI_t hc])
                  have hD := zD_set (c1 := ((bb, .inr (0, [.ref bc, .ref bo, .int (iI (sumZ (fun x => bI (0 < CE x)) (C_ + 1))), .int (iI he), .int (iI kn), .int (iI al)]))).2) hD 0 rfl
                  have hP : zP g [(bb, .inr (0, [.ref bc, .ref bo, .int (iI (sumZ (fun x => bI (0 < CE x)) (C_ + 1))), .int (iI he), .int (iI kn), .int (iI al)])), zI g bc 124 CE, zI g bo 124 (ups OO k C_)] H := hP
                  have hD : va_D A [(bb, .inr (0, [.ref bc, .ref bo, .int (iI (sumZ (fun x => bI (0 < CE x)) (C_ + 1))), .int (iI he), .int (iI kn), .int (iI al)])), zI g bc 124 CE, zI g bo 124 (ups OO k C_)] := hD
                  exact ih2 (C_ + 1) (ups OO k C_) (by omega) (by omega) (by rw [sumZ_s _ i1, bI_t hc]; exact okO_ins hO (by omega) hc (by omega) (by omega) o1 o2 o3 (Or.inr (by rw [← o1 (k - 1) (by omega) (by omega)]; exact hx2))) (by omega) H locs ls (lv_sub hl [1, 0] rfl) (hP) (hD) hS
                · refine lv_aload_n hx hb dX0_rankCells_48 rfl (lv_at hl 0 rfl) ?_
                  refine z_get (v := .ref bo) (Cn := RX0) (T := TX0) (N := 6) (ci := 0) C in_X0_rankCells_X0 hK hP 0 rfl rfl 1 (by decide) (List.mem_of_getElem? (i := 3) rfl) rfl dX0_rankCells_49 ?_
                  refine lv_iload_n hx hb dX0_rankCells_52 rfl (lv_at hl 2 rfl) ?_
                  refine lv_aload_n hx hb dX0_rankCells_53 rfl (lv_at hl 0 rfl) ?_
                  refine z_get (v := .ref bo) (Cn := RX0) (T := TX0) (N := 6) (ci := 0) C in_X0_rankCells_X0 hK hP 0 rfl rfl 1 (by decide) (List.mem_of_getElem? (i := 3) rfl) rfl dX0_rankCells_54 ?_
                  refine lv_iload_n hx hb dX0_rankCells_57 rfl (lv_at hl 2 rfl) ?_
                  refine lv_iconst (v := iI 1) hx hb dX0_rankCells_58 rfl ?_
                  refine z_isub hx hb dX0_rankCells_59 ?_
                  refine z_iald hx hb hK hP 2 rfl (by omega) (by omega) (Nat.le_of_ble_eq_true rfl) dX0_rankCells_60 ?_
                  refine z_iast hx hb hK hP hD hS 2 rfl (by omega) (by omega) (Nat.le_of_ble_eq_true rfl) dX0_rankCells_61 (fun H locs hP hD hS => ?_)
                  have hP : zP g [(bb, .inr (0, [.ref bc, .ref bo, .int (iI (sumZ (fun x => bI (0 < CE x)) C_)), .int (iI he), .int (iI kn), .int (iI al)])), zI g bc 124 CE, zI g bo 124 (ups OO k (OO (k - 1)))] H := hP
                  have hD : va_D A [(bb, .inr (0, [.ref bc, .ref bo, .int (iI (sumZ (fun x => bI (0 < CE x)) C_)), .int (iI he), .int (iI kn), .int (iI al)])), zI g bc 124 CE, zI g bo 124 (ups OO k (OO (k - 1)))] := hD
                  refine z_iinc (b := k - 1) (lv' := [(2, .int (iI (k - 1))), (0, .ref bb), (1, .int (iI C_))]) hx hb dX0_rankCells_62 hl (k := 2) rfl (by omega) (by decide) rfl (fun ls hl => ?_)
                  refine lv_goto (tgt := 22) hx hb dX0_rankCells_65 (by decide) ?_
                  exact ih22 (k - 1) (ups OO k (OO (k - 1))) (by omega) (by omega) (fun i g1 g2 => by rw [ups_n _ _ (by omega)]; exact o1 i g1 (by omega)) (fun i g1 g2 => by by_cases hi : i = k; (· rw [hi, ups_s]; exact o1 (k - 1) (by omega) (by omega)); (· rw [ups_n _ _ hi]; exact o2 i (by omega) g2)) (fun i g1 g2 => by by_cases hi : i = k - 1; (· rw [hi, ← o1 (k - 1) (by omega) (by omega)]; exact hx2); (· exact o3 i (by omega) g2)) (by omega) H locs ls (lv_sub hl [1, 2, 0] rfl) (hP) (hD) hS
          exact L22 (125) (sumZ (fun x => bI (0 < CE x)) C_) OR (by omega) (by omega) (fun i _ _ => rfl) (fun i g1 g2 => by omega) (fun i g1 g2 => by omega) (by omega) H locs ls (lv_sub hl [1, 2, 0] rfl) (hP) (hD) hS
  have hP := zP_fld hP 0 rfl 2 (sumZ (fun x => bI (0 < CE x)) 0) rfl ((sumZ_0 _).symm)
  have hD := zD_set (c1 := ((bb, .inr (0, [.ref bc, .ref bo, .int (iI (sumZ (fun x => bI (0 < CE x)) 0)), .int (iI he), .int (iI kn), .int (iI al)]))).2) hD 0 rfl
  have hP : zP g [(bb, .inr (0, [.ref bc, .ref bo, .int (iI (sumZ (fun x => bI (0 < CE x)) 0)), .int (iI he), .int (iI kn), .int (iI al)])), zI g bc 124 CE, zI g bo 124 OR] H := hP
  have hD : va_D A [(bb, .inr (0, [.ref bc, .ref bo, .int (iI (sumZ (fun x => bI (0 < CE x)) 0)), .int (iI he), .int (iI kn), .int (iI al)])), zI g bc 124 CE, zI g bo 124 OR] := hD
  exact L2 (125) 0 OR (by omega) (by omega) (okO_0 CE _) (by omega) H locs ls (lv_sub hl [1, 0] rfl) (hP) (hD) hS
set_option maxRecDepth 20000 in
theorem in_X0_cast_X0 : ∀ w ∈ u_ws RX0 TX0 6, w ∈ wsX0_cast := zmem_of _ [42, 43, 44, 45, 46, 47] (by decide +kernel)
set_option maxHeartbeats 4000000 in
set_option maxRecDepth 100000 in
theorem m_X0_cast (l : Launch) (g : zG) (bb bc bo : Nat) (rk he kn al : Int) (a aw af ao : Nat) (d ds df de : Nat) (un : Int) (CE OR FD EN : Int → Int) (re : Int) (r1 : 1 ≤ re) (r2 : re ≤ 5) (hF : ∀ j, -1 ≤ FD j ∧ FD j ≤ 7 ∧ FD j ≠ 0) (hE : enOK FD re EN) (hT : stt FD re 384 ≤ 320) : zV l yX0_cast wsX0_cast ({ frames := 3, cells := 0, slots := 0, locals := 71 }) g [.ref bb, .ref a, .ref d, .int (iI re)] [(bb, .inr (0, [.ref bc, .ref bo, .int (iI rk), .int (iI he), .int (iI kn), .int (iI al)])), zI g bc 124 CE, zI g bo 124 OR, (a, .inr (3, [.ref aw, .ref af, .ref ao])), zI g af 80 FD, (d, .inr (1, [.ref ds, .ref df, .ref de, .int (iI un)])), zI g ds 385 (stt FD re), zI g de 320 EN] (S := (Int → Int)) (fun u => okO (fun x => vt FD re x 16) u (sumZ (fun x => bI (0 < vt FD re x 16)) 124) 124) (fun u => [(bb, .inr (0, [.ref bc, .ref bo, .int (iI (sumZ (fun x => bI (0 < vt FD re x 16)) 124)), .int (iI (sumZ (fun x => hu FD re x) 16)), .int (iI (sumZ (fun x => ku FD re x) 16)), .int (iI (sumZ (fun x => vt FD re x 16) 124))])), zI g bc 124 (fun x => vt FD re x 16), zI g bo 124 u, (a, .inr (3, [.ref aw, .ref af, .ref ao])), zI g af 80 FD, (d, .inr (1, [.ref ds, .ref df, .ref de, .int (iI un)])), zI g ds 385 (stt FD re), zI g de 320 EN]) := by
  refine z_entV (cc := cX0_cast) (nL := 7) (ret := none) (own := RX0) (by decide) rfl rfl (Nat.le_of_ble_eq_true rfl) ?_
  intro p e s m below meth c Q ls A C hlk hr hQ hP hK hD hA hS hl
  have hx := C.1
  have hb := C.2.1
  have hl : lv_has ls 7 [(0, .ref bb), (1, .ref a), (2, .ref d), (3, .int (iI re))] := hl
  obtain ⟨H, hHe⟩ : ∃ H, H = s.heap := ⟨_, rfl⟩
  obtain ⟨locs, hLe⟩ : ∃ q : List Loc, q = [] := ⟨_, rfl⟩
  have hP : zP g [(bb, .inr (0, [.ref bc, .ref bo, .int (iI rk), .int (iI he), .int (iI kn), .int (iI al)])), zI g bc 124 CE, zI g bo 124 OR, (a, .inr (3, [.ref aw, .ref af, .ref ao])), zI g af 80 FD, (d, .inr (1, [.ref ds, .ref df, .ref de, .int (iI un)])), zI g ds 385 (stt FD re), zI g de 320 EN] H := by rw [hHe]; exact hP
  have hS : va_S A s.heap H locs := by rw [hHe, hLe]; exact hS
  suffices hgo : W p l e ({ frames := 3, cells := 0, slots := 0, locals := 71 }) s m ([.ref bb, .ref a, .ref d, .int (iI re)] : List Value).toArray below meth c H locs 0 0 Q (F0 m 0 ls []) by rw [hHe, hLe] at hgo; exact hgo
  clear hHe hLe
  refine lv_aload_n hx hb dX0_cast_0 rfl (lv_at hl 0 rfl) ?_
  refine z_cV (As := []) (rest := []) C (m_X0_clear (l := l) (g := g) (bb := bb) (bc := bc) (bo := bo) (rk := rk) (he := he) (kn := kn) (al := al) (CE := CE) ) (cwV 0 C.2.2.2.2 gX0_cast_X0_clear rfl rfl rfl (by decide +kernel) ⟨Nat.le_of_ble_eq_true rfl, Nat.le_of_ble_eq_true rfl⟩) hK hP hD hS hA [0, 1] (by decide) rfl (fun _ => rfl) 0 rfl rfl rfl hl.1 rfl (Nat.le_of_ble_eq_true rfl) dX0_cast_1 ⟨Nat.zero_le _, Nat.zero_le _⟩ (fun u_1 H locs hq_2 hP hD hS => ?_)
  have hP : zP g [(bb, .inr (0, [.ref bc, .ref bo, .int (iI 0), .int (iI 0), .int (iI 0), .int (iI 0)])), zI g bc 124 (fun _ => 0), zI g bo 124 OR, (a, .inr (3, [.ref aw, .ref af, .ref ao])), zI g af 80 FD, (d, .inr (1, [.ref ds, .ref df, .ref de, .int (iI un)])), zI g ds 385 (stt FD re), zI g de 320 EN] H := hP
  have hD : va_D A [(bb, .inr (0, [.ref bc, .ref bo, .int (iI 0), .int (iI 0), .int (iI 0), .int (iI 0)])), zI g bc 124 (fun _ => 0), zI g bo 124 OR, (a, .inr (3, [.ref aw, .ref af, .ref ao])), zI g af 80 FD, (d, .inr (1, [.ref ds, .ref df, .ref de, .int (iI un)])), zI g ds 385 (stt FD re), zI g de 320 EN] := hD
  refine lv_iconst (v := iI 0) hx hb dX0_cast_4 rfl ?_
  refine lv_istore (lv' := [(4, .int (iI 0)), (0, .ref bb), (1, .ref a), (2, .ref d), (3, .int (iI re))]) hx hb dX0_cast_5 hl (by decide) rfl (fun ls hl => ?_)
  have L7 : ∀ (n : Nat) (u : Int) (CE : Int → Int) (al : Int), (i1 : 0 ≤ u) → (i2 : u ≤ 16) → (i3 : ∀ j, 0 ≤ j → j < 124 → CE j = vt FD re j u) → (i4 : al = sumZ CE 124) → (hms : 16 - u < (n : Int)) → ∀ (H : Heap) (locs : List Loc) (ls : Array Slot), lv_has ls 7 [(0, .ref bb), (1, .ref a), (2, .ref d), (3, .int (iI re)), (4, .int (iI u))] → zP g [(bb, .inr (0, [.ref bc, .ref bo, .int (iI 0), .int (iI (sumZ (fun x => hu FD re x) u)), .int (iI (sumZ (fun x => ku FD re x) u)), .int (iI al)])), zI g bc 124 CE, zI g bo 124 OR, (a, .inr (3, [.ref aw, .ref af, .ref ao])), zI g af 80 FD, (d, .inr (1, [.ref ds, .ref df, .ref de, .int (iI un)])), zI g ds 385 (stt FD re), zI g de 320 EN] H → va_D A [(bb, .inr (0, [.ref bc, .ref bo, .int (iI 0), .int (iI (sumZ (fun x => hu FD re x) u)), .int (iI (sumZ (fun x => ku FD re x) u)), .int (iI al)])), zI g bc 124 CE, zI g bo 124 OR, (a, .inr (3, [.ref aw, .ref af, .ref ao])), zI g af 80 FD, (d, .inr (1, [.ref ds, .ref df, .ref de, .int (iI un)])), zI g ds 385 (stt FD re), zI g de 320 EN] → va_S A s.heap H locs → W p l e ({ frames := 3, cells := 0, slots := 0, locals := 71 }) s m ([.ref bb, .ref a, .ref d, .int (iI re)] : List Value).toArray below meth c H locs 0 0 Q (F0 m 7 ls []) := by
    clear hP hD hS hl
    intro n
    induction n with
    | zero =>
      intro u CE al i1 i2 i3 i4 hms H locs ls hl hP hD hS
      exfalso; omega
    | succ n ih7 =>
      intro u CE al i1 i2 i3 i4 hms H locs ls hl hP hD hS
      refine lv_iload hx hb dX0_cast_7 (lv_at hl 4 rfl) ?_
      refine lv_bipush (v := iI 16) hx hb dX0_cast_9 (by decide +kernel) ?_
      refine z_icmp_ge (tgt := 75) hx hb dX0_cast_11 (by decide) (by omega) (by omega) (fun c_3 => ?_) (fun c_3 => ?_)
      · obtain rfl : u = 16 := by omega
        have hP := zP_arr hP 1 (fun x => vt FD re x 16) rfl (fun j g1 g2 => i3 j g1 (by omega))
        have hD := zD_set (c1 := (zI g bc 124 (fun x => vt FD re x 16)).2) hD 1 rfl
        have hP : zP g [(bb, .inr (0, [.ref bc, .ref bo, .int (iI 0), .int (iI (sumZ (fun x => hu FD re x) 16)), .int (iI (sumZ (fun x => ku FD re x) 16)), .int (iI al)])), zI g bc 124 (fun x => vt FD re x 16), zI g bo 124 OR, (a, .inr (3, [.ref aw, .ref af, .ref ao])), zI g af 80 FD, (d, .inr (1, [.ref ds, .ref df, .ref de, .int (iI un)])), zI g ds 385 (stt FD re), zI g de 320 EN] H := hP
        have hD : va_D A [(bb, .inr (0, [.ref bc, .ref bo, .int (iI 0), .int (iI (sumZ (fun x => hu FD re x) 16)), .int (iI (sumZ (fun x => ku FD re x) 16)), .int (iI al)])), zI g bc 124 (fun x => vt FD re x 16), zI g bo 124 OR, (a, .inr (3, [.ref aw, .ref af, .ref ao])), zI g af 80 FD, (d, .inr (1, [.ref ds, .ref df, .ref de, .int (iI un)])), zI g ds 385 (stt FD re), zI g de 320 EN] := hD
        have hP := zP_fld hP 0 rfl 5 (sumZ (fun x => vt FD re x 16) 124) rfl (by rw [i4]; exact sumZ_cong (fun j g1 g2 => i3 j g1 g2))
        have hD := zD_set (c1 := ((bb, .inr (0, [.ref bc, .ref bo, .int (iI 0), .int (iI (sumZ (fun x => hu FD re x) 16)), .int (iI (sumZ (fun x => ku FD re x) 16)), .int (iI (sumZ (fun x => vt FD re x 16) 124))]))).2) hD 0 rfl
        have hP : zP g [(bb, .inr (0, [.ref bc, .ref bo, .int (iI 0), .int (iI (sumZ (fun x => hu FD re x) 16)), .int (iI (sumZ (fun x => ku FD re x) 16)), .int (iI (sumZ (fun x => vt FD re x 16) 124))])), zI g bc 124 (fun x => vt FD re x 16), zI g bo 124 OR, (a, .inr (3, [.ref aw, .ref af, .ref ao])), zI g af 80 FD, (d, .inr (1, [.ref ds, .ref df, .ref de, .int (iI un)])), zI g ds 385 (stt FD re), zI g de 320 EN] H := hP
        have hD : va_D A [(bb, .inr (0, [.ref bc, .ref bo, .int (iI 0), .int (iI (sumZ (fun x => hu FD re x) 16)), .int (iI (sumZ (fun x => ku FD re x) 16)), .int (iI (sumZ (fun x => vt FD re x 16) 124))])), zI g bc 124 (fun x => vt FD re x 16), zI g bo 124 OR, (a, .inr (3, [.ref aw, .ref af, .ref ao])), zI g af 80 FD, (d, .inr (1, [.ref ds, .ref df, .ref de, .int (iI un)])), zI g ds 385 (stt FD re), zI g de 320 EN] := hD
        refine lv_aload_n hx hb dX0_cast_75 rfl (lv_at hl 0 rfl) ?_
        refine z_cV (As := []) (rest := []) C (m_X0_rankCells (l := l) (g := g) (bb := bb) (bc := bc) (bo := bo) (he := sumZ (fun x => hu FD re x) 16) (kn := sumZ (fun x => ku FD re x) 16) (al := sumZ (fun x => vt FD re x 16) 124) (CE := fun x => vt FD re x 16) (OR := OR) (hV := fun j => by have := vt_rg FD re j; omega)) (cwV 0 C.2.2.2.2 gX0_cast_X0_rankCells rfl rfl rfl (by decide +kernel) ⟨Nat.le_of_ble_eq_true rfl, Nat.le_of_ble_eq_true rfl⟩) hK hP hD hS hA [0, 1, 2] (by decide) rfl (fun _ => rfl) 0 rfl rfl rfl hl.1 rfl (Nat.le_of_ble_eq_true rfl) dX0_cast_76 ⟨Nat.zero_le _, Nat.zero_le _⟩ (fun OR H locs hO hP hD hS => ?_)
        have hP : zP g [(bb, .inr (0, [.ref bc, .ref bo, .int (iI (sumZ (fun x => bI (0 < (fun x => vt FD re x 16) x)) 124)), .int (iI (sumZ (fun x => hu FD re x) 16)), .int (iI (sumZ (fun x => ku FD re x) 16)), .int (iI (sumZ (fun x => vt FD re x 16) 124))])), zI g bc 124 (fun x => vt FD re x 16), zI g bo 124 OR, (a, .inr (3, [.ref aw, .ref af, .ref ao])), zI g af 80 FD, (d, .inr (1, [.ref ds, .ref df, .ref de, .int (iI un)])), zI g ds 385 (stt FD re), zI g de 320 EN] H := hP
        have hD : va_D A [(bb, .inr (0, [.ref bc, .ref bo, .int (iI (sumZ (fun x => bI (0 < (fun x => vt FD re x 16) x)) 124)), .int (iI (sumZ (fun x => hu FD re x) 16)), .int (iI (sumZ (fun x => ku FD re x) 16)), .int (iI (sumZ (fun x => vt FD re x 16) 124))])), zI g bc 124 (fun x => vt FD re x 16), zI g bo 124 OR, (a, .inr (3, [.ref aw, .ref af, .ref ao])), zI g af 80 FD, (d, .inr (1, [.ref ds, .ref df, .ref de, .int (iI un)])), zI g ds 385 (stt FD re), zI g de 320 EN] := hD
        exact z_retV hx hb hlk hr hQ dX0_cast_79 hS OR (hO) (hP)
      · refine lv_iconst (v := iI 1) hx hb dX0_cast_14 rfl ?_
        refine lv_istore (lv' := [(5, .int (iI 1)), (0, .ref bb), (1, .ref a), (2, .ref d), (3, .int (iI re)), (4, .int (iI u))]) hx hb dX0_cast_15 hl (by decide) rfl (fun ls hl => ?_)
        have L17 : ∀ (n : Nat) (far : Int) (CE : Int → Int) (al : Int), (k1 : 1 ≤ far) → (k2 : far ≤ re + 1) → (k3 : ∀ j, 0 ≤ j → j < 124 → CE j = vt FD re j u + sumZ (fun y => vk FD re u j y) (far - 1)) → (k4 : al = sumZ CE 124) → (hms : re + 1 - far < (n : Int)) → ∀ (H : Heap) (locs : List Loc) (ls : Array Slot), lv_has ls 7 [(0, .ref bb), (1, .ref a), (2, .ref d), (3, .int (iI re)), (4, .int (iI u)), (5, .int (iI far))] → zP g [(bb, .inr (0, [.ref bc, .ref bo, .int (iI 0), .int (iI (sumZ (fun x => hu FD re x) u + sumZ (fun y => hk FD re u y) (far - 1))), .int (iI (sumZ (fun x => ku FD re x) u + sumZ (fun y => kw FD re u y) (far - 1))), .int (iI al)])), zI g bc 124 CE, zI g bo 124 OR, (a, .inr (3, [.ref aw, .ref af, .ref ao])), zI g af 80 FD, (d, .inr (1, [.ref ds, .ref df, .ref de, .int (iI un)])), zI g ds 385 (stt FD re), zI g de 320 EN] H → va_D A [(bb, .inr (0, [.ref bc, .ref bo, .int (iI 0), .int (iI (sumZ (fun x => hu FD re x) u + sumZ (fun y => hk FD re u y) (far - 1))), .int (iI (sumZ (fun x => ku FD re x) u + sumZ (fun y => kw FD re u y) (far - 1))), .int (iI al)])), zI g bc 124 CE, zI g bo 124 OR, (a, .inr (3, [.ref aw, .ref af, .ref ao])), zI g af 80 FD, (d, .inr (1, [.ref ds, .ref df, .ref de, .int (iI un)])), zI g ds 385 (stt FD re), zI g de 320 EN] → va_S A s.heap H locs → W p l e ({ frames := 3, cells := 0, slots := 0, locals := 71 }) s m ([.ref bb, .ref a, .ref d, .int (iI re)] : List Value).toArray below meth c H locs 0 0 Q (F0 m 17 ls []) := by
          clear hP hD hS hl
          intro n
          induction n with
          | zero =>
            intro far CE al k1 k2 k3 k4 hms H locs ls hl hP hD hS
            exfalso; omega
          | succ n ih17 =>
            intro far CE al k1 k2 k3 k4 hms H locs ls hl hP hD hS
            refine lv_iload hx hb dX0_cast_17 (lv_at hl 5 rfl) ?_
            refine lv_iload_n hx hb dX0_cast_19 rfl (lv_at hl 3 rfl) ?_
            refine z_icmp_gt (tgt := 69) hx hb dX0_cast_20 (by decide) (by omega) (by omega) (fun c_4 => ?_) (fun c_4 => ?_)
            · refine z_iinc (b := u + 1) (lv' := [(4, .int (iI (u + 1))), (0, .ref bb), (1, .ref a), (2, .ref d), (3, .int (iI re)), (5, .int (iI far))]) hx hb dX0_cast_69 hl (k := 4) rfl (rfl) (by decide) rfl (fun ls hl => ?_)
              refine lv_goto (tgt := 7) hx hb dX0_cast_72 (by decide) ?_
              have hP := zP_fld hP 0 rfl 3 (sumZ (fun x => hu FD re x) (u + 1)) rfl (by rw [sumZ_s _ i1, hu_re (by omega) (by omega) (by omega)])
              have hD := zD_set (c1 := ((bb, .inr (0, [.ref bc, .ref bo, .int (iI 0), .int (iI (sumZ (fun x => hu FD re x) (u + 1))), .int (iI (sumZ (fun x => ku FD re x) u + sumZ (fun y => kw FD re u y) (far - 1))), .int (iI al)]))).2) hD 0 rfl
              have hP : zP g [(bb, .inr (0, [.ref bc, .ref bo, .int (iI 0), .int (iI (sumZ (fun x => hu FD re x) (u + 1))), .int (iI (sumZ (fun x => ku FD re x) u + sumZ (fun y => kw FD re u y) (far - 1))), .int (iI al)])), zI g bc 124 CE, zI g bo 124 OR, (a, .inr (3, [.ref aw, .ref af, .ref ao])), zI g af 80 FD, (d, .inr (1, [.ref ds, .ref df, .ref de, .int (iI un)])), zI g ds 385 (stt FD re), zI g de 320 EN] H := hP
              have hD : va_D A [(bb, .inr (0, [.ref bc, .ref bo, .int (iI 0), .int (iI (sumZ (fun x => hu FD re x) (u + 1))), .int (iI (sumZ (fun x => ku FD re x) u + sumZ (fun y => kw FD re u y) (far - 1))), .int (iI al)])), zI g bc 124 CE, zI g bo 124 OR, (a, .inr (3, [.ref aw, .ref af, .ref ao])), zI g af 80 FD, (d, .inr (1, [.ref ds, .ref df, .ref de, .int (iI un)])), zI g ds 385 (stt FD re), zI g de 320 EN] := hD
              have hP := zP_fld hP 0 rfl 4 (sumZ (fun x => ku FD re x) (u + 1)) rfl (by rw [sumZ_s _ i1, ku_re (by omega) (by omega) (by omega)])
              have hD := zD_set (c1 := ((bb, .inr (0, [.ref bc, .ref bo, .int (iI 0), .int (iI (sumZ (fun x => hu FD re x) (u + 1))), .int (iI (sumZ (fun x => ku FD re x) (u + 1))), .int (iI al)]))).2) hD 0 rfl
              have hP : zP g [(bb, .inr (0, [.ref bc, .ref bo, .int (iI 0), .int (iI (sumZ (fun x => hu FD re x) (u + 1))), .int (iI (sumZ (fun x => ku FD re x) (u + 1))), .int (iI al)])), zI g bc 124 CE, zI g bo 124 OR, (a, .inr (3, [.ref aw, .ref af, .ref ao])), zI g af 80 FD, (d, .inr (1, [.ref ds, .ref df, .ref de, .int (iI un)])), zI g ds 385 (stt FD re), zI g de 320 EN] H := hP
              have hD : va_D A [(bb, .inr (0, [.ref bc, .ref bo, .int (iI 0), .int (iI (sumZ (fun x => hu FD re x) (u + 1))), .int (iI (sumZ (fun x => ku FD re x) (u + 1))), .int (iI al)])), zI g bc 124 CE, zI g bo 124 OR, (a, .inr (3, [.ref aw, .ref af, .ref ao])), zI g af 80 FD, (d, .inr (1, [.ref ds, .ref df, .ref de, .int (iI un)])), zI g ds 385 (stt FD re), zI g de 320 EN] := hD
              exact ih7 (u + 1) CE al (by omega) (by omega) (fun j g1 g2 => by rw [k3 j g1 g2, vu_re (by omega) (by omega) (by omega)]; unfold vt; rw [sumZ_s _ i1]) (k4) (by omega) H locs ls (lv_sub hl [1, 2, 3, 4, 0] rfl) (hP) (hD) hS
            · refine lv_aload_n hx hb dX0_cast_23 rfl (lv_at hl 1 rfl) ?_
              refine lv_iconst (v := iI 4) hx hb dX0_cast_24 rfl ?_
              refine lv_iload hx hb dX0_cast_25 (lv_at hl 4 rfl) ?_
              refine lv_iload hx hb dX0_cast_27 (lv_at hl 4 rfl) ?_
              refine lv_iload hx hb dX0_cast_29 (lv_at hl 5 rfl) ?_
              refine z_iadd hx hb dX0_cast_31 ?_
              refine lv_iload_n hx hb dX0_cast_32 rfl (lv_at hl 3 rfl) ?_
              refine z_cS (As := [.int (iI 4), .int (iI u), .int (iI (u + far)), .int (iI re)]) (rest := []) C (m_X3_keyOf (l := l) (g := g) (a := a) (aw := aw) (af := af) (ao := ao) (FD := FD) (row := 4) (v := u) (w := u + far) (re := re) (h1 := by omega) (h2 := by omega) (v1 := by omega) (v2 := by omega) (v3 := by omega) (hF := hF)) (cwV 4 C.2.2.2.2 gX0_cast_X3_keyOf rfl rfl rfl (by decide +kernel) ⟨Nat.le_of_ble_eq_true rfl, Nat.le_of_ble_eq_true rfl⟩) hK hP [3, 4] rfl 3 rfl rfl rfl hl.1 rfl (Nat.le_of_ble_eq_true rfl) dX0_cast_33 ⟨Nat.zero_le _, Nat.zero_le _⟩ ?_
              refine lv_istore (lv' := [(6, .int (iI (kyf FD re 4 u (u + far)))), (0, .ref bb), (1, .ref a), (2, .ref d), (3, .int (iI re)), (4, .int (iI u)), (5, .int (iI far))]) hx hb dX0_cast_36 hl (by decide) rfl (fun ls hl => ?_)
              have hkr := kyf_rg hF re 4 u (u + far) (by omega)
              refine lv_iload hx hb dX0_cast_38 (lv_at hl 0 rfl) ?_
              refine lv_iconst (v := iI (-1)) hx hb dX0_cast_40 rfl ?_
              refine z_icmp_eq (tgt := 63) hx hb dX0_cast_41 (by decide) (by omega) (by omega) (fun hc => ?_) (fun hc => ?_)
              · refine z_iinc (b := far + 1) (lv' := [(5, .int (iI (far + 1))), (6, .int (iI (kyf FD re 4 u (u + far)))), (0, .ref bb), (1, .ref a), (2, .ref d), (3, .int (iI re)), (4, .int (iI u))]) hx hb dX0_cast_63 hl (k := 6) rfl (rfl) (by decide) rfl (fun ls hl => ?_)
                refine lv_goto (tgt := 17) hx hb dX0_cast_66 (by decide) ?_
                have hP := zP_fld hP 0 rfl 3 (sumZ (fun x => hu FD re x) u + sumZ (fun y => hk FD re u y) ((far + 1) - 1)) rfl (by rw [sumZ_p _ k1]; unfold hk; rw [show u + (far - 1 + 1) = u + far by omega, bI_f (fun z => z hc)]; omega)
                have hD := zD_set (c1 := ((bb, .inr (0, [.ref bc, .ref bo, .int (iI 0), .int (iI (sumZ (fun x => hu FD re x) u + sumZ (fun y => hk FD re u y) ((far + 1) - 1))), .int (iI (sumZ (fun x => ku FD re x) u + sumZ (fun y => kw FD re u y) (far - 1))), .int (iI al)]))).2) hD 0 rfl
                have hP : zP g [(bb, .inr (0, [.ref bc, .ref bo, .int (iI 0), .int (iI (sumZ (fun x => hu FD re x) u + sumZ (fun y => hk FD re u y) ((far + 1) - 1))), .int (iI (sumZ (fun x => ku FD re x) u + sumZ (fun y => kw FD re u y) (far - 1))), .int (iI al)])), zI g bc 124 CE, zI g bo 124 OR, (a, .inr (3, [.ref aw, .ref af, .ref ao])), zI g af 80 FD, (d, .inr (1, [.ref ds, .ref df, .ref de, .int (iI un)])), zI g ds 385 (stt FD re), zI g de 320 EN] H := hP
                have hD : va_D A [(bb, .inr (0, [.ref bc, .ref bo, .int (iI 0), .int (iI (sumZ (fun x => hu FD re x) u + sumZ (fun y => hk FD re u y) ((far + 1) - 1))), .int (iI (sumZ (fun x => ku FD re x) u + sumZ (fun y => kw FD re u y) (far - 1))), .int (iI al)])), zI g bc 124 CE, zI g bo 124 OR, (a, .inr (3, [.ref aw, .ref af, .ref ao])), zI g af 80 FD, (d, .inr (1, [.ref ds, .ref df, .ref de, .int (iI un)])), zI g ds 385 (stt FD re), zI g de 320 EN] := hD
                have hP := zP_fld hP 0 rfl 4 (sumZ (fun x => ku FD re x) u + sumZ (fun y => kw FD re u y) ((far + 1) - 1)) rfl (by rw [sumZ_p _ k1]; unfold kw; rw [show u + (far - 1 + 1) = u + far by omega, bI_f (fun z => z.1 hc)]; omega)
                have hD := zD_set (c1 := ((bb, .inr (0, [.ref bc, .ref bo, .int (iI 0), .int (iI (sumZ (fun x => hu FD re x) u + sumZ (fun y => hk FD re u y) ((far + 1) - 1))), .int (iI (sumZ (fun x => ku FD re x) u + sumZ (fun y => kw FD re u y) ((far + 1) - 1))), .int (iI al)]))).2) hD 0 rfl
                have hP : zP g [(bb, .inr (0, [.ref bc, .ref bo, .int (iI 0), .int (iI (sumZ (fun x => hu FD re x) u + sumZ (fun y => hk FD re u y) ((far + 1) - 1))), .int (iI (sumZ (fun x => ku FD re x) u + sumZ (fun y => kw FD re u y) ((far + 1) - 1))), .int (iI al)])), zI g bc 124 CE, zI g bo 124 OR, (a, .inr (3, [.ref aw, .ref af, .ref ao])), zI g af 80 FD, (d, .inr (1, [.ref ds, .ref df, .ref de, .int (iI un)])), zI g ds 385 (stt FD re), zI g de 320 EN] H := hP
                have hD : va_D A [(bb, .inr (0, [.ref bc, .ref bo, .int (iI 0), .int (iI (sumZ (fun x => hu FD re x) u + sumZ (fun y => hk FD re u y) ((far + 1) - 1))), .int (iI (sumZ (fun x => ku FD re x) u + sumZ (fun y => kw FD re u y) ((far + 1) - 1))), .int (iI al)])), zI g bc 124 CE, zI g bo 124 OR, (a, .inr (3, [.ref aw, .ref af, .ref ao])), zI g af 80 FD, (d, .inr (1, [.ref ds, .ref df, .ref de, .int (iI un)])), zI g ds 385 (stt FD re), zI g de 320 EN] := hD
                exact ih17 (far + 1) CE al (by omega) (by omega) (fun j g1 g2 => by rw [k3 j g1 g2, sumZ_p _ k1]; unfold vk; rw [show u + (far - 1 + 1) = u + far by omega, if_pos hc]; omega) (k4) (by omega) H locs ls (lv_sub hl [2, 3, 4, 5, 6, 0] rfl) (hP) (hD) hS
              · refine lv_aload_n hx hb dX0_cast_44 rfl (lv_at hl 1 rfl) ?_
                refine lv_dup hx hb dX0_cast_45 rfl ?_
                refine z_get (v := .int (iI (sumZ (fun x => hu FD re x) u + sumZ (fun y => hk FD re u y) (far - 1)))) (Cn := RX0) (T := TX0) (N := 6) (ci := 0) C in_X0_cast_X0 hK hP 0 rfl rfl 3 (by decide) (List.mem_of_getElem? (i := 1) rfl) rfl dX0_cast_46 ?_
                refine lv_iconst (v := iI 1) hx hb dX0_cast_49 rfl ?_
                refine z_iadd hx hb dX0_cast_50 ?_
                refine z_put (v := .int (iI ((sumZ (fun x => hu FD re x) u + sumZ (fun y => hk FD re u y) (far - 1)) + 1))) (Cn := RX0) (T := TX0) (N := 6) (ci := 0) C in_X0_cast_X0 tyX0 tyX0_ok nmX0 hK hP hD hS 0 rfl rfl 3 (by decide) (List.mem_of_getElem? (i := 1) rfl) rfl rfl rfl (Nat.le_of_ble_eq_true rfl) dX0_cast_51 (fun H locs hP hD hS => ?_)
                have hP : zP g [(bb, .inr (0, [.ref bc, .ref bo, .int (iI 0), .int (iI ((sumZ (fun x => hu FD re x) u + sumZ (fun y => hk FD re u y) (far - 1)) + 1)), .int (iI (sumZ (fun x => ku FD re x) u + sumZ (fun y => kw FD re u y) (far - 1))), .int (iI al)])), zI g bc 124 CE, zI g bo 124 OR, (a, .inr (3, [.ref aw, .ref af, .ref ao])), zI g af 80 FD, (d, .inr (1, [.ref ds, .ref df, .ref de, .int (iI un)])), zI g ds 385 (stt FD re), zI g de 320 EN] H := hP
                have hD : va_D A [(bb, .inr (0, [.ref bc, .ref bo, .int (iI 0), .int (iI ((sumZ (fun x => hu FD re x) u + sumZ (fun y => hk FD re u y) (far - 1)) + 1)), .int (iI (sumZ (fun x => ku FD re x) u + sumZ (fun y => kw FD re u y) (far - 1))), .int (iI al)])), zI g bc 124 CE, zI g bo 124 OR, (a, .inr (3, [.ref aw, .ref af, .ref ao])), zI g af 80 FD, (d, .inr (1, [.ref ds, .ref df, .ref de, .int (iI un)])), zI g ds 385 (stt FD re), zI g de 320 EN] := hD
                refine lv_aload_n hx hb dX0_cast_54 rfl (lv_at hl 1 rfl) ?_
                refine lv_aload_n hx hb dX0_cast_55 rfl (lv_at hl 3 rfl) ?_
                refine lv_iload hx hb dX0_cast_56 (lv_at hl 0 rfl) ?_
                refine lv_iload hx hb dX0_cast_58 (lv_at hl 5 rfl) ?_
                refine z_cV (As := [.ref d, .int (iI (kyf FD re 4 u (u + far))), .int (iI u)]) (rest := []) C (m_X0_castFor (l := l) (g := g) (bb := bb) (bc := bc) (bo := bo) (rk := 0) (he := (sumZ (fun x => hu FD re x) u + sumZ (fun y => hk FD re u y) (far - 1)) + 1) (kn := sumZ (fun x => ku FD re x) u + sumZ (fun y => kw FD re u y) (far - 1)) (al := al) (d := d) (ds := ds) (df := df) (de := de) (un := un) (CE := CE) (EN := EN) (FD := FD) (re := re) (key := kyf FD re 4 u (u + far)) (u := u) (k1 := by omega) (k2 := by omega) (u1 := by omega) (u2 := by omega) (hE := hE) (hT := hT)) (cwV 3 C.2.2.2.2 gX0_cast_X0_castFor rfl rfl rfl (by decide +kernel) ⟨Nat.le_of_ble_eq_true rfl, Nat.le_of_ble_eq_true rfl⟩) hK hP hD hS hA [0, 1, 5, 6, 7] (by decide) rfl (fun _ => rfl) 0 rfl rfl rfl hl.1 rfl (Nat.le_of_ble_eq_true rfl) dX0_cast_60 ⟨Nat.zero_le _, Nat.zero_le _⟩ (fun u_5 H locs hq9 hP hD hS => ?_)
                have hP : zP g [(bb, .inr (0, [.ref bc, .ref bo, .int (iI 0), .int (iI ((sumZ (fun x => hu FD re x) u + sumZ (fun y => hk FD re u y) (far - 1)) + 1)), .int (iI ((sumZ (fun x => ku FD re x) u + sumZ (fun y => kw FD re u y) (far - 1)) + bI (0 < cnt FD re (kyf FD re 4 u (u + far)) 64))), .int (iI (al + cnt FD re (kyf FD re 4 u (u + far)) 64))])), zI g bc 124 (fun x => CE x + vc FD re u (kyf FD re 4 u (u + far)) x 64), zI g bo 124 OR, (a, .inr (3, [.ref aw, .ref af, .ref ao])), zI g af 80 FD, (d, .inr (1, [.ref ds, .ref df, .ref de, .int (iI un)])), zI g ds 385 (stt FD re), zI g de 320 EN] H := hP
                have hD : va_D A [(bb, .inr (0, [.ref bc, .ref bo, .int (iI 0), .int (iI ((sumZ (fun x => hu FD re x) u + sumZ (fun y => hk FD re u y) (far - 1)) + 1)), .int (iI ((sumZ (fun x => ku FD re x) u + sumZ (fun y => kw FD re u y) (far - 1)) + bI (0 < cnt FD re (kyf FD re 4 u (u + far)) 64))), .int (iI (al + cnt FD re (kyf FD re 4 u (u + far)) 64))])), zI g bc 124 (fun x => CE x + vc FD re u (kyf FD re 4 u (u + far)) x 64), zI g bo 124 OR, (a, .inr (3, [.ref aw, .ref af, .ref ao])), zI g af 80 FD, (d, .inr (1, [.ref ds, .ref df, .ref de, .int (iI un)])), zI g ds 385 (stt FD re), zI g de 320 EN] := hD
                refine z_iinc (b := far + 1) (lv' := [(5, .int (iI (far + 1))), (6, .int (iI (kyf FD re 4 u (u + far)))), (0, .ref bb), (1, .ref a), (2, .ref d), (3, .int (iI re)), (4, .int (iI u))]) hx hb dX0_cast_63 hl (k := 6) rfl (rfl) (by decide) rfl (fun ls hl => ?_)
                refine lv_goto (tgt := 17) hx hb dX0_cast_66 (by decide) ?_
                have hP := zP_fld hP 0 rfl 3 (sumZ (fun x => hu FD re x) u + sumZ (fun y => hk FD re u y) ((far + 1) - 1)) rfl (by rw [sumZ_p _ k1]; unfold hk; rw [show u + (far - 1 + 1) = u + far by omega, bI_t hc]; omega)
                have hD := zD_set (c1 := ((bb, .inr (0, [.ref bc, .ref bo, .int (iI 0), .int (iI (sumZ (fun x => hu FD re x) u + sumZ (fun y => hk FD re u y) ((far + 1) - 1))), .int (iI ((sumZ (fun x => ku FD re x) u + sumZ (fun y => kw FD re u y) (far - 1)) + bI (0 < cnt FD re (kyf FD re 4 u (u + far)) 64))), .int (iI (al + cnt FD re (kyf FD re 4 u (u + far)) 64))]))).2) hD 0 rfl
                have hP : zP g [(bb, .inr (0, [.ref bc, .ref bo, .int (iI 0), .int (iI (sumZ (fun x => hu FD re x) u + sumZ (fun y => hk FD re u y) ((far + 1) - 1))), .int (iI ((sumZ (fun x => ku FD re x) u + sumZ (fun y => kw FD re u y) (far - 1)) + bI (0 < cnt FD re (kyf FD re 4 u (u + far)) 64))), .int (iI (al + cnt FD re (kyf FD re 4 u (u + far)) 64))])), zI g bc 124 (fun x => CE x + vc FD re u (kyf FD re 4 u (u + far)) x 64), zI g bo 124 OR, (a, .inr (3, [.ref aw, .ref af, .ref ao])), zI g af 80 FD, (d, .inr (1, [.ref ds, .ref df, .ref de, .int (iI un)])), zI g ds 385 (stt FD re), zI g de 320 EN] H := hP
                have hD : va_D A [(bb, .inr (0, [.ref bc, .ref bo, .int (iI 0), .int (iI (sumZ (fun x => hu FD re x) u + sumZ (fun y => hk FD re u y) ((far + 1) - 1))), .int (iI ((sumZ (fun x => ku FD re x) u + sumZ (fun y => kw FD re u y) (far - 1)) + bI (0 < cnt FD re (kyf FD re 4 u (u + far)) 64))), .int (iI (al + cnt FD re (kyf FD re 4 u (u + far)) 64))])), zI g bc 124 (fun x => CE x + vc FD re u (kyf FD re 4 u (u + far)) x 64), zI g bo 124 OR, (a, .inr (3, [.ref aw, .ref af, .ref ao])), zI g af 80 FD, (d, .inr (1, [.ref ds, .ref df, .ref de, .int (iI un)])), zI g ds 385 (stt FD re), zI g de 320 EN] := hD
                have hP := zP_fld hP 0 rfl 4 (sumZ (fun x => ku FD re x) u + sumZ (fun y => kw FD re u y) ((far + 1) - 1)) rfl (by rw [sumZ_p _ k1]; unfold kw; rw [show u + (far - 1 + 1) = u + far by omega, bI_iff (P := _ ∧ _) (Q := 0 < cnt FD re (kyf FD re 4 u (u + far)) 64) ⟨fun z => z.2, fun z => ⟨hc, z⟩⟩]; omega)
                have hD := zD_set (c1 := ((bb, .inr (0, [.ref bc, .ref bo, .int (iI 0), .int (iI (sumZ (fun x => hu FD re x) u + sumZ (fun y => hk FD re u y) ((far + 1) - 1))), .int (iI (sumZ (fun x => ku FD re x) u + sumZ (fun y => kw FD re u y) ((far + 1) - 1))), .int (iI (al + cnt FD re (kyf FD re 4 u (u + far)) 64))]))).2) hD 0 rfl
                have hP : zP g [(bb, .inr (0, [.ref bc, .ref bo, .int (iI 0), .int (iI (sumZ (fun x => hu FD re x) u + sumZ (fun y => hk FD re u y) ((far + 1) - 1))), .int (iI (sumZ (fun x => ku FD re x) u + sumZ (fun y => kw FD re u y) ((far + 1) - 1))), .int (iI (al + cnt FD re (kyf FD re 4 u (u + far)) 64))])), zI g bc 124 (fun x => CE x + vc FD re u (kyf FD re 4 u (u + far)) x 64), zI g bo 124 OR, (a, .inr (3, [.ref aw, .ref af, .ref ao])), zI g af 80 FD, (d, .inr (1, [.ref ds, .ref df, .ref de, .int (iI un)])), zI g ds 385 (stt FD re), zI g de 320 EN] H := hP
                have hD : va_D A [(bb, .inr (0, [.ref bc, .ref bo, .int (iI 0), .int (iI (sumZ (fun x => hu FD re x) u + sumZ (fun y => hk FD re u y) ((far + 1) - 1))), .int (iI (sumZ (fun x => ku FD re x) u + sumZ (fun y => kw FD re u y) ((far + 1) - 1))), .int (iI (al + cnt FD re (kyf FD re 4 u (u + far)) 64))])), zI g bc 124 (fun x => CE x + vc FD re u (kyf FD re 4 u (u + far)) x 64), zI g bo 124 OR, (a, .inr (3, [.ref aw, .ref af, .ref ao])), zI g af 80 FD, (d, .inr (1, [.ref ds, .ref df, .ref de, .int (iI un)])), zI g ds 385 (stt FD re), zI g de 320 EN] := hD
                have hP := zP_fld hP 0 rfl 5 ((al + cnt FD re (kyf FD re 4 u (u + far)) 64)) rfl (by omega)
                have hD := zD_set (c1 := ((bb, .inr (0, [.ref bc, .ref bo, .int (iI 0), .int (iI (sumZ (fun x => hu FD re x) u + sumZ (fun y => hk FD re u y) ((far + 1) - 1))), .int (iI (sumZ (fun x => ku FD re x) u + sumZ (fun y => kw FD re u y) ((far + 1) - 1))), .int (iI (al + cnt FD re (kyf FD re 4 u (u + far)) 64))]))).2) hD 0 rfl
                have hP : zP g [(bb, .inr (0, [.ref bc, .ref bo, .int (iI 0), .int (iI (sumZ (fun x => hu FD re x) u + sumZ (fun y => hk FD re u y) ((far + 1) - 1))), .int (iI (sumZ (fun x => ku FD re x) u + sumZ (fun y => kw FD re u y) ((far + 1) - 1))), .int (iI (al + cnt FD re (kyf FD re 4 u (u + far)) 64))])), zI g bc 124 (fun x => CE x + vc FD re u (kyf FD re 4 u (u + far)) x 64), zI g bo 124 OR, (a, .inr (3, [.ref aw, .ref af, .ref ao])), zI g af 80 FD, (d, .inr (1, [.ref ds, .ref df, .ref de, .int (iI un)])), zI g ds 385 (stt FD re), zI g de 320 EN] H := hP
                have hD : va_D A [(bb, .inr (0, [.ref bc, .ref bo, .int (iI 0), .int (iI (sumZ (fun x => hu FD re x) u + sumZ (fun y => hk FD re u y) ((far + 1) - 1))), .int (iI (sumZ (fun x => ku FD re x) u + sumZ (fun y => kw FD re u y) ((far + 1) - 1))), .int (iI (al + cnt FD re (kyf FD re 4 u (u + far)) 64))])), zI g bc 124 (fun x => CE x + vc FD re u (kyf FD re 4 u (u + far)) x 64), zI g bo 124 OR, (a, .inr (3, [.ref aw, .ref af, .ref ao])), zI g af 80 FD, (d, .inr (1, [.ref ds, .ref df, .ref de, .int (iI un)])), zI g ds 385 (stt FD re), zI g de 320 EN] := hD
                exact ih17 (far + 1) (fun x => CE x + vc FD re u (kyf FD re 4 u (u + far)) x 64) (al + cnt FD re (kyf FD re 4 u (u + far)) 64) (by omega) (by omega) (fun j g1 g2 => by rw [k3 j g1 g2, sumZ_p _ k1, show vk FD re u j (far - 1) = vc FD re u (kyf FD re 4 u (u + far)) j 64 by unfold vk; rw [show u + (far - 1 + 1) = u + far by omega, if_neg hc]]; omega) (by rw [hq9, k4]) (by omega) H locs ls (lv_sub hl [2, 3, 4, 5, 6, 0] rfl) (hP) (hD) hS
        have hP := zP_fld hP 0 rfl 3 (sumZ (fun x => hu FD re x) u + sumZ (fun y => hk FD re u y) (1 - 1)) rfl (by rw [show (1 : Int) - 1 = 0 by omega, sumZ_0]; omega)
        have hD := zD_set (c1 := ((bb, .inr (0, [.ref bc, .ref bo, .int (iI 0), .int (iI (sumZ (fun x => hu FD re x) u + sumZ (fun y => hk FD re u y) (1 - 1))), .int (iI (sumZ (fun x => ku FD re x) u)), .int (iI al)]))).2) hD 0 rfl
        have hP : zP g [(bb, .inr (0, [.ref bc, .ref bo, .int (iI 0), .int (iI (sumZ (fun x => hu FD re x) u + sumZ (fun y => hk FD re u y) (1 - 1))), .int (iI (sumZ (fun x => ku FD re x) u)), .int (iI al)])), zI g bc 124 CE, zI g bo 124 OR, (a, .inr (3, [.ref aw, .ref af, .ref ao])), zI g af 80 FD, (d, .inr (1, [.ref ds, .ref df, .ref de, .int (iI un)])), zI g ds 385 (stt FD re), zI g de 320 EN] H := hP
        have hD : va_D A [(bb, .inr (0, [.ref bc, .ref bo, .int (iI 0), .int (iI (sumZ (fun x => hu FD re x) u + sumZ (fun y => hk FD re u y) (1 - 1))), .int (iI (sumZ (fun x => ku FD re x) u)), .int (iI al)])), zI g bc 124 CE, zI g bo 124 OR, (a, .inr (3, [.ref aw, .ref af, .ref ao])), zI g af 80 FD, (d, .inr (1, [.ref ds, .ref df, .ref de, .int (iI un)])), zI g ds 385 (stt FD re), zI g de 320 EN] := hD
        have hP := zP_fld hP 0 rfl 4 (sumZ (fun x => ku FD re x) u + sumZ (fun y => kw FD re u y) (1 - 1)) rfl (by rw [show (1 : Int) - 1 = 0 by omega, sumZ_0]; omega)
        have hD := zD_set (c1 := ((bb, .inr (0, [.ref bc, .ref bo, .int (iI 0), .int (iI (sumZ (fun x => hu FD re x) u + sumZ (fun y => hk FD re u y) (1 - 1))), .int (iI (sumZ (fun x => ku FD re x) u + sumZ (fun y => kw FD re u y) (1 - 1))), .int (iI al)]))).2) hD 0 rfl
        have hP : zP g [(bb, .inr (0, [.ref bc, .ref bo, .int (iI 0), .int (iI (sumZ (fun x => hu FD re x) u + sumZ (fun y => hk FD re u y) (1 - 1))), .int (iI (sumZ (fun x => ku FD re x) u + sumZ (fun y => kw FD re u y) (1 - 1))), .int (iI al)])), zI g bc 124 CE, zI g bo 124 OR, (a, .inr (3, [.ref aw, .ref af, .ref ao])), zI g af 80 FD, (d, .inr (1, [.ref ds, .ref df, .ref de, .int (iI un)])), zI g ds 385 (stt FD re), zI g de 320 EN] H := hP
        have hD : va_D A [(bb, .inr (0, [.ref bc, .ref bo, .int (iI 0), .int (iI (sumZ (fun x => hu FD re x) u + sumZ (fun y => hk FD re u y) (1 - 1))), .int (iI (sumZ (fun x => ku FD re x) u + sumZ (fun y => kw FD re u y) (1 - 1))), .int (iI al)])), zI g bc 124 CE, zI g bo 124 OR, (a, .inr (3, [.ref aw, .ref af, .ref ao])), zI g af 80 FD, (d, .inr (1, [.ref ds, .ref df, .ref de, .int (iI un)])), zI g ds 385 (stt FD re), zI g de 320 EN] := hD
        exact L17 (7) 1 CE al (by omega) (by omega) (fun j g1 g2 => by rw [i3 j g1 g2, show (1 : Int) - 1 = 0 by omega, sumZ_0]; omega) (i4) (by omega) H locs ls (lv_sub hl [1, 2, 3, 4, 5, 0] rfl) (hP) (hD) hS
  have hP := zP_fld hP 0 rfl 3 (sumZ (fun x => hu FD re x) 0) rfl ((sumZ_0 _).symm)
  have hD := zD_set (c1 := ((bb, .inr (0, [.ref bc, .ref bo, .int (iI 0), .int (iI (sumZ (fun x => hu FD re x) 0)), .int (iI 0), .int (iI 0)]))).2) hD 0 rfl
  have hP : zP g [(bb, .inr (0, [.ref bc, .ref bo, .int (iI 0), .int (iI (sumZ (fun x => hu FD re x) 0)), .int (iI 0), .int (iI 0)])), zI g bc 124 (fun _ => 0), zI g bo 124 OR, (a, .inr (3, [.ref aw, .ref af, .ref ao])), zI g af 80 FD, (d, .inr (1, [.ref ds, .ref df, .ref de, .int (iI un)])), zI g ds 385 (stt FD re), zI g de 320 EN] H := hP
  have hD : va_D A [(bb, .inr (0, [.ref bc, .ref bo, .int (iI 0), .int (iI (sumZ (fun x => hu FD re x) 0)), .int (iI 0), .int (iI 0)])), zI g bc 124 (fun _ => 0), zI g bo 124 OR, (a, .inr (3, [.ref aw, .ref af, .ref ao])), zI g af 80 FD, (d, .inr (1, [.ref ds, .ref df, .ref de, .int (iI un)])), zI g ds 385 (stt FD re), zI g de 320 EN] := hD
  have hP := zP_fld hP 0 rfl 4 (sumZ (fun x => ku FD re x) 0) rfl ((sumZ_0 _).symm)
  have hD := zD_set (c1 := ((bb, .inr (0, [.ref bc, .ref bo, .int (iI 0), .int (iI (sumZ (fun x => hu FD re x) 0)), .int (iI (sumZ (fun x => ku FD re x) 0)), .int (iI 0)]))).2) hD 0 rfl
  have hP : zP g [(bb, .inr (0, [.ref bc, .ref bo, .int (iI 0), .int (iI (sumZ (fun x => hu FD re x) 0)), .int (iI (sumZ (fun x => ku FD re x) 0)), .int (iI 0)])), zI g bc 124 (fun _ => 0), zI g bo 124 OR, (a, .inr (3, [.ref aw, .ref af, .ref ao])), zI g af 80 FD, (d, .inr (1, [.ref ds, .ref df, .ref de, .int (iI un)])), zI g ds 385 (stt FD re), zI g de 320 EN] H := hP
  have hD : va_D A [(bb, .inr (0, [.ref bc, .ref bo, .int (iI 0), .int (iI (sumZ (fun x => hu FD re x) 0)), .int (iI (sumZ (fun x => ku FD re x) 0)), .int (iI 0)])), zI g bc 124 (fun _ => 0), zI g bo 124 OR, (a, .inr (3, [.ref aw, .ref af, .ref ao])), zI g af 80 FD, (d, .inr (1, [.ref ds, .ref df, .ref de, .int (iI un)])), zI g ds 385 (stt FD re), zI g de 320 EN] := hD
  exact L7 (17) 0 (fun _ => 0) 0 (by omega) (by omega) (fun j _ _ => rfl) ((sumZ_zero (fun _ _ _ => rfl)).symm) (by omega) H locs ls (lv_sub hl [1, 2, 3, 4, 0] rfl) (hP) (hD) hS
