set_option maxHeartbeats 4000000 in
set_option maxRecDepth 100000 in
theorem m_X3_keyOf (l : Launch) (g : zG) (a aw af ao : Nat) (FD : Int → Int) (row v w re : Int) (h1 : 0 ≤ row) (h2 : row < 5) (v1 : -1000 ≤ v ∧ v ≤ 1000) (v2 : -1000 ≤ w ∧ w ≤ 1000) (v3 : 0 ≤ re ∧ re ≤ 1000) (hF : ∀ j, -1 ≤ FD j ∧ FD j ≤ 7 ∧ FD j ≠ 0) : zS l yX3_keyOf wsX3_keyOf ({ frames := 1, cells := 0, slots := 0, locals := 22 }) g [.ref a, .int (iI row), .int (iI v), .int (iI w), .int (iI re)] [(a, .inr (3, [.ref aw, .ref af, .ref ao])), zI g af 80 FD] (kyf FD re row v w) := by
  refine z_entS (cc := cX3_keyOf) (nL := 7) (ret := (some .int)) (own := RX3) (by decide) rfl rfl (Nat.le_of_ble_eq_true rfl) ?_
  intro p e s m below meth c Q ls C hlk hr hQ hP hK hl
  have hx := C.1
  have hb := C.2.1
  have hl : lv_has ls 7 [(0, .ref a), (1, .int (iI row)), (2, .int (iI v)), (3, .int (iI w)), (4, .int (iI re))] := hl
  refine lv_iload_n hx hb dX3_keyOf_0 rfl (lv_at hl 2 rfl) ?_
  refine z_if_lt (tgt := 23) hx hb dX3_keyOf_1 (by decide) (by omega) (fun c_1 => ?_) (fun c_1 => ?_)
  · refine lv_iconst (v := iI (-1)) hx hb dX3_keyOf_23 rfl ?_
    exact z_retS hx hb hlk hr hQ dX3_keyOf_24 ((kyf_no (by omega)).symm)
  · refine lv_iload_n hx hb dX3_keyOf_4 rfl (lv_at hl 2 rfl) ?_
    refine lv_iload_n hx hb dX3_keyOf_5 rfl (lv_at hl 3 rfl) ?_
    refine z_icmp_ge (tgt := 23) hx hb dX3_keyOf_6 (by decide) (by omega) (by omega) (fun c_2 => ?_) (fun c_2 => ?_)
    · refine lv_iconst (v := iI (-1)) hx hb dX3_keyOf_23 rfl ?_
      exact z_retS hx hb hlk hr hQ dX3_keyOf_24 ((kyf_no (by omega)).symm)
    · refine lv_iload_n hx hb dX3_keyOf_9 rfl (lv_at hl 3 rfl) ?_
      refine lv_bipush (v := iI 16) hx hb dX3_keyOf_10 (by decide +kernel) ?_
      refine z_icmp_ge (tgt := 23) hx hb dX3_keyOf_12 (by decide) (by omega) (by omega) (fun c_3 => ?_) (fun c_3 => ?_)
      · refine lv_iconst (v := iI (-1)) hx hb dX3_keyOf_23 rfl ?_
        exact z_retS hx hb hlk hr hQ dX3_keyOf_24 ((kyf_no (by omega)).symm)
      · refine lv_iload_n hx hb dX3_keyOf_15 rfl (lv_at hl 3 rfl) ?_
        refine lv_iload_n hx hb dX3_keyOf_16 rfl (lv_at hl 2 rfl) ?_
        refine z_isub hx hb dX3_keyOf_17 ?_
        refine lv_iload hx hb dX3_keyOf_18 (lv_at hl 4 rfl) ?_
        refine z_icmp_le (tgt := 25) hx hb dX3_keyOf_20 (by decide) (by omega) (by omega) (fun c_4 => ?_) (fun c_4 => ?_)
        · refine lv_aload_n hx hb dX3_keyOf_25 rfl (lv_at hl 0 rfl) ?_
          refine lv_iload_n hx hb dX3_keyOf_26 rfl (lv_at hl 1 rfl) ?_
          refine lv_iload_n hx hb dX3_keyOf_27 rfl (lv_at hl 2 rfl) ?_
          refine z_cS (As := [.int (iI row), .int (iI v)]) (rest := []) C (m_X3_peakOf (l := l) (g := g) (a := a) (aw := aw) (af := af) (ao := ao) (FD := FD) (row := row) (w := v) (h1 := by omega) (h2 := by omega)) (cwV 2 C.2.2.2.2 gX3_keyOf_X3_peakOf rfl rfl rfl (by decide +kernel) ⟨Nat.le_of_ble_eq_true rfl, Nat.le_of_ble_eq_true rfl⟩) hK hP [0, 1] rfl 0 rfl rfl rfl hl.1 rfl (Nat.le_of_ble_eq_true rfl) dX3_keyOf_28 ⟨Nat.zero_le _, Nat.zero_le _⟩ ?_
          refine lv_istore (lv' := [(5, .int (iI (FD (row * 16 + v)))), (0, .ref a), (1, .int (iI row)), (2, .int (iI v)), (3, .int (iI w)), (4, .int (iI re))]) hx hb dX3_keyOf_31 hl (by decide) rfl (fun ls hl => ?_)
          refine lv_aload_n hx hb dX3_keyOf_33 rfl (lv_at hl 1 rfl) ?_
          refine lv_iload_n hx hb dX3_keyOf_34 rfl (lv_at hl 2 rfl) ?_
          refine lv_iload_n hx hb dX3_keyOf_35 rfl (lv_at hl 4 rfl) ?_
          refine z_cS (As := [.int (iI row), .int (iI w)]) (rest := []) C (m_X3_peakOf (l := l) (g := g) (a := a) (aw := aw) (af := af) (ao := ao) (FD := FD) (row := row) (w := w) (h1 := by omega) (h2 := by omega)) (cwV 2 C.2.2.2.2 gX3_keyOf_X3_peakOf rfl rfl rfl (by decide +kernel) ⟨Nat.le_of_ble_eq_true rfl, Nat.le_of_ble_eq_true rfl⟩) hK hP [0, 1] rfl 0 rfl rfl rfl hl.1 rfl (Nat.le_of_ble_eq_true rfl) dX3_keyOf_36 ⟨Nat.zero_le _, Nat.zero_le _⟩ ?_
          refine lv_istore (lv' := [(6, .int (iI (FD (row * 16 + w)))), (5, .int (iI (FD (row * 16 + v)))), (0, .ref a), (1, .int (iI row)), (2, .int (iI v)), (3, .int (iI w)), (4, .int (iI re))]) hx hb dX3_keyOf_39 hl (by decide) rfl (fun ls hl => ?_)
          have hf1 := hF (row * 16 + v)
          have hf2 := hF (row * 16 + w)
          refine lv_iload hx hb dX3_keyOf_41 (lv_at hl 1 rfl) ?_
          refine lv_iconst (v := iI (-1)) hx hb dX3_keyOf_43 rfl ?_
          refine z_icmp_eq (tgt := 53) hx hb dX3_keyOf_44 (by decide) (by omega) (by omega) (fun c_5 => ?_) (fun c_5 => ?_)
          · refine lv_iconst (v := iI (-1)) hx hb dX3_keyOf_53 rfl ?_
            refine lv_goto (tgt := 72) hx hb dX3_keyOf_54 (by decide) ?_
            exact z_retS hx hb hlk hr hQ dX3_keyOf_72 ((kyf_no (by omega)).symm)
          · refine lv_iload hx hb dX3_keyOf_47 (lv_at hl 0 rfl) ?_
            refine lv_iconst (v := iI (-1)) hx hb dX3_keyOf_49 rfl ?_
            refine z_icmp_ne (tgt := 57) hx hb dX3_keyOf_50 (by decide) (by omega) (by omega) (fun c_6 => ?_) (fun c_6 => ?_)
            · refine lv_bipush (v := iI 64) hx hb dX3_keyOf_57 (by decide +kernel) ?_
              refine lv_iload_n hx hb dX3_keyOf_59 rfl (lv_at hl 5 rfl) ?_
              refine lv_iload_n hx hb dX3_keyOf_60 rfl (lv_at hl 4 rfl) ?_
              refine z_isub hx hb dX3_keyOf_61 ?_
              refine z_imul hx hb dX3_keyOf_62 ?_
              refine lv_bipush (v := iI 8) hx hb dX3_keyOf_63 (by decide +kernel) ?_
              refine lv_iload hx hb dX3_keyOf_65 (lv_at hl 1 rfl) ?_
              refine z_imul hx hb dX3_keyOf_67 ?_
              refine z_iadd hx hb dX3_keyOf_68 ?_
              refine lv_iload hx hb dX3_keyOf_69 (lv_at hl 0 rfl) ?_
              refine z_iadd hx hb dX3_keyOf_71 ?_
              exact z_retS hx hb hlk hr hQ dX3_keyOf_72 ((kyf_yes (by omega)).symm)
            · refine lv_iconst (v := iI (-1)) hx hb dX3_keyOf_53 rfl ?_
              refine lv_goto (tgt := 72) hx hb dX3_keyOf_54 (by decide) ?_
              exact z_retS hx hb hlk hr hQ dX3_keyOf_72 ((kyf_no (by omega)).symm)
        · refine lv_iconst (v := iI (-1)) hx hb dX3_keyOf_23 rfl ?_
          exact z_retS hx hb hlk hr hQ dX3_keyOf_24 ((kyf_no (by omega)).symm)
set_option maxHeartbeats 4000000 in
set_option maxRecDepth 100000 in
theorem m_X3_countIn (l : Launch) (g : zG) (a aw af ao : Nat) (FD : Int → Int) (row : Int) (h1 : 0 ≤ row) (h2 : row < 5) (hF : ∀ j, -1 ≤ FD j ∧ FD j ≤ 7 ∧ FD j ≠ 0) : zS l yX3_countIn wsX3_countIn ({ frames := 1, cells := 0, slots := 0, locals := 22 }) g [.ref a, .int (iI row)] [(a, .inr (3, [.ref aw, .ref af, .ref ao])), zI g af 80 FD] (sumZ (fun x => bI (FD (row * 16 + x) ≠ -1)) 16) := by
  refine z_entS (cc := cX3_countIn) (nL := 4) (ret := (some .int)) (own := RX3) (by decide) rfl rfl (Nat.le_of_ble_eq_true rfl) ?_
  intro p e s m below meth c Q ls C hlk hr hQ hP hK hl
  have hx := C.1
  have hb := C.2.1
  have hl : lv_has ls 4 [(0, .ref a), (1, .int (iI row))] := hl
  refine lv_iconst (v := iI 0) hx hb dX3_countIn_0 rfl ?_
  refine lv_istore_n (lv' := [(2, .int (iI 0)), (0, .ref a), (1, .int (iI row))]) hx hb dX3_countIn_1 rfl hl (by decide) rfl (fun ls hl => ?_)
  refine lv_iconst (v := iI 0) hx hb dX3_countIn_2 rfl ?_
  refine lv_istore_n (lv' := [(3, .int (iI 0)), (2, .int (iI 0)), (0, .ref a), (1, .int (iI row))]) hx hb dX3_countIn_3 rfl hl (by decide) rfl (fun ls hl => ?_)
  have L4 : ∀ (n : Nat) (w : Int), (i1 : 0 ≤ w) → (i2 : w ≤ 16) → (hms : 16 - w < (n : Int)) → ∀ (ls : Array Slot), lv_has ls 4 [(0, .ref a), (1, .int (iI row)), (2, .int (iI (sumZ (fun x => bI (FD (row * 16 + x) ≠ -1)) w))), (3, .int (iI w))] → W p l e ({ frames := 1, cells := 0, slots := 0, locals := 22 }) s m ([.ref a, .int (iI row)] : List Value).toArray below meth c s.heap [] 0 0 Q (F0 m 4 ls []) := by
    clear hl
    intro n
    induction n with
    | zero =>
      intro w i1 i2 hms ls hl
      exfalso; omega
    | succ n ih4 =>
      intro w i1 i2 hms ls hl
      refine lv_iload_n hx hb dX3_countIn_4 rfl (lv_at hl 3 rfl) ?_
      refine lv_bipush (v := iI 16) hx hb dX3_countIn_5 (by decide +kernel) ?_
      refine z_icmp_ge (tgt := 29) hx hb dX3_countIn_7 (by decide) (by omega) (by omega) (fun c_1 => ?_) (fun c_1 => ?_)
      · obtain rfl : w = 16 := by omega
        refine lv_iload_n hx hb dX3_countIn_29 rfl (lv_at hl 2 rfl) ?_
        exact z_retS hx hb hlk hr hQ dX3_countIn_30 (rfl)
      · refine lv_aload_n hx hb dX3_countIn_10 rfl (lv_at hl 0 rfl) ?_
        refine lv_iload_n hx hb dX3_countIn_11 rfl (lv_at hl 1 rfl) ?_
        refine lv_iload_n hx hb dX3_countIn_12 rfl (lv_at hl 3 rfl) ?_
        refine z_cS (As := [.int (iI row), .int (iI w)]) (rest := []) C (m_X3_peakOf (l := l) (g := g) (a := a) (aw := aw) (af := af) (ao := ao) (FD := FD) (row := row) (w := w) (h1 := by omega) (h2 := by omega)) (cwV 2 C.2.2.2.2 gX3_countIn_X3_peakOf rfl rfl rfl (by decide +kernel) ⟨Nat.le_of_ble_eq_true rfl, Nat.le_of_ble_eq_true rfl⟩) hK hP [0, 1] rfl 0 rfl rfl rfl hl.1 rfl (Nat.le_of_ble_eq_true rfl) dX3_countIn_13 ⟨Nat.zero_le _, Nat.zero_le _⟩ ?_
        have hf1 := hF (row * 16 + w)
        refine lv_iconst (v := iI (-1)) hx hb dX3_countIn_16 rfl ?_
        refine z_icmp_eq (tgt := 23) hx hb dX3_countIn_17 (by decide) (by omega) (by omega) (fun hc => ?_) (fun hc => ?_)
        · refine z_iinc (b := w + 1) (lv' := [(3, .int (iI (w + 1))), (0, .ref a), (1, .int (iI row)), (2, .int (iI (sumZ (fun x => bI (FD (row * 16 + x) ≠ -1)) w)))]) hx hb dX3_countIn_23 hl (k := 3) rfl (rfl) (by decide) rfl (fun ls hl => ?_)
          refine lv_goto (tgt := 4) hx hb dX3_countIn_26 (by decide) ?_
          have hl := lv_chg hl 3 (b := sumZ (fun x => bI (FD (row * 16 + x) ≠ -1)) (w + 1)) rfl (by rw [sumZ_s _ i1, bI_f (by omega)]; omega)
          have hl : lv_has ls 4 [(3, .int (iI (w + 1))), (0, .ref a), (1, .int (iI row)), (2, .int (iI (sumZ (fun x => bI (FD (row * 16 + x) ≠ -1)) (w + 1))))] := hl
          exact ih4 (w + 1) (by omega) (by omega) (by omega) ls (lv_sub hl [1, 2, 3, 0] rfl)
        · refine z_iinc (b := sumZ (fun x => bI (FD (row * 16 + x) ≠ -1)) w + 1) (lv' := [(2, .int (iI (sumZ (fun x => bI (FD (row * 16 + x) ≠ -1)) w + 1))), (0, .ref a), (1, .int (iI row)), (3, .int (iI w))]) hx hb dX3_countIn_20 hl (k := 2) rfl (rfl) (by decide) rfl (fun ls hl => ?_)
          refine z_iinc (b := w + 1) (lv' := [(3, .int (iI (w + 1))), (2, .int (iI (sumZ (fun x => bI (FD (row * 16 + x) ≠ -1)) w + 1))), (0, .ref a), (1, .int (iI row))]) hx hb dX3_countIn_23 hl (k := 3) rfl (rfl) (by decide) rfl (fun ls hl => ?_)
          refine lv_goto (tgt := 4) hx hb dX3_countIn_26 (by decide) ?_
          have hl := lv_chg hl 1 (b := sumZ (fun x => bI (FD (row * 16 + x) ≠ -1)) (w + 1)) rfl (by rw [sumZ_s _ i1, bI_t hc])
          have hl : lv_has ls 4 [(3, .int (iI (w + 1))), (2, .int (iI (sumZ (fun x => bI (FD (row * 16 + x) ≠ -1)) (w + 1)))), (0, .ref a), (1, .int (iI row))] := hl
          exact ih4 (w + 1) (by omega) (by omega) (by omega) ls (lv_sub hl [2, 3, 1, 0] rfl)
  have hl := lv_chg hl 1 (b := sumZ (fun x => bI (FD (row * 16 + x) ≠ -1)) 0) rfl ((sumZ_0 _).symm)
  have hl : lv_has ls 4 [(3, .int (iI 0)), (2, .int (iI (sumZ (fun x => bI (FD (row * 16 + x) ≠ -1)) 0))), (0, .ref a), (1, .int (iI row))] := hl
  exact L4 (17) 0 (by omega) (by omega) (by omega) ls (lv_sub hl [2, 3, 1, 0] rfl)
set_option maxHeartbeats 4000000 in
set_option maxRecDepth 100000 in
theorem m_X3_countKeysIn (l : Launch) (g : zG) (a aw af ao : Nat) (FD : Int → Int) (row re : Int) (h1 : 0 ≤ row) (h2 : row < 5) (r1 : 1 ≤ re) (r2 : re ≤ 5) (hF : ∀ j, -1 ≤ FD j ∧ FD j ≤ 7 ∧ FD j ≠ 0) : zS l yX3_countKeysIn wsX3_countKeysIn ({ frames := 2, cells := 0, slots := 0, locals := 48 }) g [.ref a, .int (iI row), .int (iI re)] [(a, .inr (3, [.ref aw, .ref af, .ref ao])), zI g af 80 FD] (sumZ (fun x => sumZ (fun y => bI (kyf FD re row x (x + (y + 1)) ≠ -1)) re) 16) := by
  refine z_entS (cc := cX3_countKeysIn) (nL := 6) (ret := (some .int)) (own := RX3) (by decide) rfl rfl (Nat.le_of_ble_eq_true rfl) ?_
  intro p e s m below meth c Q ls C hlk hr hQ hP hK hl
  have hx := C.1
  have hb := C.2.1
  have hl : lv_has ls 6 [(0, .ref a), (1, .int (iI row)), (2, .int (iI re))] := hl
  refine lv_iconst (v := iI 0) hx hb dX3_countKeysIn_0 rfl ?_
  refine lv_istore_n (lv' := [(3, .int (iI 0)), (0, .ref a), (1, .int (iI row)), (2, .int (iI re))]) hx hb dX3_countKeysIn_1 rfl hl (by decide) rfl (fun ls hl => ?_)
  refine lv_iconst (v := iI 0) hx hb dX3_countKeysIn_2 rfl ?_
  refine lv_istore (lv' := [(4, .int (iI 0)), (3, .int (iI 0)), (0, .ref a), (1, .int (iI row)), (2, .int (iI re))]) hx hb dX3_countKeysIn_3 hl (by decide) rfl (fun ls hl => ?_)
  have L5 : ∀ (n : Nat) (v : Int), (i1 : 0 ≤ v) → (i2 : v ≤ 16) → (hms : 16 - v < (n : Int)) → ∀ (ls : Array Slot), lv_has ls 6 [(0, .ref a), (1, .int (iI row)), (2, .int (iI re)), (3, .int (iI (sumZ (fun x => sumZ (fun y => bI (kyf FD re row x (x + (y + 1)) ≠ -1)) re) v))), (4, .int (iI v))] → W p l e ({ frames := 2, cells := 0, slots := 0, locals := 48 }) s m ([.ref a, .int (iI row), .int (iI re)] : List Value).toArray below meth c s.heap [] 0 0 Q (F0 m 5 ls []) := by
    clear hl
    intro n
    induction n with
    | zero =>
      intro v i1 i2 hms ls hl
      exfalso; omega
    | succ n ih5 =>
      intro v i1 i2 hms ls hl
      refine lv_iload hx hb dX3_countKeysIn_5 (lv_at hl 4 rfl) ?_
      refine lv_bipush (v := iI 16) hx hb dX3_countKeysIn_7 (by decide +kernel) ?_
      refine z_icmp_ge (tgt := 53) hx hb dX3_countKeysIn_9 (by decide) (by omega) (by omega) (fun c_1 => ?_) (fun c_1 => ?_)
      · obtain rfl : v = 16 := by omega
        refine lv_iload_n hx hb dX3_countKeysIn_53 rfl (lv_at hl 3 rfl) ?_
        exact z_retS hx hb hlk hr hQ dX3_countKeysIn_54 (rfl)
      · refine lv_iconst (v := iI 1) hx hb dX3_countKeysIn_12 rfl ?_
        refine lv_istore (lv' := [(5, .int (iI 1)), (0, .ref a), (1, .int (iI row)), (2, .int (iI re)), (3, .int (iI (sumZ (fun x => sumZ (fun y => bI (kyf FD re row x (x + (y + 1)) ≠ -1)) re) v))), (4, .int (iI v))]) hx hb dX3_countKeysIn_13 hl (by decide) rfl (fun ls hl => ?_)
        have L15 : ∀ (n : Nat) (far : Int), (j1 : 1 ≤ far) → (j2 : far ≤ re + 1) → (hms : re + 1 - far < (n : Int)) → ∀ (ls : Array Slot), lv_has ls 6 [(0, .ref a), (1, .int (iI row)), (2, .int (iI re)), (3, .int (iI (sumZ (fun x => sumZ (fun y => bI (kyf FD re row x (x + (y + 1)) ≠ -1)) re) v + sumZ (fun y => bI (kyf FD re row v (v + (y + 1)) ≠ -1)) (far - 1)))), (4, .int (iI v)), (5, .int (iI far))] → W p l e ({ frames := 2, cells := 0, slots := 0, locals := 48 }) s m ([.ref a, .int (iI row), .int (iI re)] : List Value).toArray below meth c s.heap [] 0 0 Q (F0 m 15 ls []) := by
          clear hl
          intro n
          induction n with
          | zero =>
            intro far j1 j2 hms ls hl
            exfalso; omega
          | succ n ih15 =>
            intro far j1 j2 hms ls hl
            refine lv_iload hx hb dX3_countKeysIn_15 (lv_at hl 5 rfl) ?_
            refine lv_iload_n hx hb dX3_countKeysIn_17 rfl (lv_at hl 2 rfl) ?_
            refine z_icmp_gt (tgt := 47) hx hb dX3_countKeysIn_18 (by decide) (by omega) (by omega) (fun c_2 => ?_) (fun c_2 => ?_)
            · refine z_iinc (b := v + 1) (lv' := [(4, .int (iI (v + 1))), (0, .ref a), (1, .int (iI row)), (2, .int (iI re)), (3, .int (iI (sumZ (fun x => sumZ (fun y => bI (kyf FD re row x (x + (y + 1)) ≠ -1)) re) v + sumZ (fun y => bI (kyf FD re row v (v + (y + 1)) ≠ -1)) (far - 1)))), (5, .int (iI far))]) hx hb dX3_countKeysIn_47 hl (k := 4) rfl (rfl) (by decide) rfl (fun ls hl => ?_)
              refine lv_goto (tgt := 5) hx hb dX3_countKeysIn_50 (by decide) ?_
              have hl := lv_chg hl 4 (b := sumZ (fun x => sumZ (fun y => bI (kyf FD re row x (x + (y + 1)) ≠ -1)) re) (v + 1)) rfl (by rw [sumZ_s _ i1, show far - 1 = re by omega])
              have hl : lv_has ls 6 [(4, .int (iI (v + 1))), (0, .ref a), (1, .int (iI row)), (2, .int (iI re)), (3, .int (iI (sumZ (fun x => sumZ (fun y => bI (kyf FD re row x (x + (y + 1)) ≠ -1)) re) (v + 1)))), (5, .int (iI far))] := hl
              exact ih5 (v + 1) (by omega) (by omega) (by omega) ls (lv_sub hl [1, 2, 3, 4, 0] rfl)
            · refine lv_aload_n hx hb dX3_countKeysIn_21 rfl (lv_at hl 0 rfl) ?_
              refine lv_iload_n hx hb dX3_countKeysIn_22 rfl (lv_at hl 1 rfl) ?_
              refine lv_iload hx hb dX3_countKeysIn_23 (lv_at hl 4 rfl) ?_
              refine lv_iload hx hb dX3_countKeysIn_25 (lv_at hl 4 rfl) ?_
              refine lv_iload hx hb dX3_countKeysIn_27 (lv_at hl 5 rfl) ?_
              refine z_iadd hx hb dX3_countKeysIn_29 ?_
              refine lv_iload_n hx hb dX3_countKeysIn_30 rfl (lv_at hl 2 rfl) ?_
              refine z_cS (As := [.int (iI row), .int (iI v), .int (iI (v + far)), .int (iI re)]) (rest := []) C (m_X3_keyOf (l := l) (g := g) (a := a) (aw := aw) (af := af) (ao := ao) (FD := FD) (row := row) (v := v) (w := v + far) (re := re) (h1 := by omega) (h2 := by omega) (v1 := by omega) (v2 := by omega) (v3 := by omega) (hF := hF)) (cwV 4 C.2.2.2.2 gX3_countKeysIn_X3_keyOf rfl rfl rfl (by decide +kernel) ⟨Nat.le_of_ble_eq_true rfl, Nat.le_of_ble_eq_true rfl⟩) hK hP [0, 1] rfl 0 rfl rfl rfl hl.1 rfl (Nat.le_of_ble_eq_true rfl) dX3_countKeysIn_31 ⟨Nat.zero_le _, Nat.zero_le _⟩ ?_
              have hkr := kyf_rg hF re row v (v + far) (by omega)
              refine lv_iconst (v := iI (-1)) hx hb dX3_countKeysIn_34 rfl ?_
              refine z_icmp_eq (tgt := 41) hx hb dX3_countKeysIn_35 (by decide) (by omega) (by omega) (fun hc => ?_) (fun hc => ?_)
              · refine z_iinc (b := far + 1) (lv' := [(5, .int (iI (far + 1))), (0, .ref a), (1, .int (iI row)), (2, .int (iI re)), (3, .int (iI (sumZ (fun x => sumZ (fun y => bI (kyf FD re row x (x + (y + 1)) ≠ -1)) re) v + sumZ (fun y => bI (kyf FD re row v (v + (y + 1)) ≠ -1)) (far - 1)))), (4, .int (iI v))]) hx hb dX3_countKeysIn_41 hl (k := 5) rfl (rfl) (by decide) rfl (fun ls hl => ?_)
                refine lv_goto (tgt := 15) hx hb dX3_countKeysIn_44 (by decide) ?_
                have hl := lv_chg hl 4 (b := sumZ (fun x => sumZ (fun y => bI (kyf FD re row x (x + (y + 1)) ≠ -1)) re) v + sumZ (fun y => bI (kyf FD re row v (v + (y + 1)) ≠ -1)) ((far + 1) - 1)) rfl (by rw [sumZ_p _ j1, show v + (far - 1 + 1) = v + far by omega, bI_f (by omega)]; omega)
                have hl : lv_has ls 6 [(5, .int (iI (far + 1))), (0, .ref a), (1, .int (iI row)), (2, .int (iI re)), (3, .int (iI (sumZ (fun x => sumZ (fun y => bI (kyf FD re row x (x + (y + 1)) ≠ -1)) re) v + sumZ (fun y => bI (kyf FD re row v (v + (y + 1)) ≠ -1)) ((far + 1) - 1)))), (4, .int (iI v))] := hl
                exact ih15 (far + 1) (by omega) (by omega) (by omega) ls (lv_sub hl [1, 2, 3, 4, 5, 0] rfl)
              · refine z_iinc (b := sumZ (fun x => sumZ (fun y => bI (kyf FD re row x (x + (y + 1)) ≠ -1)) re) v + sumZ (fun y => bI (kyf FD re row v (v + (y + 1)) ≠ -1)) (far - 1) + 1) (lv' := [(3, .int (iI (sumZ (fun x => sumZ (fun y => bI (kyf FD re row x (x + (y + 1)) ≠ -1)) re) v + sumZ (fun y => bI (kyf FD re row v (v + (y + 1)) ≠ -1)) (far - 1) + 1))), (0, .ref a), (1, .int (iI row)), (2, .int (iI re)), (4, .int (iI v)), (5, .int (iI far))]) hx hb dX3_countKeysIn_38 hl (k := 3) rfl (rfl) (by decide) rfl (fun ls hl => ?_)
                refine z_iinc (b := far + 1) (lv' := [(5, .int (iI (far + 1))), (3, .int (iI (sumZ (fun x => sumZ (fun y => bI (kyf FD re row x (x + (y + 1)) ≠ -1)) re) v + sumZ (fun y => bI (kyf FD re row v (v + (y + 1)) ≠ -1)) (far - 1) + 1))), (0, .ref a), (1, .int (iI row)), (2, .int (iI re)), (4, .int (iI v))]) hx hb dX3_countKeysIn_41 hl (k := 5) rfl (rfl) (by decide) rfl (fun ls hl => ?_)
                refine lv_goto (tgt := 15) hx hb dX3_countKeysIn_44 (by decide) ?_
                have hl := lv_chg hl 1 (b := sumZ (fun x => sumZ (fun y => bI (kyf FD re row x (x + (y + 1)) ≠ -1)) re) v + sumZ (fun y => bI (kyf FD re row v (v + (y + 1)) ≠ -1)) ((far + 1) - 1)) rfl (by rw [sumZ_p _ j1, show v + (far - 1 + 1) = v + far by omega, bI_t hc]; omega)
                have hl : lv_has ls 6 [(5, .int (iI (far + 1))), (3, .int (iI (sumZ (fun x => sumZ (fun y => bI (kyf FD re row x (x + (y + 1)) ≠ -1)) re) v + sumZ (fun y => bI (kyf FD re row v (v + (y + 1)) ≠ -1)) ((far + 1) - 1)))), (0, .ref a), (1, .int (iI row)), (2, .int (iI re)), (4, .int (iI v))] := hl
                exact ih15 (far + 1) (by omega) (by omega) (by omega) ls (lv_sub hl [2, 3, 4, 1, 5, 0] rfl)
        have hl := lv_chg hl 4 (b := sumZ (fun x => sumZ (fun y => bI (kyf FD re row x (x + (y + 1)) ≠ -1)) re) v + sumZ (fun y => bI (kyf FD re row v (v + (y + 1)) ≠ -1)) (1 - 1)) rfl (by rw [show (1 : Int) - 1 = 0 by omega, sumZ_0]; omega)
        have hl : lv_has ls 6 [(5, .int (iI 1)), (0, .ref a), (1, .int (iI row)), (2, .int (iI re)), (3, .int (iI (sumZ (fun x => sumZ (fun y => bI (kyf FD re row x (x + (y + 1)) ≠ -1)) re) v + sumZ (fun y => bI (kyf FD re row v (v + (y + 1)) ≠ -1)) (1 - 1)))), (4, .int (iI v))] := hl
        exact L15 (7) 1 (by omega) (by omega) (by omega) ls (lv_sub hl [1, 2, 3, 4, 5, 0] rfl)
  have hl := lv_chg hl 1 (b := sumZ (fun x => sumZ (fun y => bI (kyf FD re row x (x + (y + 1)) ≠ -1)) re) 0) rfl ((sumZ_0 _).symm)
  have hl : lv_has ls 6 [(4, .int (iI 0)), (3, .int (iI (sumZ (fun x => sumZ (fun y => bI (kyf FD re row x (x + (y + 1)) ≠ -1)) re) 0))), (0, .ref a), (1, .int (iI row)), (2, .int (iI re))] := hl
  exact L5 (17) 0 (by omega) (by omega) (by omega) ls (lv_sub hl [2, 3, 4, 1, 0] rfl)
