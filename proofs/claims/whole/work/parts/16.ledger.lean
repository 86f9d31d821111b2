set_option maxRecDepth 20000 in
theorem in_X1_unlikeKeys_X1 : ∀ w ∈ u_ws RX1 TX1 4, w ∈ wsX1_unlikeKeys := zmem_of _ [2, 3, 4, 5] (by decide +kernel)
set_option maxHeartbeats 4000000 in
set_option maxRecDepth 100000 in
theorem m_X1_unlikeKeys (l : Launch) (g : zG) (d ds df de : Nat) (un : Int)  : zS l yX1_unlikeKeys wsX1_unlikeKeys ({ frames := 0, cells := 0, slots := 0, locals := 0 }) g [.ref d] [(d, .inr (1, [.ref ds, .ref df, .ref de, .int (iI un)]))] un := by
  refine z_entS (cc := cX1_unlikeKeys) (nL := 1) (ret := (some .int)) (own := RX1) (by decide) rfl rfl (Nat.le_of_ble_eq_true rfl) ?_
  intro p e s m below meth c Q ls C hlk hr hQ hP hK hl
  have hx := C.1
  have hb := C.2.1
  have hl : lv_has ls 1 [(0, .ref d)] := hl
  refine lv_aload_n hx hb dX1_unlikeKeys_0 rfl (lv_at hl 0 rfl) ?_
  refine z_get (v := .int (iI un)) (Cn := RX1) (T := TX1) (N := 4) (ci := 1) C in_X1_unlikeKeys_X1 hK hP 0 rfl rfl 3 (by decide) (List.mem_of_getElem? (i := 1) rfl) rfl dX1_unlikeKeys_1 ?_
  exact z_retS hx hb hlk hr hQ dX1_unlikeKeys_4 (rfl)
set_option maxRecDepth 20000 in
theorem in_X1_allPlaces_X1 : ∀ w ∈ u_ws RX1 TX1 4, w ∈ wsX1_allPlaces := zmem_of _ [2, 3, 4, 5] (by decide +kernel)
set_option maxHeartbeats 4000000 in
set_option maxRecDepth 100000 in
theorem m_X1_allPlaces (l : Launch) (g : zG) (d ds df de : Nat) (un : Int) (ST : Int → Int)  : zS l yX1_allPlaces wsX1_allPlaces ({ frames := 0, cells := 0, slots := 0, locals := 0 }) g [.ref d] [(d, .inr (1, [.ref ds, .ref df, .ref de, .int (iI un)])), zI g ds 385 ST] (ST 384) := by
  refine z_entS (cc := cX1_allPlaces) (nL := 1) (ret := (some .int)) (own := RX1) (by decide) rfl rfl (Nat.le_of_ble_eq_true rfl) ?_
  intro p e s m below meth c Q ls C hlk hr hQ hP hK hl
  have hx := C.1
  have hb := C.2.1
  have hl : lv_has ls 1 [(0, .ref d)] := hl
  refine lv_aload_n hx hb dX1_allPlaces_0 rfl (lv_at hl 0 rfl) ?_
  refine z_get (v := .ref ds) (Cn := RX1) (T := TX1) (N := 4) (ci := 1) C in_X1_allPlaces_X1 hK hP 0 rfl rfl 0 (by decide) (List.mem_of_getElem? (i := 1) rfl) rfl dX1_allPlaces_1 ?_
  refine lv_sipush (v := iI 384) hx hb dX1_allPlaces_4 (by decide +kernel) ?_
  refine z_iald hx hb hK hP 1 rfl (by omega) (by omega) (Nat.le_of_ble_eq_true rfl) dX1_allPlaces_7 ?_
  exact z_retS hx hb hlk hr hQ dX1_allPlaces_8 (rfl)
set_option maxRecDepth 20000 in
theorem in_X1_placesOf_X1 : ∀ w ∈ u_ws RX1 TX1 4, w ∈ wsX1_placesOf := zmem_of _ [2, 3, 4, 5] (by decide +kernel)
set_option maxHeartbeats 4000000 in
set_option maxRecDepth 100000 in
theorem m_X1_placesOf (l : Launch) (g : zG) (d ds df de : Nat) (un : Int) (ST : Int → Int) (key : Int) (k1 : 0 ≤ key) (k2 : key < 384) : zS l yX1_placesOf wsX1_placesOf ({ frames := 0, cells := 0, slots := 0, locals := 0 }) g [.ref d, .int (iI key)] [(d, .inr (1, [.ref ds, .ref df, .ref de, .int (iI un)])), zI g ds 385 ST] (ST (key + 1) - ST key) := by
  refine z_entS (cc := cX1_placesOf) (nL := 2) (ret := (some .int)) (own := RX1) (by decide) rfl rfl (Nat.le_of_ble_eq_true rfl) ?_
  intro p e s m below meth c Q ls C hlk hr hQ hP hK hl
  have hx := C.1
  have hb := C.2.1
  have hl : lv_has ls 2 [(0, .ref d), (1, .int (iI key))] := hl
  refine lv_aload_n hx hb dX1_placesOf_0 rfl (lv_at hl 0 rfl) ?_
  refine z_get (v := .ref ds) (Cn := RX1) (T := TX1) (N := 4) (ci := 1) C in_X1_placesOf_X1 hK hP 0 rfl rfl 0 (by decide) (List.mem_of_getElem? (i := 1) rfl) rfl dX1_placesOf_1 ?_
  refine lv_iload_n hx hb dX1_placesOf_4 rfl (lv_at hl 1 rfl) ?_
  refine lv_iconst (v := iI 1) hx hb dX1_placesOf_5 rfl ?_
  refine z_iadd hx hb dX1_placesOf_6 ?_
  refine z_iald hx hb hK hP 1 rfl (by omega) (by omega) (Nat.le_of_ble_eq_true rfl) dX1_placesOf_7 ?_
  refine lv_aload_n hx hb dX1_placesOf_8 rfl (lv_at hl 0 rfl) ?_
  refine z_get (v := .ref ds) (Cn := RX1) (T := TX1) (N := 4) (ci := 1) C in_X1_placesOf_X1 hK hP 0 rfl rfl 0 (by decide) (List.mem_of_getElem? (i := 1) rfl) rfl dX1_placesOf_9 ?_
  refine lv_iload_n hx hb dX1_placesOf_12 rfl (lv_at hl 1 rfl) ?_
  refine z_iald hx hb hK hP 1 rfl (by omega) (by omega) (Nat.le_of_ble_eq_true rfl) dX1_placesOf_13 ?_
  refine z_isub hx hb dX1_placesOf_14 ?_
  exact z_retS hx hb hlk hr hQ dX1_placesOf_15 (rfl)
set_option maxRecDepth 20000 in
theorem in_X1_placeOf_X1 : ∀ w ∈ u_ws RX1 TX1 4, w ∈ wsX1_placeOf := zmem_of _ [8, 9, 10, 11] (by decide +kernel)
set_option maxHeartbeats 4000000 in
set_option maxRecDepth 100000 in
theorem m_X1_placeOf (l : Launch) (g : zG) (d ds df de : Nat) (un : Int) (ST EN : Int → Int) (key ix : Int) (k1 : 0 ≤ key) (k2 : key < 384) (x1 : 0 ≤ ix) (x2 : ix < 2147483648) (s1 : 0 ≤ ST key) (s2 : 0 ≤ ST (key + 1)) (s3 : ST (key + 1) ≤ 320) (s4 : ST key ≤ 320) : zS l yX1_placeOf wsX1_placeOf ({ frames := 1, cells := 0, slots := 0, locals := 21 }) g [.ref d, .int (iI key), .int (iI ix)] [(d, .inr (1, [.ref ds, .ref df, .ref de, .int (iI un)])), zI g ds 385 ST, zI g de 320 EN] (if ix < ST (key + 1) - ST key then EN (ST key + ix) else -1) := by
  refine z_entS (cc := cX1_placeOf) (nL := 3) (ret := (some .int)) (own := RX1) (by decide) rfl rfl (Nat.le_of_ble_eq_true rfl) ?_
  intro p e s m below meth c Q ls C hlk hr hQ hP hK hl
  have hx := C.1
  have hb := C.2.1
  have hl : lv_has ls 3 [(0, .ref d), (1, .int (iI key)), (2, .int (iI ix))] := hl
  refine lv_iload_n hx hb dX1_placeOf_0 rfl (lv_at hl 2 rfl) ?_
  refine lv_aload_n hx hb dX1_placeOf_1 rfl (lv_at hl 0 rfl) ?_
  refine lv_iload_n hx hb dX1_placeOf_2 rfl (lv_at hl 1 rfl) ?_
  refine z_cS (As := [.int (iI key)]) (rest := [.int (iI ix)]) C (m_X1_placesOf (l := l) (g := g) (d := d) (ds := ds) (df := df) (de := de) (un := un) (ST := ST) (key := key) (k1 := by omega) (k2 := by omega)) (cwV 1 C.2.2.2.2 gX1_placeOf_X1_placesOf rfl rfl rfl (by decide +kernel) ⟨Nat.le_of_ble_eq_true rfl, Nat.le_of_ble_eq_true rfl⟩) hK hP [0, 1] rfl 0 rfl rfl rfl hl.1 rfl (Nat.le_of_ble_eq_true rfl) dX1_placeOf_3 ⟨Nat.zero_le _, Nat.zero_le _⟩ ?_
  refine z_icmp_ge (tgt := 25) hx hb dX1_placeOf_6 (by decide) (by omega) (by omega) (fun hc => ?_) (fun hc => ?_)
  · refine lv_iconst (v := iI (-1)) hx hb dX1_placeOf_25 rfl ?_
    exact z_retS hx hb hlk hr hQ dX1_placeOf_26 ((if_neg (by omega)).symm)
  · refine lv_aload_n hx hb dX1_placeOf_9 rfl (lv_at hl 0 rfl) ?_
    refine z_get (v := .ref de) (Cn := RX1) (T := TX1) (N := 4) (ci := 1) C in_X1_placeOf_X1 hK hP 0 rfl rfl 2 (by decide) (List.mem_of_getElem? (i := 1) rfl) rfl dX1_placeOf_10 ?_
    refine lv_aload_n hx hb dX1_placeOf_13 rfl (lv_at hl 0 rfl) ?_
    refine z_get (v := .ref ds) (Cn := RX1) (T := TX1) (N := 4) (ci := 1) C in_X1_placeOf_X1 hK hP 0 rfl rfl 0 (by decide) (List.mem_of_getElem? (i := 2) rfl) rfl dX1_placeOf_14 ?_
    refine lv_iload_n hx hb dX1_placeOf_17 rfl (lv_at hl 1 rfl) ?_
    refine z_iald hx hb hK hP 1 rfl (by omega) (by omega) (Nat.le_of_ble_eq_true rfl) dX1_placeOf_18 ?_
    refine lv_iload_n hx hb dX1_placeOf_19 rfl (lv_at hl 2 rfl) ?_
    refine z_iadd hx hb dX1_placeOf_20 ?_
    refine z_iald hx hb hK hP 2 rfl (by omega) (by omega) (Nat.le_of_ble_eq_true rfl) dX1_placeOf_21 ?_
    refine lv_goto (tgt := 26) hx hb dX1_placeOf_22 (by decide) ?_
    exact z_retS hx hb hlk hr hQ dX1_placeOf_26 ((if_pos hc).symm)
set_option maxHeartbeats 4000000 in
set_option maxRecDepth 100000 in
theorem m_X1_keyByRise (l : Launch) (g : zG) (d ds df de : Nat) (un : Int) (ST : Int → Int) (kk : Int) (k1 : 0 ≤ kk) (k2 : kk < 2147483648) (s1 : ∀ k, 0 ≤ k → k ≤ 384 → 0 ≤ ST k ∧ ST k ≤ 320) : zS l yX1_keyByRise wsX1_keyByRise ({ frames := 1, cells := 0, slots := 0, locals := 21 }) g [.ref d, .int (iI kk)] [(d, .inr (1, [.ref ds, .ref df, .ref de, .int (iI un)])), zI g ds 385 ST] (kr (fun x => ST (x + 1) - ST x) 384 64 kk) := by
  refine z_entS (cc := cX1_keyByRise) (nL := 4) (ret := (some .int)) (own := RX1) (by decide) rfl rfl (Nat.le_of_ble_eq_true rfl) ?_
  intro p e s m below meth c Q ls C hlk hr hQ hP hK hl
  have hx := C.1
  have hb := C.2.1
  have hl : lv_has ls 4 [(0, .ref d), (1, .int (iI kk))] := hl
  refine lv_iload_n hx hb dX1_keyByRise_0 rfl (lv_at hl 1 rfl) ?_
  refine lv_istore_n (lv' := [(2, .int (iI kk)), (0, .ref d), (1, .int (iI kk))]) hx hb dX1_keyByRise_1 rfl hl (by decide) rfl (fun ls hl => ?_)
  refine lv_bipush (v := iI 64) hx hb dX1_keyByRise_2 (by decide +kernel) ?_
  refine lv_istore_n (lv' := [(3, .int (iI 64)), (2, .int (iI kk)), (0, .ref d), (1, .int (iI kk))]) hx hb dX1_keyByRise_4 rfl hl (by decide) rfl (fun ls hl => ?_)
  have L5 : ∀ (n : Nat) (key : Int) (lf : Int), (i1 : 64 ≤ key) → (i2 : key ≤ 384) → (i3 : 0 ≤ lf) → (i4 : lf < 2147483648) → (i5 : kr (fun x => ST (x + 1) - ST x) 384 key lf = kr (fun x => ST (x + 1) - ST x) 384 64 kk) → (hms : 384 - key < (n : Int)) → ∀ (ls : Array Slot), lv_has ls 4 [(0, .ref d), (2, .int (iI lf)), (3, .int (iI key))] → W p l e ({ frames := 1, cells := 0, slots := 0, locals := 21 }) s m ([.ref d, .int (iI kk)] : List Value).toArray below meth c s.heap [] 0 0 Q (F0 m 5 ls []) := by
    clear hl
    intro n
    induction n with
    | zero =>
      intro key lf i1 i2 i3 i4 i5 hms ls hl
      exfalso; omega
    | succ n ih5 =>
      intro key lf i1 i2 i3 i4 i5 hms ls hl
      refine lv_iload_n hx hb dX1_keyByRise_5 rfl (lv_at hl 2 rfl) ?_
      refine lv_sipush (v := iI 383) hx hb dX1_keyByRise_6 (by decide +kernel) ?_
      refine z_icmp_gt (tgt := 35) hx hb dX1_keyByRise_9 (by decide) (by omega) (by omega) (fun c_1 => ?_) (fun c_1 => ?_)
      · refine lv_iconst (v := iI (-1)) hx hb dX1_keyByRise_35 rfl ?_
        exact z_retS hx hb hlk hr hQ dX1_keyByRise_36 (by rw [← i5]; exact (kr_e _ lf (by omega)).symm)
      · refine lv_aload_n hx hb dX1_keyByRise_12 rfl (lv_at hl 0 rfl) ?_
        refine lv_iload_n hx hb dX1_keyByRise_13 rfl (lv_at hl 2 rfl) ?_
        have hs1 := s1 key (by omega) (by omega)
        have hs2 := s1 (key + 1) (by omega) (by omega)
        refine z_cS (As := [.int (iI key)]) (rest := []) C (m_X1_placesOf (l := l) (g := g) (d := d) (ds := ds) (df := df) (de := de) (un := un) (ST := ST) (key := key) (k1 := by omega) (k2 := by omega)) (cwV 1 C.2.2.2.2 gX1_keyByRise_X1_placesOf rfl rfl rfl (by decide +kernel) ⟨Nat.le_of_ble_eq_true rfl, Nat.le_of_ble_eq_true rfl⟩) hK hP [0, 1] rfl 0 rfl rfl rfl hl.1 rfl (Nat.le_of_ble_eq_true rfl) dX1_keyByRise_14 ⟨Nat.zero_le _, Nat.zero_le _⟩ ?_
        refine z_if_le (tgt := 29) hx hb dX1_keyByRise_17 (by decide) (by omega) (fun hc => ?_) (fun hc => ?_)
        · refine z_iinc (b := key + 1) (lv' := [(3, .int (iI (key + 1))), (0, .ref d), (2, .int (iI lf))]) hx hb dX1_keyByRise_29 hl (k := 2) rfl (rfl) (by decide) rfl (fun ls hl => ?_)
          refine lv_goto (tgt := 5) hx hb dX1_keyByRise_32 (by decide) ?_
          exact ih5 (key + 1) lf (by omega) (by omega) (by omega) (by omega) ((kr_n (f := fun x => ST (x + 1) - ST x) (e := 384) (k := key) lf (by omega) hc).trans i5) (by omega) ls (lv_sub hl [1, 2, 0] rfl)
        · refine lv_iload_n hx hb dX1_keyByRise_20 rfl (lv_at hl 1 rfl) ?_
          refine z_if_ne (tgt := 26) hx hb dX1_keyByRise_21 (by decide) (by omega) (fun hz => ?_) (fun hz => ?_)
          · refine z_iinc (b := lf - 1) (lv' := [(2, .int (iI (lf - 1))), (0, .ref d), (3, .int (iI key))]) hx hb dX1_keyByRise_26 hl (k := 1) rfl (by omega) (by decide) rfl (fun ls hl => ?_)
            refine z_iinc (b := key + 1) (lv' := [(3, .int (iI (key + 1))), (2, .int (iI (lf - 1))), (0, .ref d)]) hx hb dX1_keyByRise_29 hl (k := 2) rfl (rfl) (by decide) rfl (fun ls hl => ?_)
            refine lv_goto (tgt := 5) hx hb dX1_keyByRise_32 (by decide) ?_
            exact ih5 (key + 1) (lf - 1) (by omega) (by omega) (by omega) (by omega) ((kr_y (f := fun x => ST (x + 1) - ST x) (e := 384) (k := key) (by omega) hc hz).trans i5) (by omega) ls (lv_sub hl [2, 1, 0] rfl)
          · refine lv_iload_n hx hb dX1_keyByRise_24 rfl (lv_at hl 2 rfl) ?_
            exact z_retS hx hb hlk hr hQ dX1_keyByRise_25 (by rw [← i5, hz]; exact (kr_y0 (f := fun x => ST (x + 1) - ST x) (e := 384) (k := key) (by omega) hc).symm)
  exact L5 (321) 64 kk (by omega) (by omega) (by omega) (by omega) (rfl) (by omega) ls (lv_sub hl [2, 1, 0] rfl)
