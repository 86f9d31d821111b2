set_option maxRecDepth 20000 in
theorem in_X0_keysHeard_X0 : ∀ w ∈ u_ws RX0 TX0 6, w ∈ wsX0_keysHeard := zmem_of _ [2, 3, 4, 5, 6, 7] (by decide +kernel)
set_option maxHeartbeats 4000000 in
set_option maxRecDepth 100000 in
theorem m_X0_keysHeard (l : Launch) (g : zG) (bb bc bo : Nat) (rk he kn al : Int)  : zS l yX0_keysHeard wsX0_keysHeard ({ frames := 0, cells := 0, slots := 0, locals := 0 }) g [.ref bb] [(bb, .inr (0, [.ref bc, .ref bo, .int (iI rk), .int (iI he), .int (iI kn), .int (iI al)]))] he := by
  refine z_entS (cc := cX0_keysHeard) (nL := 1) (ret := (some .int)) (own := RX0) (by decide) rfl rfl (Nat.le_of_ble_eq_true rfl) ?_
  intro p e s m below meth c Q ls C hlk hr hQ hP hK hl
  have hx := C.1
  have hb := C.2.1
  have hl : lv_has ls 1 [(0, .ref bb)] := hl
  refine lv_aload_n hx hb dX0_keysHeard_0 rfl (lv_at hl 0 rfl) ?_
  refine z_get (v := .int (iI he)) (Cn := RX0) (T := TX0) (N := 6) (ci := 0) C in_X0_keysHeard_X0 hK hP 0 rfl rfl 3 (by decide) (List.mem_of_getElem? (i := 1) rfl) rfl dX0_keysHeard_1 ?_
  exact z_retS hx hb hlk hr hQ dX0_keysHeard_4 (rfl)
set_option maxRecDepth 20000 in
theorem in_X0_keysKnown_X0 : ∀ w ∈ u_ws RX0 TX0 6, w ∈ wsX0_keysKnown := zmem_of _ [2, 3, 4, 5, 6, 7] (by decide +kernel)
set_option maxHeartbeats 4000000 in
set_option maxRecDepth 100000 in
theorem m_X0_keysKnown (l : Launch) (g : zG) (bb bc bo : Nat) (rk he kn al : Int)  : zS l yX0_keysKnown wsX0_keysKnown ({ frames := 0, cells := 0, slots := 0, locals := 0 }) g [.ref bb] [(bb, .inr (0, [.ref bc, .ref bo, .int (iI rk), .int (iI he), .int (iI kn), .int (iI al)]))] kn := by
  refine z_entS (cc := cX0_keysKnown) (nL := 1) (ret := (some .int)) (own := RX0) (by decide) rfl rfl (Nat.le_of_ble_eq_true rfl) ?_
  intro p e s m below meth c Q ls C hlk hr hQ hP hK hl
  have hx := C.1
  have hb := C.2.1
  have hl : lv_has ls 1 [(0, .ref bb)] := hl
  refine lv_aload_n hx hb dX0_keysKnown_0 rfl (lv_at hl 0 rfl) ?_
  refine z_get (v := .int (iI kn)) (Cn := RX0) (T := TX0) (N := 6) (ci := 0) C in_X0_keysKnown_X0 hK hP 0 rfl rfl 4 (by decide) (List.mem_of_getElem? (i := 1) rfl) rfl dX0_keysKnown_1 ?_
  exact z_retS hx hb hlk hr hQ dX0_keysKnown_4 (rfl)
set_option maxRecDepth 20000 in
theorem in_X0_allVotes_X0 : ∀ w ∈ u_ws RX0 TX0 6, w ∈ wsX0_allVotes := zmem_of _ [2, 3, 4, 5, 6, 7] (by decide +kernel)
set_option maxHeartbeats 4000000 in
set_option maxRecDepth 100000 in
theorem m_X0_allVotes (l : Launch) (g : zG) (bb bc bo : Nat) (rk he kn al : Int)  : zS l yX0_allVotes wsX0_allVotes ({ frames := 0, cells := 0, slots := 0, locals := 0 }) g [.ref bb] [(bb, .inr (0, [.ref bc, .ref bo, .int (iI rk), .int (iI he), .int (iI kn), .int (iI al)]))] al := by
  refine z_entS (cc := cX0_allVotes) (nL := 1) (ret := (some .int)) (own := RX0) (by decide) rfl rfl (Nat.le_of_ble_eq_true rfl) ?_
  intro p e s m below meth c Q ls C hlk hr hQ hP hK hl
  have hx := C.1
  have hb := C.2.1
  have hl : lv_has ls 1 [(0, .ref bb)] := hl
  refine lv_aload_n hx hb dX0_allVotes_0 rfl (lv_at hl 0 rfl) ?_
  refine z_get (v := .int (iI al)) (Cn := RX0) (T := TX0) (N := 6) (ci := 0) C in_X0_allVotes_X0 hK hP 0 rfl rfl 5 (by decide) (List.mem_of_getElem? (i := 1) rfl) rfl dX0_allVotes_1 ?_
  exact z_retS hx hb hlk hr hQ dX0_allVotes_4 (rfl)
set_option maxRecDepth 20000 in
theorem in_X0_ranked_X0 : ∀ w ∈ u_ws RX0 TX0 6, w ∈ wsX0_ranked := zmem_of _ [2, 3, 4, 5, 6, 7] (by decide +kernel)
set_option maxHeartbeats 4000000 in
set_option maxRecDepth 100000 in
theorem m_X0_ranked (l : Launch) (g : zG) (bb bc bo : Nat) (rk he kn al : Int)  : zS l yX0_ranked wsX0_ranked ({ frames := 0, cells := 0, slots := 0, locals := 0 }) g [.ref bb] [(bb, .inr (0, [.ref bc, .ref bo, .int (iI rk), .int (iI he), .int (iI kn), .int (iI al)]))] rk := by
  refine z_entS (cc := cX0_ranked) (nL := 1) (ret := (some .int)) (own := RX0) (by decide) rfl rfl (Nat.le_of_ble_eq_true rfl) ?_
  intro p e s m below meth c Q ls C hlk hr hQ hP hK hl
  have hx := C.1
  have hb := C.2.1
  have hl : lv_has ls 1 [(0, .ref bb)] := hl
  refine lv_aload_n hx hb dX0_ranked_0 rfl (lv_at hl 0 rfl) ?_
  refine z_get (v := .int (iI rk)) (Cn := RX0) (T := TX0) (N := 6) (ci := 0) C in_X0_ranked_X0 hK hP 0 rfl rfl 2 (by decide) (List.mem_of_getElem? (i := 1) rfl) rfl dX0_ranked_1 ?_
  exact z_retS hx hb hlk hr hQ dX0_ranked_4 (rfl)
set_option maxRecDepth 20000 in
theorem in_X0_votesFor_X0 : ∀ w ∈ u_ws RX0 TX0 6, w ∈ wsX0_votesFor := zmem_of _ [2, 3, 4, 5, 6, 7] (by decide +kernel)
set_option maxHeartbeats 4000000 in
set_option maxRecDepth 100000 in
theorem m_X0_votesFor (l : Launch) (g : zG) (bb bc bo : Nat) (rk he kn al : Int) (CE : Int → Int) (pi_ of_ : Int) (p1 : 0 ≤ pi_) (p2 : pi_ < 4) (o1 : -15 ≤ of_) (o2 : of_ ≤ 15) : zS l yX0_votesFor wsX0_votesFor ({ frames := 0, cells := 0, slots := 0, locals := 0 }) g [.ref bb, .int (iI pi_), .int (iI of_)] [(bb, .inr (0, [.ref bc, .ref bo, .int (iI rk), .int (iI he), .int (iI kn), .int (iI al)])), zI g bc 124 CE] (CE (pi_ * 31 + of_ + 15)) := by
  refine z_entS (cc := cX0_votesFor) (nL := 3) (ret := (some .int)) (own := RX0) (by decide) rfl rfl (Nat.le_of_ble_eq_true rfl) ?_
  intro p e s m below meth c Q ls C hlk hr hQ hP hK hl
  have hx := C.1
  have hb := C.2.1
  have hl : lv_has ls 3 [(0, .ref bb), (1, .int (iI pi_)), (2, .int (iI of_))] := hl
  refine lv_aload_n hx hb dX0_votesFor_0 rfl (lv_at hl 0 rfl) ?_
  refine z_get (v := .ref bc) (Cn := RX0) (T := TX0) (N := 6) (ci := 0) C in_X0_votesFor_X0 hK hP 0 rfl rfl 0 (by decide) (List.mem_of_getElem? (i := 1) rfl) rfl dX0_votesFor_1 ?_
  refine lv_iload_n hx hb dX0_votesFor_4 rfl (lv_at hl 1 rfl) ?_
  refine lv_bipush (v := iI 31) hx hb dX0_votesFor_5 (by decide +kernel) ?_
  refine z_imul hx hb dX0_votesFor_7 ?_
  refine lv_iload_n hx hb dX0_votesFor_8 rfl (lv_at hl 2 rfl) ?_
  refine z_iadd hx hb dX0_votesFor_9 ?_
  refine lv_bipush (v := iI 15) hx hb dX0_votesFor_10 (by decide +kernel) ?_
  refine z_iadd hx hb dX0_votesFor_12 ?_
  refine z_iald hx hb hK hP 1 rfl (by omega) (by omega) (Nat.le_of_ble_eq_true rfl) dX0_votesFor_13 ?_
  exact z_retS hx hb hlk hr hQ dX0_votesFor_14 (rfl)
set_option maxRecDepth 20000 in
theorem in_X0_pieceOf_X0 : ∀ w ∈ u_ws RX0 TX0 6, w ∈ wsX0_pieceOf := zmem_of _ [3, 4, 5, 6, 7, 8] (by decide +kernel)
set_option maxHeartbeats 4000000 in
set_option maxRecDepth 100000 in
theorem m_X0_pieceOf (l : Launch) (g : zG) (bb bc bo : Nat) (rk he kn al : Int) (OR : Int → Int) (k : Int) (k1 : 0 ≤ k) (k2 : k < 2147483648) (n1 : 0 ≤ rk) (n2 : rk ≤ 124) (ho : ∀ i, 0 ≤ i → i < rk → 0 ≤ OR i ∧ OR i < 124) : zS l yX0_pieceOf wsX0_pieceOf ({ frames := 0, cells := 0, slots := 0, locals := 0 }) g [.ref bb, .int (iI k)] [(bb, .inr (0, [.ref bc, .ref bo, .int (iI rk), .int (iI he), .int (iI kn), .int (iI al)])), zI g bo 124 OR] (if k < rk then OR k / 31 else -1) := by
  refine z_entS (cc := cX0_pieceOf) (nL := 2) (ret := (some .int)) (own := RX0) (by decide) rfl rfl (Nat.le_of_ble_eq_true rfl) ?_
  intro p e s m below meth c Q ls C hlk hr hQ hP hK hl
  have hx := C.1
  have hb := C.2.1
  have hl : lv_has ls 2 [(0, .ref bb), (1, .int (iI k))] := hl
  refine lv_iload_n hx hb dX0_pieceOf_0 rfl (lv_at hl 1 rfl) ?_
  refine lv_aload_n hx hb dX0_pieceOf_1 rfl (lv_at hl 0 rfl) ?_
  refine z_get (v := .int (iI rk)) (Cn := RX0) (T := TX0) (N := 6) (ci := 0) C in_X0_pieceOf_X0 hK hP 0 rfl rfl 2 (by decide) (List.mem_of_getElem? (i := 1) rfl) rfl dX0_pieceOf_2 ?_
  refine z_icmp_ge (tgt := 20) hx hb dX0_pieceOf_5 (by decide) (by omega) (by omega) (fun hc => ?_) (fun hc => ?_)
  · refine lv_iconst (v := iI (-1)) hx hb dX0_pieceOf_20 rfl ?_
    exact z_retS hx hb hlk hr hQ dX0_pieceOf_21 ((if_neg (by omega)).symm)
  · have hor := ho k k1 hc
    refine lv_aload_n hx hb dX0_pieceOf_8 rfl (lv_at hl 0 rfl) ?_
    refine z_get (v := .ref bo) (Cn := RX0) (T := TX0) (N := 6) (ci := 0) C in_X0_pieceOf_X0 hK hP 0 rfl rfl 1 (by decide) (List.mem_of_getElem? (i := 2) rfl) rfl dX0_pieceOf_9 ?_
    refine lv_iload_n hx hb dX0_pieceOf_12 rfl (lv_at hl 1 rfl) ?_
    refine z_iald hx hb hK hP 1 rfl (by omega) (by omega) (Nat.le_of_ble_eq_true rfl) dX0_pieceOf_13 ?_
    refine lv_bipush (v := iI 31) hx hb dX0_pieceOf_14 (by decide +kernel) ?_
    refine z_idivN hx hb dX0_pieceOf_16 (by omega) (by omega) (by omega) (by omega) ?_
    refine lv_goto (tgt := 21) hx hb dX0_pieceOf_17 (by decide) ?_
    exact z_retS hx hb hlk hr hQ dX0_pieceOf_21 ((if_pos hc).symm)
set_option maxRecDepth 20000 in
theorem in_X0_offsetOf_X0 : ∀ w ∈ u_ws RX0 TX0 6, w ∈ wsX0_offsetOf := zmem_of _ [3, 4, 5, 6, 7, 8] (by decide +kernel)
set_option maxHeartbeats 4000000 in
set_option maxRecDepth 100000 in
theorem m_X0_offsetOf (l : Launch) (g : zG) (bb bc bo : Nat) (rk he kn al : Int) (OR : Int → Int) (k : Int) (k1 : 0 ≤ k) (k2 : k < 2147483648) (n1 : 0 ≤ rk) (n2 : rk ≤ 124) (ho : ∀ i, 0 ≤ i → i < rk → 0 ≤ OR i ∧ OR i < 124) : zS l yX0_offsetOf wsX0_offsetOf ({ frames := 0, cells := 0, slots := 0, locals := 0 }) g [.ref bb, .int (iI k)] [(bb, .inr (0, [.ref bc, .ref bo, .int (iI rk), .int (iI he), .int (iI kn), .int (iI al)])), zI g bo 124 OR] (if k < rk then OR k % 31 - 15 else 0) := by
  refine z_entS (cc := cX0_offsetOf) (nL := 2) (ret := (some .int)) (own := RX0) (by decide) rfl rfl (Nat.le_of_ble_eq_true rfl) ?_
  intro p e s m below meth c Q ls C hlk hr hQ hP hK hl
  have hx := C.1
  have hb := C.2.1
  have hl : lv_has ls 2 [(0, .ref bb), (1, .int (iI k))] := hl
  refine lv_iload_n hx hb dX0_offsetOf_0 rfl (lv_at hl 1 rfl) ?_
  refine lv_aload_n hx hb dX0_offsetOf_1 rfl (lv_at hl 0 rfl) ?_
  refine z_get (v := .int (iI rk)) (Cn := RX0) (T := TX0) (N := 6) (ci := 0) C in_X0_offsetOf_X0 hK hP 0 rfl rfl 2 (by decide) (List.mem_of_getElem? (i := 1) rfl) rfl dX0_offsetOf_2 ?_
  refine z_icmp_ge (tgt := 23) hx hb dX0_offsetOf_5 (by decide) (by omega) (by omega) (fun hc => ?_) (fun hc => ?_)
  · refine lv_iconst (v := iI 0) hx hb dX0_offsetOf_23 rfl ?_
    exact z_retS hx hb hlk hr hQ dX0_offsetOf_24 ((if_neg (by omega)).symm)
  · have hor := ho k k1 hc
    refine lv_aload_n hx hb dX0_offsetOf_8 rfl (lv_at hl 0 rfl) ?_
    refine z_get (v := .ref bo) (Cn := RX0) (T := TX0) (N := 6) (ci := 0) C in_X0_offsetOf_X0 hK hP 0 rfl rfl 1 (by decide) (List.mem_of_getElem? (i := 2) rfl) rfl dX0_offsetOf_9 ?_
    refine lv_iload_n hx hb dX0_offsetOf_12 rfl (lv_at hl 1 rfl) ?_
    refine z_iald hx hb hK hP 1 rfl (by omega) (by omega) (Nat.le_of_ble_eq_true rfl) dX0_offsetOf_13 ?_
    refine lv_bipush (v := iI 31) hx hb dX0_offsetOf_14 (by decide +kernel) ?_
    refine z_iremN hx hb dX0_offsetOf_16 (by omega) (by omega) (by omega) (by omega) ?_
    refine lv_bipush (v := iI 15) hx hb dX0_offsetOf_17 (by decide +kernel) ?_
    refine z_isub hx hb dX0_offsetOf_19 ?_
    refine lv_goto (tgt := 24) hx hb dX0_offsetOf_20 (by decide) ?_
    exact z_retS hx hb hlk hr hQ dX0_offsetOf_24 ((if_pos hc).symm)
set_option maxRecDepth 20000 in
theorem in_X0_countOf_X0 : ∀ w ∈ u_ws RX0 TX0 6, w ∈ wsX0_countOf := zmem_of _ [4, 5, 6, 7, 8, 9] (by decide +kernel)
set_option maxHeartbeats 4000000 in
set_option maxRecDepth 100000 in
theorem m_X0_countOf (l : Launch) (g : zG) (bb bc bo : Nat) (rk he kn al : Int) (CE OR : Int → Int) (k : Int) (k1 : 0 ≤ k) (k2 : k < 2147483648) (n1 : 0 ≤ rk) (n2 : rk ≤ 124) (ho : ∀ i, 0 ≤ i → i < rk → 0 ≤ OR i ∧ OR i < 124) : zS l yX0_countOf wsX0_countOf ({ frames := 0, cells := 0, slots := 0, locals := 0 }) g [.ref bb, .int (iI k)] [(bb, .inr (0, [.ref bc, .ref bo, .int (iI rk), .int (iI he), .int (iI kn), .int (iI al)])), zI g bc 124 CE, zI g bo 124 OR] (if k < rk then CE (OR k) else 0) := by
  refine z_entS (cc := cX0_countOf) (nL := 2) (ret := (some .int)) (own := RX0) (by decide) rfl rfl (Nat.le_of_ble_eq_true rfl) ?_
  intro p e s m below meth c Q ls C hlk hr hQ hP hK hl
  have hx := C.1
  have hb := C.2.1
  have hl : lv_has ls 2 [(0, .ref bb), (1, .int (iI k))] := hl
  refine lv_iload_n hx hb dX0_countOf_0 rfl (lv_at hl 1 rfl) ?_
  refine lv_aload_n hx hb dX0_countOf_1 rfl (lv_at hl 0 rfl) ?_
  refine z_get (v := .int (iI rk)) (Cn := RX0) (T := TX0) (N := 6) (ci := 0) C in_X0_countOf_X0 hK hP 0 rfl rfl 2 (by decide) (List.mem_of_getElem? (i := 1) rfl) rfl dX0_countOf_2 ?_
  refine z_icmp_ge (tgt := 22) hx hb dX0_countOf_5 (by decide) (by omega) (by omega) (fun hc => ?_) (fun hc => ?_)
  · refine lv_iconst (v := iI 0) hx hb dX0_countOf_22 rfl ?_
    exact z_retS hx hb hlk hr hQ dX0_countOf_23 ((if_neg (by omega)).symm)
  · have hor := ho k k1 hc
    refine lv_aload_n hx hb dX0_countOf_8 rfl (lv_at hl 0 rfl) ?_
    refine z_get (v := .ref bc) (Cn := RX0) (T := TX0) (N := 6) (ci := 0) C in_X0_countOf_X0 hK hP 0 rfl rfl 0 (by decide) (List.mem_of_getElem? (i := 2) rfl) rfl dX0_countOf_9 ?_
    refine lv_aload_n hx hb dX0_countOf_12 rfl (lv_at hl 0 rfl) ?_
    refine z_get (v := .ref bo) (Cn := RX0) (T := TX0) (N := 6) (ci := 0) C in_X0_countOf_X0 hK hP 0 rfl rfl 1 (by decide) (List.mem_of_getElem? (i := 3) rfl) rfl dX0_countOf_13 ?_
    refine lv_iload_n hx hb dX0_countOf_16 rfl (lv_at hl 1 rfl) ?_
    refine z_iald hx hb hK hP 2 rfl (by omega) (by omega) (Nat.le_of_ble_eq_true rfl) dX0_countOf_17 ?_
    refine z_iald hx hb hK hP 1 rfl (by omega) (by omega) (Nat.le_of_ble_eq_true rfl) dX0_countOf_18 ?_
    refine lv_goto (tgt := 23) hx hb dX0_countOf_19 (by decide) ?_
    exact z_retS hx hb hlk hr hQ dX0_countOf_23 ((if_pos hc).symm)
set_option maxRecDepth 20000 in
theorem in_X0_doubt_X0 : ∀ w ∈ u_ws RX0 TX0 6, w ∈ wsX0_doubt := zmem_of _ [13, 14, 15, 16, 17, 18] (by decide +kernel)
set_option maxHeartbeats 4000000 in
set_option maxRecDepth 100000 in
theorem m_X0_doubt (l : Launch) (g : zG) (bb bc bo : Nat) (rk he kn al : Int) (CE OR : Int → Int) (n1 : 0 ≤ rk) (n2 : rk ≤ 124) (hO : okO CE OR rk 124) (hV : ∀ j, 0 ≤ CE j ∧ CE j ≤ 100000) : zS l yX0_doubt wsX0_doubt ({ frames := 1, cells := 0, slots := 0, locals := 21 }) g [.ref bb] [(bb, .inr (0, [.ref bc, .ref bo, .int (iI rk), .int (iI he), .int (iI kn), .int (iI al)])), zI g bc 124 CE, zI g bo 124 OR] (dbt CE OR rk) := by
  refine z_entS (cc := cX0_doubt) (nL := 3) (ret := (some .int)) (own := RX0) (by decide) rfl rfl (Nat.le_of_ble_eq_true rfl) ?_
  intro p e s m below meth c Q ls C hlk hr hQ hP hK hl
  have hx := C.1
  have hb := C.2.1
  have hl : lv_has ls 3 [(0, .ref bb)] := hl
  refine lv_aload_n hx hb dX0_doubt_0 rfl (lv_at hl 0 rfl) ?_
  refine lv_iconst (v := iI 0) hx hb dX0_doubt_1 rfl ?_
  refine z_cS (As := [.int (iI 0)]) (rest := []) C (m_X0_countOf (l := l) (g := g) (bb := bb) (bc := bc) (bo := bo) (rk := rk) (he := he) (kn := kn) (al := al) (CE := CE) (OR := OR) (k := 0) (k1 := by omega) (k2 := by omega) (n1 := by omega) (n2 := by omega) (ho := (fun i g1 g2 => by have := (hO.1 i g1 g2); omega))) (cwV 1 C.2.2.2.2 gX0_doubt_X0_countOf rfl rfl rfl (by decide +kernel) ⟨Nat.le_of_ble_eq_true rfl, Nat.le_of_ble_eq_true rfl⟩) hK hP [0, 1, 2] rfl 0 rfl rfl rfl hl.1 rfl (Nat.le_of_ble_eq_true rfl) dX0_doubt_2 ⟨Nat.zero_le _, Nat.zero_le _⟩ ?_
  refine lv_istore_n (lv' := [(1, .int (iI (if 0 < rk then CE (OR 0) else 0))), (0, .ref bb)]) hx hb dX0_doubt_5 rfl hl (by decide) rfl (fun ls hl => ?_)
  refine lv_iload_n hx hb dX0_doubt_6 rfl (lv_at hl 0 rfl) ?_
  refine z_if_gt (tgt := 13) hx hb dX0_doubt_7 (by decide) (by have := hV (OR 0); split <;> omega) (fun hm => ?_) (fun hm => ?_)
  · have hn0 : 0 < rk := by
      rcases (show 0 < rk ∨ rk ≤ 0 by omega) with z | z
      · exact z
      · rw [if_neg (by omega)] at hm; omega
    have hO0 := hO.1 0 (Int.le_refl 0) hn0
    have hV0 := hV (OR 0)
    refine lv_iconst (v := iI 1) hx hb dX0_doubt_13 rfl ?_
    refine lv_istore_n (lv' := [(2, .int (iI 1)), (1, .int (iI (if 0 < rk then CE (OR 0) else 0))), (0, .ref bb)]) hx hb dX0_doubt_14 rfl hl (by decide) rfl (fun ls hl => ?_)
    have L15 : ∀ (n : Nat) (k : Int), (i1 : 1 ≤ k) → (i2 : k ≤ rk) → (i3 : kr (fun x => bI (OR x / 31 ≠ OR 0 / 31)) rk k 0 = kr (fun x => bI (OR x / 31 ≠ OR 0 / 31)) rk 1 0) → (hms : rk - k < (n : Int)) → ∀ (ls : Array Slot), lv_has ls 3 [(0, .ref bb), (1, .int (iI (if 0 < rk then CE (OR 0) else 0))), (2, .int (iI k))] → W p l e ({ frames := 1, cells := 0, slots := 0, locals := 21 }) s m ([.ref bb] : List Value).toArray below meth c s.heap [] 0 0 Q (F0 m 15 ls []) := by
      clear hl
      intro n
      induction n with
      | zero =>
        intro k i1 i2 i3 hms ls hl
        exfalso; omega
      | succ n ih15 =>
        intro k i1 i2 i3 hms ls hl
        refine lv_iload_n hx hb dX0_doubt_15 rfl (lv_at hl 2 rfl) ?_
        refine lv_aload_n hx hb dX0_doubt_16 rfl (lv_at hl 0 rfl) ?_
        refine z_get (v := .int (iI rk)) (Cn := RX0) (T := TX0) (N := 6) (ci := 0) C in_X0_doubt_X0 hK hP 0 rfl rfl 2 (by decide) (List.mem_of_getElem? (i := 1) rfl) rfl dX0_doubt_17 ?_
        refine z_icmp_ge (tgt := 53) hx hb dX0_doubt_20 (by decide) (by omega) (by omega) (fun c_1 => ?_) (fun c_1 => ?_)
        · refine lv_iconst (v := iI 0) hx hb dX0_doubt_53 rfl ?_
          exact z_retS hx hb hlk hr hQ dX0_doubt_54 (by
          have e9 : kr (fun x => bI (OR x / 31 ≠ OR 0 / 31)) rk k 0 = -1 := kr_e _ 0 (by omega)
          unfold dbt
          rw [if_neg (by omega), ← i3, e9, if_pos rfl])
        · have hOk := hO.1 k (by omega) (by omega)
          have hVk := hV (OR k)
          refine lv_aload_n hx hb dX0_doubt_23 rfl (lv_at hl 0 rfl) ?_
          refine lv_iload_n hx hb dX0_doubt_24 rfl (lv_at hl 2 rfl) ?_
          refine z_cS (As := [.int (iI k)]) (rest := []) C (m_X0_pieceOf (l := l) (g := g) (bb := bb) (bc := bc) (bo := bo) (rk := rk) (he := he) (kn := kn) (al := al) (OR := OR) (k := k) (k1 := by omega) (k2 := by omega) (n1 := by omega) (n2 := by omega) (ho := (fun i g1 g2 => by have := (hO.1 i g1 g2); omega))) (cwV 1 C.2.2.2.2 gX0_doubt_X0_pieceOf rfl rfl rfl (by decide +kernel) ⟨Nat.le_of_ble_eq_true rfl, Nat.le_of_ble_eq_true rfl⟩) hK hP [0, 2] rfl 0 rfl rfl rfl hl.1 rfl (Nat.le_of_ble_eq_true rfl) dX0_doubt_25 ⟨Nat.zero_le _, Nat.zero_le _⟩ ?_
          refine z_top (b := OR k / 31) (if_pos (by omega)) ?_
          refine lv_aload_n hx hb dX0_doubt_28 rfl (lv_at hl 0 rfl) ?_
          refine lv_iconst (v := iI 0) hx hb dX0_doubt_29 rfl ?_
          refine z_cS (As := [.int (iI 0)]) (rest := [.int (iI (OR k / 31))]) C (m_X0_pieceOf (l := l) (g := g) (bb := bb) (bc := bc) (bo := bo) (rk := rk) (he := he) (kn := kn) (al := al) (OR := OR) (k := 0) (k1 := by omega) (k2 := by omega) (n1 := by omega) (n2 := by omega) (ho := (fun i g1 g2 => by have := (hO.1 i g1 g2); omega))) (cwV 1 C.2.2.2.2 gX0_doubt_X0_pieceOf rfl rfl rfl (by decide +kernel) ⟨Nat.le_of_ble_eq_true rfl, Nat.le_of_ble_eq_true rfl⟩) hK hP [0, 2] rfl 0 rfl rfl rfl hl.1 rfl (Nat.le_of_ble_eq_true rfl) dX0_doubt_30 ⟨Nat.zero_le _, Nat.zero_le _⟩ ?_
          refine z_top (b := OR 0 / 31) (if_pos (by omega)) ?_
          refine z_icmp_eq (tgt := 47) hx hb dX0_doubt_33 (by decide) (by omega) (by omega) (fun hc => ?_) (fun hc => ?_)
          · refine z_iinc (b := k + 1) (lv' := [(2, .int (iI (k + 1))), (0, .ref bb), (1, .int (iI (if 0 < rk then CE (OR 0) else 0)))]) hx hb dX0_doubt_47 hl (k := 2) rfl (rfl) (by decide) rfl (fun ls hl => ?_)
            refine lv_goto (tgt := 15) hx hb dX0_doubt_50 (by decide) ?_
            exact ih15 (k + 1) (by omega) (by omega) ((kr_n (f := fun x => bI (OR x / 31 ≠ OR 0 / 31)) 0 (by omega) (by rw [bI_f (fun z => z hc)]; omega)).trans i3) (by omega) ls (lv_sub hl [1, 2, 0] rfl)
          · refine lv_aload_n hx hb dX0_doubt_36 rfl (lv_at hl 0 rfl) ?_
            refine lv_iload_n hx hb dX0_doubt_37 rfl (lv_at hl 2 rfl) ?_
            refine z_cS (As := [.int (iI k)]) (rest := []) C (m_X0_countOf (l := l) (g := g) (bb := bb) (bc := bc) (bo := bo) (rk := rk) (he := he) (kn := kn) (al := al) (CE := CE) (OR := OR) (k := k) (k1 := by omega) (k2 := by omega) (n1 := by omega) (n2 := by omega) (ho := (fun i g1 g2 => by have := (hO.1 i g1 g2); omega))) (cwV 1 C.2.2.2.2 gX0_doubt_X0_countOf rfl rfl rfl (by decide +kernel) ⟨Nat.le_of_ble_eq_true rfl, Nat.le_of_ble_eq_true rfl⟩) hK hP [0, 1, 2] rfl 0 rfl rfl rfl hl.1 rfl (Nat.le_of_ble_eq_true rfl) dX0_doubt_38 ⟨Nat.zero_le _, Nat.zero_le _⟩ ?_
            refine z_top (b := CE (OR k)) (if_pos (by omega)) ?_
            refine lv_bipush (v := iI 100) hx hb dX0_doubt_41 (by decide +kernel) ?_
            refine z_imul hx hb dX0_doubt_43 ?_
            refine lv_iload_n hx hb dX0_doubt_44 rfl (lv_at hl 1 rfl) ?_
            refine z_top (b := CE (OR 0)) (if_pos hn0) ?_
            refine z_idivN hx hb dX0_doubt_45 (by omega) (by omega) (by omega) (by omega) ?_
            exact z_retS hx hb hlk hr hQ dX0_doubt_46 (by
          have e9 : kr (fun x => bI (OR x / 31 ≠ OR 0 / 31)) rk k 0 = k := kr_y0 (by omega) (by rw [bI_t hc]; omega)
          unfold dbt
          rw [if_neg (by omega), ← i3, e9, if_neg (by omega)])
    exact L15 (125) 1 (by omega) (by omega) (rfl) (by omega) ls (lv_sub hl [2, 1, 0] rfl)
  · have hn0 : rk ≤ 0 := by
      rcases (show 0 < rk ∨ rk ≤ 0 by omega) with z | z
      · exact absurd (hO.1 0 (Int.le_refl 0) z).2.2 (by rw [if_pos z] at hm; omega)
      · exact z
    refine lv_bipush (v := iI 100) hx hb dX0_doubt_10 (by decide +kernel) ?_
    exact z_retS hx hb hlk hr hQ dX0_doubt_12 (by unfold dbt; rw [if_pos hn0])
