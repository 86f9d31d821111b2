set_option maxRecDepth 20000 in
theorem in_X3_turnPairs_X3 : ∀ w ∈ u_ws RX3 TX3 3, w ∈ wsX3_turnPairs := zmem_of _ [2, 3, 4] (by decide +kernel)
set_option maxHeartbeats 4000000 in
set_option maxRecDepth 100000 in
theorem m_X3_turnPairs (l : Launch) (g : zG) (a aw af ao : Nat) (WA : Int → Int) (hh : Int) (h0 : hh = 1 ∨ hh = 2 ∨ hh = 4) : zV l yX3_turnPairs wsX3_turnPairs ({ frames := 0, cells := 0, slots := 0, locals := 0 }) g [.ref a, .int (iI hh)] [(a, .inr (3, [.ref aw, .ref af, .ref ao])), zI g aw 8 WA] (S := Unit) (fun _ => True) (fun _ => [(a, .inr (3, [.ref aw, .ref af, .ref ao])), zI g aw 8 (fp hh WA 8)]) := by
  refine z_entV (cc := cX3_turnPairs) (nL := 5) (ret := none) (own := RX3) (by decide) rfl rfl (Nat.le_of_ble_eq_true rfl) ?_
  intro p e s m below meth c Q ls A C hlk hr hQ hP hK hD hA hS hl
  have hx := C.1
  have hb := C.2.1
  have hl : lv_has ls 5 [(0, .ref a), (1, .int (iI hh))] := hl
  obtain ⟨H, hHe⟩ : ∃ H, H = s.heap := ⟨_, rfl⟩
  obtain ⟨locs, hLe⟩ : ∃ q : List Loc, q = [] := ⟨_, rfl⟩
  have hP : zP g [(a, .inr (3, [.ref aw, .ref af, .ref ao])), zI g aw 8 WA] H := by rw [hHe]; exact hP
  have hS : va_S A s.heap H locs := by rw [hHe, hLe]; exact hS
  suffices hgo : W p l e ({ frames := 0, cells := 0, slots := 0, locals := 0 }) s m ([.ref a, .int (iI hh)] : List Value).toArray below meth c H locs 0 0 Q (F0 m 0 ls []) by rw [hHe, hLe] at hgo; exact hgo
  clear hHe hLe
  refine lv_iconst (v := iI 0) hx hb dX3_turnPairs_0 rfl ?_
  refine lv_istore_n (lv' := [(2, .int (iI 0)), (0, .ref a), (1, .int (iI hh))]) hx hb dX3_turnPairs_1 rfl hl (by decide) rfl (fun ls hl => ?_)
  have L2 : ∀ (n : Nat) (k : Int), (i1 : 0 ≤ k) → (i2 : k + hh ≤ 8) → (hms : 8 - k < (n : Int)) → ∀ (H : Heap) (locs : List Loc) (ls : Array Slot), lv_has ls 5 [(0, .ref a), (1, .int (iI hh)), (2, .int (iI k))] → zP g [(a, .inr (3, [.ref aw, .ref af, .ref ao])), zI g aw 8 (fp hh WA k)] H → va_D A [(a, .inr (3, [.ref aw, .ref af, .ref ao])), zI g aw 8 (fp hh WA k)] → va_S A s.heap H locs → W p l e ({ frames := 0, cells := 0, slots := 0, locals := 0 }) s m ([.ref a, .int (iI hh)] : List Value).toArray below meth c H locs 0 0 Q (F0 m 2 ls []) := by
    clear hP hD hS hl
    intro n
    induction n with
    | zero =>
      intro k i1 i2 hms H locs ls hl hP hD hS
      exfalso; omega
    | succ n ih2 =>
      intro k i1 i2 hms H locs ls hl hP hD hS
      refine lv_iload_n hx hb dX3_turnPairs_2 rfl (lv_at hl 2 rfl) ?_
      refine lv_iload_n hx hb dX3_turnPairs_3 rfl (lv_at hl 1 rfl) ?_
      refine z_iadd hx hb dX3_turnPairs_4 ?_
      refine lv_bipush (v := iI 8) hx hb dX3_turnPairs_5 (by decide +kernel) ?_
      refine z_icmp_ge (tgt := 61) hx hb dX3_turnPairs_7 (by decide) (by omega) (by omega) (fun c_1 => ?_) (fun c_1 => ?_)
      · have hP := zP_arr hP 1 (fp hh WA 8) rfl (fun j _ _ => by rw [show k = 8 - hh by omega, fp_8 WA h0])
        have hD := zD_set (c1 := (zI g aw 8 (fp hh WA 8)).2) hD 1 rfl
        have hP : zP g [(a, .inr (3, [.ref aw, .ref af, .ref ao])), zI g aw 8 (fp hh WA 8)] H := hP
        have hD : va_D A [(a, .inr (3, [.ref aw, .ref af, .ref ao])), zI g aw 8 (fp hh WA 8)] := hD
        exact z_retV hx hb hlk hr hQ dX3_turnPairs_61 hS () (trivial) (hP)
      · refine lv_iload_n hx hb dX3_turnPairs_10 rfl (lv_at hl 2 rfl) ?_
        refine lv_iload_n hx hb dX3_turnPairs_11 rfl (lv_at hl 1 rfl) ?_
        refine z_iand hx hb dX3_turnPairs_12 ?_
        refine z_if_ne (tgt := 55) hx hb dX3_turnPairs_13 (by decide) (zand_rg _ _) (fun hz => ?_) (fun hz => ?_)
        · refine z_iinc (b := k + 1) (lv' := [(2, .int (iI (k + 1))), (0, .ref a), (1, .int (iI hh))]) hx hb dX3_turnPairs_55 hl (k := 2) rfl (rfl) (by decide) rfl (fun ls hl => ?_)
          refine lv_goto (tgt := 2) hx hb dX3_turnPairs_58 (by decide) ?_
          have hP := zP_arr hP 1 (fp hh WA (k + 1)) rfl (fun j _ _ => by rw [fp_f WA i1 hz])
          have hD := zD_set (c1 := (zI g aw 8 (fp hh WA (k + 1))).2) hD 1 rfl
          have hP : zP g [(a, .inr (3, [.ref aw, .ref af, .ref ao])), zI g aw 8 (fp hh WA (k + 1))] H := hP
          have hD : va_D A [(a, .inr (3, [.ref aw, .ref af, .ref ao])), zI g aw 8 (fp hh WA (k + 1))] := hD
          exact ih2 (k + 1) (by omega) (by omega) (by omega) H locs ls (lv_sub hl [1, 2, 0] rfl) (hP) (hD) hS
        · refine lv_aload_n hx hb dX3_turnPairs_16 rfl (lv_at hl 0 rfl) ?_
          refine z_get (v := .ref aw) (Cn := RX3) (T := TX3) (N := 3) (ci := 3) C in_X3_turnPairs_X3 hK hP 0 rfl rfl 0 (by decide) (List.mem_of_getElem? (i := 1) rfl) rfl dX3_turnPairs_17 ?_
          refine lv_iload_n hx hb dX3_turnPairs_20 rfl (lv_at hl 2 rfl) ?_
          refine z_iald hx hb hK hP 1 rfl (by omega) (by omega) (Nat.le_of_ble_eq_true rfl) dX3_turnPairs_21 ?_
          refine lv_istore_n (lv' := [(3, .int (iI ((fp hh WA k) k))), (0, .ref a), (1, .int (iI hh)), (2, .int (iI k))]) hx hb dX3_turnPairs_22 rfl hl (by decide) rfl (fun ls hl => ?_)
          refine lv_aload_n hx hb dX3_turnPairs_23 rfl (lv_at hl 1 rfl) ?_
          refine z_get (v := .ref aw) (Cn := RX3) (T := TX3) (N := 3) (ci := 3) C in_X3_turnPairs_X3 hK hP 0 rfl rfl 0 (by decide) (List.mem_of_getElem? (i := 1) rfl) rfl dX3_turnPairs_24 ?_
          refine lv_iload_n hx hb dX3_turnPairs_27 rfl (lv_at hl 3 rfl) ?_
          refine lv_iload_n hx hb dX3_turnPairs_28 rfl (lv_at hl 2 rfl) ?_
          refine z_iadd hx hb dX3_turnPairs_29 ?_
          refine z_iald hx hb hK hP 1 rfl (by omega) (by omega) (Nat.le_of_ble_eq_true rfl) dX3_turnPairs_30 ?_
          refine lv_istore (lv' := [(4, .int (iI ((fp hh WA k) (k + hh)))), (3, .int (iI ((fp hh WA k) k))), (0, .ref a), (1, .int (iI hh)), (2, .int (iI k))]) hx hb dX3_turnPairs_31 hl (by decide) rfl (fun ls hl => ?_)
          refine lv_aload_n hx hb dX3_turnPairs_33 rfl (lv_at hl 2 rfl) ?_
          refine z_get (v := .ref aw) (Cn := RX3) (T := TX3) (N := 3) (ci := 3) C in_X3_turnPairs_X3 hK hP 0 rfl rfl 0 (by decide) (List.mem_of_getElem? (i := 1) rfl) rfl dX3_turnPairs_34 ?_
          refine lv_iload_n hx hb dX3_turnPairs_37 rfl (lv_at hl 4 rfl) ?_
          refine lv_iload_n hx hb dX3_turnPairs_38 rfl (lv_at hl 1 rfl) ?_
          refine lv_iload hx hb dX3_turnPairs_39 (lv_at hl 0 rfl) ?_
          refine z_iadd hx hb dX3_turnPairs_41 ?_
          refine z_iast hx hb hK hP hD hS 1 rfl (by omega) (by omega) (Nat.le_of_ble_eq_true rfl) dX3_turnPairs_42 (fun H locs hP hD hS => ?_)
          have hP : zP g [(a, .inr (3, [.ref aw, .ref af, .ref ao])), zI g aw 8 (ups (fp hh WA k) k (((fp hh WA k) k) + ((fp hh WA k) (k + hh))))] H := hP
          have hD : va_D A [(a, .inr (3, [.ref aw, .ref af, .ref ao])), zI g aw 8 (ups (fp hh WA k) k (((fp hh WA k) k) + ((fp hh WA k) (k + hh))))] := hD
          refine lv_aload_n hx hb dX3_turnPairs_43 rfl (lv_at hl 2 rfl) ?_
          refine z_get (v := .ref aw) (Cn := RX3) (T := TX3) (N := 3) (ci := 3) C in_X3_turnPairs_X3 hK hP 0 rfl rfl 0 (by decide) (List.mem_of_getElem? (i := 1) rfl) rfl dX3_turnPairs_44 ?_
          refine lv_iload_n hx hb dX3_turnPairs_47 rfl (lv_at hl 4 rfl) ?_
          refine lv_iload_n hx hb dX3_turnPairs_48 rfl (lv_at hl 3 rfl) ?_
          refine z_iadd hx hb dX3_turnPairs_49 ?_
          refine lv_iload_n hx hb dX3_turnPairs_50 rfl (lv_at hl 1 rfl) ?_
          refine lv_iload hx hb dX3_turnPairs_51 (lv_at hl 0 rfl) ?_
          refine z_isub hx hb dX3_turnPairs_53 ?_
          refine z_iast hx hb hK hP hD hS 1 rfl (by omega) (by omega) (Nat.le_of_ble_eq_true rfl) dX3_turnPairs_54 (fun H locs hP hD hS => ?_)
          have hP : zP g [(a, .inr (3, [.ref aw, .ref af, .ref ao])), zI g aw 8 (ups (ups (fp hh WA k) k (((fp hh WA k) k) + ((fp hh WA k) (k + hh)))) (k + hh) (((fp hh WA k) k) - ((fp hh WA k) (k + hh))))] H := hP
          have hD : va_D A [(a, .inr (3, [.ref aw, .ref af, .ref ao])), zI g aw 8 (ups (ups (fp hh WA k) k (((fp hh WA k) k) + ((fp hh WA k) (k + hh)))) (k + hh) (((fp hh WA k) k) - ((fp hh WA k) (k + hh))))] := hD
          refine z_iinc (b := k + 1) (lv' := [(2, .int (iI (k + 1))), (4, .int (iI ((fp hh WA k) (k + hh)))), (3, .int (iI ((fp hh WA k) k))), (0, .ref a), (1, .int (iI hh))]) hx hb dX3_turnPairs_55 hl (k := 4) rfl (rfl) (by decide) rfl (fun ls hl => ?_)
          refine lv_goto (tgt := 2) hx hb dX3_turnPairs_58 (by decide) ?_
          have hP := zP_arr hP 1 (fp hh WA (k + 1)) rfl (fun j _ _ => by rw [fp_t WA i1 hz])
          have hD := zD_set (c1 := (zI g aw 8 (fp hh WA (k + 1))).2) hD 1 rfl
          have hP : zP g [(a, .inr (3, [.ref aw, .ref af, .ref ao])), zI g aw 8 (fp hh WA (k + 1))] H := hP
          have hD : va_D A [(a, .inr (3, [.ref aw, .ref af, .ref ao])), zI g aw 8 (fp hh WA (k + 1))] := hD
          exact ih2 (k + 1) (by omega) (by omega) (by omega) H locs ls (lv_sub hl [3, 4, 0] rfl) (hP) (hD) hS
  have hP := zP_arr hP 1 (fp hh WA 0) rfl (fun j _ _ => by rw [fp_0])
  have hD := zD_set (c1 := (zI g aw 8 (fp hh WA 0)).2) hD 1 rfl
  have hP : zP g [(a, .inr (3, [.ref aw, .ref af, .ref ao])), zI g aw 8 (fp hh WA 0)] H := hP
  have hD : va_D A [(a, .inr (3, [.ref aw, .ref af, .ref ao])), zI g aw 8 (fp hh WA 0)] := hD
  exact L2 (9) 0 (by omega) (by omega) (by omega) H locs ls (lv_sub hl [1, 2, 0] rfl) (hP) (hD) hS
set_option maxRecDepth 20000 in
theorem in_X3_turn_X3 : ∀ w ∈ u_ws RX3 TX3 3, w ∈ wsX3_turn := zmem_of _ [13, 14, 15] (by decide +kernel)
set_option maxHeartbeats 4000000 in
set_option maxRecDepth 100000 in
theorem m_X3_turn (l : Launch) (g : zG) (a aw af ao : Nat) (h hn hs : Nat) (fl re : Int) (WA NU : Int → Int) (row wi : Int) (h1 : 0 ≤ row) (h2 : row < 5) (w1 : 0 ≤ wi) (w2 : wi < 16) : zV l yX3_turn wsX3_turn ({ frames := 1, cells := 0, slots := 0, locals := 24 }) g [.ref a, .ref h, .int (iI row), .int (iI wi)] [(a, .inr (3, [.ref aw, .ref af, .ref ao])), zI g aw 8 WA, (h, .inr (4, [.ref hn, .ref hs, .int (iI fl), .int (iI re)])), zI g hn 640 NU] (S := Unit) (fun _ => True) (fun _ => [(a, .inr (3, [.ref aw, .ref af, .ref ao])), zI g aw 8 (wv (fun i => NU (row * 128 + (wi * 8 + i)))), (h, .inr (4, [.ref hn, .ref hs, .int (iI fl), .int (iI re)])), zI g hn 640 NU]) := by
  refine z_entV (cc := cX3_turn) (nL := 5) (ret := none) (own := RX3) (by decide) rfl rfl (Nat.le_of_ble_eq_true rfl) ?_
  intro p e s m below meth c Q ls A C hlk hr hQ hP hK hD hA hS hl
  have hx := C.1
  have hb := C.2.1
  have hl : lv_has ls 5 [(0, .ref a), (1, .ref h), (2, .int (iI row)), (3, .int (iI wi))] := hl
  obtain ⟨H, hHe⟩ : ∃ H, H = s.heap := ⟨_, rfl⟩
  obtain ⟨locs, hLe⟩ : ∃ q : List Loc, q = [] := ⟨_, rfl⟩
  have hP : zP g [(a, .inr (3, [.ref aw, .ref af, .ref ao])), zI g aw 8 WA, (h, .inr (4, [.ref hn, .ref hs, .int (iI fl), .int (iI re)])), zI g hn 640 NU] H := by rw [hHe]; exact hP
  have hS : va_S A s.heap H locs := by rw [hHe, hLe]; exact hS
  suffices hgo : W p l e ({ frames := 1, cells := 0, slots := 0, locals := 24 }) s m ([.ref a, .ref h, .int (iI row), .int (iI wi)] : List Value).toArray below meth c H locs 0 0 Q (F0 m 0 ls []) by rw [hHe, hLe] at hgo; exact hgo
  clear hHe hLe
  refine lv_iconst (v := iI 0) hx hb dX3_turn_0 rfl ?_
  refine lv_istore (lv' := [(4, .int (iI 0)), (0, .ref a), (1, .ref h), (2, .int (iI row)), (3, .int (iI wi))]) hx hb dX3_turn_1 hl (by decide) rfl (fun ls hl => ?_)
  have L3 : ∀ (n : Nat) (k : Int) (WA : Int → Int), (i1 : 0 ≤ k) → (i2 : k ≤ 8) → (i3 : ∀ j, 0 ≤ j → j < k → WA j = NU (row * 128 + (wi * 8 + j))) → (hms : 8 - k < (n : Int)) → ∀ (H : Heap) (locs : List Loc) (ls : Array Slot), lv_has ls 5 [(0, .ref a), (1, .ref h), (2, .int (iI row)), (3, .int (iI wi)), (4, .int (iI k))] → zP g [(a, .inr (3, [.ref aw, .ref af, .ref ao])), zI g aw 8 WA, (h, .inr (4, [.ref hn, .ref hs, .int (iI fl), .int (iI re)])), zI g hn 640 NU] H → va_D A [(a, .inr (3, [.ref aw, .ref af, .ref ao])), zI g aw 8 WA, (h, .inr (4, [.ref hn, .ref hs, .int (iI fl), .int (iI re)])), zI g hn 640 NU] → va_S A s.heap H locs → W p l e ({ frames := 1, cells := 0, slots := 0, locals := 24 }) s m ([.ref a, .ref h, .int (iI row), .int (iI wi)] : List Value).toArray below meth c H locs 0 0 Q (F0 m 3 ls []) := by
    clear hP hD hS hl
    intro n
    induction n with
    | zero =>
      intro k WA i1 i2 i3 hms H locs ls hl hP hD hS
      exfalso; omega
    | succ n ih3 =>
      intro k WA i1 i2 i3 hms H locs ls hl hP hD hS
      refine lv_iload hx hb dX3_turn_3 (lv_at hl 4 rfl) ?_
      refine lv_bipush (v := iI 8) hx hb dX3_turn_5 (by decide +kernel) ?_
      refine z_icmp_ge (tgt := 35) hx hb dX3_turn_7 (by decide) (by omega) (by omega) (fun c_1 => ?_) (fun c_1 => ?_)
      · have hP := zP_arr hP 1 (fun i => NU (row * 128 + (wi * 8 + i))) rfl (fun j g1 g2 => i3 j g1 (by omega))
        have hD := zD_set (c1 := (zI g aw 8 (fun i => NU (row * 128 + (wi * 8 + i)))).2) hD 1 rfl
        have hP : zP g [(a, .inr (3, [.ref aw, .ref af, .ref ao])), zI g aw 8 (fun i => NU (row * 128 + (wi * 8 + i))), (h, .inr (4, [.ref hn, .ref hs, .int (iI fl), .int (iI re)])), zI g hn 640 NU] H := hP
        have hD : va_D A [(a, .inr (3, [.ref aw, .ref af, .ref ao])), zI g aw 8 (fun i => NU (row * 128 + (wi * 8 + i))), (h, .inr (4, [.ref hn, .ref hs, .int (iI fl), .int (iI re)])), zI g hn 640 NU] := hD
        refine lv_iconst (v := iI 1) hx hb dX3_turn_35 rfl ?_
        refine lv_istore (lv' := [(4, .int (iI 1)), (0, .ref a), (1, .ref h), (2, .int (iI row)), (3, .int (iI wi))]) hx hb dX3_turn_36 hl (by decide) rfl (fun ls hl => ?_)
        refine lv_iload hx hb dX3_turn_38 (lv_at hl 0 rfl) ?_
        refine lv_bipush (v := iI 8) hx hb dX3_turn_40 (by decide +kernel) ?_
        refine z_icmp_ge (tgt := 60) hx hb dX3_turn_42 (by decide) (by omega) (by omega) (fun c_2 => ?_) (fun c_2 => ?_)
        · exfalso; omega
        · refine lv_aload_n hx hb dX3_turn_45 rfl (lv_at hl 1 rfl) ?_
          refine lv_iload hx hb dX3_turn_46 (lv_at hl 0 rfl) ?_
          refine z_cV (As := [.int (iI 1)]) (rest := []) C (m_X3_turnPairs (l := l) (g := g) (a := a) (aw := aw) (af := af) (ao := ao) (WA := fun i => NU (row * 128 + (wi * 8 + i))) (hh := 1) (h0 := by omega)) (cwV 1 C.2.2.2.2 gX3_turn_X3_turnPairs rfl rfl rfl (by decide +kernel) ⟨Nat.le_of_ble_eq_true rfl, Nat.le_of_ble_eq_true rfl⟩) hK hP hD hS hA [0, 1] (by decide) rfl (fun _ => rfl) 0 rfl rfl rfl hl.1 rfl (Nat.le_of_ble_eq_true rfl) dX3_turn_48 ⟨Nat.zero_le _, Nat.zero_le _⟩ (fun u_3 H locs hq_4 hP hD hS => ?_)
          have hP : zP g [(a, .inr (3, [.ref aw, .ref af, .ref ao])), zI g aw 8 (fp 1 (fun i => NU (row * 128 + (wi * 8 + i))) 8), (h, .inr (4, [.ref hn, .ref hs, .int (iI fl), .int (iI re)])), zI g hn 640 NU] H := hP
          have hD : va_D A [(a, .inr (3, [.ref aw, .ref af, .ref ao])), zI g aw 8 (fp 1 (fun i => NU (row * 128 + (wi * 8 + i))) 8), (h, .inr (4, [.ref hn, .ref hs, .int (iI fl), .int (iI re)])), zI g hn 640 NU] := hD
          refine lv_iload hx hb dX3_turn_51 (lv_at hl 0 rfl) ?_
          refine lv_iconst (v := iI 2) hx hb dX3_turn_53 rfl ?_
          refine z_imul hx hb dX3_turn_54 ?_
          refine z_top (b := 2) (by omega) ?_
          refine lv_istore (lv' := [(4, .int (iI 2)), (0, .ref a), (1, .ref h), (2, .int (iI row)), (3, .int (iI wi))]) hx hb dX3_turn_55 hl (by decide) rfl (fun ls hl => ?_)
          refine lv_goto (tgt := 38) hx hb dX3_turn_57 (by decide) ?_
          refine lv_iload hx hb dX3_turn_38 (lv_at hl 0 rfl) ?_
          refine lv_bipush (v := iI 8) hx hb dX3_turn_40 (by decide +kernel) ?_
          refine z_icmp_ge (tgt := 60) hx hb dX3_turn_42 (by decide) (by omega) (by omega) (fun c_5 => ?_) (fun c_5 => ?_)
          · exfalso; omega
          · refine lv_aload_n hx hb dX3_turn_45 rfl (lv_at hl 1 rfl) ?_
            refine lv_iload hx hb dX3_turn_46 (lv_at hl 0 rfl) ?_
            refine z_cV (As := [.int (iI 2)]) (rest := []) C (m_X3_turnPairs (l := l) (g := g) (a := a) (aw := aw) (af := af) (ao := ao) (WA := fp 1 (fun i => NU (row * 128 + (wi * 8 + i))) 8) (hh := 2) (h0 := by omega)) (cwV 1 C.2.2.2.2 gX3_turn_X3_turnPairs rfl rfl rfl (by decide +kernel) ⟨Nat.le_of_ble_eq_true rfl, Nat.le_of_ble_eq_true rfl⟩) hK hP hD hS hA [0, 1] (by decide) rfl (fun _ => rfl) 0 rfl rfl rfl hl.1 rfl (Nat.le_of_ble_eq_true rfl) dX3_turn_48 ⟨Nat.zero_le _, Nat.zero_le _⟩ (fun u_6 H locs hq_7 hP hD hS => ?_)
            have hP : zP g [(a, .inr (3, [.ref aw, .ref af, .ref ao])), zI g aw 8 (fp 2 (fp 1 (fun i => NU (row * 128 + (wi * 8 + i))) 8) 8), (h, .inr (4, [.ref hn, .ref hs, .int (iI fl), .int (iI re)])), zI g hn 640 NU] H := hP
            have hD : va_D A [(a, .inr (3, [.ref aw, .ref af, .ref ao])), zI g aw 8 (fp 2 (fp 1 (fun i => NU (row * 128 + (wi * 8 + i))) 8) 8), (h, .inr (4, [.ref hn, .ref hs, .int (iI fl), .int (iI re)])), zI g hn 640 NU] := hD
            refine lv_iload hx hb dX3_turn_51 (lv_at hl 0 rfl) ?_
            refine lv_iconst (v := iI 2) hx hb dX3_turn_53 rfl ?_
            refine z_imul hx hb dX3_turn_54 ?_
            refine z_top (b := 4) (by omega) ?_
            refine lv_istore (lv' := [(4, .int (iI 4)), (0, .ref a), (1, .ref h), (2, .int (iI row)), (3, .int (iI wi))]) hx hb dX3_turn_55 hl (by decide) rfl (fun ls hl => ?_)
            refine lv_goto (tgt := 38) hx hb dX3_turn_57 (by decide) ?_
            refine lv_iload hx hb dX3_turn_38 (lv_at hl 0 rfl) ?_
            refine lv_bipush (v := iI 8) hx hb dX3_turn_40 (by decide +kernel) ?_
            refine z_icmp_ge (tgt := 60) hx hb dX3_turn_42 (by decide) (by omega) (by omega) (fun c_8 => ?_) (fun c_8 => ?_)
            · exfalso; omega
            · refine lv_aload_n hx hb dX3_turn_45 rfl (lv_at hl 1 rfl) ?_
              refine lv_iload hx hb dX3_turn_46 (lv_at hl 0 rfl) ?_
              refine z_cV (As := [.int (iI 4)]) (rest := []) C (m_X3_turnPairs (l := l) (g := g) (a := a) (aw := aw) (af := af) (ao := ao) (WA := fp 2 (fp 1 (fun i => NU (row * 128 + (wi * 8 + i))) 8) 8) (hh := 4) (h0 := by omega)) (cwV 1 C.2.2.2.2 gX3_turn_X3_turnPairs rfl rfl rfl (by decide +kernel) ⟨Nat.le_of_ble_eq_true rfl, Nat.le_of_ble_eq_true rfl⟩) hK hP hD hS hA [0, 1] (by decide) rfl (fun _ => rfl) 0 rfl rfl rfl hl.1 rfl (Nat.le_of_ble_eq_true rfl) dX3_turn_48 ⟨Nat.zero_le _, Nat.zero_le _⟩ (fun u_9 H locs hq_10 hP hD hS => ?_)
              have hP : zP g [(a, .inr (3, [.ref aw, .ref af, .ref ao])), zI g aw 8 (fp 4 (fp 2 (fp 1 (fun i => NU (row * 128 + (wi * 8 + i))) 8) 8) 8), (h, .inr (4, [.ref hn, .ref hs, .int (iI fl), .int (iI re)])), zI g hn 640 NU] H := hP
              have hD : va_D A [(a, .inr (3, [.ref aw, .ref af, .ref ao])), zI g aw 8 (fp 4 (fp 2 (fp 1 (fun i => NU (row * 128 + (wi * 8 + i))) 8) 8) 8), (h, .inr (4, [.ref hn, .ref hs, .int (iI fl), .int (iI re)])), zI g hn 640 NU] := hD
              refine lv_iload hx hb dX3_turn_51 (lv_at hl 0 rfl) ?_
              refine lv_iconst (v := iI 2) hx hb dX3_turn_53 rfl ?_
              refine z_imul hx hb dX3_turn_54 ?_
              refine z_top (b := 8) (by omega) ?_
              refine lv_istore (lv' := [(4, .int (iI 8)), (0, .ref a), (1, .ref h), (2, .int (iI row)), (3, .int (iI wi))]) hx hb dX3_turn_55 hl (by decide) rfl (fun ls hl => ?_)
              refine lv_goto (tgt := 38) hx hb dX3_turn_57 (by decide) ?_
              refine lv_iload hx hb dX3_turn_38 (lv_at hl 0 rfl) ?_
              refine lv_bipush (v := iI 8) hx hb dX3_turn_40 (by decide +kernel) ?_
              refine z_icmp_ge (tgt := 60) hx hb dX3_turn_42 (by decide) (by omega) (by omega) (fun c_11 => ?_) (fun c_11 => ?_)
              · have hP := zP_arr hP 1 (wv (fun i => NU (row * 128 + (wi * 8 + i)))) rfl (fun j _ _ => rfl)
                have hD := zD_set (c1 := (zI g aw 8 (wv (fun i => NU (row * 128 + (wi * 8 + i))))).2) hD 1 rfl
                have hP : zP g [(a, .inr (3, [.ref aw, .ref af, .ref ao])), zI g aw 8 (wv (fun i => NU (row * 128 + (wi * 8 + i)))), (h, .inr (4, [.ref hn, .ref hs, .int (iI fl), .int (iI re)])), zI g hn 640 NU] H := hP
                have hD : va_D A [(a, .inr (3, [.ref aw, .ref af, .ref ao])), zI g aw 8 (wv (fun i => NU (row * 128 + (wi * 8 + i)))), (h, .inr (4, [.ref hn, .ref hs, .int (iI fl), .int (iI re)])), zI g hn 640 NU] := hD
                exact z_retV hx hb hlk hr hQ dX3_turn_60 hS () (trivial) (hP)
              · exfalso; omega
      · refine lv_aload_n hx hb dX3_turn_10 rfl (lv_at hl 0 rfl) ?_
        refine z_get (v := .ref aw) (Cn := RX3) (T := TX3) (N := 3) (ci := 3) C in_X3_turn_X3 hK hP 0 rfl rfl 0 (by decide) (List.mem_of_getElem? (i := 1) rfl) rfl dX3_turn_11 ?_
        refine lv_iload hx hb dX3_turn_14 (lv_at hl 4 rfl) ?_
        refine lv_aload_n hx hb dX3_turn_16 rfl (lv_at hl 1 rfl) ?_
        refine lv_iload_n hx hb dX3_turn_17 rfl (lv_at hl 2 rfl) ?_
        refine lv_iload_n hx hb dX3_turn_18 rfl (lv_at hl 3 rfl) ?_
        refine lv_bipush (v := iI 8) hx hb dX3_turn_19 (by decide +kernel) ?_
        refine z_imul hx hb dX3_turn_21 ?_
        refine lv_iload hx hb dX3_turn_22 (lv_at hl 4 rfl) ?_
        refine z_iadd hx hb dX3_turn_24 ?_
        refine z_cS (As := [.int (iI row), .int (iI ((wi * 8) + k))]) (rest := [.int (iI k), .ref aw]) C (m_X4_numberAt (l := l) (g := g) (h := h) (hn := hn) (hs := hs) (fl := fl) (re := re) (NU := NU) (row := row) (i := (wi * 8) + k) (h1 := by omega) (h2 := by omega) (h3 := by omega) (h4 := by omega)) (cwV 2 C.2.2.2.2 gX3_turn_X4_numberAt rfl rfl rfl (by decide +kernel) ⟨Nat.le_of_ble_eq_true rfl, Nat.le_of_ble_eq_true rfl⟩) hK hP [2, 3] rfl 2 rfl rfl rfl hl.1 rfl (Nat.le_of_ble_eq_true rfl) dX3_turn_25 ⟨Nat.zero_le _, Nat.zero_le _⟩ ?_
        refine z_iast hx hb hK hP hD hS 1 rfl (by omega) (by omega) (Nat.le_of_ble_eq_true rfl) dX3_turn_28 (fun H locs hP hD hS => ?_)
        have hP : zP g [(a, .inr (3, [.ref aw, .ref af, .ref ao])), zI g aw 8 (ups WA k (NU (row * 128 + ((wi * 8) + k)))), (h, .inr (4, [.ref hn, .ref hs, .int (iI fl), .int (iI re)])), zI g hn 640 NU] H := hP
        have hD : va_D A [(a, .inr (3, [.ref aw, .ref af, .ref ao])), zI g aw 8 (ups WA k (NU (row * 128 + ((wi * 8) + k)))), (h, .inr (4, [.ref hn, .ref hs, .int (iI fl), .int (iI re)])), zI g hn 640 NU] := hD
        refine z_iinc (b := k + 1) (lv' := [(4, .int (iI (k + 1))), (0, .ref a), (1, .ref h), (2, .int (iI row)), (3, .int (iI wi))]) hx hb dX3_turn_29 hl (k := 4) rfl (rfl) (by decide) rfl (fun ls hl => ?_)
        refine lv_goto (tgt := 3) hx hb dX3_turn_32 (by decide) ?_
        exact ih3 (k + 1) (ups WA k (NU (row * 128 + ((wi * 8) + k)))) (by omega) (by omega) (fun j g1 g2 => by
            by_cases hj : j = k
            · subst hj; exact ups_s _ _ _
            · rw [ups_n _ _ hj]; exact i3 j g1 (by omega)) (by omega) H locs ls (lv_sub hl [1, 2, 3, 4, 0] rfl) (hP) (hD) hS
  exact L3 (9) 0 WA (by omega) (by omega) (fun j g1 g2 => by omega) (by omega) H locs ls (lv_sub hl [1, 2, 3, 4, 0] rfl) (hP) (hD) hS
set_option maxRecDepth 20000 in
theorem in_X3_shareOf_X3 : ∀ w ∈ u_ws RX3 TX3 3, w ∈ wsX3_shareOf := zmem_of _ [2, 3, 4] (by decide +kernel)
set_option maxHeartbeats 4000000 in
set_option maxRecDepth 100000 in
theorem m_X3_shareOf (l : Launch) (g : zG) (a aw af ao : Nat) (WA : Int → Int) (k : Int) (h1 : 0 ≤ k) (h2 : k < 8) : zS l yX3_shareOf wsX3_shareOf ({ frames := 0, cells := 0, slots := 0, locals := 0 }) g [.ref a, .int (iI k)] [(a, .inr (3, [.ref aw, .ref af, .ref ao])), zI g aw 8 WA] (sh WA k) := by
  refine z_entS (cc := cX3_shareOf) (nL := 2) (ret := (some .int)) (own := RX3) (by decide) rfl rfl (Nat.le_of_ble_eq_true rfl) ?_
  intro p e s m below meth c Q ls C hlk hr hQ hP hK hl
  have hx := C.1
  have hb := C.2.1
  have hl : lv_has ls 2 [(0, .ref a), (1, .int (iI k))] := hl
  refine lv_aload_n hx hb dX3_shareOf_0 rfl (lv_at hl 0 rfl) ?_
  refine z_get (v := .ref aw) (Cn := RX3) (T := TX3) (N := 3) (ci := 3) C in_X3_shareOf_X3 hK hP 0 rfl rfl 0 (by decide) (List.mem_of_getElem? (i := 1) rfl) rfl dX3_shareOf_1 ?_
  refine lv_iload_n hx hb dX3_shareOf_4 rfl (lv_at hl 1 rfl) ?_
  refine z_iald hx hb hK hP 1 rfl (by omega) (by omega) (Nat.le_of_ble_eq_true rfl) dX3_shareOf_5 ?_
  refine lv_aload_n hx hb dX3_shareOf_6 rfl (lv_at hl 0 rfl) ?_
  refine z_get (v := .ref aw) (Cn := RX3) (T := TX3) (N := 3) (ci := 3) C in_X3_shareOf_X3 hK hP 0 rfl rfl 0 (by decide) (List.mem_of_getElem? (i := 1) rfl) rfl dX3_shareOf_7 ?_
  refine lv_iload_n hx hb dX3_shareOf_10 rfl (lv_at hl 1 rfl) ?_
  refine z_iald hx hb hK hP 1 rfl (by omega) (by omega) (Nat.le_of_ble_eq_true rfl) dX3_shareOf_11 ?_
  refine z_imul hx hb dX3_shareOf_12 ?_
  refine lv_bipush (v := iI 64) hx hb dX3_shareOf_13 (by decide +kernel) ?_
  refine z_idiv hx hb dX3_shareOf_15 (by omega) (by omega) ?_
  exact z_retS hx hb hlk hr hQ dX3_shareOf_16 (rfl)
set_option maxHeartbeats 4000000 in
set_option maxRecDepth 100000 in
theorem m_X3_findPeak (l : Launch) (g : zG) (a aw af ao : Nat) (h hn hs : Nat) (fl re : Int) (WA NU : Int → Int) (row wi : Int) (h1 : 0 ≤ row) (h2 : row < 5) (w1 : 0 ≤ wi) (w2 : wi < 16) (f1 : 0 ≤ fl) (f2 : fl ≤ 99999) : zE l yX3_findPeak wsX3_findPeak ({ frames := 2, cells := 0, slots := 0, locals := 48 }) g [.ref a, .ref h, .int (iI row), .int (iI wi)] [(a, .inr (3, [.ref aw, .ref af, .ref ao])), zI g aw 8 WA, (h, .inr (4, [.ref hn, .ref hs, .int (iI fl), .int (iI re)])), zI g hn 640 NU] (S := Unit) (fun r _ => r = pk8 (fun i => NU (row * 128 + (wi * 8 + i))) fl) (fun _ => [(a, .inr (3, [.ref aw, .ref af, .ref ao])), zI g aw 8 (wv (fun i => NU (row * 128 + (wi * 8 + i)))), (h, .inr (4, [.ref hn, .ref hs, .int (iI fl), .int (iI re)])), zI g hn 640 NU]) := by
  refine z_entE (cc := cX3_findPeak) (nL := 6) (ret := (some .int)) (own := RX3) (by decide) rfl rfl (Nat.le_of_ble_eq_true rfl) ?_
  intro p e s m below meth c Q ls A C hlk hr hQ hP hK hD hA hS hl
  have hx := C.1
  have hb := C.2.1
  have hl : lv_has ls 6 [(0, .ref a), (1, .ref h), (2, .int (iI row)), (3, .int (iI wi))] := hl
  obtain ⟨H, hHe⟩ : ∃ H, H = s.heap := ⟨_, rfl⟩
  obtain ⟨locs, hLe⟩ : ∃ q : List Loc, q = [] := ⟨_, rfl⟩
  have hP : zP g [(a, .inr (3, [.ref aw, .ref af, .ref ao])), zI g aw 8 WA, (h, .inr (4, [.ref hn, .ref hs, .int (iI fl), .int (iI re)])), zI g hn 640 NU] H := by rw [hHe]; exact hP
  have hS : va_S A s.heap H locs := by rw [hHe, hLe]; exact hS
  suffices hgo : W p l e ({ frames := 2, cells := 0, slots := 0, locals := 48 }) s m ([.ref a, .ref h, .int (iI row), .int (iI wi)] : List Value).toArray below meth c H locs 0 0 Q (F0 m 0 ls []) by rw [hHe, hLe] at hgo; exact hgo
  clear hHe hLe
  refine lv_aload_n hx hb dX3_findPeak_0 rfl (lv_at hl 0 rfl) ?_
  refine lv_aload_n hx hb dX3_findPeak_1 rfl (lv_at hl 1 rfl) ?_
  refine lv_iload_n hx hb dX3_findPeak_2 rfl (lv_at hl 2 rfl) ?_
  refine lv_iload_n hx hb dX3_findPeak_3 rfl (lv_at hl 3 rfl) ?_
  refine z_cV (As := [.ref h, .int (iI row), .int (iI wi)]) (rest := []) C (m_X3_turn (l := l) (g := g) (a := a) (aw := aw) (af := af) (ao := ao) (h := h) (hn := hn) (hs := hs) (fl := fl) (re := re) (WA := WA) (NU := NU) (row := row) (wi := wi) (h1 := by omega) (h2 := by omega) (w1 := by omega) (w2 := by omega)) (cwV 3 C.2.2.2.2 gX3_findPeak_X3_turn rfl rfl rfl (by decide +kernel) ⟨Nat.le_of_ble_eq_true rfl, Nat.le_of_ble_eq_true rfl⟩) hK hP hD hS hA [0, 1, 2, 3] (by decide) rfl (fun _ => rfl) 0 rfl rfl rfl hl.1 rfl (Nat.le_of_ble_eq_true rfl) dX3_findPeak_4 ⟨Nat.zero_le _, Nat.zero_le _⟩ (fun u_1 H locs hq_2 hP hD hS => ?_)
  have hP : zP g [(a, .inr (3, [.ref aw, .ref af, .ref ao])), zI g aw 8 (wv (fun i => NU (row * 128 + (wi * 8 + i)))), (h, .inr (4, [.ref hn, .ref hs, .int (iI fl), .int (iI re)])), zI g hn 640 NU] H := hP
  have hD : va_D A [(a, .inr (3, [.ref aw, .ref af, .ref ao])), zI g aw 8 (wv (fun i => NU (row * 128 + (wi * 8 + i)))), (h, .inr (4, [.ref hn, .ref hs, .int (iI fl), .int (iI re)])), zI g hn 640 NU] := hD
  refine lv_iconst (v := iI 1) hx hb dX3_findPeak_7 rfl ?_
  refine lv_istore (lv' := [(4, .int (iI 1)), (0, .ref a), (1, .ref h), (2, .int (iI row)), (3, .int (iI wi))]) hx hb dX3_findPeak_8 hl (by decide) rfl (fun ls hl => ?_)
  refine lv_iconst (v := iI 2) hx hb dX3_findPeak_10 rfl ?_
  refine lv_istore (lv' := [(5, .int (iI 2)), (4, .int (iI 1)), (0, .ref a), (1, .ref h), (2, .int (iI row)), (3, .int (iI wi))]) hx hb dX3_findPeak_11 hl (by decide) rfl (fun ls hl => ?_)
  have L13 : ∀ (n : Nat) (k : Int), (i1 : 2 ≤ k) → (i2 : k ≤ 8) → (hms : 8 - k < (n : Int)) → ∀ (H : Heap) (locs : List Loc) (ls : Array Slot), lv_has ls 6 [(0, .ref a), (1, .ref h), (4, .int (iI (bs (sh (wv (fun i => NU (row * 128 + (wi * 8 + i))))) k))), (5, .int (iI k))] → zP g [(a, .inr (3, [.ref aw, .ref af, .ref ao])), zI g aw 8 (wv (fun i => NU (row * 128 + (wi * 8 + i)))), (h, .inr (4, [.ref hn, .ref hs, .int (iI fl), .int (iI re)])), zI g hn 640 NU] H → va_D A [(a, .inr (3, [.ref aw, .ref af, .ref ao])), zI g aw 8 (wv (fun i => NU (row * 128 + (wi * 8 + i)))), (h, .inr (4, [.ref hn, .ref hs, .int (iI fl), .int (iI re)])), zI g hn 640 NU] → va_S A s.heap H locs → W p l e ({ frames := 2, cells := 0, slots := 0, locals := 48 }) s m ([.ref a, .ref h, .int (iI row), .int (iI wi)] : List Value).toArray below meth c H locs 0 0 Q (F0 m 13 ls []) := by
    clear hP hD hS hl
    intro n
    induction n with
    | zero =>
      intro k i1 i2 hms H locs ls hl hP hD hS
      exfalso; omega
    | succ n ih13 =>
      intro k i1 i2 hms H locs ls hl hP hD hS
      have hbs := bs_rg (sh (wv (fun i => NU (row * 128 + (wi * 8 + i))))) (k := k) (by omega)
      refine lv_iload hx hb dX3_findPeak_13 (lv_at hl 3 rfl) ?_
      refine lv_bipush (v := iI 8) hx hb dX3_findPeak_15 (by decide +kernel) ?_
      refine z_icmp_ge (tgt := 45) hx hb dX3_findPeak_17 (by decide) (by omega) (by omega) (fun c_3 => ?_) (fun c_3 => ?_)
      · obtain rfl : k = 8 := by omega
        refine lv_aload_n hx hb dX3_findPeak_45 rfl (lv_at hl 0 rfl) ?_
        refine lv_iload hx hb dX3_findPeak_46 (lv_at hl 2 rfl) ?_
        refine z_cS (As := [.int (iI (bs (sh (wv (fun i => NU (row * 128 + (wi * 8 + i))))) 8))]) (rest := []) C (m_X3_shareOf (l := l) (g := g) (a := a) (aw := aw) (af := af) (ao := ao) (WA := wv (fun i => NU (row * 128 + (wi * 8 + i)))) (k := bs (sh (wv (fun i => NU (row * 128 + (wi * 8 + i))))) 8) (h1 := by omega) (h2 := by omega)) (cwV 1 C.2.2.2.2 gX3_findPeak_X3_shareOf rfl rfl rfl (by decide +kernel) ⟨Nat.le_of_ble_eq_true rfl, Nat.le_of_ble_eq_true rfl⟩) hK hP [0, 1] rfl 0 rfl rfl rfl hl.1 rfl (Nat.le_of_ble_eq_true rfl) dX3_findPeak_48 ⟨Nat.zero_le _, Nat.zero_le _⟩ ?_
        have hsr := sh_rg (wv (fun i => NU (row * 128 + (wi * 8 + i)))) (bs (sh (wv (fun i => NU (row * 128 + (wi * 8 + i))))) 8)
        refine lv_aload_n hx hb dX3_findPeak_51 rfl (lv_at hl 1 rfl) ?_
        refine z_cS (As := []) (rest := [.int (iI (sh (wv (fun i => NU (row * 128 + (wi * 8 + i)))) (bs (sh (wv (fun i => NU (row * 128 + (wi * 8 + i))))) 8)))]) C (m_X4_floor (l := l) (g := g) (h := h) (hn := hn) (hs := hs) (fl := fl) (re := re) ) (cwV 0 C.2.2.2.2 gX3_findPeak_X4_floor rfl rfl rfl (by decide +kernel) ⟨Nat.le_of_ble_eq_true rfl, Nat.le_of_ble_eq_true rfl⟩) hK hP [2] rfl 2 rfl rfl rfl hl.1 rfl (Nat.le_of_ble_eq_true rfl) dX3_findPeak_52 ⟨Nat.zero_le _, Nat.zero_le _⟩ ?_
        refine z_icmp_lt (tgt := 63) hx hb dX3_findPeak_55 (by decide) (by omega) (by omega) (fun c_4 => ?_) (fun c_4 => ?_)
        · refine lv_iconst (v := iI (-1)) hx hb dX3_findPeak_63 rfl ?_
          exact z_retE hx hb hlk hr hQ dX3_findPeak_64 hS () (by
            show _ = pk8 _ _
            unfold pk8
            rw [if_neg (by omega)]) (hP)
        · refine lv_iload hx hb dX3_findPeak_58 (lv_at hl 2 rfl) ?_
          refine lv_goto (tgt := 64) hx hb dX3_findPeak_60 (by decide) ?_
          exact z_retE hx hb hlk hr hQ dX3_findPeak_64 hS () (by
            show _ = pk8 _ _
            unfold pk8
            rw [if_pos (by omega)]) (hP)
      · refine lv_aload_n hx hb dX3_findPeak_20 rfl (lv_at hl 0 rfl) ?_
        refine lv_iload hx hb dX3_findPeak_21 (lv_at hl 3 rfl) ?_
        refine z_cS (As := [.int (iI k)]) (rest := []) C (m_X3_shareOf (l := l) (g := g) (a := a) (aw := aw) (af := af) (ao := ao) (WA := wv (fun i => NU (row * 128 + (wi * 8 + i)))) (k := k) (h1 := by omega) (h2 := by omega)) (cwV 1 C.2.2.2.2 gX3_findPeak_X3_shareOf rfl rfl rfl (by decide +kernel) ⟨Nat.le_of_ble_eq_true rfl, Nat.le_of_ble_eq_true rfl⟩) hK hP [0, 1] rfl 0 rfl rfl rfl hl.1 rfl (Nat.le_of_ble_eq_true rfl) dX3_findPeak_23 ⟨Nat.zero_le _, Nat.zero_le _⟩ ?_
        have hsr := sh_rg (wv (fun i => NU (row * 128 + (wi * 8 + i)))) k
        refine lv_aload_n hx hb dX3_findPeak_26 rfl (lv_at hl 0 rfl) ?_
        refine lv_iload hx hb dX3_findPeak_27 (lv_at hl 2 rfl) ?_
        refine z_cS (As := [.int (iI (bs (sh (wv (fun i => NU (row * 128 + (wi * 8 + i))))) k))]) (rest := [.int (iI (sh (wv (fun i => NU (row * 128 + (wi * 8 + i)))) k))]) C (m_X3_shareOf (l := l) (g := g) (a := a) (aw := aw) (af := af) (ao := ao) (WA := wv (fun i => NU (row * 128 + (wi * 8 + i)))) (k := bs (sh (wv (fun i => NU (row * 128 + (wi * 8 + i))))) k) (h1 := by omega) (h2 := by omega)) (cwV 1 C.2.2.2.2 gX3_findPeak_X3_shareOf rfl rfl rfl (by decide +kernel) ⟨Nat.le_of_ble_eq_true rfl, Nat.le_of_ble_eq_true rfl⟩) hK hP [0, 1] rfl 0 rfl rfl rfl hl.1 rfl (Nat.le_of_ble_eq_true rfl) dX3_findPeak_29 ⟨Nat.zero_le _, Nat.zero_le _⟩ ?_
        have hsr := sh_rg (wv (fun i => NU (row * 128 + (wi * 8 + i)))) (bs (sh (wv (fun i => NU (row * 128 + (wi * 8 + i))))) k)
        refine z_icmp_le (tgt := 39) hx hb dX3_findPeak_32 (by decide) (by omega) (by omega) (fun hc => ?_) (fun hc => ?_)
        · refine z_iinc (b := k + 1) (lv' := [(5, .int (iI (k + 1))), (0, .ref a), (1, .ref h), (4, .int (iI (bs (sh (wv (fun i => NU (row * 128 + (wi * 8 + i))))) k)))]) hx hb dX3_findPeak_39 hl (k := 3) rfl (rfl) (by decide) rfl (fun ls hl => ?_)
          refine lv_goto (tgt := 13) hx hb dX3_findPeak_42 (by decide) ?_
          have hl := lv_chg hl 3 (b := bs (sh (wv (fun i => NU (row * 128 + (wi * 8 + i))))) (k + 1)) rfl ((bs_f (by omega) hc).symm)
          have hl : lv_has ls 6 [(5, .int (iI (k + 1))), (0, .ref a), (1, .ref h), (4, .int (iI (bs (sh (wv (fun i => NU (row * 128 + (wi * 8 + i))))) (k + 1))))] := hl
          exact ih13 (k + 1) (by omega) (by omega) (by omega) H locs ls (lv_sub hl [1, 2, 3, 0] rfl) (hP) (hD) hS
        · refine lv_iload hx hb dX3_findPeak_35 (lv_at hl 3 rfl) ?_
          refine lv_istore (lv' := [(4, .int (iI k)), (0, .ref a), (1, .ref h), (5, .int (iI k))]) hx hb dX3_findPeak_37 hl (by decide) rfl (fun ls hl => ?_)
          refine z_iinc (b := k + 1) (lv' := [(5, .int (iI (k + 1))), (4, .int (iI k)), (0, .ref a), (1, .ref h)]) hx hb dX3_findPeak_39 hl (k := 3) rfl (rfl) (by decide) rfl (fun ls hl => ?_)
          refine lv_goto (tgt := 13) hx hb dX3_findPeak_42 (by decide) ?_
          have hl := lv_chg hl 1 (b := bs (sh (wv (fun i => NU (row * 128 + (wi * 8 + i))))) (k + 1)) rfl ((bs_t (by omega) hc).symm)
          have hl : lv_has ls 6 [(5, .int (iI (k + 1))), (4, .int (iI (bs (sh (wv (fun i => NU (row * 128 + (wi * 8 + i))))) (k + 1)))), (0, .ref a), (1, .ref h)] := hl
          exact ih13 (k + 1) (by omega) (by omega) (by omega) H locs ls (lv_sub hl [2, 3, 1, 0] rfl) (hP) (hD) hS
  have hl := lv_chg hl 1 (b := bs (sh (wv (fun i => NU (row * 128 + (wi * 8 + i))))) 2) rfl ((bs_2 _).symm)
  have hl : lv_has ls 6 [(5, .int (iI 2)), (4, .int (iI (bs (sh (wv (fun i => NU (row * 128 + (wi * 8 + i))))) 2))), (0, .ref a), (1, .ref h), (2, .int (iI row)), (3, .int (iI wi))] := hl
  exact L13 (9) 2 (by omega) (by omega) (by omega) H locs ls (lv_sub hl [2, 3, 1, 0] rfl) (hP) (hD) hS
set_option maxHeartbeats 4000000 in
set_option maxRecDepth 100000 in
theorem m_X3_shareIn (l : Launch) (g : zG) (a aw af ao : Nat) (h hn hs : Nat) (fl re : Int) (WA NU : Int → Int) (row wi wave : Int) (h1 : 0 ≤ row) (h2 : row < 5) (w1 : 0 ≤ wi) (w2 : wi < 16) (v1 : 0 ≤ wave) (v2 : wave < 8) : zE l yX3_shareIn wsX3_shareIn ({ frames := 2, cells := 0, slots := 0, locals := 48 }) g [.ref a, .ref h, .int (iI row), .int (iI wi), .int (iI wave)] [(a, .inr (3, [.ref aw, .ref af, .ref ao])), zI g aw 8 WA, (h, .inr (4, [.ref hn, .ref hs, .int (iI fl), .int (iI re)])), zI g hn 640 NU] (S := Unit) (fun r _ => r = sh (wv (fun i => NU (row * 128 + (wi * 8 + i)))) wave) (fun _ => [(a, .inr (3, [.ref aw, .ref af, .ref ao])), zI g aw 8 (wv (fun i => NU (row * 128 + (wi * 8 + i)))), (h, .inr (4, [.ref hn, .ref hs, .int (iI fl), .int (iI re)])), zI g hn 640 NU]) := by
  refine z_entE (cc := cX3_shareIn) (nL := 5) (ret := (some .int)) (own := RX3) (by decide) rfl rfl (Nat.le_of_ble_eq_true rfl) ?_
  intro p e s m below meth c Q ls A C hlk hr hQ hP hK hD hA hS hl
  have hx := C.1
  have hb := C.2.1
  have hl : lv_has ls 5 [(0, .ref a), (1, .ref h), (2, .int (iI row)), (3, .int (iI wi)), (4, .int (iI wave))] := hl
  obtain ⟨H, hHe⟩ : ∃ H, H = s.heap := ⟨_, rfl⟩
  obtain ⟨locs, hLe⟩ : ∃ q : List Loc, q = [] := ⟨_, rfl⟩
  have hP : zP g [(a, .inr (3, [.ref aw, .ref af, .ref ao])), zI g aw 8 WA, (h, .inr (4, [.ref hn, .ref hs, .int (iI fl), .int (iI re)])), zI g hn 640 NU] H := by rw [hHe]; exact hP
  have hS : va_S A s.heap H locs := by rw [hHe, hLe]; exact hS
  suffices hgo : W p l e ({ frames := 2, cells := 0, slots := 0, locals := 48 }) s m ([.ref a, .ref h, .int (iI row), .int (iI wi), .int (iI wave)] : List Value).toArray below meth c H locs 0 0 Q (F0 m 0 ls []) by rw [hHe, hLe] at hgo; exact hgo
  clear hHe hLe
  refine lv_aload_n hx hb dX3_shareIn_0 rfl (lv_at hl 0 rfl) ?_
  refine lv_aload_n hx hb dX3_shareIn_1 rfl (lv_at hl 1 rfl) ?_
  refine lv_iload_n hx hb dX3_shareIn_2 rfl (lv_at hl 2 rfl) ?_
  refine lv_iload_n hx hb dX3_shareIn_3 rfl (lv_at hl 3 rfl) ?_
  refine z_cV (As := [.ref h, .int (iI row), .int (iI wi)]) (rest := []) C (m_X3_turn (l := l) (g := g) (a := a) (aw := aw) (af := af) (ao := ao) (h := h) (hn := hn) (hs := hs) (fl := fl) (re := re) (WA := WA) (NU := NU) (row := row) (wi := wi) (h1 := by omega) (h2 := by omega) (w1 := by omega) (w2 := by omega)) (cwV 3 C.2.2.2.2 gX3_shareIn_X3_turn rfl rfl rfl (by decide +kernel) ⟨Nat.le_of_ble_eq_true rfl, Nat.le_of_ble_eq_true rfl⟩) hK hP hD hS hA [0, 1, 2, 3] (by decide) rfl (fun _ => rfl) 0 rfl rfl rfl hl.1 rfl (Nat.le_of_ble_eq_true rfl) dX3_shareIn_4 ⟨Nat.zero_le _, Nat.zero_le _⟩ (fun u_1 H locs hq_2 hP hD hS => ?_)
  have hP : zP g [(a, .inr (3, [.ref aw, .ref af, .ref ao])), zI g aw 8 (wv (fun i => NU (row * 128 + (wi * 8 + i)))), (h, .inr (4, [.ref hn, .ref hs, .int (iI fl), .int (iI re)])), zI g hn 640 NU] H := hP
  have hD : va_D A [(a, .inr (3, [.ref aw, .ref af, .ref ao])), zI g aw 8 (wv (fun i => NU (row * 128 + (wi * 8 + i)))), (h, .inr (4, [.ref hn, .ref hs, .int (iI fl), .int (iI re)])), zI g hn 640 NU] := hD
  refine lv_aload_n hx hb dX3_shareIn_7 rfl (lv_at hl 0 rfl) ?_
  refine lv_iload hx hb dX3_shareIn_8 (lv_at hl 4 rfl) ?_
  refine z_cS (As := [.int (iI wave)]) (rest := []) C (m_X3_shareOf (l := l) (g := g) (a := a) (aw := aw) (af := af) (ao := ao) (WA := wv (fun i => NU (row * 128 + (wi * 8 + i)))) (k := wave) (h1 := by omega) (h2 := by omega)) (cwV 1 C.2.2.2.2 gX3_shareIn_X3_shareOf rfl rfl rfl (by decide +kernel) ⟨Nat.le_of_ble_eq_true rfl, Nat.le_of_ble_eq_true rfl⟩) hK hP [0, 1] rfl 0 rfl rfl rfl hl.1 rfl (Nat.le_of_ble_eq_true rfl) dX3_shareIn_10 ⟨Nat.zero_le _, Nat.zero_le _⟩ ?_
  have hsr := sh_rg (wv (fun i => NU (row * 128 + (wi * 8 + i)))) wave
  exact z_retE hx hb hlk hr hQ dX3_shareIn_13 hS () (rfl) (hP)
set_option maxRecDepth 20000 in
theorem in_X3_peakOf_X3 : ∀ w ∈ u_ws RX3 TX3 3, w ∈ wsX3_peakOf := zmem_of _ [2, 3, 4] (by decide +kernel)
set_option maxHeartbeats 4000000 in
set_option maxRecDepth 100000 in
theorem m_X3_peakOf (l : Launch) (g : zG) (a aw af ao : Nat) (FD : Int → Int) (row w : Int) (h1 : 0 ≤ row * 16 + w) (h2 : row * 16 + w < 80) : zS l yX3_peakOf wsX3_peakOf ({ frames := 0, cells := 0, slots := 0, locals := 0 }) g [.ref a, .int (iI row), .int (iI w)] [(a, .inr (3, [.ref aw, .ref af, .ref ao])), zI g af 80 FD] (FD (row * 16 + w)) := by
  refine z_entS (cc := cX3_peakOf) (nL := 3) (ret := (some .int)) (own := RX3) (by decide) rfl rfl (Nat.le_of_ble_eq_true rfl) ?_
  intro p e s m below meth c Q ls C hlk hr hQ hP hK hl
  have hx := C.1
  have hb := C.2.1
  have hl : lv_has ls 3 [(0, .ref a), (1, .int (iI row)), (2, .int (iI w))] := hl
  refine lv_aload_n hx hb dX3_peakOf_0 rfl (lv_at hl 0 rfl) ?_
  refine z_get (v := .ref af) (Cn := RX3) (T := TX3) (N := 3) (ci := 3) C in_X3_peakOf_X3 hK hP 0 rfl rfl 1 (by decide) (List.mem_of_getElem? (i := 1) rfl) rfl dX3_peakOf_1 ?_
  refine lv_iload_n hx hb dX3_peakOf_4 rfl (lv_at hl 1 rfl) ?_
  refine lv_bipush (v := iI 16) hx hb dX3_peakOf_5 (by decide +kernel) ?_
  refine z_imul hx hb dX3_peakOf_7 ?_
  refine lv_iload_n hx hb dX3_peakOf_8 rfl (lv_at hl 2 rfl) ?_
  refine z_iadd hx hb dX3_peakOf_9 ?_
  refine z_iald hx hb hK hP 1 rfl (by omega) (by omega) (Nat.le_of_ble_eq_true rfl) dX3_peakOf_10 ?_
  exact z_retS hx hb hlk hr hQ dX3_peakOf_11 (rfl)
