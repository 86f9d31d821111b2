set_option maxRecDepth 20000 in
theorem in_X1_fillEntries_X1 : ∀ w ∈ u_ws RX1 TX1 4, w ∈ wsX1_fillEntries := zmem_of _ [14, 15, 16, 17] (by decide +kernel)
set_option maxHeartbeats 4000000 in
set_option maxRecDepth 100000 in
theorem m_X1_fillEntries (l : Launch) (g : zG) (d ds df de : Nat) (un : Int) (a aw af ao : Nat) (EN FD : Int → Int) (re : Int) (r1 : 1 ≤ re) (r2 : re ≤ 5) (hF : ∀ j, -1 ≤ FD j ∧ FD j ≤ 7 ∧ FD j ≠ 0) (hT : stt FD re 384 ≤ 320) : zV l yX1_fillEntries wsX1_fillEntries ({ frames := 2, cells := 0, slots := 0, locals := 48 }) g [.ref d, .ref a, .int (iI re)] [(d, .inr (1, [.ref ds, .ref df, .ref de, .int (iI un)])), zI g ds 385 (stt FD re), zI g df 384 (fun _ => 0), zI g de 320 EN, (a, .inr (3, [.ref aw, .ref af, .ref ao])), zI g af 80 FD] (S := (Int → Int)) (fun u => enOK FD re u) (fun u => [(d, .inr (1, [.ref ds, .ref df, .ref de, .int (iI un)])), zI g ds 385 (stt FD re), zI g df 384 (fun x => cnt FD re x 64), zI g de 320 u, (a, .inr (3, [.ref aw, .ref af, .ref ao])), zI g af 80 FD]) := by
  refine z_entV (cc := cX1_fillEntries) (nL := 7) (ret := none) (own := RX1) (by decide) rfl rfl (Nat.le_of_ble_eq_true rfl) ?_
  intro p e s m below meth c Q ls A C hlk hr hQ hP hK hD hA hS hl
  have hx := C.1
  have hb := C.2.1
  have hl : lv_has ls 7 [(0, .ref d), (1, .ref a), (2, .int (iI re))] := hl
  obtain ⟨H, hHe⟩ : ∃ H, H = s.heap := ⟨_, rfl⟩
  obtain ⟨locs, hLe⟩ : ∃ q : List Loc, q = [] := ⟨_, rfl⟩
  have hP : zP g [(d, .inr (1, [.ref ds, .ref df, .ref de, .int (iI un)])), zI g ds 385 (stt FD re), zI g df 384 (fun _ => 0), zI g de 320 EN, (a, .inr (3, [.ref aw, .ref af, .ref ao])), zI g af 80 FD] H := by rw [hHe]; exact hP
  have hS : va_S A s.heap H locs := by rw [hHe, hLe]; exact hS
  suffices hgo : W p l e ({ frames := 2, cells := 0, slots := 0, locals := 48 }) s m ([.ref d, .ref a, .int (iI re)] : List Value).toArray below meth c H locs 0 0 Q (F0 m 0 ls []) by rw [hHe, hLe] at hgo; exact hgo
  clear hHe hLe
  refine lv_iconst (v := iI 0) hx hb dX1_fillEntries_0 rfl ?_
  refine lv_istore_n (lv' := [(3, .int (iI 0)), (0, .ref d), (1, .ref a), (2, .int (iI re))]) hx hb dX1_fillEntries_1 rfl hl (by decide) rfl (fun ls hl => ?_)
  have L2 : ∀ (n : Nat) (pc_ : Int) (FI : Int → Int) (EN : Int → Int), (i1 : 0 ≤ pc_) → (i2 : pc_ ≤ 4) → (i3 : ∀ j, 0 ≤ j → j < 384 → FI j = cnt FD re j (pc_ * 16)) → (i4 : enP FD re EN (pc_ * 16) 1) → (hms : 4 - pc_ < (n : Int)) → ∀ (H : Heap) (locs : List Loc) (ls : Array Slot), lv_has ls 7 [(0, .ref d), (1, .ref a), (2, .int (iI re)), (3, .int (iI pc_))] → zP g [(d, .inr (1, [.ref ds, .ref df, .ref de, .int (iI un)])), zI g ds 385 (stt FD re), zI g df 384 FI, zI g de 320 EN, (a, .inr (3, [.ref aw, .ref af, .ref ao])), zI g af 80 FD] H → va_D A [(d, .inr (1, [.ref ds, .ref df, .ref de, .int (iI un)])), zI g ds 385 (stt FD re), zI g df 384 FI, zI g de 320 EN, (a, .inr (3, [.ref aw, .ref af, .ref ao])), zI g af 80 FD] → va_S A s.heap H locs → W p l e ({ frames := 2, cells := 0, slots := 0, locals := 48 }) s m ([.ref d, .ref a, .int (iI re)] : List Value).toArray below meth c H locs 0 0 Q (F0 m 2 ls []) := by
    clear hP hD hS hl
    intro n
    induction n with
    | zero =>
      intro pc_ FI EN i1 i2 i3 i4 hms H locs ls hl hP hD hS
      exfalso; omega
    | succ n ih2 =>
      intro pc_ FI EN i1 i2 i3 i4 hms H locs ls hl hP hD hS
      refine lv_iload_n hx hb dX1_fillEntries_2 rfl (lv_at hl 3 rfl) ?_
      refine lv_iconst (v := iI 4) hx hb dX1_fillEntries_3 rfl ?_
      refine z_icmp_ge (tgt := 104) hx hb dX1_fillEntries_4 (by decide) (by omega) (by omega) (fun c_1 => ?_) (fun c_1 => ?_)
      · have hP := zP_arr hP 2 (fun x => cnt FD re x 64) rfl (fun j g1 g2 => by rw [i3 j g1 (by omega), show pc_ * 16 = 64 by omega])
        have hD := zD_set (c1 := (zI g df 384 (fun x => cnt FD re x 64)).2) hD 2 rfl
        have hP : zP g [(d, .inr (1, [.ref ds, .ref df, .ref de, .int (iI un)])), zI g ds 385 (stt FD re), zI g df 384 (fun x => cnt FD re x 64), zI g de 320 EN, (a, .inr (3, [.ref aw, .ref af, .ref ao])), zI g af 80 FD] H := hP
        have hD : va_D A [(d, .inr (1, [.ref ds, .ref df, .ref de, .int (iI un)])), zI g ds 385 (stt FD re), zI g df 384 (fun x => cnt FD re x 64), zI g de 320 EN, (a, .inr (3, [.ref aw, .ref af, .ref ao])), zI g af 80 FD] := hD
        exact z_retV hx hb hlk hr hQ dX1_fillEntries_104 hS EN (enP_ok (by rw [show pc_ * 16 = 64 by omega] at i4; exact i4)) (hP)
      · refine lv_iconst (v := iI 0) hx hb dX1_fillEntries_7 rfl ?_
        refine lv_istore (lv' := [(4, .int (iI 0)), (0, .ref d), (1, .ref a), (2, .int (iI re)), (3, .int (iI pc_))]) hx hb dX1_fillEntries_8 hl (by decide) rfl (fun ls hl => ?_)
        have L10 : ∀ (n : Nat) (v : Int) (FI : Int → Int) (EN : Int → Int), (j1 : 0 ≤ v) → (j2 : v ≤ 16) → (j3 : ∀ j, 0 ≤ j → j < 384 → FI j = cnt FD re j (pc_ * 16 + v)) → (j4 : enP FD re EN (pc_ * 16 + v) 1) → (hms : 16 - v < (n : Int)) → ∀ (H : Heap) (locs : List Loc) (ls : Array Slot), lv_has ls 7 [(0, .ref d), (1, .ref a), (2, .int (iI re)), (3, .int (iI pc_)), (4, .int (iI v))] → zP g [(d, .inr (1, [.ref ds, .ref df, .ref de, .int (iI un)])), zI g ds 385 (stt FD re), zI g df 384 FI, zI g de 320 EN, (a, .inr (3, [.ref aw, .ref af, .ref ao])), zI g af 80 FD] H → va_D A [(d, .inr (1, [.ref ds, .ref df, .ref de, .int (iI un)])), zI g ds 385 (stt FD re), zI g df 384 FI, zI g de 320 EN, (a, .inr (3, [.ref aw, .ref af, .ref ao])), zI g af 80 FD] → va_S A s.heap H locs → W p l e ({ frames := 2, cells := 0, slots := 0, locals := 48 }) s m ([.ref d, .ref a, .int (iI re)] : List Value).toArray below meth c H locs 0 0 Q (F0 m 10 ls []) := by
          clear hP hD hS hl
          intro n
          induction n with
          | zero =>
            intro v FI EN j1 j2 j3 j4 hms H locs ls hl hP hD hS
            exfalso; omega
          | succ n ih10 =>
            intro v FI EN j1 j2 j3 j4 hms H locs ls hl hP hD hS
            refine lv_iload hx hb dX1_fillEntries_10 (lv_at hl 4 rfl) ?_
            refine lv_bipush (v := iI 16) hx hb dX1_fillEntries_12 (by decide +kernel) ?_
            refine z_icmp_ge (tgt := 98) hx hb dX1_fillEntries_14 (by decide) (by omega) (by omega) (fun c_2 => ?_) (fun c_2 => ?_)
            · refine z_iinc (b := pc_ + 1) (lv' := [(3, .int (iI (pc_ + 1))), (0, .ref d), (1, .ref a), (2, .int (iI re)), (4, .int (iI v))]) hx hb dX1_fillEntries_98 hl (k := 3) rfl (rfl) (by decide) rfl (fun ls hl => ?_)
              refine lv_goto (tgt := 2) hx hb dX1_fillEntries_101 (by decide) ?_
              exact ih2 (pc_ + 1) FI EN (by omega) (by omega) (fun j g1 g2 => by rw [j3 j g1 g2, show v = 16 by omega, show pc_ * 16 + 16 = (pc_ + 1) * 16 by omega]) (by rw [show (pc_ + 1) * 16 = pc_ * 16 + v by omega]; exact j4) (by omega) H locs ls (lv_sub hl [1, 2, 3, 0] rfl) (hP) (hD) hS
            · refine lv_iconst (v := iI 1) hx hb dX1_fillEntries_17 rfl ?_
              refine lv_istore (lv' := [(5, .int (iI 1)), (0, .ref d), (1, .ref a), (2, .int (iI re)), (3, .int (iI pc_)), (4, .int (iI v))]) hx hb dX1_fillEntries_18 hl (by decide) rfl (fun ls hl => ?_)
              have L20 : ∀ (n : Nat) (far : Int) (FI : Int → Int) (EN : Int → Int), (k1 : 1 ≤ far) → (k2 : far ≤ re + 1) → (k3 : ∀ j, 0 ≤ j → j < 384 → FI j = cnt FD re j (pc_ * 16 + v) + par1 FD re pc_ v far j) → (k4 : enP FD re EN (pc_ * 16 + v) far) → (hms : re + 1 - far < (n : Int)) → ∀ (H : Heap) (locs : List Loc) (ls : Array Slot), lv_has ls 7 [(0, .ref d), (1, .ref a), (2, .int (iI re)), (3, .int (iI pc_)), (4, .int (iI v)), (5, .int (iI far))] → zP g [(d, .inr (1, [.ref ds, .ref df, .ref de, .int (iI un)])), zI g ds 385 (stt FD re), zI g df 384 FI, zI g de 320 EN, (a, .inr (3, [.ref aw, .ref af, .ref ao])), zI g af 80 FD] H → va_D A [(d, .inr (1, [.ref ds, .ref df, .ref de, .int (iI un)])), zI g ds 385 (stt FD re), zI g df 384 FI, zI g de 320 EN, (a, .inr (3, [.ref aw, .ref af, .ref ao])), zI g af 80 FD] → va_S A s.heap H locs → W p l e ({ frames := 2, cells := 0, slots := 0, locals := 48 }) s m ([.ref d, .ref a, .int (iI re)] : List Value).toArray below meth c H locs 0 0 Q (F0 m 20 ls []) := by
                clear hP hD hS hl
                intro n
                induction n with
                | zero =>
                  intro far FI EN k1 k2 k3 k4 hms H locs ls hl hP hD hS
                  exfalso; omega
                | succ n ih20 =>
                  intro far FI EN k1 k2 k3 k4 hms H locs ls hl hP hD hS
                  refine lv_iload hx hb dX1_fillEntries_20 (lv_at hl 5 rfl) ?_
                  refine lv_iload_n hx hb dX1_fillEntries_22 rfl (lv_at hl 2 rfl) ?_
                  refine z_icmp_gt (tgt := 92) hx hb dX1_fillEntries_23 (by decide) (by omega) (by omega) (fun c_3 => ?_) (fun c_3 => ?_)
                  · refine z_iinc (b := v + 1) (lv' := [(4, .int (iI (v + 1))), (0, .ref d), (1, .ref a), (2, .int (iI re)), (3, .int (iI pc_)), (5, .int (iI far))]) hx hb dX1_fillEntries_92 hl (k := 4) rfl (rfl) (by decide) rfl (fun ls hl => ?_)
                    refine lv_goto (tgt := 10) hx hb dX1_fillEntries_95 (by decide) ?_
                    exact ih10 (v + 1) FI EN (by omega) (by omega) (fun j g1 g2 => by rw [k3 j g1 g2, show far = re + 1 by omega, par1_end g1 hF r2, show pc_ * 16 + (v + 1) = pc_ * 16 + v + 1 by omega, cnt_s FD re j i1 j1 (by omega)]) (by rw [show pc_ * 16 + (v + 1) = pc_ * 16 + v + 1 by omega]; exact enP_end hF r2 (show far = re + 1 by omega ▸ k4)) (by omega) H locs ls (lv_sub hl [1, 2, 3, 4, 0] rfl) (hP) (hD) hS
                  · refine lv_aload_n hx hb dX1_fillEntries_26 rfl (lv_at hl 1 rfl) ?_
                    refine lv_iload_n hx hb dX1_fillEntries_27 rfl (lv_at hl 3 rfl) ?_
                    refine lv_iload hx hb dX1_fillEntries_28 (lv_at hl 4 rfl) ?_
                    refine lv_iload hx hb dX1_fillEntries_30 (lv_at hl 4 rfl) ?_
                    refine lv_iload hx hb dX1_fillEntries_32 (lv_at hl 5 rfl) ?_
                    refine z_iadd hx hb dX1_fillEntries_34 ?_
                    refine lv_iload_n hx hb dX1_fillEntries_35 rfl (lv_at hl 2 rfl) ?_
                    refine z_cS (As := [.int (iI pc_), .int (iI v), .int (iI (v + far)), .int (iI re)]) (rest := []) C (m_X3_keyOf (l := l) (g := g) (a := a) (aw := aw) (af := af) (ao := ao) (FD := FD) (row := pc_) (v := v) (w := v + far) (re := re) (h1 := by omega) (h2 := by omega) (v1 := by omega) (v2 := by omega) (v3 := by omega) (hF := hF)) (cwV 4 C.2.2.2.2 gX1_fillEntries_X3_keyOf rfl rfl rfl (by decide +kernel) ⟨Nat.le_of_ble_eq_true rfl, Nat.le_of_ble_eq_true rfl⟩) hK hP [4, 5] rfl 4 rfl rfl rfl hl.1 rfl (Nat.le_of_ble_eq_true rfl) dX1_fillEntries_36 ⟨Nat.zero_le _, Nat.zero_le _⟩ ?_
                    refine lv_istore (lv' := [(6, .int (iI (kyf FD re pc_ v (v + far)))), (0, .ref d), (1, .ref a), (2, .int (iI re)), (3, .int (iI pc_)), (4, .int (iI v)), (5, .int (iI far))]) hx hb dX1_fillEntries_39 hl (by decide) rfl (fun ls hl => ?_)
                    have hkr := kyf_rg hF re pc_ v (v + far) (by omega)
                    refine lv_iload hx hb dX1_fillEntries_41 (lv_at hl 0 rfl) ?_
                    refine lv_iconst (v := iI (-1)) hx hb dX1_fillEntries_43 rfl ?_
                    refine z_icmp_eq (tgt := 86) hx hb dX1_fillEntries_44 (by decide) (by omega) (by omega) (fun hc => ?_) (fun hc => ?_)
                    · refine z_iinc (b := far + 1) (lv' := [(5, .int (iI (far + 1))), (6, .int (iI (kyf FD re pc_ v (v + far)))), (0, .ref d), (1, .ref a), (2, .int (iI re)), (3, .int (iI pc_)), (4, .int (iI v))]) hx hb dX1_fillEntries_86 hl (k := 6) rfl (rfl) (by decide) rfl (fun ls hl => ?_)
                      refine lv_goto (tgt := 20) hx hb dX1_fillEntries_89 (by decide) ?_
                      exact ih20 (far + 1) FI EN (by omega) (by omega) (fun j g1 g2 => by rw [par1_no g1 hc]; exact k3 j g1 g2) (enP_no j1 (by omega) hc k4) (by omega) H locs ls (lv_sub hl [2, 3, 4, 5, 6, 0] rfl) (hP) (hD) hS
                    · have hy := par1_yes hF r2 hc
                      have e9 : FI (kyf FD re pc_ v (v + far)) = cnt FD re (kyf FD re pc_ v (v + far)) (pc_ * 16 + v) := by rw [k3 _ (by omega) (by omega), hy.1]; omega
                      have hbd := en_bd (by omega) (by omega) (by omega) (by omega) (std_at hF r2 j1 (by omega) hc) hT
                      refine lv_aload_n hx hb dX1_fillEntries_47 rfl (lv_at hl 1 rfl) ?_
                      refine z_get (v := .ref de) (Cn := RX1) (T := TX1) (N := 4) (ci := 1) C in_X1_fillEntries_X1 hK hP 0 rfl rfl 2 (by decide) (List.mem_of_getElem? (i := 1) rfl) rfl dX1_fillEntries_48 ?_
                      refine lv_aload_n hx hb dX1_fillEntries_51 rfl (lv_at hl 1 rfl) ?_
                      refine z_get (v := .ref ds) (Cn := RX1) (T := TX1) (N := 4) (ci := 1) C in_X1_fillEntries_X1 hK hP 0 rfl rfl 0 (by decide) (List.mem_of_getElem? (i := 2) rfl) rfl dX1_fillEntries_52 ?_
                      refine lv_iload hx hb dX1_fillEntries_55 (lv_at hl 0 rfl) ?_
                      refine z_iald hx hb hK hP 1 rfl (by omega) (by omega) (Nat.le_of_ble_eq_true rfl) dX1_fillEntries_57 ?_
                      refine lv_aload_n hx hb dX1_fillEntries_58 rfl (lv_at hl 1 rfl) ?_
                      refine z_get (v := .ref df) (Cn := RX1) (T := TX1) (N := 4) (ci := 1) C in_X1_fillEntries_X1 hK hP 0 rfl rfl 1 (by decide) (List.mem_of_getElem? (i := 3) rfl) rfl dX1_fillEntries_59 ?_
                      refine lv_iload hx hb dX1_fillEntries_62 (lv_at hl 0 rfl) ?_
                      refine z_iald hx hb hK hP 2 rfl (by omega) (by omega) (Nat.le_of_ble_eq_true rfl) dX1_fillEntries_64 ?_
                      refine z_iadd hx hb dX1_fillEntries_65 ?_
                      refine lv_sipush (v := iI 1000) hx hb dX1_fillEntries_66 (by decide +kernel) ?_
                      refine lv_iload_n hx hb dX1_fillEntries_69 rfl (lv_at hl 4 rfl) ?_
                      refine z_imul hx hb dX1_fillEntries_70 ?_
                      refine lv_iload hx hb dX1_fillEntries_71 (lv_at hl 5 rfl) ?_
                      refine z_iadd hx hb dX1_fillEntries_73 ?_
                      refine z_iast hx hb hK hP hD hS 3 rfl (by omega) (by omega) (Nat.le_of_ble_eq_true rfl) dX1_fillEntries_74 (fun H locs hP hD hS => ?_)
                      have hP : zP g [(d, .inr (1, [.ref ds, .ref df, .ref de, .int (iI un)])), zI g ds 385 (stt FD re), zI g df 384 FI, zI g de 320 (ups EN (((stt FD re) (kyf FD re pc_ v (v + far))) + (FI (kyf FD re pc_ v (v + far)))) ((1000 * pc_) + v)), (a, .inr (3, [.ref aw, .ref af, .ref ao])), zI g af 80 FD] H := hP
                      have hD : va_D A [(d, .inr (1, [.ref ds, .ref df, .ref de, .int (iI un)])), zI g ds 385 (stt FD re), zI g df 384 FI, zI g de 320 (ups EN (((stt FD re) (kyf FD re pc_ v (v + far))) + (FI (kyf FD re pc_ v (v + far)))) ((1000 * pc_) + v)), (a, .inr (3, [.ref aw, .ref af, .ref ao])), zI g af 80 FD] := hD
                      refine lv_aload_n hx hb dX1_fillEntries_75 rfl (lv_at hl 1 rfl) ?_
                      refine z_get (v := .ref df) (Cn := RX1) (T := TX1) (N := 4) (ci := 1) C in_X1_fillEntries_X1 hK hP 0 rfl rfl 1 (by decide) (List.mem_of_getElem? (i := 3) rfl) rfl dX1_fillEntries_76 ?_
                      refine lv_iload hx hb dX1_fillEntries_79 (lv_at hl 0 rfl) ?_
                      refine lv_dup2_11 hx hb dX1_fillEntries_81 rfl rfl ?_
                      refine z_iald hx hb hK hP 2 rfl (by omega) (by omega) (Nat.le_of_ble_eq_true rfl) dX1_fillEntries_82 ?_
                      refine lv_iconst (v := iI 1) hx hb dX1_fillEntries_83 rfl ?_
                      refine z_iadd hx hb dX1_fillEntries_84 ?_
                      refine z_iast hx hb hK hP hD hS 2 rfl (by omega) (by omega) (Nat.le_of_ble_eq_true rfl) dX1_fillEntries_85 (fun H locs hP hD hS => ?_)
                      have hP : zP g [(d, .inr (1, [.ref ds, .ref df, .ref de, .int (iI un)])), zI g ds 385 (stt FD re), zI g df 384 (ups FI (kyf FD re pc_ v (v + far)) ((FI (kyf FD re pc_ v (v + far))) + 1)), zI g de 320 (ups EN (((stt FD re) (kyf FD re pc_ v (v + far))) + (FI (kyf FD re pc_ v (v + far)))) ((1000 * pc_) + v)), (a, .inr (3, [.ref aw, .ref af, .ref ao])), zI g af 80 FD] H := hP
                      have hD : va_D A [(d, .inr (1, [.ref ds, .ref df, .ref de, .int (iI un)])), zI g ds 385 (stt FD re), zI g df 384 (ups FI (kyf FD re pc_ v (v + far)) ((FI (kyf FD re pc_ v (v + far))) + 1)), zI g de 320 (ups EN (((stt FD re) (kyf FD re pc_ v (v + far))) + (FI (kyf FD re pc_ v (v + far)))) ((1000 * pc_) + v)), (a, .inr (3, [.ref aw, .ref af, .ref ao])), zI g af 80 FD] := hD
                      refine z_iinc (b := far + 1) (lv' := [(5, .int (iI (far + 1))), (6, .int (iI (kyf FD re pc_ v (v + far)))), (0, .ref d), (1, .ref a), (2, .int (iI re)), (3, .int (iI pc_)), (4, .int (iI v))]) hx hb dX1_fillEntries_86 hl (k := 6) rfl (rfl) (by decide) rfl (fun ls hl => ?_)
                      refine lv_goto (tgt := 20) hx hb dX1_fillEntries_89 (by decide) ?_
                      exact ih20 (far + 1) (ups FI (kyf FD re pc_ v (v + far)) ((FI (kyf FD re pc_ v (v + far))) + 1)) (ups EN (((stt FD re) (kyf FD re pc_ v (v + far))) + (FI (kyf FD re pc_ v (v + far)))) ((1000 * pc_) + v)) (by omega) (by omega) (fun j g1 g2 => by by_cases hj : j = kyf FD re pc_ v (v + far); (· rw [hj, ups_s, hy.2, k3 _ (by omega) (by omega), hy.1]; omega); (· rw [ups_n _ _ hj, par1_ne hc hj]; exact k3 j g1 g2)) (by rw [e9]; exact enP_yes hF r2 i1 (by omega) j1 (by omega) hc k4) (by omega) H locs ls (lv_sub hl [2, 3, 4, 5, 6, 0] rfl) (hP) (hD) hS
              exact L20 (7) 1 FI EN (by omega) (by omega) (fun j g1 g2 => by rw [j3 j g1 g2, par1_1 g1 hF r2]; omega) (j4) (by omega) H locs ls (lv_sub hl [1, 2, 3, 4, 5, 0] rfl) (hP) (hD) hS
        exact L10 (17) 0 FI EN (by omega) (by omega) (fun j g1 g2 => by rw [i3 j g1 g2, show pc_ * 16 + 0 = pc_ * 16 by omega]) (by rw [show pc_ * 16 + 0 = pc_ * 16 by omega]; exact i4) (by omega) H locs ls (lv_sub hl [1, 2, 3, 4, 0] rfl) (hP) (hD) hS
  exact L2 (5) 0 (fun _ => 0) EN (by omega) (by omega) (fun j g1 g2 => by rw [show (0 : Int) * 16 = 0 by omega, cnt_0]) (by rw [show (0 : Int) * 16 = 0 by omega]; exact enP_0 hF r2 _) (by omega) H locs ls (lv_sub hl [1, 2, 3, 0] rfl) (hP) (hD) hS
set_option maxHeartbeats 4000000 in
set_option maxRecDepth 100000 in
theorem m_X1_write (l : Launch) (g : zG) (d ds df de : Nat) (un : Int) (a aw af ao : Nat) (ST FI EN FD : Int → Int) (re : Int) (r1 : 1 ≤ re) (r2 : re ≤ 5) (hF : ∀ j, -1 ≤ FD j ∧ FD j ≤ 7 ∧ FD j ≠ 0) : zV l yX1_write wsX1_write ({ frames := 3, cells := 0, slots := 0, locals := 74 }) g [.ref d, .ref a, .int (iI re)] [(d, .inr (1, [.ref ds, .ref df, .ref de, .int (iI un)])), zI g ds 385 ST, zI g df 384 FI, zI g de 320 EN, (a, .inr (3, [.ref aw, .ref af, .ref ao])), zI g af 80 FD] (S := (Int → Int)) (fun u => enOK FD re u ∧ stt FD re 384 ≤ 320) (fun u => [(d, .inr (1, [.ref ds, .ref df, .ref de, .int (iI (sumZ (fun x => bI (0 < cnt FD re x 64)) 384))])), zI g ds 385 (stt FD re), zI g df 384 (fun x => cnt FD re x 64), zI g de 320 u, (a, .inr (3, [.ref aw, .ref af, .ref ao])), zI g af 80 FD]) := by
  refine z_entV (cc := cX1_write) (nL := 3) (ret := none) (own := RX1) (by decide) rfl rfl (Nat.le_of_ble_eq_true rfl) ?_
  intro p e s m below meth c Q ls A C hlk hr hQ hP hK hD hA hS hl
  have hx := C.1
  have hb := C.2.1
  have hl : lv_has ls 3 [(0, .ref d), (1, .ref a), (2, .int (iI re))] := hl
  obtain ⟨H, hHe⟩ : ∃ H, H = s.heap := ⟨_, rfl⟩
  obtain ⟨locs, hLe⟩ : ∃ q : List Loc, q = [] := ⟨_, rfl⟩
  have hP : zP g [(d, .inr (1, [.ref ds, .ref df, .ref de, .int (iI un)])), zI g ds 385 ST, zI g df 384 FI, zI g de 320 EN, (a, .inr (3, [.ref aw, .ref af, .ref ao])), zI g af 80 FD] H := by rw [hHe]; exact hP
  have hS : va_S A s.heap H locs := by rw [hHe, hLe]; exact hS
  suffices hgo : W p l e ({ frames := 3, cells := 0, slots := 0, locals := 74 }) s m ([.ref d, .ref a, .int (iI re)] : List Value).toArray below meth c H locs 0 0 Q (F0 m 0 ls []) by rw [hHe, hLe] at hgo; exact hgo
  clear hHe hLe
  refine lv_aload_n hx hb dX1_write_0 rfl (lv_at hl 0 rfl) ?_
  refine lv_aload_n hx hb dX1_write_1 rfl (lv_at hl 1 rfl) ?_
  refine lv_iload_n hx hb dX1_write_2 rfl (lv_at hl 2 rfl) ?_
  refine z_cV (As := [.ref a, .int (iI re)]) (rest := []) C (m_X1_countKeys (l := l) (g := g) (d := d) (ds := ds) (df := df) (de := de) (un := un) (a := a) (aw := aw) (af := af) (ao := ao) (FI := FI) (FD := FD) (re := re) (r1 := by omega) (r2 := by omega) (hF := hF)) (cwV 2 C.2.2.2.2 gX1_write_X1_countKeys rfl rfl rfl (by decide +kernel) ⟨Nat.le_of_ble_eq_true rfl, Nat.le_of_ble_eq_true rfl⟩) hK hP hD hS hA [0, 2, 4, 5] (by decide) rfl (fun _ => rfl) 0 rfl rfl rfl hl.1 rfl (Nat.le_of_ble_eq_true rfl) dX1_write_3 ⟨Nat.zero_le _, Nat.zero_le _⟩ (fun u_1 H locs hT hP hD hS => ?_)
  have hP : zP g [(d, .inr (1, [.ref ds, .ref df, .ref de, .int (iI un)])), zI g ds 385 ST, zI g df 384 (fun x => cnt FD re x 64), zI g de 320 EN, (a, .inr (3, [.ref aw, .ref af, .ref ao])), zI g af 80 FD] H := hP
  have hD : va_D A [(d, .inr (1, [.ref ds, .ref df, .ref de, .int (iI un)])), zI g ds 385 ST, zI g df 384 (fun x => cnt FD re x 64), zI g de 320 EN, (a, .inr (3, [.ref aw, .ref af, .ref ao])), zI g af 80 FD] := hD
  refine lv_aload_n hx hb dX1_write_6 rfl (lv_at hl 0 rfl) ?_
  refine z_cV (As := []) (rest := []) C (m_X1_setStarts (l := l) (g := g) (d := d) (ds := ds) (df := df) (de := de) (un := un) (ST := ST) (FI := fun x => cnt FD re x 64) (f1 := fun j => by have := cnt_rg FD re j (J := 64) (by omega); omega)) (cwV 0 C.2.2.2.2 gX1_write_X1_setStarts rfl rfl rfl (by decide +kernel) ⟨Nat.le_of_ble_eq_true rfl, Nat.le_of_ble_eq_true rfl⟩) hK hP hD hS hA [0, 1, 2] (by decide) rfl (fun _ => rfl) 0 rfl rfl rfl hl.1 rfl (Nat.le_of_ble_eq_true rfl) dX1_write_7 ⟨Nat.zero_le _, Nat.zero_le _⟩ (fun u_2 H locs hq_3 hP hD hS => ?_)
  have hP : zP g [(d, .inr (1, [.ref ds, .ref df, .ref de, .int (iI (sumZ (fun x => bI (0 < (fun x => cnt FD re x 64) x)) 384))])), zI g ds 385 (fun x => sumZ (fun x => cnt FD re x 64) x), zI g df 384 (fun _ => 0), zI g de 320 EN, (a, .inr (3, [.ref aw, .ref af, .ref ao])), zI g af 80 FD] H := hP
  have hD : va_D A [(d, .inr (1, [.ref ds, .ref df, .ref de, .int (iI (sumZ (fun x => bI (0 < (fun x => cnt FD re x 64) x)) 384))])), zI g ds 385 (fun x => sumZ (fun x => cnt FD re x 64) x), zI g df 384 (fun _ => 0), zI g de 320 EN, (a, .inr (3, [.ref aw, .ref af, .ref ao])), zI g af 80 FD] := hD
  have hP := zP_arr hP 1 (stt FD re) rfl (fun j _ _ => rfl)
  have hD := zD_set (c1 := (zI g ds 385 (stt FD re)).2) hD 1 rfl
  have hP : zP g [(d, .inr (1, [.ref ds, .ref df, .ref de, .int (iI (sumZ (fun x => bI (0 < (fun x => cnt FD re x 64) x)) 384))])), zI g ds 385 (stt FD re), zI g df 384 (fun _ => 0), zI g de 320 EN, (a, .inr (3, [.ref aw, .ref af, .ref ao])), zI g af 80 FD] H := hP
  have hD : va_D A [(d, .inr (1, [.ref ds, .ref df, .ref de, .int (iI (sumZ (fun x => bI (0 < (fun x => cnt FD re x 64) x)) 384))])), zI g ds 385 (stt FD re), zI g df 384 (fun _ => 0), zI g de 320 EN, (a, .inr (3, [.ref aw, .ref af, .ref ao])), zI g af 80 FD] := hD
  refine lv_aload_n hx hb dX1_write_10 rfl (lv_at hl 0 rfl) ?_
  refine lv_aload_n hx hb dX1_write_11 rfl (lv_at hl 1 rfl) ?_
  refine lv_iload_n hx hb dX1_write_12 rfl (lv_at hl 2 rfl) ?_
  refine z_cV (As := [.ref a, .int (iI re)]) (rest := []) C (m_X1_fillEntries (l := l) (g := g) (d := d) (ds := ds) (df := df) (de := de) (un := sumZ (fun x => bI (0 < (fun x => cnt FD re x 64) x)) 384) (a := a) (aw := aw) (af := af) (ao := ao) (EN := EN) (FD := FD) (re := re) (r1 := by omega) (r2 := by omega) (hF := hF) (hT := hT)) (cwV 2 C.2.2.2.2 gX1_write_X1_fillEntries rfl rfl rfl (by decide +kernel) ⟨Nat.le_of_ble_eq_true rfl, Nat.le_of_ble_eq_true rfl⟩) hK hP hD hS hA [0, 1, 2, 3, 4, 5] (by decide) rfl (fun _ => rfl) 0 rfl rfl rfl hl.1 rfl (Nat.le_of_ble_eq_true rfl) dX1_write_13 ⟨Nat.zero_le _, Nat.zero_le _⟩ (fun EN H locs hE hP hD hS => ?_)
  have hP : zP g [(d, .inr (1, [.ref ds, .ref df, .ref de, .int (iI (sumZ (fun x => bI (0 < (fun x => cnt FD re x 64) x)) 384))])), zI g ds 385 (stt FD re), zI g df 384 (fun x => cnt FD re x 64), zI g de 320 EN, (a, .inr (3, [.ref aw, .ref af, .ref ao])), zI g af 80 FD] H := hP
  have hD : va_D A [(d, .inr (1, [.ref ds, .ref df, .ref de, .int (iI (sumZ (fun x => bI (0 < (fun x => cnt FD re x 64) x)) 384))])), zI g ds 385 (stt FD re), zI g df 384 (fun x => cnt FD re x 64), zI g de 320 EN, (a, .inr (3, [.ref aw, .ref af, .ref ao])), zI g af 80 FD] := hD
  exact z_retV hx hb hlk hr hQ dX1_write_16 hS EN (⟨hE, hT⟩) (hP)
