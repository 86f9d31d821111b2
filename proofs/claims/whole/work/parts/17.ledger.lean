set_option maxRecDepth 20000 in
theorem in_X1_countKeys_X1 : ∀ w ∈ u_ws RX1 TX1 4, w ∈ wsX1_countKeys := zmem_of _ [12, 13, 14, 15] (by decide +kernel)
set_option maxHeartbeats 4000000 in
set_option maxRecDepth 100000 in
theorem m_X1_countKeys (l : Launch) (g : zG) (d ds df de : Nat) (un : Int) (a aw af ao : Nat) (FI FD : Int → Int) (re : Int) (r1 : 1 ≤ re) (r2 : re ≤ 5) (hF : ∀ j, -1 ≤ FD j ∧ FD j ≤ 7 ∧ FD j ≠ 0) : zV l yX1_countKeys wsX1_countKeys ({ frames := 2, cells := 0, slots := 0, locals := 48 }) g [.ref d, .ref a, .int (iI re)] [(d, .inr (1, [.ref ds, .ref df, .ref de, .int (iI un)])), zI g df 384 FI, (a, .inr (3, [.ref aw, .ref af, .ref ao])), zI g af 80 FD] (S := Unit) (fun _ => stt FD re 384 ≤ 320) (fun _ => [(d, .inr (1, [.ref ds, .ref df, .ref de, .int (iI un)])), zI g df 384 (fun x => cnt FD re x 64), (a, .inr (3, [.ref aw, .ref af, .ref ao])), zI g af 80 FD]) := by
  refine z_entV (cc := cX1_countKeys) (nL := 7) (ret := none) (own := RX1) (by decide) rfl rfl (Nat.le_of_ble_eq_true rfl) ?_
  intro p e s m below meth c Q ls A C hlk hr hQ hP hK hD hA hS hl
  have hx := C.1
  have hb := C.2.1
  have hl : lv_has ls 7 [(0, .ref d), (1, .ref a), (2, .int (iI re))] := hl
  obtain ⟨H, hHe⟩ : ∃ H, H = s.heap := ⟨_, rfl⟩
  obtain ⟨locs, hLe⟩ : ∃ q : List Loc, q = [] := ⟨_, rfl⟩
  have hP : zP g [(d, .inr (1, [.ref ds, .ref df, .ref de, .int (iI un)])), zI g df 384 FI, (a, .inr (3, [.ref aw, .ref af, .ref ao])), zI g af 80 FD] H := by rw [hHe]; exact hP
  have hS : va_S A s.heap H locs := by rw [hHe, hLe]; exact hS
  suffices hgo : W p l e ({ frames := 2, cells := 0, slots := 0, locals := 48 }) s m ([.ref d, .ref a, .int (iI re)] : List Value).toArray below meth c H locs 0 0 Q (F0 m 0 ls []) by rw [hHe, hLe] at hgo; exact hgo
  clear hHe hLe
  refine lv_iconst (v := iI 0) hx hb dX1_countKeys_0 rfl ?_
  refine lv_istore_n (lv' := [(3, .int (iI 0)), (0, .ref d), (1, .ref a), (2, .int (iI re))]) hx hb dX1_countKeys_1 rfl hl (by decide) rfl (fun ls hl => ?_)
  have L2 : ∀ (n : Nat) (k : Int) (FI : Int → Int), (i1 : 0 ≤ k) → (i2 : k ≤ 384) → (i3 : ∀ j, 0 ≤ j → j < k → FI j = 0) → (hms : 384 - k < (n : Int)) → ∀ (H : Heap) (locs : List Loc) (ls : Array Slot), lv_has ls 7 [(0, .ref d), (1, .ref a), (2, .int (iI re)), (3, .int (iI k))] → zP g [(d, .inr (1, [.ref ds, .ref df, .ref de, .int (iI un)])), zI g df 384 FI, (a, .inr (3, [.ref aw, .ref af, .ref ao])), zI g af 80 FD] H → va_D A [(d, .inr (1, [.ref ds, .ref df, .ref de, .int (iI un)])), zI g df 384 FI, (a, .inr (3, [.ref aw, .ref af, .ref ao])), zI g af 80 FD] → va_S A s.heap H locs → W p l e ({ frames := 2, cells := 0, slots := 0, locals := 48 }) s m ([.ref d, .ref a, .int (iI re)] : List Value).toArray below meth c H locs 0 0 Q (F0 m 2 ls []) := by
    clear hP hD hS hl
    intro n
    induction n with
    | zero =>
      intro k FI i1 i2 i3 hms H locs ls hl hP hD hS
      exfalso; omega
    | succ n ih2 =>
      intro k FI i1 i2 i3 hms H locs ls hl hP hD hS
      refine lv_iload_n hx hb dX1_countKeys_2 rfl (lv_at hl 3 rfl) ?_
      refine lv_sipush (v := iI 383) hx hb dX1_countKeys_3 (by decide +kernel) ?_
      refine z_icmp_gt (tgt := 22) hx hb dX1_countKeys_6 (by decide) (by omega) (by omega) (fun c_1 => ?_) (fun c_1 => ?_)
      · refine lv_iconst (v := iI 0) hx hb dX1_countKeys_22 rfl ?_
        refine lv_istore_n (lv' := [(3, .int (iI 0)), (0, .ref d), (1, .ref a), (2, .int (iI re))]) hx hb dX1_countKeys_23 rfl hl (by decide) rfl (fun ls hl => ?_)
        have L24 : ∀ (n : Nat) (pc_ : Int) (FI : Int → Int), (i1 : 0 ≤ pc_) → (i2 : pc_ ≤ 4) → (i3 : ∀ j, 0 ≤ j → j < 384 → FI j = cnt FD re j (pc_ * 16)) → (i4 : sumZ FI 384 ≤ pc_ * 80) → (hms : 4 - pc_ < (n : Int)) → ∀ (H : Heap) (locs : List Loc) (ls : Array Slot), lv_has ls 7 [(0, .ref d), (1, .ref a), (2, .int (iI re)), (3, .int (iI pc_))] → zP g [(d, .inr (1, [.ref ds, .ref df, .ref de, .int (iI un)])), zI g df 384 FI, (a, .inr (3, [.ref aw, .ref af, .ref ao])), zI g af 80 FD] H → va_D A [(d, .inr (1, [.ref ds, .ref df, .ref de, .int (iI un)])), zI g df 384 FI, (a, .inr (3, [.ref aw, .ref af, .ref ao])), zI g af 80 FD] → va_S A s.heap H locs → W p l e ({ frames := 2, cells := 0, slots := 0, locals := 48 }) s m ([.ref d, .ref a, .int (iI re)] : List Value).toArray below meth c H locs 0 0 Q (F0 m 24 ls []) := by
          clear hP hD hS hl
          intro n
          induction n with
          | zero =>
            intro pc_ FI i1 i2 i3 i4 hms H locs ls hl hP hD hS
            exfalso; omega
          | succ n ih24 =>
            intro pc_ FI i1 i2 i3 i4 hms H locs ls hl hP hD hS
            refine lv_iload_n hx hb dX1_countKeys_24 rfl (lv_at hl 3 rfl) ?_
            refine lv_iconst (v := iI 4) hx hb dX1_countKeys_25 rfl ?_
            refine z_icmp_ge (tgt := 98) hx hb dX1_countKeys_26 (by decide) (by omega) (by omega) (fun c_2 => ?_) (fun c_2 => ?_)
            · have hP := zP_arr hP 1 (fun x => cnt FD re x 64) rfl (fun j g1 g2 => by rw [i3 j g1 (by omega), show pc_ * 16 = 64 by omega])
              have hD := zD_set (c1 := (zI g df 384 (fun x => cnt FD re x 64)).2) hD 1 rfl
              have hP : zP g [(d, .inr (1, [.ref ds, .ref df, .ref de, .int (iI un)])), zI g df 384 (fun x => cnt FD re x 64), (a, .inr (3, [.ref aw, .ref af, .ref ao])), zI g af 80 FD] H := hP
              have hD : va_D A [(d, .inr (1, [.ref ds, .ref df, .ref de, .int (iI un)])), zI g df 384 (fun x => cnt FD re x 64), (a, .inr (3, [.ref aw, .ref af, .ref ao])), zI g af 80 FD] := hD
              exact z_retV hx hb hlk hr hQ dX1_countKeys_98 hS () (by
          have e9 : sumZ FI 384 = stt FD re 384 := sumZ_cong (fun j g1 g2 => by rw [i3 j g1 g2, show pc_ * 16 = 64 by omega])
          rw [← e9]; omega) (hP)
            · refine lv_iconst (v := iI 0) hx hb dX1_countKeys_29 rfl ?_
              refine lv_istore (lv' := [(4, .int (iI 0)), (0, .ref d), (1, .ref a), (2, .int (iI re)), (3, .int (iI pc_))]) hx hb dX1_countKeys_30 hl (by decide) rfl (fun ls hl => ?_)
              have L32 : ∀ (n : Nat) (v : Int) (FI : Int → Int), (j1 : 0 ≤ v) → (j2 : v ≤ 16) → (j3 : ∀ j, 0 ≤ j → j < 384 → FI j = cnt FD re j (pc_ * 16 + v)) → (j4 : sumZ FI 384 ≤ pc_ * 80 + v * 5) → (hms : 16 - v < (n : Int)) → ∀ (H : Heap) (locs : List Loc) (ls : Array Slot), lv_has ls 7 [(0, .ref d), (1, .ref a), (2, .int (iI re)), (3, .int (iI pc_)), (4, .int (iI v))] → zP g [(d, .inr (1, [.ref ds, .ref df, .ref de, .int (iI un)])), zI g df 384 FI, (a, .inr (3, [.ref aw, .ref af, .ref ao])), zI g af 80 FD] H → va_D A [(d, .inr (1, [.ref ds, .ref df, .ref de, .int (iI un)])), zI g df 384 FI, (a, .inr (3, [.ref aw, .ref af, .ref ao])), zI g af 80 FD] → va_S A s.heap H locs → W p l e ({ frames := 2, cells := 0, slots := 0, locals := 48 }) s m ([.ref d, .ref a, .int (iI re)] : List Value).toArray below meth c H locs 0 0 Q (F0 m 32 ls []) := by
                clear hP hD hS hl
                intro n
                induction n with
                | zero =>
                  intro v FI j1 j2 j3 j4 hms H locs ls hl hP hD hS
                  exfalso; omega
                | succ n ih32 =>
                  intro v FI j1 j2 j3 j4 hms H locs ls hl hP hD hS
                  refine lv_iload hx hb dX1_countKeys_32 (lv_at hl 4 rfl) ?_
                  refine lv_bipush (v := iI 16) hx hb dX1_countKeys_34 (by decide +kernel) ?_
                  refine z_icmp_ge (tgt := 92) hx hb dX1_countKeys_36 (by decide) (by omega) (by omega) (fun c_3 => ?_) (fun c_3 => ?_)
                  · refine z_iinc (b := pc_ + 1) (lv' := [(3, .int (iI (pc_ + 1))), (0, .ref d), (1, .ref a), (2, .int (iI re)), (4, .int (iI v))]) hx hb dX1_countKeys_92 hl (k := 3) rfl (rfl) (by decide) rfl (fun ls hl => ?_)
                    refine lv_goto (tgt := 24) hx hb dX1_countKeys_95 (by decide) ?_
                    exact ih24 (pc_ + 1) FI (by omega) (by omega) (fun j g1 g2 => by rw [j3 j g1 g2, show v = 16 by omega, show pc_ * 16 + 16 = (pc_ + 1) * 16 by omega]) (by omega) (by omega) H locs ls (lv_sub hl [1, 2, 3, 0] rfl) (hP) (hD) hS
                  · refine lv_iconst (v := iI 1) hx hb dX1_countKeys_39 rfl ?_
                    refine lv_istore (lv' := [(5, .int (iI 1)), (0, .ref d), (1, .ref a), (2, .int (iI re)), (3, .int (iI pc_)), (4, .int (iI v))]) hx hb dX1_countKeys_40 hl (by decide) rfl (fun ls hl => ?_)
                    have L42 : ∀ (n : Nat) (far : Int) (FI : Int → Int), (k1 : 1 ≤ far) → (k2 : far ≤ re + 1) → (k3 : ∀ j, 0 ≤ j → j < 384 → FI j = cnt FD re j (pc_ * 16 + v) + par1 FD re pc_ v far j) → (k4 : sumZ FI 384 ≤ pc_ * 80 + v * 5 + (far - 1)) → (hms : re + 1 - far < (n : Int)) → ∀ (H : Heap) (locs : List Loc) (ls : Array Slot), lv_has ls 7 [(0, .ref d), (1, .ref a), (2, .int (iI re)), (3, .int (iI pc_)), (4, .int (iI v)), (5, .int (iI far))] → zP g [(d, .inr (1, [.ref ds, .ref df, .ref de, .int (iI un)])), zI g df 384 FI, (a, .inr (3, [.ref aw, .ref af, .ref ao])), zI g af 80 FD] H → va_D A [(d, .inr (1, [.ref ds, .ref df, .ref de, .int (iI un)])), zI g df 384 FI, (a, .inr (3, [.ref aw, .ref af, .ref ao])), zI g af 80 FD] → va_S A s.heap H locs → W p l e ({ frames := 2, cells := 0, slots := 0, locals := 48 }) s m ([.ref d, .ref a, .int (iI re)] : List Value).toArray below meth c H locs 0 0 Q (F0 m 42 ls []) := by
                      clear hP hD hS hl
                      intro n
                      induction n with
                      | zero =>
                        intro far FI k1 k2 k3 k4 hms H locs ls hl hP hD hS
                        exfalso; omega
                      | succ n ih42 =>
                        intro far FI k1 k2 k3 k4 hms H locs ls hl hP hD hS
                        refine lv_iload hx hb dX1_countKeys_42 (lv_at hl 5 rfl) ?_
                        refine lv_iload_n hx hb dX1_countKeys_44 rfl (lv_at hl 2 rfl) ?_
                        refine z_icmp_gt (tgt := 86) hx hb dX1_countKeys_45 (by decide) (by omega) (by omega) (fun c_4 => ?_) (fun c_4 => ?_)
                        · refine z_iinc (b := v + 1) (lv' := [(4, .int (iI (v + 1))), (0, .ref d), (1, .ref a), (2, .int (iI re)), (3, .int (iI pc_)), (5, .int (iI far))]) hx hb dX1_countKeys_86 hl (k := 4) rfl (rfl) (by decide) rfl (fun ls hl => ?_)
                          refine lv_goto (tgt := 32) hx hb dX1_countKeys_89 (by decide) ?_
                          exact ih32 (v + 1) FI (by omega) (by omega) (fun j g1 g2 => by rw [k3 j g1 g2, show far = re + 1 by omega, par1_end g1 hF r2, show pc_ * 16 + (v + 1) = pc_ * 16 + v + 1 by omega, cnt_s FD re j i1 j1 (by omega)]) (by omega) (by omega) H locs ls (lv_sub hl [1, 2, 3, 4, 0] rfl) (hP) (hD) hS
                        · refine lv_aload_n hx hb dX1_countKeys_48 rfl (lv_at hl 1 rfl) ?_
                          refine lv_iload_n hx hb dX1_countKeys_49 rfl (lv_at hl 3 rfl) ?_
                          refine lv_iload hx hb dX1_countKeys_50 (lv_at hl 4 rfl) ?_
                          refine lv_iload hx hb dX1_countKeys_52 (lv_at hl 4 rfl) ?_
                          refine lv_iload hx hb dX1_countKeys_54 (lv_at hl 5 rfl) ?_
                          refine z_iadd hx hb dX1_countKeys_56 ?_
                          refine lv_iload_n hx hb dX1_countKeys_57 rfl (lv_at hl 2 rfl) ?_
                          refine z_cS (As := [.int (iI pc_), .int (iI v), .int (iI (v + far)), .int (iI re)]) (rest := []) C (m_X3_keyOf (l := l) (g := g) (a := a) (aw := aw) (af := af) (ao := ao) (FD := FD) (row := pc_) (v := v) (w := v + far) (re := re) (h1 := by omega) (h2 := by omega) (v1 := by omega) (v2 := by omega) (v3 := by omega) (hF := hF)) (cwV 4 C.2.2.2.2 gX1_countKeys_X3_keyOf rfl rfl rfl (by decide +kernel) ⟨Nat.le_of_ble_eq_true rfl, Nat.le_of_ble_eq_true rfl⟩) hK hP [2, 3] rfl 2 rfl rfl rfl hl.1 rfl (Nat.le_of_ble_eq_true rfl) dX1_countKeys_58 ⟨Nat.zero_le _, Nat.zero_le _⟩ ?_
                          refine lv_istore (lv' := [(6, .int (iI (kyf FD re pc_ v (v + far)))), (0, .ref d), (1, .ref a), (2, .int (iI re)), (3, .int (iI pc_)), (4, .int (iI v)), (5, .int (iI far))]) hx hb dX1_countKeys_61 hl (by decide) rfl (fun ls hl => ?_)
                          have hkr := kyf_rg hF re pc_ v (v + far) (by omega)
                          refine lv_iload hx hb dX1_countKeys_63 (lv_at hl 0 rfl) ?_
                          refine lv_iconst (v := iI (-1)) hx hb dX1_countKeys_65 rfl ?_
                          refine z_icmp_eq (tgt := 80) hx hb dX1_countKeys_66 (by decide) (by omega) (by omega) (fun hc => ?_) (fun hc => ?_)
                          · refine z_iinc (b := far + 1) (lv' := [(5, .int (iI (far + 1))), (6, .int (iI (kyf FD re pc_ v (v + far)))), (0, .ref d), (1, .ref a), (2, .int (iI re)), (3, .int (iI pc_)), (4, .int (iI v))]) hx hb dX1_countKeys_80 hl (k := 6) rfl (rfl) (by decide) rfl (fun ls hl => ?_)
                            refine lv_goto (tgt := 42) hx hb dX1_countKeys_83 (by decide) ?_
                            exact ih42 (far + 1) FI (by omega) (by omega) (fun j g1 g2 => by rw [par1_no g1 hc]; exact k3 j g1 g2) (by omega) (by omega) H locs ls (lv_sub hl [2, 3, 4, 5, 6, 0] rfl) (hP) (hD) hS
                          · refine lv_aload_n hx hb dX1_countKeys_69 rfl (lv_at hl 1 rfl) ?_
                            refine z_get (v := .ref df) (Cn := RX1) (T := TX1) (N := 4) (ci := 1) C in_X1_countKeys_X1 hK hP 0 rfl rfl 1 (by decide) (List.mem_of_getElem? (i := 1) rfl) rfl dX1_countKeys_70 ?_
                            refine lv_iload hx hb dX1_countKeys_73 (lv_at hl 0 rfl) ?_
                            refine lv_dup2_11 hx hb dX1_countKeys_75 rfl rfl ?_
                            refine z_iald hx hb hK hP 1 rfl (by omega) (by omega) (Nat.le_of_ble_eq_true rfl) dX1_countKeys_76 ?_
                            refine lv_iconst (v := iI 1) hx hb dX1_countKeys_77 rfl ?_
                            refine z_iadd hx hb dX1_countKeys_78 ?_
                            refine z_iast hx hb hK hP hD hS 1 rfl (by omega) (by omega) (Nat.le_of_ble_eq_true rfl) dX1_countKeys_79 (fun H locs hP hD hS => ?_)
                            have hP : zP g [(d, .inr (1, [.ref ds, .ref df, .ref de, .int (iI un)])), zI g df 384 (ups FI (kyf FD re pc_ v (v + far)) ((FI (kyf FD re pc_ v (v + far))) + 1)), (a, .inr (3, [.ref aw, .ref af, .ref ao])), zI g af 80 FD] H := hP
                            have hD : va_D A [(d, .inr (1, [.ref ds, .ref df, .ref de, .int (iI un)])), zI g df 384 (ups FI (kyf FD re pc_ v (v + far)) ((FI (kyf FD re pc_ v (v + far))) + 1)), (a, .inr (3, [.ref aw, .ref af, .ref ao])), zI g af 80 FD] := hD
                            refine z_iinc (b := far + 1) (lv' := [(5, .int (iI (far + 1))), (6, .int (iI (kyf FD re pc_ v (v + far)))), (0, .ref d), (1, .ref a), (2, .int (iI re)), (3, .int (iI pc_)), (4, .int (iI v))]) hx hb dX1_countKeys_80 hl (k := 6) rfl (rfl) (by decide) rfl (fun ls hl => ?_)
                            refine lv_goto (tgt := 42) hx hb dX1_countKeys_83 (by decide) ?_
                            exact ih42 (far + 1) (ups FI (kyf FD re pc_ v (v + far)) ((FI (kyf FD re pc_ v (v + far))) + 1)) (by omega) (by omega) (fun j g1 g2 => by by_cases hj : j = kyf FD re pc_ v (v + far); (· have hy := par1_yes hF r2 hc; rw [hj, ups_s, hy.2, k3 _ (by omega) (by omega), hy.1]; omega); (· rw [ups_n _ _ hj, par1_ne hc hj]; exact k3 j g1 g2)) (by rw [sumZ_ups _ _ _ (by omega) (by omega)]; omega) (by omega) H locs ls (lv_sub hl [2, 3, 4, 5, 6, 0] rfl) (hP) (hD) hS
                    exact L42 (7) 1 FI (by omega) (by omega) (fun j g1 g2 => by rw [j3 j g1 g2, par1_1 g1 hF r2]; omega) (by omega) (by omega) H locs ls (lv_sub hl [1, 2, 3, 4, 5, 0] rfl) (hP) (hD) hS
              exact L32 (17) 0 FI (by omega) (by omega) (fun j g1 g2 => by rw [i3 j g1 g2, show pc_ * 16 + 0 = pc_ * 16 by omega]) (by omega) (by omega) H locs ls (lv_sub hl [1, 2, 3, 4, 0] rfl) (hP) (hD) hS
        exact L24 (5) 0 FI (by omega) (by omega) (fun j g1 g2 => by rw [i3 j g1 (by omega), show (0 : Int) * 16 = 0 by omega, cnt_0]) (by rw [sumZ_zero (fun j g1 g2 => i3 j g1 (by omega))]; omega) (by omega) H locs ls (lv_sub hl [1, 2, 3, 0] rfl) (hP) (hD) hS
      · refine lv_aload_n hx hb dX1_countKeys_9 rfl (lv_at hl 0 rfl) ?_
        refine z_get (v := .ref df) (Cn := RX1) (T := TX1) (N := 4) (ci := 1) C in_X1_countKeys_X1 hK hP 0 rfl rfl 1 (by decide) (List.mem_of_getElem? (i := 1) rfl) rfl dX1_countKeys_10 ?_
        refine lv_iload_n hx hb dX1_countKeys_13 rfl (lv_at hl 3 rfl) ?_
        refine lv_iconst (v := iI 0) hx hb dX1_countKeys_14 rfl ?_
        refine z_iast hx hb hK hP hD hS 1 rfl (by omega) (by omega) (Nat.le_of_ble_eq_true rfl) dX1_countKeys_15 (fun H locs hP hD hS => ?_)
        have hP : zP g [(d, .inr (1, [.ref ds, .ref df, .ref de, .int (iI un)])), zI g df 384 (ups FI k 0), (a, .inr (3, [.ref aw, .ref af, .ref ao])), zI g af 80 FD] H := hP
        have hD : va_D A [(d, .inr (1, [.ref ds, .ref df, .ref de, .int (iI un)])), zI g df 384 (ups FI k 0), (a, .inr (3, [.ref aw, .ref af, .ref ao])), zI g af 80 FD] := hD
        refine z_iinc (b := k + 1) (lv' := [(3, .int (iI (k + 1))), (0, .ref d), (1, .ref a), (2, .int (iI re))]) hx hb dX1_countKeys_16 hl (k := 3) rfl (rfl) (by decide) rfl (fun ls hl => ?_)
        refine lv_goto (tgt := 2) hx hb dX1_countKeys_19 (by decide) ?_
        exact ih2 (k + 1) (ups FI k 0) (by omega) (by omega) (fun j g1 g2 => by by_cases hj : j = k; (· rw [hj, ups_s]); (· rw [ups_n _ _ hj]; exact i3 j g1 (by omega))) (by omega) H locs ls (lv_sub hl [1, 2, 3, 0] rfl) (hP) (hD) hS
  exact L2 (385) 0 FI (by omega) (by omega) (fun j g1 g2 => by omega) (by omega) H locs ls (lv_sub hl [1, 2, 3, 0] rfl) (hP) (hD) hS
set_option maxRecDepth 20000 in
theorem in_X1_setStarts_X1 : ∀ w ∈ u_ws RX1 TX1 4, w ∈ wsX1_setStarts := zmem_of _ [4, 5, 6, 7] (by decide +kernel)
set_option maxHeartbeats 4000000 in
set_option maxRecDepth 100000 in
theorem m_X1_setStarts (l : Launch) (g : zG) (d ds df de : Nat) (un : Int) (ST FI : Int → Int) (f1 : ∀ j, 0 ≤ FI j ∧ FI j ≤ 64) : zV l yX1_setStarts wsX1_setStarts ({ frames := 0, cells := 0, slots := 0, locals := 0 }) g [.ref d] [(d, .inr (1, [.ref ds, .ref df, .ref de, .int (iI un)])), zI g ds 385 ST, zI g df 384 FI] (S := Unit) (fun _ => True) (fun _ => [(d, .inr (1, [.ref ds, .ref df, .ref de, .int (iI (sumZ (fun x => bI (0 < FI x)) 384))])), zI g ds 385 (fun x => sumZ FI x), zI g df 384 (fun _ => 0)]) := by
  refine z_entV (cc := cX1_setStarts) (nL := 2) (ret := none) (own := RX1) (by decide) rfl rfl (Nat.le_of_ble_eq_true rfl) ?_
  intro p e s m below meth c Q ls A C hlk hr hQ hP hK hD hA hS hl
  have hx := C.1
  have hb := C.2.1
  have hl : lv_has ls 2 [(0, .ref d)] := hl
  obtain ⟨H, hHe⟩ : ∃ H, H = s.heap := ⟨_, rfl⟩
  obtain ⟨locs, hLe⟩ : ∃ q : List Loc, q = [] := ⟨_, rfl⟩
  have hP : zP g [(d, .inr (1, [.ref ds, .ref df, .ref de, .int (iI un)])), zI g ds 385 ST, zI g df 384 FI] H := by rw [hHe]; exact hP
  have hS : va_S A s.heap H locs := by rw [hHe, hLe]; exact hS
  suffices hgo : W p l e ({ frames := 0, cells := 0, slots := 0, locals := 0 }) s m ([.ref d] : List Value).toArray below meth c H locs 0 0 Q (F0 m 0 ls []) by rw [hHe, hLe] at hgo; exact hgo
  clear hHe hLe
  refine lv_aload_n hx hb dX1_setStarts_0 rfl (lv_at hl 0 rfl) ?_
  refine lv_iconst (v := iI 0) hx hb dX1_setStarts_1 rfl ?_
  refine z_put (v := .int (iI 0)) (Cn := RX1) (T := TX1) (N := 4) (ci := 1) C in_X1_setStarts_X1 tyX1 tyX1_ok nmX1 hK hP hD hS 0 rfl rfl 3 (by decide) (List.mem_of_getElem? (i := 1) rfl) rfl rfl rfl (Nat.le_of_ble_eq_true rfl) dX1_setStarts_2 (fun H locs hP hD hS => ?_)
  have hP : zP g [(d, .inr (1, [.ref ds, .ref df, .ref de, .int (iI 0)])), zI g ds 385 ST, zI g df 384 FI] H := hP
  have hD : va_D A [(d, .inr (1, [.ref ds, .ref df, .ref de, .int (iI 0)])), zI g ds 385 ST, zI g df 384 FI] := hD
  refine lv_aload_n hx hb dX1_setStarts_5 rfl (lv_at hl 0 rfl) ?_
  refine z_get (v := .ref ds) (Cn := RX1) (T := TX1) (N := 4) (ci := 1) C in_X1_setStarts_X1 hK hP 0 rfl rfl 0 (by decide) (List.mem_of_getElem? (i := 2) rfl) rfl dX1_setStarts_6 ?_
  refine lv_iconst (v := iI 0) hx hb dX1_setStarts_9 rfl ?_
  refine lv_iconst (v := iI 0) hx hb dX1_setStarts_10 rfl ?_
  refine z_iast hx hb hK hP hD hS 1 rfl (by omega) (by omega) (Nat.le_of_ble_eq_true rfl) dX1_setStarts_11 (fun H locs hP hD hS => ?_)
  have hP : zP g [(d, .inr (1, [.ref ds, .ref df, .ref de, .int (iI 0)])), zI g ds 385 (ups ST 0 0), zI g df 384 FI] H := hP
  have hD : va_D A [(d, .inr (1, [.ref ds, .ref df, .ref de, .int (iI 0)])), zI g ds 385 (ups ST 0 0), zI g df 384 FI] := hD
  refine lv_iconst (v := iI 0) hx hb dX1_setStarts_12 rfl ?_
  refine lv_istore_n (lv' := [(1, .int (iI 0)), (0, .ref d)]) hx hb dX1_setStarts_13 rfl hl (by decide) rfl (fun ls hl => ?_)
  have L14 : ∀ (n : Nat) (k : Int) (ST : Int → Int) (FJ : Int → Int), (i1 : 0 ≤ k) → (i2 : k ≤ 384) → (i3 : ∀ j, 0 ≤ j → j ≤ k → ST j = sumZ FI j) → (i4 : ∀ j, k ≤ j → FJ j = FI j) → (i5 : ∀ j, 0 ≤ j → j < k → FJ j = 0) → (hms : 384 - k < (n : Int)) → ∀ (H : Heap) (locs : List Loc) (ls : Array Slot), lv_has ls 2 [(0, .ref d), (1, .int (iI k))] → zP g [(d, .inr (1, [.ref ds, .ref df, .ref de, .int (iI (sumZ (fun x => bI (0 < FI x)) k))])), zI g ds 385 ST, zI g df 384 FJ] H → va_D A [(d, .inr (1, [.ref ds, .ref df, .ref de, .int (iI (sumZ (fun x => bI (0 < FI x)) k))])), zI g ds 385 ST, zI g df 384 FJ] → va_S A s.heap H locs → W p l e ({ frames := 0, cells := 0, slots := 0, locals := 0 }) s m ([.ref d] : List Value).toArray below meth c H locs 0 0 Q (F0 m 14 ls []) := by
    clear hP hD hS hl
    intro n
    induction n with
    | zero =>
      intro k ST FJ i1 i2 i3 i4 i5 hms H locs ls hl hP hD hS
      exfalso; omega
    | succ n ih14 =>
      intro k ST FJ i1 i2 i3 i4 i5 hms H locs ls hl hP hD hS
      have hf1 := f1 k
      have hf4 := i4 k (by omega)
      refine lv_iload_n hx hb dX1_setStarts_14 rfl (lv_at hl 1 rfl) ?_
      refine lv_sipush (v := iI 383) hx hb dX1_setStarts_15 (by decide +kernel) ?_
      refine z_icmp_gt (tgt := 74) hx hb dX1_setStarts_18 (by decide) (by omega) (by omega) (fun c_1 => ?_) (fun c_1 => ?_)
      · have hP := zP_arr hP 1 (fun x => sumZ FI x) rfl (fun j g1 g2 => i3 j g1 (by omega))
        have hD := zD_set (c1 := (zI g ds 385 (fun x => sumZ FI x)).2) hD 1 rfl
        have hP : zP g [(d, .inr (1, [.ref ds, .ref df, .ref de, .int (iI (sumZ (fun x => bI (0 < FI x)) k))])), zI g ds 385 (fun x => sumZ FI x), zI g df 384 FJ] H := hP
        have hD : va_D A [(d, .inr (1, [.ref ds, .ref df, .ref de, .int (iI (sumZ (fun x => bI (0 < FI x)) k))])), zI g ds 385 (fun x => sumZ FI x), zI g df 384 FJ] := hD
        have hP := zP_arr hP 2 (fun _ => 0) rfl (fun j g1 g2 => i5 j g1 (by omega))
        have hD := zD_set (c1 := (zI g df 384 (fun _ => 0)).2) hD 2 rfl
        have hP : zP g [(d, .inr (1, [.ref ds, .ref df, .ref de, .int (iI (sumZ (fun x => bI (0 < FI x)) k))])), zI g ds 385 (fun x => sumZ FI x), zI g df 384 (fun _ => 0)] H := hP
        have hD : va_D A [(d, .inr (1, [.ref ds, .ref df, .ref de, .int (iI (sumZ (fun x => bI (0 < FI x)) k))])), zI g ds 385 (fun x => sumZ FI x), zI g df 384 (fun _ => 0)] := hD
        have hP := zP_fld hP 0 rfl 3 (sumZ (fun x => bI (0 < FI x)) 384) rfl (by rw [show k = 384 by omega])
        have hD := zD_set (c1 := ((d, .inr (1, [.ref ds, .ref df, .ref de, .int (iI (sumZ (fun x => bI (0 < FI x)) 384))]))).2) hD 0 rfl
        have hP : zP g [(d, .inr (1, [.ref ds, .ref df, .ref de, .int (iI (sumZ (fun x => bI (0 < FI x)) 384))])), zI g ds 385 (fun x => sumZ FI x), zI g df 384 (fun _ => 0)] H := hP
        have hD : va_D A [(d, .inr (1, [.ref ds, .ref df, .ref de, .int (iI (sumZ (fun x => bI (0 < FI x)) 384))])), zI g ds 385 (fun x => sumZ FI x), zI g df 384 (fun _ => 0)] := hD
        exact z_retV hx hb hlk hr hQ dX1_setStarts_74 hS () (trivial) (hP)
      · refine lv_aload_n hx hb dX1_setStarts_21 rfl (lv_at hl 0 rfl) ?_
        refine z_get (v := .ref ds) (Cn := RX1) (T := TX1) (N := 4) (ci := 1) C in_X1_setStarts_X1 hK hP 0 rfl rfl 0 (by decide) (List.mem_of_getElem? (i := 2) rfl) rfl dX1_setStarts_22 ?_
        refine lv_iload_n hx hb dX1_setStarts_25 rfl (lv_at hl 1 rfl) ?_
        refine lv_iconst (v := iI 1) hx hb dX1_setStarts_26 rfl ?_
        refine z_iadd hx hb dX1_setStarts_27 ?_
        refine lv_aload_n hx hb dX1_setStarts_28 rfl (lv_at hl 0 rfl) ?_
        refine z_get (v := .ref ds) (Cn := RX1) (T := TX1) (N := 4) (ci := 1) C in_X1_setStarts_X1 hK hP 0 rfl rfl 0 (by decide) (List.mem_of_getElem? (i := 2) rfl) rfl dX1_setStarts_29 ?_
        refine lv_iload_n hx hb dX1_setStarts_32 rfl (lv_at hl 1 rfl) ?_
        refine z_iald hx hb hK hP 1 rfl (by omega) (by omega) (Nat.le_of_ble_eq_true rfl) dX1_setStarts_33 ?_
        refine lv_aload_n hx hb dX1_setStarts_34 rfl (lv_at hl 0 rfl) ?_
        refine z_get (v := .ref df) (Cn := RX1) (T := TX1) (N := 4) (ci := 1) C in_X1_setStarts_X1 hK hP 0 rfl rfl 1 (by decide) (List.mem_of_getElem? (i := 3) rfl) rfl dX1_setStarts_35 ?_
        refine lv_iload_n hx hb dX1_setStarts_38 rfl (lv_at hl 1 rfl) ?_
        refine z_iald hx hb hK hP 2 rfl (by omega) (by omega) (Nat.le_of_ble_eq_true rfl) dX1_setStarts_39 ?_
        refine z_iadd hx hb dX1_setStarts_40 ?_
        refine z_iast hx hb hK hP hD hS 1 rfl (by omega) (by omega) (Nat.le_of_ble_eq_true rfl) dX1_setStarts_41 (fun H locs hP hD hS => ?_)
        have hP : zP g [(d, .inr (1, [.ref ds, .ref df, .ref de, .int (iI (sumZ (fun x => bI (0 < FI x)) k))])), zI g ds 385 (ups ST (k + 1) ((ST k) + (FJ k))), zI g df 384 FJ] H := hP
        have hD : va_D A [(d, .inr (1, [.ref ds, .ref df, .ref de, .int (iI (sumZ (fun x => bI (0 < FI x)) k))])), zI g ds 385 (ups ST (k + 1) ((ST k) + (FJ k))), zI g df 384 FJ] := hD
        refine lv_aload_n hx hb dX1_setStarts_42 rfl (lv_at hl 0 rfl) ?_
        refine z_get (v := .ref df) (Cn := RX1) (T := TX1) (N := 4) (ci := 1) C in_X1_setStarts_X1 hK hP 0 rfl rfl 1 (by decide) (List.mem_of_getElem? (i := 3) rfl) rfl dX1_setStarts_43 ?_
        refine lv_iload_n hx hb dX1_setStarts_46 rfl (lv_at hl 1 rfl) ?_
        refine z_iald hx hb hK hP 2 rfl (by omega) (by omega) (Nat.le_of_ble_eq_true rfl) dX1_setStarts_47 ?_
        refine z_if_le (tgt := 61) hx hb dX1_setStarts_48 (by decide) (by omega) (fun hc => ?_) (fun hc => ?_)
        · refine lv_aload_n hx hb dX1_setStarts_61 rfl (lv_at hl 0 rfl) ?_
          refine z_get (v := .ref df) (Cn := RX1) (T := TX1) (N := 4) (ci := 1) C in_X1_setStarts_X1 hK hP 0 rfl rfl 1 (by decide) (List.mem_of_getElem? (i := 3) rfl) rfl dX1_setStarts_62 ?_
          refine lv_iload_n hx hb dX1_setStarts_65 rfl (lv_at hl 1 rfl) ?_
          refine lv_iconst (v := iI 0) hx hb dX1_setStarts_66 rfl ?_
          refine z_iast hx hb hK hP hD hS 2 rfl (by omega) (by omega) (Nat.le_of_ble_eq_true rfl) dX1_setStarts_67 (fun H locs hP hD hS => ?_)
          have hP : zP g [(d, .inr (1, [.ref ds, .ref df, .ref de, .int (iI (sumZ (fun x => bI (0 < FI x)) k))])), zI g ds 385 (ups ST (k + 1) ((ST k) + (FJ k))), zI g df 384 (ups FJ k 0)] H := hP
          have hD : va_D A [(d, .inr (1, [.ref ds, .ref df, .ref de, .int (iI (sumZ (fun x => bI (0 < FI x)) k))])), zI g ds 385 (ups ST (k + 1) ((ST k) + (FJ k))), zI g df 384 (ups FJ k 0)] := hD
          refine z_iinc (b := k + 1) (lv' := [(1, .int (iI (k + 1))), (0, .ref d)]) hx hb dX1_setStarts_68 hl (k := 1) rfl (rfl) (by decide) rfl (fun ls hl => ?_)
          refine lv_goto (tgt := 14) hx hb dX1_setStarts_71 (by decide) ?_
          have hP := zP_fld hP 0 rfl 3 (sumZ (fun x => bI (0 < FI x)) (k + 1)) rfl (by rw [sumZ_s _ i1, bI_f (by omega)]; omega)
          have hD := zD_set (c1 := ((d, .inr (1, [.ref ds, .ref df, .ref de, .int (iI (sumZ (fun x => bI (0 < FI x)) (k + 1)))]))).2) hD 0 rfl
          have hP : zP g [(d, .inr (1, [.ref ds, .ref df, .ref de, .int (iI (sumZ (fun x => bI (0 < FI x)) (k + 1)))])), zI g ds 385 (ups ST (k + 1) ((ST k) + (FJ k))), zI g df 384 (ups FJ k 0)] H := hP
          have hD : va_D A [(d, .inr (1, [.ref ds, .ref df, .ref de, .int (iI (sumZ (fun x => bI (0 < FI x)) (k + 1)))])), zI g ds 385 (ups ST (k + 1) ((ST k) + (FJ k))), zI g df 384 (ups FJ k 0)] := hD
          exact ih14 (k + 1) (ups ST (k + 1) ((ST k) + (FJ k))) (ups FJ k 0) (by omega) (by omega) (fun j g1 g2 => by by_cases hj : j = k + 1; (· rw [hj, ups_s, i3 k i1 (by omega), hf4, sumZ_s FI i1]); (· rw [ups_n _ _ hj]; exact i3 j g1 (by omega))) (fun j g1 => by rw [ups_n _ _ (by omega)]; exact i4 j (by omega)) (fun j g1 g2 => by by_cases hj : j = k; (· rw [hj, ups_s]); (· rw [ups_n _ _ hj]; exact i5 j g1 (by omega))) (by omega) H locs ls (lv_sub hl [1, 0] rfl) (hP) (hD) hS
        · refine lv_aload_n hx hb dX1_setStarts_51 rfl (lv_at hl 0 rfl) ?_
          refine lv_dup hx hb dX1_setStarts_52 rfl ?_
          refine z_get (v := .int (iI (sumZ (fun x => bI (0 < FI x)) k))) (Cn := RX1) (T := TX1) (N := 4) (ci := 1) C in_X1_setStarts_X1 hK hP 0 rfl rfl 3 (by decide) (List.mem_of_getElem? (i := 1) rfl) rfl dX1_setStarts_53 ?_
          refine lv_iconst (v := iI 1) hx hb dX1_setStarts_56 rfl ?_
          refine z_iadd hx hb dX1_setStarts_57 ?_
          refine z_put (v := .int (iI ((sumZ (fun x => bI (0 < FI x)) k) + 1))) (Cn := RX1) (T := TX1) (N := 4) (ci := 1) C in_X1_setStarts_X1 tyX1 tyX1_ok nmX1 hK hP hD hS 0 rfl rfl 3 (by decide) (List.mem_of_getElem? (i := 1) rfl) rfl rfl rfl (Nat.le_of_ble_eq_true rfl) dX1_setStarts_58 (fun H locs hP hD hS => ?_)
          have hP : zP g [(d, .inr (1, [.ref ds, .ref df, .ref de, .int (iI ((sumZ (fun x => bI (0 < FI x)) k) + 1))])), zI g ds 385 (ups ST (k + 1) ((ST k) + (FJ k))), zI g df 384 FJ] H := hP
          have hD : va_D A [(d, .inr (1, [.ref ds, .ref df, .ref de, .int (iI ((sumZ (fun x => bI (0 < FI x)) k) + 1))])), zI g ds 385 (ups ST (k + 1) ((ST k) + (FJ k))), zI g df 384 FJ] := hD
          refine lv_aload_n hx hb dX1_setStarts_61 rfl (lv_at hl 0 rfl) ?_
          refine z_get (v := .ref df) (Cn := RX1) (T := TX1) (N := 4) (ci := 1) C in_X1_setStarts_X1 hK hP 0 rfl rfl 1 (by decide) (List.mem_of_getElem? (i := 3) rfl) rfl dX1_setStarts_62 ?_
          refine lv_iload_n hx hb dX1_setStarts_65 rfl (lv_at hl 1 rfl) ?_
          refine lv_iconst (v := iI 0) hx hb dX1_setStarts_66 rfl ?_
          refine z_iast hx hb hK hP hD hS 2 rfl (by omega) (by omega) (Nat.le_of_ble_eq_true rfl) dX1_setStarts_67 (fun H locs hP hD hS => ?_)
          have hP : zP g [(d, .inr (1, [.ref ds, .ref df, .ref de, .int (iI ((sumZ (fun x => bI (0 < FI x)) k) + 1))])), zI g ds 385 (ups ST (k + 1) ((ST k) + (FJ k))), zI g df 384 (ups FJ k 0)] H := hP
          have hD : va_D A [(d, .inr (1, [.ref ds, .ref df, .ref de, .int (iI ((sumZ (fun x => bI (0 < FI x)) k) + 1))])), zI g ds 385 (ups ST (k + 1) ((ST k) + (FJ k))), zI g df 384 (ups FJ k 0)] := hD
          refine z_iinc (b := k + 1) (lv' := [(1, .int (iI (k + 1))), (0, .ref d)]) hx hb dX1_setStarts_68 hl (k := 1) rfl (rfl) (by decide) rfl (fun ls hl => ?_)
          refine lv_goto (tgt := 14) hx hb dX1_setStarts_71 (by decide) ?_
          have hP := zP_fld hP 0 rfl 3 (sumZ (fun x => bI (0 < FI x)) (k + 1)) rfl (by rw [sumZ_s _ i1, bI_t (by omega)])
          have hD := zD_set (c1 := ((d, .inr (1, [.ref ds, .ref df, .ref de, .int (iI (sumZ (fun x => bI (0 < FI x)) (k + 1)))]))).2) hD 0 rfl
          have hP : zP g [(d, .inr (1, [.ref ds, .ref df, .ref de, .int (iI (sumZ (fun x => bI (0 < FI x)) (k + 1)))])), zI g ds 385 (ups ST (k + 1) ((ST k) + (FJ k))), zI g df 384 (ups FJ k 0)] H := hP
          have hD : va_D A [(d, .inr (1, [.ref ds, .ref df, .ref de, .int (iI (sumZ (fun x => bI (0 < FI x)) (k + 1)))])), zI g ds 385 (ups ST (k + 1) ((ST k) + (FJ k))), zI g df 384 (ups FJ k 0)] := hD
          exact ih14 (k + 1) (ups ST (k + 1) ((ST k) + (FJ k))) (ups FJ k 0) (by omega) (by omega) (fun j g1 g2 => by by_cases hj : j = k + 1; (· rw [hj, ups_s, i3 k i1 (by omega), hf4, sumZ_s FI i1]); (· rw [ups_n _ _ hj]; exact i3 j g1 (by omega))) (fun j g1 => by rw [ups_n _ _ (by omega)]; exact i4 j (by omega)) (fun j g1 g2 => by by_cases hj : j = k; (· rw [hj, ups_s]); (· rw [ups_n _ _ hj]; exact i5 j g1 (by omega))) (by omega) H locs ls (lv_sub hl [1, 0] rfl) (hP) (hD) hS
  have hP := zP_fld hP 0 rfl 3 (sumZ (fun x => bI (0 < FI x)) 0) rfl ((sumZ_0 _).symm)
  have hD := zD_set (c1 := ((d, .inr (1, [.ref ds, .ref df, .ref de, .int (iI (sumZ (fun x => bI (0 < FI x)) 0))]))).2) hD 0 rfl
  have hP : zP g [(d, .inr (1, [.ref ds, .ref df, .ref de, .int (iI (sumZ (fun x => bI (0 < FI x)) 0))])), zI g ds 385 (ups ST 0 0), zI g df 384 FI] H := hP
  have hD : va_D A [(d, .inr (1, [.ref ds, .ref df, .ref de, .int (iI (sumZ (fun x => bI (0 < FI x)) 0))])), zI g ds 385 (ups ST 0 0), zI g df 384 FI] := hD
  exact L14 (385) 0 (ups ST 0 0) FI (by omega) (by omega) (fun j g1 g2 => by rw [show j = 0 by omega, ups_s, sumZ_0]) (fun j _ => rfl) (fun j g1 g2 => by omega) (by omega) H locs ls (lv_sub hl [1, 0] rfl) (hP) (hD) hS
