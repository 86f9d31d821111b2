set_option maxRecDepth 20000 in
theorem in_m_X6_counts_X6 : ∀ w ∈ u_ws RX6 TX6 9, w ∈ wsX6_counts := zmem_of _ [46, 47, 48, 49, 50, 51, 52, 53, 54] (by decide +kernel)
set_option maxHeartbeats 4000000 in
set_option maxRecDepth 100000 in
theorem m_X6_counts (l : Launch) (g : zG) (q qn qp qi qk qt qw qv qr : Nat) (ac : Int) (N TU PK VO RK : Int → Int) (zN : okN N) : zV l yX6_counts wsX6_counts ({ frames := 4, cells := 0, slots := 0, locals := 94 }) g [.ref q] [(q, .inr (6, [.ref qn, .ref qp, .int (iI ac), .ref qi, .ref qk, .ref qt, .ref qw, .ref qv, .ref qr])), zI g qn 647 N, zI g qt 8 TU, zI g qw 80 PK, zI g qv 124 VO, zB g qr 124 RK] (S := ((Int → Int) × (Int → Int))) (fun u => pkM N u.2) (fun u => [(q, .inr (6, [.ref qn, .ref qp, .int (iI ac), .ref qi, .ref qk, .ref qt, .ref qw, .ref qv, .ref qr])), zI g qn 647 N, zI g qt 8 (u.1), zI g qw 80 (u.2), zI g qv 124 (V_ (FDn N) (N 1)), zB g qr 124 (fun _ => 0)]) := by
  refine z_entV (cc := cX6_counts) (nL := 7) (ret := none) (own := RX6) (by decide) rfl rfl (Nat.le_of_ble_eq_true rfl) ?_
  intro p e s m below meth c Q ls A C hlk hr hQ hP hK hD hA hS hl
  have hx := C.1
  have hb := C.2.1
  have hl : lv_has ls 7 [(0, .ref q)] := hl
  obtain ⟨H, hHe⟩ : ∃ H, H = s.heap := ⟨_, rfl⟩
  obtain ⟨locs, hLe⟩ : ∃ q : List Loc, q = [] := ⟨_, rfl⟩
  have hP : zP g [(q, .inr (6, [.ref qn, .ref qp, .int (iI ac), .ref qi, .ref qk, .ref qt, .ref qw, .ref qv, .ref qr])), zI g qn 647 N, zI g qt 8 TU, zI g qw 80 PK, zI g qv 124 VO, zB g qr 124 RK] H := by rw [hHe]; exact hP
  have hS : va_S A s.heap H locs := by rw [hHe, hLe]; exact hS
  suffices hgo : W p l e ({ frames := 4, cells := 0, slots := 0, locals := 94 }) s m ([.ref q] : List Value).toArray below meth c H locs 0 0 Q (F0 m 0 ls []) by rw [hHe, hLe] at hgo; exact hgo
  clear hHe hLe
  refine lv_aload_n hx hb dX6_counts_0 rfl (lv_at hl 0 rfl) ?_
  refine z_cV (As := []) (rest := []) C (m_X6_findsPeaks (l := l) (g := g) (q := q) (qn := qn) (qp := qp) (qi := qi) (qk := qk) (qt := qt) (qw := qw) (qv := qv) (qr := qr) (ac := ac) (N := N) (TU := TU) (PK := PK) (zN := zN)) (cwV 0 C.2.2.2.2 gX6_counts_X6_findsPeaks rfl rfl rfl (by decide +kernel) ⟨Nat.le_of_ble_eq_true rfl, Nat.le_of_ble_eq_true rfl⟩) hK hP hD hS hA [0, 1, 2, 3] (by decide) rfl (fun _ => rfl) 0 rfl rfl rfl hl.1 rfl (Nat.le_of_ble_eq_true rfl) dX6_counts_1 ⟨Nat.zero_le _, Nat.zero_le _⟩ (fun t_ H locs hpk hP hD hS => ?_)
  have hP : zP g [(q, .inr (6, [.ref qn, .ref qp, .int (iI ac), .ref qi, .ref qk, .ref qt, .ref qw, .ref qv, .ref qr])), zI g qn 647 N, zI g qt 8 (t_.1), zI g qw 80 (t_.2), zI g qv 124 VO, zB g qr 124 RK] H := hP
  have hD : va_D A [(q, .inr (6, [.ref qn, .ref qp, .int (iI ac), .ref qi, .ref qk, .ref qt, .ref qw, .ref qv, .ref qr])), zI g qn 647 N, zI g qt 8 (t_.1), zI g qw 80 (t_.2), zI g qv 124 VO, zB g qr 124 RK] := hD
  refine lv_iconst (v := iI 0) hx hb dX6_counts_4 rfl ?_
  refine lv_istore_n (lv' := [(1, .int (iI 0)), (0, .ref q)]) hx hb dX6_counts_5 rfl hl (by decide) rfl (fun ls hl => ?_)
  have L6 : ∀ (n : Nat) (k : Int) (VO : Int → Int) (RK : Int → Int), (i1 : 0 ≤ k) → (i2 : k ≤ 124) → (i3 : ∀ j, 0 ≤ j → j < k → VO j = 0) → (i4 : ∀ j, 0 ≤ j → j < k → RK j = 0) → (hms : 124 - k < (n : Int)) → ∀ (H : Heap) (locs : List Loc) (ls : Array Slot), lv_has ls 7 [(0, .ref q), (1, .int (iI k))] → zP g [(q, .inr (6, [.ref qn, .ref qp, .int (iI ac), .ref qi, .ref qk, .ref qt, .ref qw, .ref qv, .ref qr])), zI g qn 647 N, zI g qt 8 (t_.1), zI g qw 80 (t_.2), zI g qv 124 VO, zB g qr 124 RK] H → va_D A [(q, .inr (6, [.ref qn, .ref qp, .int (iI ac), .ref qi, .ref qk, .ref qt, .ref qw, .ref qv, .ref qr])), zI g qn 647 N, zI g qt 8 (t_.1), zI g qw 80 (t_.2), zI g qv 124 VO, zB g qr 124 RK] → va_S A s.heap H locs → W p l e ({ frames := 4, cells := 0, slots := 0, locals := 94 }) s m ([.ref q] : List Value).toArray below meth c H locs 0 0 Q (F0 m 6 ls []) := by
    clear hP hD hS hl
    intro n
    induction n with
    | zero =>
      intro k VO RK i1 i2 i3 i4 hms H locs ls hl hP hD hS
      exfalso; omega
    | succ n ih6 =>
      intro k VO RK i1 i2 i3 i4 hms H locs ls hl hP hD hS
      refine lv_iload_n hx hb dX6_counts_6 rfl (lv_at hl 1 rfl) ?_
      refine lv_bipush (v := iI 124) hx hb dX6_counts_7 (by decide +kernel) ?_
      refine z_icmp_ge (tgt := 32) hx hb dX6_counts_9 (by decide) (by omega) (by omega) (fun c_1 => ?_) (fun c_1 => ?_)
      · have hP := zP_arr hP 4 (fun _ => 0) rfl (fun j g1 g2 => i3 j g1 (by omega))
        have hD := zD_set (c1 := (zI g qv 124 (fun _ => 0)).2) hD 4 rfl
        have hP : zP g [(q, .inr (6, [.ref qn, .ref qp, .int (iI ac), .ref qi, .ref qk, .ref qt, .ref qw, .ref qv, .ref qr])), zI g qn 647 N, zI g qt 8 (t_.1), zI g qw 80 (t_.2), zI g qv 124 (fun _ => 0), zB g qr 124 RK] H := hP
        have hD : va_D A [(q, .inr (6, [.ref qn, .ref qp, .int (iI ac), .ref qi, .ref qk, .ref qt, .ref qw, .ref qv, .ref qr])), zI g qn 647 N, zI g qt 8 (t_.1), zI g qw 80 (t_.2), zI g qv 124 (fun _ => 0), zB g qr 124 RK] := hD
        have hP := zP_arrB hP 5 (fun _ => 0) rfl (fun j g1 g2 => i4 j g1 (by omega))
        have hD := zD_set (c1 := (zB g qr 124 (fun _ => 0)).2) hD 5 rfl
        have hP : zP g [(q, .inr (6, [.ref qn, .ref qp, .int (iI ac), .ref qi, .ref qk, .ref qt, .ref qw, .ref qv, .ref qr])), zI g qn 647 N, zI g qt 8 (t_.1), zI g qw 80 (t_.2), zI g qv 124 (fun _ => 0), zB g qr 124 (fun _ => 0)] H := hP
        have hD : va_D A [(q, .inr (6, [.ref qn, .ref qp, .int (iI ac), .ref qi, .ref qk, .ref qt, .ref qw, .ref qv, .ref qr])), zI g qn 647 N, zI g qt 8 (t_.1), zI g qw 80 (t_.2), zI g qv 124 (fun _ => 0), zB g qr 124 (fun _ => 0)] := hD
        refine lv_iconst (v := iI 0) hx hb dX6_counts_32 rfl ?_
        refine lv_istore_n (lv' := [(1, .int (iI 0)), (0, .ref q)]) hx hb dX6_counts_33 rfl hl (by decide) rfl (fun ls hl => ?_)
        have L34 : ∀ (n : Nat) (u : Int) (VO : Int → Int), (u1 : 0 ≤ u) → (u2 : u ≤ 16) → (u3 : ∀ j, 0 ≤ j → j < 124 → VO j = vt (FDn N) (N 1) j u) → (hms : 16 - u < (n : Int)) → ∀ (H : Heap) (locs : List Loc) (ls : Array Slot), lv_has ls 7 [(0, .ref q), (1, .int (iI u))] → zP g [(q, .inr (6, [.ref qn, .ref qp, .int (iI ac), .ref qi, .ref qk, .ref qt, .ref qw, .ref qv, .ref qr])), zI g qn 647 N, zI g qt 8 (t_.1), zI g qw 80 (t_.2), zI g qv 124 VO, zB g qr 124 (fun _ => 0)] H → va_D A [(q, .inr (6, [.ref qn, .ref qp, .int (iI ac), .ref qi, .ref qk, .ref qt, .ref qw, .ref qv, .ref qr])), zI g qn 647 N, zI g qt 8 (t_.1), zI g qw 80 (t_.2), zI g qv 124 VO, zB g qr 124 (fun _ => 0)] → va_S A s.heap H locs → W p l e ({ frames := 4, cells := 0, slots := 0, locals := 94 }) s m ([.ref q] : List Value).toArray below meth c H locs 0 0 Q (F0 m 34 ls []) := by
          clear hP hD hS hl
          intro n
          induction n with
          | zero =>
            intro u VO u1 u2 u3 hms H locs ls hl hP hD hS
            exfalso; omega
          | succ n ih34 =>
            intro u VO u1 u2 u3 hms H locs ls hl hP hD hS
            refine lv_iload_n hx hb dX6_counts_34 rfl (lv_at hl 1 rfl) ?_
            refine lv_bipush (v := iI 16) hx hb dX6_counts_35 (by decide +kernel) ?_
            refine z_icmp_ge (tgt := 143) hx hb dX6_counts_37 (by decide) (by omega) (by omega) (fun c_2 => ?_) (fun c_2 => ?_)
            · obtain rfl : u = 16 := by omega
              have hP := zP_arr hP 4 (V_ (FDn N) (N 1)) rfl (fun j g1 g2 => u3 j g1 (by omega))
              have hD := zD_set (c1 := (zI g qv 124 (V_ (FDn N) (N 1))).2) hD 4 rfl
              have hP : zP g [(q, .inr (6, [.ref qn, .ref qp, .int (iI ac), .ref qi, .ref qk, .ref qt, .ref qw, .ref qv, .ref qr])), zI g qn 647 N, zI g qt 8 (t_.1), zI g qw 80 (t_.2), zI g qv 124 (V_ (FDn N) (N 1)), zB g qr 124 (fun _ => 0)] H := hP
              have hD : va_D A [(q, .inr (6, [.ref qn, .ref qp, .int (iI ac), .ref qi, .ref qk, .ref qt, .ref qw, .ref qv, .ref qr])), zI g qn 647 N, zI g qt 8 (t_.1), zI g qw 80 (t_.2), zI g qv 124 (V_ (FDn N) (N 1)), zB g qr 124 (fun _ => 0)] := hD
              exact z_retV hx hb hlk hr hQ dX6_counts_143 hS t_ (hpk) (hP)
            · refine lv_iload_n hx hb dX6_counts_40 rfl (lv_at hl 1 rfl) ?_
              refine lv_iconst (v := iI 1) hx hb dX6_counts_41 rfl ?_
              refine z_iadd hx hb dX6_counts_42 ?_
              refine lv_istore_n (lv' := [(2, .int (iI (u + 1))), (0, .ref q), (1, .int (iI u))]) hx hb dX6_counts_43 rfl hl (by decide) rfl (fun ls hl => ?_)
              have L44 : ∀ (n : Nat) (w : Int) (VO : Int → Int), (w1 : u + 1 ≤ w) → (w2 : w ≤ 16) → (w3 : ∀ j, 0 ≤ j → j < 124 → VO j = vt (FDn N) (N 1) j u + sumZ (fun y => vk (FDn N) (N 1) u j y) (w - u - 1)) → (hms : 16 - w < (n : Int)) → ∀ (H : Heap) (locs : List Loc) (ls : Array Slot), lv_has ls 7 [(0, .ref q), (1, .int (iI u)), (2, .int (iI w))] → zP g [(q, .inr (6, [.ref qn, .ref qp, .int (iI ac), .ref qi, .ref qk, .ref qt, .ref qw, .ref qv, .ref qr])), zI g qn 647 N, zI g qt 8 (t_.1), zI g qw 80 (t_.2), zI g qv 124 VO, zB g qr 124 (fun _ => 0)] H → va_D A [(q, .inr (6, [.ref qn, .ref qp, .int (iI ac), .ref qi, .ref qk, .ref qt, .ref qw, .ref qv, .ref qr])), zI g qn 647 N, zI g qt 8 (t_.1), zI g qw 80 (t_.2), zI g qv 124 VO, zB g qr 124 (fun _ => 0)] → va_S A s.heap H locs → W p l e ({ frames := 4, cells := 0, slots := 0, locals := 94 }) s m ([.ref q] : List Value).toArray below meth c H locs 0 0 Q (F0 m 44 ls []) := by
                clear hP hD hS hl
                intro n
                induction n with
                | zero =>
                  intro w VO w1 w2 w3 hms H locs ls hl hP hD hS
                  exfalso; omega
                | succ n ih44 =>
                  intro w VO w1 w2 w3 hms H locs ls hl hP hD hS
                  refine lv_iload_n hx hb dX6_counts_44 rfl (lv_at hl 2 rfl) ?_
                  refine lv_bipush (v := iI 16) hx hb dX6_counts_45 (by decide +kernel) ?_
                  refine z_icmp_ge (tgt := 137) hx hb dX6_counts_47 (by decide) (by omega) (by omega) (fun c_3 => ?_) (fun c_3 => ?_)
                  · refine z_iinc (b := u + 1) (lv' := [(1, .int (iI (u + 1))), (0, .ref q), (2, .int (iI w))]) hx hb dX6_counts_137 hl (k := 1) rfl (rfl) (by decide) rfl (fun ls hl => ?_)
                    refine lv_goto (tgt := 34) hx hb dX6_counts_140 (by decide) ?_
                    exact ih34 (u + 1) VO (by omega) (by omega) (fun j g1 g2 => by rw [w3 j g1 g2, vu_re (by omega) (by omega) (by omega)]; unfold vt; rw [sumZ_s _ u1]) (by omega) H locs ls (lv_sub hl [1, 0] rfl) (hP) (hD) hS
                  · refine lv_aload_n hx hb dX6_counts_50 rfl (lv_at hl 0 rfl) ?_
                    refine lv_iconst (v := iI 4) hx hb dX6_counts_51 rfl ?_
                    refine lv_iload_n hx hb dX6_counts_52 rfl (lv_at hl 1 rfl) ?_
                    refine lv_iload_n hx hb dX6_counts_53 rfl (lv_at hl 2 rfl) ?_
                    refine z_cS (As := [.int (iI 4), .int (iI u), .int (iI w)]) (rest := []) C (m_X6_keyOf (l := l) (g := g) (q := q) (qn := qn) (qp := qp) (qi := qi) (qk := qk) (qt := qt) (qw := qw) (qv := qv) (qr := qr) (ac := ac) (N := N) (PK := t_.2) (pi_ := 4) (v := u) (w := w) (zN := zN) (hpk := hpk) (h1 := by omega) (h2 := by omega) (v1 := by omega) (v2 := by omega)) (cwV 3 C.2.2.2.2 gX6_counts_X6_keyOf rfl rfl rfl (by decide +kernel) ⟨Nat.le_of_ble_eq_true rfl, Nat.le_of_ble_eq_true rfl⟩) hK hP [0, 1, 3] rfl 0 rfl rfl rfl hl.1 rfl (Nat.le_of_ble_eq_true rfl) dX6_counts_54 ⟨Nat.zero_le _, Nat.zero_le _⟩ ?_
                    refine lv_istore_n (lv' := [(3, .int (iI (kyf (FDn N) (N 1) 4 u w))), (0, .ref q), (1, .int (iI u)), (2, .int (iI w))]) hx hb dX6_counts_57 rfl hl (by decide) rfl (fun ls hl => ?_)
                    refine lv_iconst (v := iI 0) hx hb dX6_counts_58 rfl ?_
                    refine lv_istore (lv' := [(4, .int (iI 0)), (3, .int (iI (kyf (FDn N) (N 1) 4 u w))), (0, .ref q), (1, .int (iI u)), (2, .int (iI w))]) hx hb dX6_counts_59 hl (by decide) rfl (fun ls hl => ?_)
                    have L61 : ∀ (n : Nat) (k : Int) (VO : Int → Int), (l1 : 0 ≤ k) → (l2 : k ≤ 64) → (l3 : ∀ j, 0 ≤ j → j < 124 → VO j = vt (FDn N) (N 1) j u + sumZ (fun y => vk (FDn N) (N 1) u j y) (w - u - 1) + (if kyf (FDn N) (N 1) 4 u w = -1 then 0 else vc (FDn N) (N 1) u (kyf (FDn N) (N 1) 4 u w) j k)) → (l4 : kyf (FDn N) (N 1) 4 u w = -1 → k = 0) → (hms : 64 - k < (n : Int)) → ∀ (H : Heap) (locs : List Loc) (ls : Array Slot), lv_has ls 7 [(0, .ref q), (1, .int (iI u)), (2, .int (iI w)), (3, .int (iI (kyf (FDn N) (N 1) 4 u w))), (4, .int (iI k))] → zP g [(q, .inr (6, [.ref qn, .ref qp, .int (iI ac), .ref qi, .ref qk, .ref qt, .ref qw, .ref qv, .ref qr])), zI g qn 647 N, zI g qt 8 (t_.1), zI g qw 80 (t_.2), zI g qv 124 VO, zB g qr 124 (fun _ => 0)] H → va_D A [(q, .inr (6, [.ref qn, .ref qp, .int (iI ac), .ref qi, .ref qk, .ref qt, .ref qw, .ref qv, .ref qr])), zI g qn 647 N, zI g qt 8 (t_.1), zI g qw 80 (t_.2), zI g qv 124 VO, zB g qr 124 (fun _ => 0)] → va_S A s.heap H locs → W p l e ({ frames := 4, cells := 0, slots := 0, locals := 94 }) s m ([.ref q] : List Value).toArray below meth c H locs 0 0 Q (F0 m 61 ls []) := by
                      clear hP hD hS hl
                      intro n
                      induction n with
                      | zero =>
                        intro k VO l1 l2 l3 l4 hms H locs ls hl hP hD hS
                        exfalso; omega
                      | succ n ih61 =>
                        intro k VO l1 l2 l3 l4 hms H locs ls hl hP hD hS
                        have hkr := kyf_rg (FDn_rg N) (N 1) 4 u w (by have := zN.2.1; omega)
                        refine lv_iload hx hb dX6_counts_61 (lv_at hl 4 rfl) ?_
                        refine lv_bipush (v := iI 64) hx hb dX6_counts_63 (by decide +kernel) ?_
                        refine z_icmp_ge (tgt := 131) hx hb dX6_counts_65 (by decide) (by omega) (by omega) (fun c_4 => ?_) (fun c_4 => ?_)
                        · have hkn : kyf (FDn N) (N 1) 4 u w ≠ -1 := fun z => by have := l4 z; omega
                          refine z_iinc (b := w + 1) (lv' := [(2, .int (iI (w + 1))), (0, .ref q), (1, .int (iI u)), (3, .int (iI (kyf (FDn N) (N 1) 4 u w))), (4, .int (iI k))]) hx hb dX6_counts_131 hl (k := 2) rfl (rfl) (by decide) rfl (fun ls hl => ?_)
                          refine lv_goto (tgt := 44) hx hb dX6_counts_134 (by decide) ?_
                          exact ih44 (w + 1) VO (by omega) (by omega) (fun j g1 g2 => by rw [l3 j g1 g2, show w + 1 - u - 1 = (w - u - 1) + 1 by omega, sumZ_s _ (by omega)]; unfold vk; rw [show u + (w - u - 1 + 1) = w by omega, if_neg hkn, if_neg hkn, show k = 64 by omega]; omega) (by omega) H locs ls (lv_sub hl [1, 2, 0] rfl) (hP) (hD) hS
                        · refine lv_iload_n hx hb dX6_counts_68 rfl (lv_at hl 3 rfl) ?_
                          refine lv_iconst (v := iI (-1)) hx hb dX6_counts_69 rfl ?_
                          refine z_icmp_eq (tgt := 131) hx hb dX6_counts_70 (by decide) (by omega) (by omega) (fun hc => ?_) (fun hc => ?_)
                          · refine z_iinc (b := w + 1) (lv' := [(2, .int (iI (w + 1))), (0, .ref q), (1, .int (iI u)), (3, .int (iI (kyf (FDn N) (N 1) 4 u w))), (4, .int (iI k))]) hx hb dX6_counts_131 hl (k := 2) rfl (rfl) (by decide) rfl (fun ls hl => ?_)
                            refine lv_goto (tgt := 44) hx hb dX6_counts_134 (by decide) ?_
                            exact ih44 (w + 1) VO (by omega) (by omega) (fun j g1 g2 => by rw [l3 j g1 g2, show w + 1 - u - 1 = (w - u - 1) + 1 by omega, sumZ_s _ (by omega)]; unfold vk; rw [show u + (w - u - 1 + 1) = w by omega, if_pos hc, if_pos hc]; omega) (by omega) H locs ls (lv_sub hl [1, 2, 0] rfl) (hP) (hD) hS
                          · have hvr := vcl_rg (x := k) (u := u) l1 (by omega) u1 (by omega)
                            refine lv_iload hx hb dX6_counts_73 (lv_at hl 4 rfl) ?_
                            refine lv_bipush (v := iI 16) hx hb dX6_counts_75 (by decide +kernel) ?_
                            refine z_idivN hx hb dX6_counts_77 (by omega) (by omega) (by omega) (by omega) ?_
                            refine lv_istore (lv' := [(5, .int (iI (k / 16))), (0, .ref q), (1, .int (iI u)), (2, .int (iI w)), (3, .int (iI (kyf (FDn N) (N 1) 4 u w))), (4, .int (iI k))]) hx hb dX6_counts_78 hl (by decide) rfl (fun ls hl => ?_)
                            refine lv_iload hx hb dX6_counts_80 (lv_at hl 5 rfl) ?_
                            refine lv_bipush (v := iI 16) hx hb dX6_counts_82 (by decide +kernel) ?_
                            refine z_iremN hx hb dX6_counts_84 (by omega) (by omega) (by omega) (by omega) ?_
                            refine lv_istore (lv' := [(6, .int (iI (k % 16))), (5, .int (iI (k / 16))), (0, .ref q), (1, .int (iI u)), (2, .int (iI w)), (3, .int (iI (kyf (FDn N) (N 1) 4 u w))), (4, .int (iI k))]) hx hb dX6_counts_85 hl (by decide) rfl (fun ls hl => ?_)
                            refine lv_aload_n hx hb dX6_counts_87 rfl (lv_at hl 2 rfl) ?_
                            refine z_get (v := .ref qv) (Cn := RX6) (T := TX6) (N := 9) (ci := 6) C in_m_X6_counts_X6 hK hP 0 rfl rfl 7 (by decide) (List.mem_of_getElem? (i := 1) rfl) rfl dX6_counts_88 ?_
                            refine lv_bipush (v := iI 31) hx hb dX6_counts_91 (by decide +kernel) ?_
                            refine lv_iload hx hb dX6_counts_93 (lv_at hl 1 rfl) ?_
                            refine z_imul hx hb dX6_counts_95 ?_
                            refine lv_iload hx hb dX6_counts_96 (lv_at hl 0 rfl) ?_
                            refine z_iadd hx hb dX6_counts_98 ?_
                            refine lv_iload_n hx hb dX6_counts_99 rfl (lv_at hl 3 rfl) ?_
                            refine z_isub hx hb dX6_counts_100 ?_
                            refine lv_bipush (v := iI 15) hx hb dX6_counts_101 (by decide +kernel) ?_
                            refine z_iadd hx hb dX6_counts_103 ?_
                            refine z_top (b := vcl k u) (by unfold vcl; omega) ?_
                            refine lv_dup2_11 hx hb dX6_counts_104 rfl rfl ?_
                            refine z_iald hx hb hK hP 4 rfl (by omega) (by omega) (Nat.le_of_ble_eq_true rfl) dX6_counts_105 ?_
                            refine lv_aload_n hx hb dX6_counts_106 rfl (lv_at hl 2 rfl) ?_
                            refine lv_iload hx hb dX6_counts_107 (lv_at hl 1 rfl) ?_
                            refine lv_iload_n hx hb dX6_counts_109 rfl (lv_at hl 5 rfl) ?_
                            refine lv_iload hx hb dX6_counts_110 (lv_at hl 0 rfl) ?_
                            refine z_cS (As := [.int (iI (k / 16)), .int (iI (kyf (FDn N) (N 1) 4 u w)), .int (iI (k % 16))]) (rest := [.int (iI (VO (vcl k u))), .int (iI (vcl k u)), .ref qv]) C (m_X6_stands (l := l) (g := g) (q := q) (qn := qn) (qp := qp) (qi := qi) (qk := qk) (qt := qt) (qw := qw) (qv := qv) (qr := qr) (ac := ac) (N := N) (PK := t_.2) (pi_ := k / 16) (key := kyf (FDn N) (N 1) 4 u w) (v := k % 16) (zN := zN) (hpk := hpk) (h1 := by omega) (h2 := by omega) (v1 := by omega) (k1 := by omega)) (cwV 3 C.2.2.2.2 gX6_counts_X6_stands rfl rfl rfl (by decide +kernel) ⟨Nat.le_of_ble_eq_true rfl, Nat.le_of_ble_eq_true rfl⟩) hK hP [0, 1, 3] rfl 0 rfl rfl rfl hl.1 rfl (Nat.le_of_ble_eq_true rfl) dX6_counts_112 ⟨Nat.zero_le _, Nat.zero_le _⟩ ?_
                            refine z_ifb_eq (tgt := 122) hx hb dX6_counts_115 (by decide) (fun hs => ?_) (fun hs => ?_)
                            · refine lv_iconst (v := iI 0) hx hb dX6_counts_122 rfl ?_
                              refine z_iadd hx hb dX6_counts_123 ?_
                              refine z_iast hx hb hK hP hD hS 4 rfl (by omega) (by omega) (Nat.le_of_ble_eq_true rfl) dX6_counts_124 (fun H locs hP hD hS => ?_)
                              have hP : zP g [(q, .inr (6, [.ref qn, .ref qp, .int (iI ac), .ref qi, .ref qk, .ref qt, .ref qw, .ref qv, .ref qr])), zI g qn 647 N, zI g qt 8 (t_.1), zI g qw 80 (t_.2), zI g qv 124 (ups VO (vcl k u) ((VO (vcl k u)) + 0)), zB g qr 124 (fun _ => 0)] H := hP
                              have hD : va_D A [(q, .inr (6, [.ref qn, .ref qp, .int (iI ac), .ref qi, .ref qk, .ref qt, .ref qw, .ref qv, .ref qr])), zI g qn 647 N, zI g qt 8 (t_.1), zI g qw 80 (t_.2), zI g qv 124 (ups VO (vcl k u) ((VO (vcl k u)) + 0)), zB g qr 124 (fun _ => 0)] := hD
                              refine z_iinc (b := k + 1) (lv' := [(4, .int (iI (k + 1))), (6, .int (iI (k % 16))), (5, .int (iI (k / 16))), (0, .ref q), (1, .int (iI u)), (2, .int (iI w)), (3, .int (iI (kyf (FDn N) (N 1) 4 u w)))]) hx hb dX6_counts_125 hl (k := 6) rfl (rfl) (by decide) rfl (fun ls hl => ?_)
                              refine lv_goto (tgt := 61) hx hb dX6_counts_128 (by decide) ?_
                              exact ih61 (k + 1) (ups VO (vcl k u) ((VO (vcl k u)) + 0)) (by omega) (by omega) (fun j g1 g2 => by by_cases hj : j = vcl k u; (· rw [hj, ups_s, l3 _ (by omega) (by omega), if_neg hc, if_neg hc, vc_s _ _ _ _ _ l1, bI_f (fun z => hs z.1)]; omega); (· rw [ups_n _ _ hj, l3 j g1 g2, if_neg hc, if_neg hc, vc_s _ _ _ _ _ l1, bI_f (fun z => hj z.2.symm)]; omega)) (fun z => absurd z hc) (by omega) H locs ls (lv_sub hl [3, 4, 5, 6, 0] rfl) (hP) (hD) hS
                            · refine lv_iconst (v := iI 1) hx hb dX6_counts_118 rfl ?_
                              refine lv_goto (tgt := 123) hx hb dX6_counts_119 (by decide) ?_
                              refine z_iadd hx hb dX6_counts_123 ?_
                              refine z_iast hx hb hK hP hD hS 4 rfl (by omega) (by omega) (Nat.le_of_ble_eq_true rfl) dX6_counts_124 (fun H locs hP hD hS => ?_)
                              have hP : zP g [(q, .inr (6, [.ref qn, .ref qp, .int (iI ac), .ref qi, .ref qk, .ref qt, .ref qw, .ref qv, .ref qr])), zI g qn 647 N, zI g qt 8 (t_.1), zI g qw 80 (t_.2), zI g qv 124 (ups VO (vcl k u) ((VO (vcl k u)) + 1)), zB g qr 124 (fun _ => 0)] H := hP
                              have hD : va_D A [(q, .inr (6, [.ref qn, .ref qp, .int (iI ac), .ref qi, .ref qk, .ref qt, .ref qw, .ref qv, .ref qr])), zI g qn 647 N, zI g qt 8 (t_.1), zI g qw 80 (t_.2), zI g qv 124 (ups VO (vcl k u) ((VO (vcl k u)) + 1)), zB g qr 124 (fun _ => 0)] := hD
                              refine z_iinc (b := k + 1) (lv' := [(4, .int (iI (k + 1))), (6, .int (iI (k % 16))), (5, .int (iI (k / 16))), (0, .ref q), (1, .int (iI u)), (2, .int (iI w)), (3, .int (iI (kyf (FDn N) (N 1) 4 u w)))]) hx hb dX6_counts_125 hl (k := 6) rfl (rfl) (by decide) rfl (fun ls hl => ?_)
                              refine lv_goto (tgt := 61) hx hb dX6_counts_128 (by decide) ?_
                              exact ih61 (k + 1) (ups VO (vcl k u) ((VO (vcl k u)) + 1)) (by omega) (by omega) (fun j g1 g2 => by by_cases hj : j = vcl k u; (· rw [hj, ups_s, l3 _ (by omega) (by omega), if_neg hc, if_neg hc, vc_s _ _ _ _ _ l1, bI_t ⟨hs, rfl⟩]; omega); (· rw [ups_n _ _ hj, l3 j g1 g2, if_neg hc, if_neg hc, vc_s _ _ _ _ _ l1, bI_f (fun z => hj z.2.symm)]; omega)) (fun z => absurd z hc) (by omega) H locs ls (lv_sub hl [3, 4, 5, 6, 0] rfl) (hP) (hD) hS
                    exact L61 (65) 0 VO (by omega) (by omega) (fun j g1 g2 => by rw [w3 j g1 g2, vc_0]; split <;> omega) (fun _ => rfl) (by omega) H locs ls (lv_sub hl [2, 3, 4, 1, 0] rfl) (hP) (hD) hS
              exact L44 (17) (u + 1) VO (by omega) (by omega) (fun j g1 g2 => by rw [u3 j g1 g2, show u + 1 - u - 1 = 0 by omega, sumZ_0]; omega) (by omega) H locs ls (lv_sub hl [1, 2, 0] rfl) (hP) (hD) hS
        exact L34 (17) 0 (fun _ => 0) (by omega) (by omega) (fun j _ _ => rfl) (by omega) H locs ls (lv_sub hl [1, 0] rfl) (hP) (hD) hS
      · refine lv_aload_n hx hb dX6_counts_12 rfl (lv_at hl 0 rfl) ?_
        refine z_get (v := .ref qv) (Cn := RX6) (T := TX6) (N := 9) (ci := 6) C in_m_X6_counts_X6 hK hP 0 rfl rfl 7 (by decide) (List.mem_of_getElem? (i := 1) rfl) rfl dX6_counts_13 ?_
        refine lv_iload_n hx hb dX6_counts_16 rfl (lv_at hl 1 rfl) ?_
        refine lv_iconst (v := iI 0) hx hb dX6_counts_17 rfl ?_
        refine z_iast hx hb hK hP hD hS 4 rfl (by omega) (by omega) (Nat.le_of_ble_eq_true rfl) dX6_counts_18 (fun H locs hP hD hS => ?_)
        have hP : zP g [(q, .inr (6, [.ref qn, .ref qp, .int (iI ac), .ref qi, .ref qk, .ref qt, .ref qw, .ref qv, .ref qr])), zI g qn 647 N, zI g qt 8 (t_.1), zI g qw 80 (t_.2), zI g qv 124 (ups VO k 0), zB g qr 124 RK] H := hP
        have hD : va_D A [(q, .inr (6, [.ref qn, .ref qp, .int (iI ac), .ref qi, .ref qk, .ref qt, .ref qw, .ref qv, .ref qr])), zI g qn 647 N, zI g qt 8 (t_.1), zI g qw 80 (t_.2), zI g qv 124 (ups VO k 0), zB g qr 124 RK] := hD
        refine lv_aload_n hx hb dX6_counts_19 rfl (lv_at hl 0 rfl) ?_
        refine z_get (v := .ref qr) (Cn := RX6) (T := TX6) (N := 9) (ci := 6) C in_m_X6_counts_X6 hK hP 0 rfl rfl 8 (by decide) (List.mem_of_getElem? (i := 2) rfl) rfl dX6_counts_20 ?_
        refine lv_iload_n hx hb dX6_counts_23 rfl (lv_at hl 1 rfl) ?_
        refine lv_iconst (v := iI 0) hx hb dX6_counts_24 rfl ?_
        refine z_bast hx hb hK hP hD hS 5 rfl (by omega) (by omega) (Nat.le_of_ble_eq_true rfl) (by omega) dX6_counts_25 (fun H locs hP hD hS => ?_)
        have hP : zP g [(q, .inr (6, [.ref qn, .ref qp, .int (iI ac), .ref qi, .ref qk, .ref qt, .ref qw, .ref qv, .ref qr])), zI g qn 647 N, zI g qt 8 (t_.1), zI g qw 80 (t_.2), zI g qv 124 (ups VO k 0), zB g qr 124 (ups RK k 0)] H := hP
        have hD : va_D A [(q, .inr (6, [.ref qn, .ref qp, .int (iI ac), .ref qi, .ref qk, .ref qt, .ref qw, .ref qv, .ref qr])), zI g qn 647 N, zI g qt 8 (t_.1), zI g qw 80 (t_.2), zI g qv 124 (ups VO k 0), zB g qr 124 (ups RK k 0)] := hD
        refine z_iinc (b := k + 1) (lv' := [(1, .int (iI (k + 1))), (0, .ref q)]) hx hb dX6_counts_26 hl (k := 1) rfl (rfl) (by decide) rfl (fun ls hl => ?_)
        refine lv_goto (tgt := 6) hx hb dX6_counts_29 (by decide) ?_
        exact ih6 (k + 1) (ups VO k 0) (ups RK k 0) (by omega) (by omega) (fun j g1 g2 => by by_cases hj : j = k; (· rw [hj, ups_s]); (· rw [ups_n _ _ hj]; exact i3 j g1 (by omega))) (fun j g1 g2 => by by_cases hj : j = k; (· rw [hj, ups_s]); (· rw [ups_n _ _ hj]; exact i4 j g1 (by omega))) (by omega) H locs ls (lv_sub hl [1, 0] rfl) (hP) (hD) hS
  exact L6 (125) 0 VO RK (by omega) (by omega) (fun j g1 g2 => by omega) (fun j g1 g2 => by omega) (by omega) H locs ls (lv_sub hl [1, 0] rfl) (hP) (hD) hS
set_option maxRecDepth 20000 in
theorem in_m_X6_best_X6 : ∀ w ∈ u_ws RX6 TX6 9, w ∈ wsX6_best := zmem_of _ [3, 4, 5, 6, 7, 8, 9, 10, 11] (by decide +kernel)
set_option maxHeartbeats 4000000 in
set_option maxRecDepth 100000 in
theorem m_X6_best (l : Launch) (g : zG) (q qn qp qi qk qt qw qv qr : Nat) (ac : Int) (VO RK : Int → Int) (wo : Int) (hV : ∀ j, 0 ≤ VO j ∧ VO j ≤ 100000) (hR : ∀ j, 0 ≤ j → j < 124 → RK j = 0 ∨ RK j = 1) (o1 : -1 ≤ wo ∧ wo ≤ 10) : zS l yX6_best wsX6_best ({ frames := 0, cells := 0, slots := 0, locals := 0 }) g [.ref q, .int (iI wo)] [(q, .inr (6, [.ref qn, .ref qp, .int (iI ac), .ref qi, .ref qk, .ref qt, .ref qw, .ref qv, .ref qr])), zI g qv 124 VO, zB g qr 124 RK] (bz VO RK wo 124) := by
  refine z_entS (cc := cX6_best) (nL := 5) (ret := (some .int)) (own := RX6) (by decide) rfl rfl (Nat.le_of_ble_eq_true rfl) ?_
  intro p e s m below meth c Q ls C hlk hr hQ hP hK hl
  have hx := C.1
  have hb := C.2.1
  have hl : lv_has ls 5 [(0, .ref q), (1, .int (iI wo))] := hl
  refine lv_iconst (v := iI (-1)) hx hb dX6_best_0 rfl ?_
  refine lv_istore_n (lv' := [(2, .int (iI (-1))), (0, .ref q), (1, .int (iI wo))]) hx hb dX6_best_1 rfl hl (by decide) rfl (fun ls hl => ?_)
  refine lv_iconst (v := iI 0) hx hb dX6_best_2 rfl ?_
  refine lv_istore_n (lv' := [(3, .int (iI 0)), (2, .int (iI (-1))), (0, .ref q), (1, .int (iI wo))]) hx hb dX6_best_3 rfl hl (by decide) rfl (fun ls hl => ?_)
  have L4 : ∀ (n : Nat) (k : Int), (i1 : 0 ≤ k) → (i2 : k ≤ 124) → (hms : 124 - k < (n : Int)) → ∀ (ls : Array Slot), lv_has ls 5 [(0, .ref q), (1, .int (iI wo)), (2, .int (iI (bz VO RK wo k))), (3, .int (iI k))] → W p l e ({ frames := 0, cells := 0, slots := 0, locals := 0 }) s m ([.ref q, .int (iI wo)] : List Value).toArray below meth c s.heap [] 0 0 Q (F0 m 4 ls []) := by
    clear hl
    intro n
    induction n with
    | zero =>
      intro k i1 i2 hms ls hl
      exfalso; omega
    | succ n ih4 =>
      intro k i1 i2 hms ls hl
      have hb1 := bz_rg VO RK wo i1
      have hv1 := hV k
      have hv2 := hV (bz VO RK wo k)
      refine lv_iload_n hx hb dX6_best_4 rfl (lv_at hl 3 rfl) ?_
      refine lv_bipush (v := iI 124) hx hb dX6_best_5 (by decide +kernel) ?_
      refine z_icmp_ge (tgt := 80) hx hb dX6_best_7 (by decide) (by omega) (by omega) (fun c_1 => ?_) (fun c_1 => ?_)
      · obtain rfl : k = 124 := by omega
        refine lv_iload_n hx hb dX6_best_80 rfl (lv_at hl 2 rfl) ?_
        exact z_retS hx hb hlk hr hQ dX6_best_81 (rfl)
      · refine lv_aload_n hx hb dX6_best_10 rfl (lv_at hl 0 rfl) ?_
        refine z_get (v := .ref qv) (Cn := RX6) (T := TX6) (N := 9) (ci := 6) C in_m_X6_best_X6 hK hP 0 rfl rfl 7 (by decide) (List.mem_of_getElem? (i := 1) rfl) rfl dX6_best_11 ?_
        refine lv_iload_n hx hb dX6_best_14 rfl (lv_at hl 3 rfl) ?_
        refine z_iald hx hb hK hP 1 rfl (by omega) (by omega) (Nat.le_of_ble_eq_true rfl) dX6_best_15 ?_
        refine z_if_le (tgt := 40) hx hb dX6_best_16 (by decide) (by omega) (fun c_2 => ?_) (fun c_2 => ?_)
        · refine lv_iconst (v := iI 0) hx hb dX6_best_40 rfl ?_
          refine lv_istore (lv' := [(4, .int (iI 0)), (0, .ref q), (1, .int (iI wo)), (2, .int (iI (bz VO RK wo k))), (3, .int (iI k))]) hx hb dX6_best_41 hl (by decide) rfl (fun ls hl => ?_)
          refine lv_iload hx hb dX6_best_43 (lv_at hl 0 rfl) ?_
          refine z_if_eq (tgt := 72) hx hb dX6_best_45 (by decide) (by omega) (fun c_3 => ?_) (fun c_3 => ?_)
          · refine lv_iload_n hx hb dX6_best_72 rfl (lv_at hl 3 rfl) ?_
            refine lv_istore_n (lv' := [(2, .int (iI (bz VO RK wo k))), (4, .int (iI 0)), (0, .ref q), (1, .int (iI wo)), (3, .int (iI k))]) hx hb dX6_best_73 rfl hl (by decide) rfl (fun ls hl => ?_)
            refine z_iinc (b := k + 1) (lv' := [(3, .int (iI (k + 1))), (2, .int (iI (bz VO RK wo k))), (4, .int (iI 0)), (0, .ref q), (1, .int (iI wo))]) hx hb dX6_best_74 hl (k := 4) rfl (rfl) (by decide) rfl (fun ls hl => ?_)
            refine lv_goto (tgt := 4) hx hb dX6_best_77 (by decide) ?_
            have hl := lv_chg hl 1 (b := bz VO RK wo (k + 1)) rfl ((bz_f i1 (by omega)).symm)
            have hl : lv_has ls 5 [(3, .int (iI (k + 1))), (2, .int (iI (bz VO RK wo (k + 1)))), (4, .int (iI 0)), (0, .ref q), (1, .int (iI wo))] := hl
            exact ih4 (k + 1) (by omega) (by omega) (by omega) ls (lv_sub hl [3, 4, 1, 0] rfl)
          · exfalso; omega
        · have hr1 := hR k i1 (by omega)
          refine lv_aload_n hx hb dX6_best_19 rfl (lv_at hl 0 rfl) ?_
          refine z_get (v := .ref qr) (Cn := RX6) (T := TX6) (N := 9) (ci := 6) C in_m_X6_best_X6 hK hP 0 rfl rfl 8 (by decide) (List.mem_of_getElem? (i := 2) rfl) rfl dX6_best_20 ?_
          refine lv_iload_n hx hb dX6_best_23 rfl (lv_at hl 3 rfl) ?_
          refine z_bald hx hb hK hP 2 rfl (by omega) (by omega) (Nat.le_of_ble_eq_true rfl) dX6_best_24 ?_
          refine z_if_ne (tgt := 40) hx hb dX6_best_25 (by decide) (by omega) (fun c_4 => ?_) (fun c_4 => ?_)
          · refine lv_iconst (v := iI 0) hx hb dX6_best_40 rfl ?_
            refine lv_istore (lv' := [(4, .int (iI 0)), (0, .ref q), (1, .int (iI wo)), (2, .int (iI (bz VO RK wo k))), (3, .int (iI k))]) hx hb dX6_best_41 hl (by decide) rfl (fun ls hl => ?_)
            refine lv_iload hx hb dX6_best_43 (lv_at hl 0 rfl) ?_
            refine z_if_eq (tgt := 72) hx hb dX6_best_45 (by decide) (by omega) (fun c_5 => ?_) (fun c_5 => ?_)
            · refine lv_iload_n hx hb dX6_best_72 rfl (lv_at hl 3 rfl) ?_
              refine lv_istore_n (lv' := [(2, .int (iI (bz VO RK wo k))), (4, .int (iI 0)), (0, .ref q), (1, .int (iI wo)), (3, .int (iI k))]) hx hb dX6_best_73 rfl hl (by decide) rfl (fun ls hl => ?_)
              refine z_iinc (b := k + 1) (lv' := [(3, .int (iI (k + 1))), (2, .int (iI (bz VO RK wo k))), (4, .int (iI 0)), (0, .ref q), (1, .int (iI wo))]) hx hb dX6_best_74 hl (k := 4) rfl (rfl) (by decide) rfl (fun ls hl => ?_)
              refine lv_goto (tgt := 4) hx hb dX6_best_77 (by decide) ?_
              have hl := lv_chg hl 1 (b := bz VO RK wo (k + 1)) rfl ((bz_f i1 (by omega)).symm)
              have hl : lv_has ls 5 [(3, .int (iI (k + 1))), (2, .int (iI (bz VO RK wo (k + 1)))), (4, .int (iI 0)), (0, .ref q), (1, .int (iI wo))] := hl
              exact ih4 (k + 1) (by omega) (by omega) (by omega) ls (lv_sub hl [3, 4, 1, 0] rfl)
            · exfalso; omega
          · refine lv_iload_n hx hb dX6_best_28 rfl (lv_at hl 3 rfl) ?_
            refine lv_bipush (v := iI 31) hx hb dX6_best_29 (by decide +kernel) ?_
            refine z_idivN hx hb dX6_best_31 (by omega) (by omega) (by omega) (by omega) ?_
            refine lv_iload_n hx hb dX6_best_32 rfl (lv_at hl 1 rfl) ?_
            refine z_icmp_eq (tgt := 40) hx hb dX6_best_33 (by decide) (by omega) (by omega) (fun c_6 => ?_) (fun c_6 => ?_)
            · refine lv_iconst (v := iI 0) hx hb dX6_best_40 rfl ?_
              refine lv_istore (lv' := [(4, .int (iI 0)), (0, .ref q), (1, .int (iI wo)), (2, .int (iI (bz VO RK wo k))), (3, .int (iI k))]) hx hb dX6_best_41 hl (by decide) rfl (fun ls hl => ?_)
              refine lv_iload hx hb dX6_best_43 (lv_at hl 0 rfl) ?_
              refine z_if_eq (tgt := 72) hx hb dX6_best_45 (by decide) (by omega) (fun c_7 => ?_) (fun c_7 => ?_)
              · refine lv_iload_n hx hb dX6_best_72 rfl (lv_at hl 3 rfl) ?_
                refine lv_istore_n (lv' := [(2, .int (iI (bz VO RK wo k))), (4, .int (iI 0)), (0, .ref q), (1, .int (iI wo)), (3, .int (iI k))]) hx hb dX6_best_73 rfl hl (by decide) rfl (fun ls hl => ?_)
                refine z_iinc (b := k + 1) (lv' := [(3, .int (iI (k + 1))), (2, .int (iI (bz VO RK wo k))), (4, .int (iI 0)), (0, .ref q), (1, .int (iI wo))]) hx hb dX6_best_74 hl (k := 4) rfl (rfl) (by decide) rfl (fun ls hl => ?_)
                refine lv_goto (tgt := 4) hx hb dX6_best_77 (by decide) ?_
                have hl := lv_chg hl 1 (b := bz VO RK wo (k + 1)) rfl ((bz_f i1 (by omega)).symm)
                have hl : lv_has ls 5 [(3, .int (iI (k + 1))), (2, .int (iI (bz VO RK wo (k + 1)))), (4, .int (iI 0)), (0, .ref q), (1, .int (iI wo))] := hl
                exact ih4 (k + 1) (by omega) (by omega) (by omega) ls (lv_sub hl [3, 4, 1, 0] rfl)
              · exfalso; omega
            · refine lv_iconst (v := iI 1) hx hb dX6_best_36 rfl ?_
              refine lv_goto (tgt := 41) hx hb dX6_best_37 (by decide) ?_
              refine lv_istore (lv' := [(4, .int (iI 1)), (0, .ref q), (1, .int (iI wo)), (2, .int (iI (bz VO RK wo k))), (3, .int (iI k))]) hx hb dX6_best_41 hl (by decide) rfl (fun ls hl => ?_)
              refine lv_iload hx hb dX6_best_43 (lv_at hl 0 rfl) ?_
              refine z_if_eq (tgt := 72) hx hb dX6_best_45 (by decide) (by omega) (fun c_8 => ?_) (fun c_8 => ?_)
              · exfalso; omega
              · refine lv_iload_n hx hb dX6_best_48 rfl (lv_at hl 3 rfl) ?_
                refine lv_iconst (v := iI (-1)) hx hb dX6_best_49 rfl ?_
                refine z_icmp_eq (tgt := 68) hx hb dX6_best_50 (by decide) (by omega) (by omega) (fun c_9 => ?_) (fun c_9 => ?_)
                · refine lv_iload_n hx hb dX6_best_68 rfl (lv_at hl 4 rfl) ?_
                  refine lv_goto (tgt := 73) hx hb dX6_best_69 (by decide) ?_
                  refine lv_istore_n (lv' := [(2, .int (iI k)), (4, .int (iI 1)), (0, .ref q), (1, .int (iI wo)), (3, .int (iI k))]) hx hb dX6_best_73 rfl hl (by decide) rfl (fun ls hl => ?_)
                  refine z_iinc (b := k + 1) (lv' := [(3, .int (iI (k + 1))), (2, .int (iI k)), (4, .int (iI 1)), (0, .ref q), (1, .int (iI wo))]) hx hb dX6_best_74 hl (k := 4) rfl (rfl) (by decide) rfl (fun ls hl => ?_)
                  refine lv_goto (tgt := 4) hx hb dX6_best_77 (by decide) ?_
                  have hl := lv_chg hl 1 (b := bz VO RK wo (k + 1)) rfl ((bz_t i1 (by omega)).symm)
                  have hl : lv_has ls 5 [(3, .int (iI (k + 1))), (2, .int (iI (bz VO RK wo (k + 1)))), (4, .int (iI 1)), (0, .ref q), (1, .int (iI wo))] := hl
                  exact ih4 (k + 1) (by omega) (by omega) (by omega) ls (lv_sub hl [3, 4, 1, 0] rfl)
                · refine lv_aload_n hx hb dX6_best_53 rfl (lv_at hl 1 rfl) ?_
                  refine z_get (v := .ref qv) (Cn := RX6) (T := TX6) (N := 9) (ci := 6) C in_m_X6_best_X6 hK hP 0 rfl rfl 7 (by decide) (List.mem_of_getElem? (i := 1) rfl) rfl dX6_best_54 ?_
                  refine lv_iload_n hx hb dX6_best_57 rfl (lv_at hl 4 rfl) ?_
                  refine z_iald hx hb hK hP 1 rfl (by omega) (by omega) (Nat.le_of_ble_eq_true rfl) dX6_best_58 ?_
                  refine lv_aload_n hx hb dX6_best_59 rfl (lv_at hl 1 rfl) ?_
                  refine z_get (v := .ref qv) (Cn := RX6) (T := TX6) (N := 9) (ci := 6) C in_m_X6_best_X6 hK hP 0 rfl rfl 7 (by decide) (List.mem_of_getElem? (i := 1) rfl) rfl dX6_best_60 ?_
                  refine lv_iload_n hx hb dX6_best_63 rfl (lv_at hl 3 rfl) ?_
                  refine z_iald hx hb hK hP 1 rfl (by omega) (by omega) (Nat.le_of_ble_eq_true rfl) dX6_best_64 ?_
                  refine z_icmp_le (tgt := 72) hx hb dX6_best_65 (by decide) (by omega) (by omega) (fun c_10 => ?_) (fun c_10 => ?_)
                  · refine lv_iload_n hx hb dX6_best_72 rfl (lv_at hl 3 rfl) ?_
                    refine lv_istore_n (lv' := [(2, .int (iI (bz VO RK wo k))), (4, .int (iI 1)), (0, .ref q), (1, .int (iI wo)), (3, .int (iI k))]) hx hb dX6_best_73 rfl hl (by decide) rfl (fun ls hl => ?_)
                    refine z_iinc (b := k + 1) (lv' := [(3, .int (iI (k + 1))), (2, .int (iI (bz VO RK wo k))), (4, .int (iI 1)), (0, .ref q), (1, .int (iI wo))]) hx hb dX6_best_74 hl (k := 4) rfl (rfl) (by decide) rfl (fun ls hl => ?_)
                    refine lv_goto (tgt := 4) hx hb dX6_best_77 (by decide) ?_
                    have hl := lv_chg hl 1 (b := bz VO RK wo (k + 1)) rfl ((bz_f i1 (by omega)).symm)
                    have hl : lv_has ls 5 [(3, .int (iI (k + 1))), (2, .int (iI (bz VO RK wo (k + 1)))), (4, .int (iI 1)), (0, .ref q), (1, .int (iI wo))] := hl
                    exact ih4 (k + 1) (by omega) (by omega) (by omega) ls (lv_sub hl [3, 4, 1, 0] rfl)
                  · refine lv_iload_n hx hb dX6_best_68 rfl (lv_at hl 4 rfl) ?_
                    refine lv_goto (tgt := 73) hx hb dX6_best_69 (by decide) ?_
                    refine lv_istore_n (lv' := [(2, .int (iI k)), (4, .int (iI 1)), (0, .ref q), (1, .int (iI wo)), (3, .int (iI k))]) hx hb dX6_best_73 rfl hl (by decide) rfl (fun ls hl => ?_)
                    refine z_iinc (b := k + 1) (lv' := [(3, .int (iI (k + 1))), (2, .int (iI k)), (4, .int (iI 1)), (0, .ref q), (1, .int (iI wo))]) hx hb dX6_best_74 hl (k := 4) rfl (rfl) (by decide) rfl (fun ls hl => ?_)
                    refine lv_goto (tgt := 4) hx hb dX6_best_77 (by decide) ?_
                    have hl := lv_chg hl 1 (b := bz VO RK wo (k + 1)) rfl ((bz_t i1 (by omega)).symm)
                    have hl : lv_has ls 5 [(3, .int (iI (k + 1))), (2, .int (iI (bz VO RK wo (k + 1)))), (4, .int (iI 1)), (0, .ref q), (1, .int (iI wo))] := hl
                    exact ih4 (k + 1) (by omega) (by omega) (by omega) ls (lv_sub hl [3, 4, 1, 0] rfl)
  have hl := lv_chg hl 1 (b := bz VO RK wo 0) rfl ((bz_0 _ _ _).symm)
  have hl : lv_has ls 5 [(3, .int (iI 0)), (2, .int (iI (bz VO RK wo 0))), (0, .ref q), (1, .int (iI wo))] := hl
  exact L4 (125) 0 (by omega) (by omega) (by omega) ls (lv_sub hl [2, 3, 1, 0] rfl)
set_option maxRecDepth 20000 in
theorem in_m_X6_doubt_X6 : ∀ w ∈ u_ws RX6 TX6 9, w ∈ wsX6_doubt := zmem_of _ [8, 9, 10, 11, 12, 13, 14, 15, 16] (by decide +kernel)
set_option maxHeartbeats 4000000 in
set_option maxRecDepth 100000 in
theorem m_X6_doubt (l : Launch) (g : zG) (q qn qp qi qk qt qw qv qr : Nat) (ac : Int) (VO RK O : Int → Int) (n_ : Int) (hV : ∀ j, 0 ≤ VO j ∧ VO j ≤ 100000) (hR0 : ∀ d, 0 ≤ d → d < 124 → RK d = 0) (hO : okO VO O n_ 124) (n1 : 0 ≤ n_) : zS l yX6_doubt wsX6_doubt ({ frames := 1, cells := 0, slots := 0, locals := 24 }) g [.ref q] [(q, .inr (6, [.ref qn, .ref qp, .int (iI ac), .ref qi, .ref qk, .ref qt, .ref qw, .ref qv, .ref qr])), zI g qv 124 VO, zB g qr 124 RK] (dbt VO O n_) := by
  refine z_entS (cc := cX6_doubt) (nL := 3) (ret := (some .int)) (own := RX6) (by decide) rfl rfl (Nat.le_of_ble_eq_true rfl) ?_
  intro p e s m below meth c Q ls C hlk hr hQ hP hK hl
  have hx := C.1
  have hb := C.2.1
  have hl : lv_has ls 3 [(0, .ref q)] := hl
  refine lv_aload_n hx hb dX6_doubt_0 rfl (lv_at hl 0 rfl) ?_
  refine lv_iconst (v := iI (-1)) hx hb dX6_doubt_1 rfl ?_
  refine z_cS (As := [.int (iI (-1))]) (rest := []) C (m_X6_best (l := l) (g := g) (q := q) (qn := qn) (qp := qp) (qi := qi) (qk := qk) (qt := qt) (qw := qw) (qv := qv) (qr := qr) (ac := ac) (VO := VO) (RK := RK) (wo := -1) (hV := hV) (hR := fun j g1 g2 => Or.inl (hR0 j g1 g2)) (o1 := by omega)) (cwV 1 C.2.2.2.2 gX6_doubt_X6_best rfl rfl rfl (by decide +kernel) ⟨Nat.le_of_ble_eq_true rfl, Nat.le_of_ble_eq_true rfl⟩) hK hP [0, 1, 2] rfl 0 rfl rfl rfl hl.1 rfl (Nat.le_of_ble_eq_true rfl) dX6_doubt_2 ⟨Nat.zero_le _, Nat.zero_le _⟩ ?_
  have hbz := bz_rg VO RK (-1) (k := 124) (by omega)
  refine z_top (b := if 0 < n_ then O 0 else -1) (bz_rank hO (Int.le_refl 0) n1 (fun d g1 g2 => ⟨fun _ i a1 a2 => by omega, fun _ => hR0 d g1 g2⟩)) ?_
  by_cases hn0 : 0 < n_
  · have hO0 := hO.1 0 (Int.le_refl 0) hn0
    have hV0 := hV (O 0)
    refine z_top (b := O 0) (if_pos hn0) ?_
    refine lv_istore_n (lv' := [(1, .int (iI (O 0))), (0, .ref q)]) hx hb dX6_doubt_5 rfl hl (by decide) rfl (fun ls hl => ?_)
    refine lv_iload_n hx hb dX6_doubt_6 rfl (lv_at hl 0 rfl) ?_
    refine lv_iconst (v := iI (-1)) hx hb dX6_doubt_7 rfl ?_
    refine z_icmp_ne (tgt := 14) hx hb dX6_doubt_8 (by decide) (by omega) (by omega) (fun c_1 => ?_) (fun c_1 => ?_)
    · refine lv_aload_n hx hb dX6_doubt_14 rfl (lv_at hl 1 rfl) ?_
      refine lv_iload_n hx hb dX6_doubt_15 rfl (lv_at hl 0 rfl) ?_
      refine lv_bipush (v := iI 31) hx hb dX6_doubt_16 (by decide +kernel) ?_
      refine z_idivN hx hb dX6_doubt_18 (by omega) (by omega) (by omega) (by omega) ?_
      refine z_cS (As := [.int (iI ((O 0) / 31))]) (rest := []) C (m_X6_best (l := l) (g := g) (q := q) (qn := qn) (qp := qp) (qi := qi) (qk := qk) (qt := qt) (qw := qw) (qv := qv) (qr := qr) (ac := ac) (VO := VO) (RK := RK) (wo := (O 0) / 31) (hV := hV) (hR := fun j g1 g2 => Or.inl (hR0 j g1 g2)) (o1 := by omega)) (cwV 1 C.2.2.2.2 gX6_doubt_X6_best rfl rfl rfl (by decide +kernel) ⟨Nat.le_of_ble_eq_true rfl, Nat.le_of_ble_eq_true rfl⟩) hK hP [0, 1, 2] rfl 0 rfl rfl rfl hl.1 rfl (Nat.le_of_ble_eq_true rfl) dX6_doubt_19 ⟨Nat.zero_le _, Nat.zero_le _⟩ ?_
      have hbz := bz_rg VO RK ((O 0) / 31) (k := 124) (by omega)
      refine z_top (b := if kr (fun x => bI (O x / 31 ≠ O 0 / 31)) n_ 1 0 = -1 then -1 else O (kr (fun x => bI (O x / 31 ≠ O 0 / 31)) n_ 1 0)) (bz_piece hO hn0 hR0) ?_
      have hki := kr_in (fun x => bI (O x / 31 ≠ O 0 / 31)) (e := n_) (k := 1) 0 (by omega)
      by_cases hk9 : kr (fun x => bI (O x / 31 ≠ O 0 / 31)) n_ 1 0 = -1
      · refine z_top (b := -1) (if_pos hk9) ?_
        have hki := kr_in (fun x => bI (O x / 31 ≠ O 0 / 31)) (e := n_) (k := 1) 0 (by omega)
        refine lv_istore_n (lv' := [(2, .int (iI (-1))), (1, .int (iI (O 0))), (0, .ref q)]) hx hb dX6_doubt_22 rfl hl (by decide) rfl (fun ls hl => ?_)
        refine lv_iload_n hx hb dX6_doubt_23 rfl (lv_at hl 0 rfl) ?_
        refine lv_iconst (v := iI (-1)) hx hb dX6_doubt_24 rfl ?_
        refine z_icmp_ne (tgt := 32) hx hb dX6_doubt_25 (by decide) (by omega) (by omega) (fun c_2 => ?_) (fun c_2 => ?_)
        · exfalso; omega
        · refine lv_iconst (v := iI 0) hx hb dX6_doubt_28 rfl ?_
          refine lv_goto (tgt := 48) hx hb dX6_doubt_29 (by decide) ?_
          exact z_retS hx hb hlk hr hQ dX6_doubt_48 (by unfold dbt; rw [if_neg (by omega), if_pos hk9])
      · have hOk := hO.1 (kr (fun x => bI (O x / 31 ≠ O 0 / 31)) n_ 1 0) (by omega) (by omega)
        have hVk := hV (O (kr (fun x => bI (O x / 31 ≠ O 0 / 31)) n_ 1 0))
        refine z_top (b := O (kr (fun x => bI (O x / 31 ≠ O 0 / 31)) n_ 1 0)) (if_neg hk9) ?_
        have hki := kr_in (fun x => bI (O x / 31 ≠ O 0 / 31)) (e := n_) (k := 1) 0 (by omega)
        refine lv_istore_n (lv' := [(2, .int (iI (O (kr (fun x => bI (O x / 31 ≠ O 0 / 31)) n_ 1 0)))), (1, .int (iI (O 0))), (0, .ref q)]) hx hb dX6_doubt_22 rfl hl (by decide) rfl (fun ls hl => ?_)
        refine lv_iload_n hx hb dX6_doubt_23 rfl (lv_at hl 0 rfl) ?_
        refine lv_iconst (v := iI (-1)) hx hb dX6_doubt_24 rfl ?_
        refine z_icmp_ne (tgt := 32) hx hb dX6_doubt_25 (by decide) (by omega) (by omega) (fun c_3 => ?_) (fun c_3 => ?_)
        · refine lv_bipush (v := iI 100) hx hb dX6_doubt_32 (by decide +kernel) ?_
          refine lv_aload_n hx hb dX6_doubt_34 rfl (lv_at hl 2 rfl) ?_
          refine z_get (v := .ref qv) (Cn := RX6) (T := TX6) (N := 9) (ci := 6) C in_m_X6_doubt_X6 hK hP 0 rfl rfl 7 (by decide) (List.mem_of_getElem? (i := 1) rfl) rfl dX6_doubt_35 ?_
          refine lv_iload_n hx hb dX6_doubt_38 rfl (lv_at hl 0 rfl) ?_
          refine z_iald hx hb hK hP 1 rfl (by omega) (by omega) (Nat.le_of_ble_eq_true rfl) dX6_doubt_39 ?_
          refine z_imul hx hb dX6_doubt_40 ?_
          refine lv_aload_n hx hb dX6_doubt_41 rfl (lv_at hl 2 rfl) ?_
          refine z_get (v := .ref qv) (Cn := RX6) (T := TX6) (N := 9) (ci := 6) C in_m_X6_doubt_X6 hK hP 0 rfl rfl 7 (by decide) (List.mem_of_getElem? (i := 1) rfl) rfl dX6_doubt_42 ?_
          refine lv_iload_n hx hb dX6_doubt_45 rfl (lv_at hl 1 rfl) ?_
          refine z_iald hx hb hK hP 1 rfl (by omega) (by omega) (Nat.le_of_ble_eq_true rfl) dX6_doubt_46 ?_
          refine z_idivN hx hb dX6_doubt_47 (by omega) (by omega) (by omega) (by omega) ?_
          exact z_retS hx hb hlk hr hQ dX6_doubt_48 (by unfold dbt; rw [if_neg (by omega), if_neg hk9, Int.mul_comm])
        · exfalso; omega
    · exfalso; omega
  · refine z_top (b := -1) (if_neg hn0) ?_
    refine lv_istore_n (lv' := [(1, .int (iI (-1))), (0, .ref q)]) hx hb dX6_doubt_5 rfl hl (by decide) rfl (fun ls hl => ?_)
    refine lv_iload_n hx hb dX6_doubt_6 rfl (lv_at hl 0 rfl) ?_
    refine lv_iconst (v := iI (-1)) hx hb dX6_doubt_7 rfl ?_
    refine z_icmp_ne (tgt := 14) hx hb dX6_doubt_8 (by decide) (by omega) (by omega) (fun c_4 => ?_) (fun c_4 => ?_)
    · exfalso; omega
    · refine lv_bipush (v := iI 100) hx hb dX6_doubt_11 (by decide +kernel) ?_
      exact z_retS hx hb hlk hr hQ dX6_doubt_13 (by unfold dbt; rw [if_pos (by omega)])
set_option maxHeartbeats 4000000 in
set_option maxRecDepth 100000 in
theorem m_X6_ledger_t (l : Launch) (g : zG) (q qn qp qi qk qt qw qv qr : Nat) (ac : Int) (N PK : Int → Int) (zN : okN N) (hpk : pkM N PK) : zS l yX6_ledger wsX6_ledger ({ frames := 5, cells := 0, slots := 0, locals := 115 }) g [.ref q, .int (iI 1)] [(q, .inr (6, [.ref qn, .ref qp, .int (iI ac), .ref qi, .ref qk, .ref qt, .ref qw, .ref qv, .ref qr])), zI g qn 647 N, zI g qw 80 PK] (sumZ (fun x => cnt (FDn N) (N 1) x 64) 384) := by
  refine z_entS (cc := cX6_ledger) (nL := 5) (ret := (some .int)) (own := RX6) (by decide) rfl rfl (Nat.le_of_ble_eq_true rfl) ?_
  intro p e s m below meth c Q ls C hlk hr hQ hP hK hl
  have hx := C.1
  have hb := C.2.1
  have hl : lv_has ls 5 [(0, .ref q), (1, .int (iI 1))] := hl
  have hz2 := zN.2.1
  have h64 : ∀ x, 0 ≤ x → x < 64 → cnt (FDn N) (N 1) x 64 = 0 := fun x g1 g2 => cnt_64 (FDn_rg N) (by omega) g1 g2
  refine lv_iconst (v := iI 0) hx hb dX6_ledger_0 rfl ?_
  refine lv_istore_n (lv' := [(2, .int (iI 0)), (0, .ref q), (1, .int (iI 1))]) hx hb dX6_ledger_1 rfl hl (by decide) rfl (fun ls hl => ?_)
  refine lv_bipush (v := iI 64) hx hb dX6_ledger_2 (by decide +kernel) ?_
  refine lv_istore_n (lv' := [(3, .int (iI 64)), (2, .int (iI 0)), (0, .ref q), (1, .int (iI 1))]) hx hb dX6_ledger_4 rfl hl (by decide) rfl (fun ls hl => ?_)
  have L5 : ∀ (n : Nat) (key : Int), (i1 : 64 ≤ key) → (i2 : key ≤ 384) → (hms : 384 - key < (n : Int)) → ∀ (ls : Array Slot), lv_has ls 5 [(0, .ref q), (1, .int (iI 1)), (2, .int (iI (sumZ (fun x => cnt (FDn N) (N 1) x 64) key))), (3, .int (iI key))] → W p l e ({ frames := 5, cells := 0, slots := 0, locals := 115 }) s m ([.ref q, .int (iI 1)] : List Value).toArray below meth c s.heap [] 0 0 Q (F0 m 5 ls []) := by
    clear hl
    intro n
    induction n with
    | zero =>
      intro key i1 i2 hms ls hl
      exfalso; omega
    | succ n ih5 =>
      intro key i1 i2 hms ls hl
      refine lv_iload_n hx hb dX6_ledger_5 rfl (lv_at hl 3 rfl) ?_
      refine lv_sipush (v := iI 384) hx hb dX6_ledger_6 (by decide +kernel) ?_
      refine z_icmp_ge (tgt := 47) hx hb dX6_ledger_9 (by decide) (by omega) (by omega) (fun c_1 => ?_) (fun c_1 => ?_)
      · obtain rfl : key = 384 := by omega
        refine lv_iload_n hx hb dX6_ledger_47 rfl (lv_at hl 2 rfl) ?_
        exact z_retS hx hb hlk hr hQ dX6_ledger_48 (rfl)
      · refine lv_aload_n hx hb dX6_ledger_12 rfl (lv_at hl 0 rfl) ?_
        refine lv_iload_n hx hb dX6_ledger_13 rfl (lv_at hl 3 rfl) ?_
        refine z_cS (As := [.int (iI key)]) (rest := []) C (m_X6_placesOf (l := l) (g := g) (q := q) (qn := qn) (qp := qp) (qi := qi) (qk := qk) (qt := qt) (qw := qw) (qv := qv) (qr := qr) (ac := ac) (N := N) (PK := PK) (key := key) (zN := zN) (hpk := hpk) (k1 := by omega)) (cwV 1 C.2.2.2.2 gX6_ledger_X6_placesOf rfl rfl rfl (by decide +kernel) ⟨Nat.le_of_ble_eq_true rfl, Nat.le_of_ble_eq_true rfl⟩) hK hP [0, 1, 2] rfl 0 rfl rfl rfl hl.1 rfl (Nat.le_of_ble_eq_true rfl) dX6_ledger_14 ⟨Nat.zero_le _, Nat.zero_le _⟩ ?_
        have hcr := cnt_rg (FDn N) (N 1) key (J := 64) (by omega)
        refine lv_istore (lv' := [(4, .int (iI (cnt (FDn N) (N 1) key (64)))), (0, .ref q), (1, .int (iI 1)), (2, .int (iI (sumZ (fun x => cnt (FDn N) (N 1) x 64) key))), (3, .int (iI key))]) hx hb dX6_ledger_17 hl (by decide) rfl (fun ls hl => ?_)
        refine lv_iload_n hx hb dX6_ledger_19 rfl (lv_at hl 3 rfl) ?_
        refine lv_iload_n hx hb dX6_ledger_20 rfl (lv_at hl 2 rfl) ?_
        refine z_if_eq (tgt := 29) hx hb dX6_ledger_21 (by decide) (by omega) (fun c_2 => ?_) (fun c_2 => ?_)
        · exfalso; omega
        · refine lv_iload hx hb dX6_ledger_24 (lv_at hl 0 rfl) ?_
          refine lv_goto (tgt := 39) hx hb dX6_ledger_26 (by decide) ?_
          refine z_iadd hx hb dX6_ledger_39 ?_
          refine lv_istore_n (lv' := [(2, .int (iI ((sumZ (fun x => cnt (FDn N) (N 1) x 64) key) + (cnt (FDn N) (N 1) key (64))))), (4, .int (iI (cnt (FDn N) (N 1) key (64)))), (0, .ref q), (1, .int (iI 1)), (3, .int (iI key))]) hx hb dX6_ledger_40 rfl hl (by decide) rfl (fun ls hl => ?_)
          refine z_iinc (b := key + 1) (lv' := [(3, .int (iI (key + 1))), (2, .int (iI ((sumZ (fun x => cnt (FDn N) (N 1) x 64) key) + (cnt (FDn N) (N 1) key (64))))), (4, .int (iI (cnt (FDn N) (N 1) key (64)))), (0, .ref q), (1, .int (iI 1))]) hx hb dX6_ledger_41 hl (k := 4) rfl (rfl) (by decide) rfl (fun ls hl => ?_)
          refine lv_goto (tgt := 5) hx hb dX6_ledger_44 (by decide) ?_
          have hl := lv_chg hl 1 (b := sumZ (fun x => cnt (FDn N) (N 1) x 64) (key + 1)) rfl (by rw [sumZ_s _ (by omega)])
          have hl : lv_has ls 5 [(3, .int (iI (key + 1))), (2, .int (iI (sumZ (fun x => cnt (FDn N) (N 1) x 64) (key + 1)))), (4, .int (iI (cnt (FDn N) (N 1) key (64)))), (0, .ref q), (1, .int (iI 1))] := hl
          exact ih5 (key + 1) (by omega) (by omega) (by omega) ls (lv_sub hl [3, 4, 1, 0] rfl)
  have hl := lv_chg hl 1 (b := sumZ (fun x => cnt (FDn N) (N 1) x 64) 64) rfl ((sumZ_zero (fun j g1 g2 => h64 j g1 g2)).symm)
  have hl : lv_has ls 5 [(3, .int (iI 64)), (2, .int (iI (sumZ (fun x => cnt (FDn N) (N 1) x 64) 64))), (0, .ref q), (1, .int (iI 1))] := hl
  exact L5 (321) 64 (by omega) (by omega) (by omega) ls (lv_sub hl [2, 3, 1, 0] rfl)
set_option maxHeartbeats 4000000 in
set_option maxRecDepth 100000 in
theorem m_X6_ledger_f (l : Launch) (g : zG) (q qn qp qi qk qt qw qv qr : Nat) (ac : Int) (N PK : Int → Int) (zN : okN N) (hpk : pkM N PK) : zS l yX6_ledger wsX6_ledger ({ frames := 5, cells := 0, slots := 0, locals := 115 }) g [.ref q, .int (iI 0)] [(q, .inr (6, [.ref qn, .ref qp, .int (iI ac), .ref qi, .ref qk, .ref qt, .ref qw, .ref qv, .ref qr])), zI g qn 647 N, zI g qw 80 PK] (sumZ (fun x => bI (0 < cnt (FDn N) (N 1) x 64)) 384) := by
  refine z_entS (cc := cX6_ledger) (nL := 5) (ret := (some .int)) (own := RX6) (by decide) rfl rfl (Nat.le_of_ble_eq_true rfl) ?_
  intro p e s m below meth c Q ls C hlk hr hQ hP hK hl
  have hx := C.1
  have hb := C.2.1
  have hl : lv_has ls 5 [(0, .ref q), (1, .int (iI 0))] := hl
  have hz2 := zN.2.1
  have h64 : ∀ x, 0 ≤ x → x < 64 → cnt (FDn N) (N 1) x 64 = 0 := fun x g1 g2 => cnt_64 (FDn_rg N) (by omega) g1 g2
  refine lv_iconst (v := iI 0) hx hb dX6_ledger_0 rfl ?_
  refine lv_istore_n (lv' := [(2, .int (iI 0)), (0, .ref q), (1, .int (iI 0))]) hx hb dX6_ledger_1 rfl hl (by decide) rfl (fun ls hl => ?_)
  refine lv_bipush (v := iI 64) hx hb dX6_ledger_2 (by decide +kernel) ?_
  refine lv_istore_n (lv' := [(3, .int (iI 64)), (2, .int (iI 0)), (0, .ref q), (1, .int (iI 0))]) hx hb dX6_ledger_4 rfl hl (by decide) rfl (fun ls hl => ?_)
  have L5 : ∀ (n : Nat) (key : Int), (i1 : 64 ≤ key) → (i2 : key ≤ 384) → (hms : 384 - key < (n : Int)) → ∀ (ls : Array Slot), lv_has ls 5 [(0, .ref q), (1, .int (iI 0)), (2, .int (iI (sumZ (fun x => bI (0 < cnt (FDn N) (N 1) x 64)) key))), (3, .int (iI key))] → W p l e ({ frames := 5, cells := 0, slots := 0, locals := 115 }) s m ([.ref q, .int (iI 0)] : List Value).toArray below meth c s.heap [] 0 0 Q (F0 m 5 ls []) := by
    clear hl
    intro n
    induction n with
    | zero =>
      intro key i1 i2 hms ls hl
      exfalso; omega
    | succ n ih5 =>
      intro key i1 i2 hms ls hl
      refine lv_iload_n hx hb dX6_ledger_5 rfl (lv_at hl 3 rfl) ?_
      refine lv_sipush (v := iI 384) hx hb dX6_ledger_6 (by decide +kernel) ?_
      refine z_icmp_ge (tgt := 47) hx hb dX6_ledger_9 (by decide) (by omega) (by omega) (fun c_1 => ?_) (fun c_1 => ?_)
      · obtain rfl : key = 384 := by omega
        refine lv_iload_n hx hb dX6_ledger_47 rfl (lv_at hl 2 rfl) ?_
        exact z_retS hx hb hlk hr hQ dX6_ledger_48 (rfl)
      · refine lv_aload_n hx hb dX6_ledger_12 rfl (lv_at hl 0 rfl) ?_
        refine lv_iload_n hx hb dX6_ledger_13 rfl (lv_at hl 3 rfl) ?_
        refine z_cS (As := [.int (iI key)]) (rest := []) C (m_X6_placesOf (l := l) (g := g) (q := q) (qn := qn) (qp := qp) (qi := qi) (qk := qk) (qt := qt) (qw := qw) (qv := qv) (qr := qr) (ac := ac) (N := N) (PK := PK) (key := key) (zN := zN) (hpk := hpk) (k1 := by omega)) (cwV 1 C.2.2.2.2 gX6_ledger_X6_placesOf rfl rfl rfl (by decide +kernel) ⟨Nat.le_of_ble_eq_true rfl, Nat.le_of_ble_eq_true rfl⟩) hK hP [0, 1, 2] rfl 0 rfl rfl rfl hl.1 rfl (Nat.le_of_ble_eq_true rfl) dX6_ledger_14 ⟨Nat.zero_le _, Nat.zero_le _⟩ ?_
        have hcr := cnt_rg (FDn N) (N 1) key (J := 64) (by omega)
        refine lv_istore (lv' := [(4, .int (iI (cnt (FDn N) (N 1) key (64)))), (0, .ref q), (1, .int (iI 0)), (2, .int (iI (sumZ (fun x => bI (0 < cnt (FDn N) (N 1) x 64)) key))), (3, .int (iI key))]) hx hb dX6_ledger_17 hl (by decide) rfl (fun ls hl => ?_)
        refine lv_iload_n hx hb dX6_ledger_19 rfl (lv_at hl 3 rfl) ?_
        refine lv_iload_n hx hb dX6_ledger_20 rfl (lv_at hl 2 rfl) ?_
        refine z_if_eq (tgt := 29) hx hb dX6_ledger_21 (by decide) (by omega) (fun c_2 => ?_) (fun c_2 => ?_)
        · refine lv_iload hx hb dX6_ledger_29 (lv_at hl 0 rfl) ?_
          refine z_if_le (tgt := 38) hx hb dX6_ledger_31 (by decide) (by omega) (fun hc => ?_) (fun hc => ?_)
          · refine lv_iconst (v := iI 0) hx hb dX6_ledger_38 rfl ?_
            refine z_iadd hx hb dX6_ledger_39 ?_
            refine lv_istore_n (lv' := [(2, .int (iI ((sumZ (fun x => bI (0 < cnt (FDn N) (N 1) x 64)) key) + 0))), (4, .int (iI (cnt (FDn N) (N 1) key (64)))), (0, .ref q), (1, .int (iI 0)), (3, .int (iI key))]) hx hb dX6_ledger_40 rfl hl (by decide) rfl (fun ls hl => ?_)
            refine z_iinc (b := key + 1) (lv' := [(3, .int (iI (key + 1))), (2, .int (iI ((sumZ (fun x => bI (0 < cnt (FDn N) (N 1) x 64)) key) + 0))), (4, .int (iI (cnt (FDn N) (N 1) key (64)))), (0, .ref q), (1, .int (iI 0))]) hx hb dX6_ledger_41 hl (k := 4) rfl (rfl) (by decide) rfl (fun ls hl => ?_)
            refine lv_goto (tgt := 5) hx hb dX6_ledger_44 (by decide) ?_
            have hl := lv_chg hl 1 (b := sumZ (fun x => bI (0 < cnt (FDn N) (N 1) x 64)) (key + 1)) rfl (by rw [sumZ_s _ (by omega), bI_f (by omega)])
            have hl : lv_has ls 5 [(3, .int (iI (key + 1))), (2, .int (iI (sumZ (fun x => bI (0 < cnt (FDn N) (N 1) x 64)) (key + 1)))), (4, .int (iI (cnt (FDn N) (N 1) key (64)))), (0, .ref q), (1, .int (iI 0))] := hl
            exact ih5 (key + 1) (by omega) (by omega) (by omega) ls (lv_sub hl [3, 4, 1, 0] rfl)
          · refine lv_iconst (v := iI 1) hx hb dX6_ledger_34 rfl ?_
            refine lv_goto (tgt := 39) hx hb dX6_ledger_35 (by decide) ?_
            refine z_iadd hx hb dX6_ledger_39 ?_
            refine lv_istore_n (lv' := [(2, .int (iI ((sumZ (fun x => bI (0 < cnt (FDn N) (N 1) x 64)) key) + 1))), (4, .int (iI (cnt (FDn N) (N 1) key (64)))), (0, .ref q), (1, .int (iI 0)), (3, .int (iI key))]) hx hb dX6_ledger_40 rfl hl (by decide) rfl (fun ls hl => ?_)
            refine z_iinc (b := key + 1) (lv' := [(3, .int (iI (key + 1))), (2, .int (iI ((sumZ (fun x => bI (0 < cnt (FDn N) (N 1) x 64)) key) + 1))), (4, .int (iI (cnt (FDn N) (N 1) key (64)))), (0, .ref q), (1, .int (iI 0))]) hx hb dX6_ledger_41 hl (k := 4) rfl (rfl) (by decide) rfl (fun ls hl => ?_)
            refine lv_goto (tgt := 5) hx hb dX6_ledger_44 (by decide) ?_
            have hl := lv_chg hl 1 (b := sumZ (fun x => bI (0 < cnt (FDn N) (N 1) x 64)) (key + 1)) rfl (by rw [sumZ_s _ (by omega), bI_t hc])
            have hl : lv_has ls 5 [(3, .int (iI (key + 1))), (2, .int (iI (sumZ (fun x => bI (0 < cnt (FDn N) (N 1) x 64)) (key + 1)))), (4, .int (iI (cnt (FDn N) (N 1) key (64)))), (0, .ref q), (1, .int (iI 0))] := hl
            exact ih5 (key + 1) (by omega) (by omega) (by omega) ls (lv_sub hl [3, 4, 1, 0] rfl)
        · exfalso; omega
  have hl := lv_chg hl 1 (b := sumZ (fun x => bI (0 < cnt (FDn N) (N 1) x 64)) 64) rfl ((sumZ_zero (fun j g1 g2 => bI_f (by rw [h64 j g1 g2]; omega))).symm)
  have hl : lv_has ls 5 [(3, .int (iI 64)), (2, .int (iI (sumZ (fun x => bI (0 < cnt (FDn N) (N 1) x 64)) 64))), (0, .ref q), (1, .int (iI 0))] := hl
  exact L5 (321) 64 (by omega) (by omega) (by omega) ls (lv_sub hl [2, 3, 1, 0] rfl)
set_option maxHeartbeats 4000000 in
set_option maxRecDepth 100000 in
theorem m_X6_known (l : Launch) (g : zG) (q qn qp qi qk qt qw qv qr : Nat) (ac : Int) (N PK : Int → Int) (zN : okN N) (hpk : pkM N PK) : zS l yX6_known wsX6_known ({ frames := 5, cells := 0, slots := 0, locals := 115 }) g [.ref q] [(q, .inr (6, [.ref qn, .ref qp, .int (iI ac), .ref qi, .ref qk, .ref qt, .ref qw, .ref qv, .ref qr])), zI g qn 647 N, zI g qw 80 PK] (sumZ (fun x => ku (FDn N) (N 1) x) 16) := by
  refine z_entS (cc := cX6_known) (nL := 5) (ret := (some .int)) (own := RX6) (by decide) rfl rfl (Nat.le_of_ble_eq_true rfl) ?_
  intro p e s m below meth c Q ls C hlk hr hQ hP hK hl
  have hx := C.1
  have hb := C.2.1
  have hl : lv_has ls 5 [(0, .ref q)] := hl
  refine lv_iconst (v := iI 0) hx hb dX6_known_0 rfl ?_
  refine lv_istore_n (lv' := [(1, .int (iI 0)), (0, .ref q)]) hx hb dX6_known_1 rfl hl (by decide) rfl (fun ls hl => ?_)
  refine lv_iconst (v := iI 0) hx hb dX6_known_2 rfl ?_
  refine lv_istore_n (lv' := [(2, .int (iI 0)), (1, .int (iI 0)), (0, .ref q)]) hx hb dX6_known_3 rfl hl (by decide) rfl (fun ls hl => ?_)
  have L4 : ∀ (n : Nat) (u : Int), (i1 : 0 ≤ u) → (i2 : u ≤ 16) → (hms : 16 - u < (n : Int)) → ∀ (ls : Array Slot), lv_has ls 5 [(0, .ref q), (1, .int (iI (sumZ (fun x => ku (FDn N) (N 1) x) u))), (2, .int (iI u))] → W p l e ({ frames := 5, cells := 0, slots := 0, locals := 115 }) s m ([.ref q] : List Value).toArray below meth c s.heap [] 0 0 Q (F0 m 4 ls []) := by
    clear hl
    intro n
    induction n with
    | zero =>
      intro u i1 i2 hms ls hl
      exfalso; omega
    | succ n ih4 =>
      intro u i1 i2 hms ls hl
      refine lv_iload_n hx hb dX6_known_4 rfl (lv_at hl 2 rfl) ?_
      refine lv_bipush (v := iI 16) hx hb dX6_known_5 (by decide +kernel) ?_
      refine z_icmp_ge (tgt := 64) hx hb dX6_known_7 (by decide) (by omega) (by omega) (fun c_1 => ?_) (fun c_1 => ?_)
      · obtain rfl : u = 16 := by omega
        refine lv_iload_n hx hb dX6_known_64 rfl (lv_at hl 1 rfl) ?_
        exact z_retS hx hb hlk hr hQ dX6_known_65 (rfl)
      · refine lv_iload_n hx hb dX6_known_10 rfl (lv_at hl 2 rfl) ?_
        refine lv_iconst (v := iI 1) hx hb dX6_known_11 rfl ?_
        refine z_iadd hx hb dX6_known_12 ?_
        refine lv_istore_n (lv' := [(3, .int (iI (u + 1))), (0, .ref q), (1, .int (iI (sumZ (fun x => ku (FDn N) (N 1) x) u))), (2, .int (iI u))]) hx hb dX6_known_13 rfl hl (by decide) rfl (fun ls hl => ?_)
        have L14 : ∀ (n : Nat) (w : Int), (j1 : u + 1 ≤ w) → (j2 : w ≤ 16) → (hms : 16 - w < (n : Int)) → ∀ (ls : Array Slot), lv_has ls 5 [(0, .ref q), (1, .int (iI (sumZ (fun x => ku (FDn N) (N 1) x) u + sumZ (fun y => kw (FDn N) (N 1) u y) (w - u - 1)))), (2, .int (iI u)), (3, .int (iI w))] → W p l e ({ frames := 5, cells := 0, slots := 0, locals := 115 }) s m ([.ref q] : List Value).toArray below meth c s.heap [] 0 0 Q (F0 m 14 ls []) := by
          clear hl
          intro n
          induction n with
          | zero =>
            intro w j1 j2 hms ls hl
            exfalso; omega
          | succ n ih14 =>
            intro w j1 j2 hms ls hl
            refine lv_iload_n hx hb dX6_known_14 rfl (lv_at hl 3 rfl) ?_
            refine lv_bipush (v := iI 16) hx hb dX6_known_15 (by decide +kernel) ?_
            refine z_icmp_ge (tgt := 58) hx hb dX6_known_17 (by decide) (by omega) (by omega) (fun c_2 => ?_) (fun c_2 => ?_)
            · refine z_iinc (b := u + 1) (lv' := [(2, .int (iI (u + 1))), (0, .ref q), (1, .int (iI (sumZ (fun x => ku (FDn N) (N 1) x) u + sumZ (fun y => kw (FDn N) (N 1) u y) (w - u - 1)))), (3, .int (iI w))]) hx hb dX6_known_58 hl (k := 2) rfl (rfl) (by decide) rfl (fun ls hl => ?_)
              refine lv_goto (tgt := 4) hx hb dX6_known_61 (by decide) ?_
              have hl := lv_chg hl 2 (b := sumZ (fun x => ku (FDn N) (N 1) x) (u + 1)) rfl (by rw [sumZ_s _ i1, ku_re (by omega) (by omega) (by omega)])
              have hl : lv_has ls 5 [(2, .int (iI (u + 1))), (0, .ref q), (1, .int (iI (sumZ (fun x => ku (FDn N) (N 1) x) (u + 1)))), (3, .int (iI w))] := hl
              exact ih4 (u + 1) (by omega) (by omega) (by omega) ls (lv_sub hl [1, 2, 0] rfl)
            · refine lv_aload_n hx hb dX6_known_20 rfl (lv_at hl 0 rfl) ?_
              refine lv_iconst (v := iI 4) hx hb dX6_known_21 rfl ?_
              refine lv_iload_n hx hb dX6_known_22 rfl (lv_at hl 2 rfl) ?_
              refine lv_iload_n hx hb dX6_known_23 rfl (lv_at hl 3 rfl) ?_
              refine z_cS (As := [.int (iI 4), .int (iI u), .int (iI w)]) (rest := []) C (m_X6_keyOf (l := l) (g := g) (q := q) (qn := qn) (qp := qp) (qi := qi) (qk := qk) (qt := qt) (qw := qw) (qv := qv) (qr := qr) (ac := ac) (N := N) (PK := PK) (pi_ := 4) (v := u) (w := w) (zN := zN) (hpk := hpk) (h1 := by omega) (h2 := by omega) (v1 := by omega) (v2 := by omega)) (cwV 3 C.2.2.2.2 gX6_known_X6_keyOf rfl rfl rfl (by decide +kernel) ⟨Nat.le_of_ble_eq_true rfl, Nat.le_of_ble_eq_true rfl⟩) hK hP [0, 1, 2] rfl 0 rfl rfl rfl hl.1 rfl (Nat.le_of_ble_eq_true rfl) dX6_known_24 ⟨Nat.zero_le _, Nat.zero_le _⟩ ?_
              refine lv_istore (lv' := [(4, .int (iI (kyf (FDn N) (N 1) 4 u w))), (0, .ref q), (1, .int (iI (sumZ (fun x => ku (FDn N) (N 1) x) u + sumZ (fun y => kw (FDn N) (N 1) u y) (w - u - 1)))), (2, .int (iI u)), (3, .int (iI w))]) hx hb dX6_known_27 hl (by decide) rfl (fun ls hl => ?_)
              have hkr := kyf_rg (FDn_rg N) (N 1) 4 u w (by have := zN.2.1; omega)
              refine lv_iload_n hx hb dX6_known_29 rfl (lv_at hl 2 rfl) ?_
              refine lv_iload hx hb dX6_known_30 (lv_at hl 0 rfl) ?_
              refine lv_iconst (v := iI (-1)) hx hb dX6_known_32 rfl ?_
              refine z_icmp_eq (tgt := 49) hx hb dX6_known_33 (by decide) (by omega) (by omega) (fun hc => ?_) (fun hc => ?_)
              · refine lv_iconst (v := iI 0) hx hb dX6_known_49 rfl ?_
                refine z_iadd hx hb dX6_known_50 ?_
                refine lv_istore_n (lv' := [(1, .int (iI ((sumZ (fun x => ku (FDn N) (N 1) x) u + sumZ (fun y => kw (FDn N) (N 1) u y) (w - u - 1)) + 0))), (4, .int (iI (kyf (FDn N) (N 1) 4 u w))), (0, .ref q), (2, .int (iI u)), (3, .int (iI w))]) hx hb dX6_known_51 rfl hl (by decide) rfl (fun ls hl => ?_)
                refine z_iinc (b := w + 1) (lv' := [(3, .int (iI (w + 1))), (1, .int (iI ((sumZ (fun x => ku (FDn N) (N 1) x) u + sumZ (fun y => kw (FDn N) (N 1) u y) (w - u - 1)) + 0))), (4, .int (iI (kyf (FDn N) (N 1) 4 u w))), (0, .ref q), (2, .int (iI u))]) hx hb dX6_known_52 hl (k := 4) rfl (rfl) (by decide) rfl (fun ls hl => ?_)
                refine lv_goto (tgt := 14) hx hb dX6_known_55 (by decide) ?_
                have hl := lv_chg hl 1 (b := sumZ (fun x => ku (FDn N) (N 1) x) u + sumZ (fun y => kw (FDn N) (N 1) u y) ((w + 1) - u - 1)) rfl (by rw [show w + 1 - u - 1 = (w - u - 1) + 1 by omega, sumZ_s _ (by omega)]; unfold kw; rw [show u + (w - u - 1 + 1) = w by omega, bI_f (fun z => z.1 hc)]; omega)
                have hl : lv_has ls 5 [(3, .int (iI (w + 1))), (1, .int (iI (sumZ (fun x => ku (FDn N) (N 1) x) u + sumZ (fun y => kw (FDn N) (N 1) u y) ((w + 1) - u - 1)))), (4, .int (iI (kyf (FDn N) (N 1) 4 u w))), (0, .ref q), (2, .int (iI u))] := hl
                exact ih14 (w + 1) (by omega) (by omega) (by omega) ls (lv_sub hl [3, 1, 4, 0] rfl)
              · refine lv_aload_n hx hb dX6_known_36 rfl (lv_at hl 1 rfl) ?_
                refine lv_iload hx hb dX6_known_37 (lv_at hl 0 rfl) ?_
                refine z_cS (As := [.int (iI (kyf (FDn N) (N 1) 4 u w))]) (rest := [.int (iI (sumZ (fun x => ku (FDn N) (N 1) x) u + sumZ (fun y => kw (FDn N) (N 1) u y) (w - u - 1)))]) C (m_X6_placesOf (l := l) (g := g) (q := q) (qn := qn) (qp := qp) (qi := qi) (qk := qk) (qt := qt) (qw := qw) (qv := qv) (qr := qr) (ac := ac) (N := N) (PK := PK) (key := kyf (FDn N) (N 1) 4 u w) (zN := zN) (hpk := hpk) (k1 := by omega)) (cwV 1 C.2.2.2.2 gX6_known_X6_placesOf rfl rfl rfl (by decide +kernel) ⟨Nat.le_of_ble_eq_true rfl, Nat.le_of_ble_eq_true rfl⟩) hK hP [0, 1, 2] rfl 0 rfl rfl rfl hl.1 rfl (Nat.le_of_ble_eq_true rfl) dX6_known_39 ⟨Nat.zero_le _, Nat.zero_le _⟩ ?_
                have hcr := cnt_rg (FDn N) (N 1) (kyf (FDn N) (N 1) 4 u w) (J := 64) (by omega)
                refine z_if_le (tgt := 49) hx hb dX6_known_42 (by decide) (by omega) (fun hd9 => ?_) (fun hd9 => ?_)
                · refine lv_iconst (v := iI 0) hx hb dX6_known_49 rfl ?_
                  refine z_iadd hx hb dX6_known_50 ?_
                  refine lv_istore_n (lv' := [(1, .int (iI ((sumZ (fun x => ku (FDn N) (N 1) x) u + sumZ (fun y => kw (FDn N) (N 1) u y) (w - u - 1)) + 0))), (4, .int (iI (kyf (FDn N) (N 1) 4 u w))), (0, .ref q), (2, .int (iI u)), (3, .int (iI w))]) hx hb dX6_known_51 rfl hl (by decide) rfl (fun ls hl => ?_)
                  refine z_iinc (b := w + 1) (lv' := [(3, .int (iI (w + 1))), (1, .int (iI ((sumZ (fun x => ku (FDn N) (N 1) x) u + sumZ (fun y => kw (FDn N) (N 1) u y) (w - u - 1)) + 0))), (4, .int (iI (kyf (FDn N) (N 1) 4 u w))), (0, .ref q), (2, .int (iI u))]) hx hb dX6_known_52 hl (k := 4) rfl (rfl) (by decide) rfl (fun ls hl => ?_)
                  refine lv_goto (tgt := 14) hx hb dX6_known_55 (by decide) ?_
                  have hl := lv_chg hl 1 (b := sumZ (fun x => ku (FDn N) (N 1) x) u + sumZ (fun y => kw (FDn N) (N 1) u y) ((w + 1) - u - 1)) rfl (by rw [show w + 1 - u - 1 = (w - u - 1) + 1 by omega, sumZ_s _ (by omega)]; unfold kw; rw [show u + (w - u - 1 + 1) = w by omega, bI_f (fun z => by omega)]; omega)
                  have hl : lv_has ls 5 [(3, .int (iI (w + 1))), (1, .int (iI (sumZ (fun x => ku (FDn N) (N 1) x) u + sumZ (fun y => kw (FDn N) (N 1) u y) ((w + 1) - u - 1)))), (4, .int (iI (kyf (FDn N) (N 1) 4 u w))), (0, .ref q), (2, .int (iI u))] := hl
                  exact ih14 (w + 1) (by omega) (by omega) (by omega) ls (lv_sub hl [3, 1, 4, 0] rfl)
                · refine lv_iconst (v := iI 1) hx hb dX6_known_45 rfl ?_
                  refine lv_goto (tgt := 50) hx hb dX6_known_46 (by decide) ?_
                  refine z_iadd hx hb dX6_known_50 ?_
                  refine lv_istore_n (lv' := [(1, .int (iI ((sumZ (fun x => ku (FDn N) (N 1) x) u + sumZ (fun y => kw (FDn N) (N 1) u y) (w - u - 1)) + 1))), (4, .int (iI (kyf (FDn N) (N 1) 4 u w))), (0, .ref q), (2, .int (iI u)), (3, .int (iI w))]) hx hb dX6_known_51 rfl hl (by decide) rfl (fun ls hl => ?_)
                  refine z_iinc (b := w + 1) (lv' := [(3, .int (iI (w + 1))), (1, .int (iI ((sumZ (fun x => ku (FDn N) (N 1) x) u + sumZ (fun y => kw (FDn N) (N 1) u y) (w - u - 1)) + 1))), (4, .int (iI (kyf (FDn N) (N 1) 4 u w))), (0, .ref q), (2, .int (iI u))]) hx hb dX6_known_52 hl (k := 4) rfl (rfl) (by decide) rfl (fun ls hl => ?_)
                  refine lv_goto (tgt := 14) hx hb dX6_known_55 (by decide) ?_
                  have hl := lv_chg hl 1 (b := sumZ (fun x => ku (FDn N) (N 1) x) u + sumZ (fun y => kw (FDn N) (N 1) u y) ((w + 1) - u - 1)) rfl (by rw [show w + 1 - u - 1 = (w - u - 1) + 1 by omega, sumZ_s _ (by omega)]; unfold kw; rw [show u + (w - u - 1 + 1) = w by omega, bI_t ⟨hc, hd9⟩]; omega)
                  have hl : lv_has ls 5 [(3, .int (iI (w + 1))), (1, .int (iI (sumZ (fun x => ku (FDn N) (N 1) x) u + sumZ (fun y => kw (FDn N) (N 1) u y) ((w + 1) - u - 1)))), (4, .int (iI (kyf (FDn N) (N 1) 4 u w))), (0, .ref q), (2, .int (iI u))] := hl
                  exact ih14 (w + 1) (by omega) (by omega) (by omega) ls (lv_sub hl [3, 1, 4, 0] rfl)
        have hl := lv_chg hl 2 (b := sumZ (fun x => ku (FDn N) (N 1) x) u + sumZ (fun y => kw (FDn N) (N 1) u y) ((u + 1) - u - 1)) rfl (by rw [show u + 1 - u - 1 = 0 by omega, sumZ_0]; omega)
        have hl : lv_has ls 5 [(3, .int (iI (u + 1))), (0, .ref q), (1, .int (iI (sumZ (fun x => ku (FDn N) (N 1) x) u + sumZ (fun y => kw (FDn N) (N 1) u y) ((u + 1) - u - 1)))), (2, .int (iI u))] := hl
        exact L14 (17) (u + 1) (by omega) (by omega) (by omega) ls (lv_sub hl [1, 2, 3, 0] rfl)
  have hl := lv_chg hl 1 (b := sumZ (fun x => ku (FDn N) (N 1) x) 0) rfl ((sumZ_0 _).symm)
  have hl : lv_has ls 5 [(2, .int (iI 0)), (1, .int (iI (sumZ (fun x => ku (FDn N) (N 1) x) 0))), (0, .ref q)] := hl
  exact L4 (17) 0 (by omega) (by omega) (by omega) ls (lv_sub hl [2, 1, 0] rfl)
set_option maxRecDepth 20000 in
theorem in_m_X6_allVotes_t_X6 : ∀ w ∈ u_ws RX6 TX6 9, w ∈ wsX6_allVotes := zmem_of _ [2, 3, 4, 5, 6, 7, 8, 9, 10] (by decide +kernel)
set_option maxHeartbeats 4000000 in
set_option maxRecDepth 100000 in
theorem m_X6_allVotes_t (l : Launch) (g : zG) (q qn qp qi qk qt qw qv qr : Nat) (ac : Int) (VO : Int → Int) (hV : ∀ j, 0 ≤ VO j ∧ VO j ≤ 100000) : zS l yX6_allVotes wsX6_allVotes ({ frames := 0, cells := 0, slots := 0, locals := 0 }) g [.ref q, .int (iI 1)] [(q, .inr (6, [.ref qn, .ref qp, .int (iI ac), .ref qi, .ref qk, .ref qt, .ref qw, .ref qv, .ref qr])), zI g qv 124 VO] (sumZ (fun x => bI (0 < VO x)) 124) := by
  refine z_entS (cc := cX6_allVotes) (nL := 4) (ret := (some .int)) (own := RX6) (by decide) rfl rfl (Nat.le_of_ble_eq_true rfl) ?_
  intro p e s m below meth c Q ls C hlk hr hQ hP hK hl
  have hx := C.1
  have hb := C.2.1
  have hl : lv_has ls 4 [(0, .ref q), (1, .int (iI 1))] := hl
  refine lv_iconst (v := iI 0) hx hb dX6_allVotes_0 rfl ?_
  refine lv_istore_n (lv' := [(2, .int (iI 0)), (0, .ref q), (1, .int (iI 1))]) hx hb dX6_allVotes_1 rfl hl (by decide) rfl (fun ls hl => ?_)
  refine lv_iconst (v := iI 0) hx hb dX6_allVotes_2 rfl ?_
  refine lv_istore_n (lv' := [(3, .int (iI 0)), (2, .int (iI 0)), (0, .ref q), (1, .int (iI 1))]) hx hb dX6_allVotes_3 rfl hl (by decide) rfl (fun ls hl => ?_)
  have L4 : ∀ (n : Nat) (k : Int), (i1 : 0 ≤ k) → (i2 : k ≤ 124) → (hms : 124 - k < (n : Int)) → ∀ (ls : Array Slot), lv_has ls 4 [(0, .ref q), (1, .int (iI 1)), (2, .int (iI (sumZ (fun x => bI (0 < VO x)) k))), (3, .int (iI k))] → W p l e ({ frames := 0, cells := 0, slots := 0, locals := 0 }) s m ([.ref q, .int (iI 1)] : List Value).toArray below meth c s.heap [] 0 0 Q (F0 m 4 ls []) := by
    clear hl
    intro n
    induction n with
    | zero =>
      intro k i1 i2 hms ls hl
      exfalso; omega
    | succ n ih4 =>
      intro k i1 i2 hms ls hl
      have hv1 := hV k
      refine lv_iload_n hx hb dX6_allVotes_4 rfl (lv_at hl 3 rfl) ?_
      refine lv_bipush (v := iI 124) hx hb dX6_allVotes_5 (by decide +kernel) ?_
      refine z_icmp_ge (tgt := 46) hx hb dX6_allVotes_7 (by decide) (by omega) (by omega) (fun c_1 => ?_) (fun c_1 => ?_)
      · obtain rfl : k = 124 := by omega
        refine lv_iload_n hx hb dX6_allVotes_46 rfl (lv_at hl 2 rfl) ?_
        exact z_retS hx hb hlk hr hQ dX6_allVotes_47 (rfl)
      · refine lv_iload_n hx hb dX6_allVotes_10 rfl (lv_at hl 2 rfl) ?_
        refine lv_iload_n hx hb dX6_allVotes_11 rfl (lv_at hl 1 rfl) ?_
        refine z_if_eq (tgt := 32) hx hb dX6_allVotes_12 (by decide) (by omega) (fun c_2 => ?_) (fun c_2 => ?_)
        · exfalso; omega
        · refine lv_aload_n hx hb dX6_allVotes_15 rfl (lv_at hl 0 rfl) ?_
          refine z_get (v := .ref qv) (Cn := RX6) (T := TX6) (N := 9) (ci := 6) C in_m_X6_allVotes_t_X6 hK hP 0 rfl rfl 7 (by decide) (List.mem_of_getElem? (i := 1) rfl) rfl dX6_allVotes_16 ?_
          refine lv_iload_n hx hb dX6_allVotes_19 rfl (lv_at hl 3 rfl) ?_
          refine z_iald hx hb hK hP 1 rfl (by omega) (by omega) (Nat.le_of_ble_eq_true rfl) dX6_allVotes_20 ?_
          refine z_if_le (tgt := 28) hx hb dX6_allVotes_21 (by decide) (by omega) (fun hc => ?_) (fun hc => ?_)
          · refine lv_iconst (v := iI 0) hx hb dX6_allVotes_28 rfl ?_
            refine lv_goto (tgt := 38) hx hb dX6_allVotes_29 (by decide) ?_
            refine z_iadd hx hb dX6_allVotes_38 ?_
            refine lv_istore_n (lv' := [(2, .int (iI ((sumZ (fun x => bI (0 < VO x)) k) + 0))), (0, .ref q), (1, .int (iI 1)), (3, .int (iI k))]) hx hb dX6_allVotes_39 rfl hl (by decide) rfl (fun ls hl => ?_)
            refine z_iinc (b := k + 1) (lv' := [(3, .int (iI (k + 1))), (2, .int (iI ((sumZ (fun x => bI (0 < VO x)) k) + 0))), (0, .ref q), (1, .int (iI 1))]) hx hb dX6_allVotes_40 hl (k := 3) rfl (rfl) (by decide) rfl (fun ls hl => ?_)
            refine lv_goto (tgt := 4) hx hb dX6_allVotes_43 (by decide) ?_
            have hl := lv_chg hl 1 (b := sumZ (fun x => bI (0 < VO x)) (k + 1)) rfl (by rw [sumZ_s _ i1, bI_f (by omega)])
            have hl : lv_has ls 4 [(3, .int (iI (k + 1))), (2, .int (iI (sumZ (fun x => bI (0 < VO x)) (k + 1)))), (0, .ref q), (1, .int (iI 1))] := hl
            exact ih4 (k + 1) (by omega) (by omega) (by omega) ls (lv_sub hl [2, 3, 1, 0] rfl)
          · refine lv_iconst (v := iI 1) hx hb dX6_allVotes_24 rfl ?_
            refine lv_goto (tgt := 38) hx hb dX6_allVotes_25 (by decide) ?_
            refine z_iadd hx hb dX6_allVotes_38 ?_
            refine lv_istore_n (lv' := [(2, .int (iI ((sumZ (fun x => bI (0 < VO x)) k) + 1))), (0, .ref q), (1, .int (iI 1)), (3, .int (iI k))]) hx hb dX6_allVotes_39 rfl hl (by decide) rfl (fun ls hl => ?_)
            refine z_iinc (b := k + 1) (lv' := [(3, .int (iI (k + 1))), (2, .int (iI ((sumZ (fun x => bI (0 < VO x)) k) + 1))), (0, .ref q), (1, .int (iI 1))]) hx hb dX6_allVotes_40 hl (k := 3) rfl (rfl) (by decide) rfl (fun ls hl => ?_)
            refine lv_goto (tgt := 4) hx hb dX6_allVotes_43 (by decide) ?_
            have hl := lv_chg hl 1 (b := sumZ (fun x => bI (0 < VO x)) (k + 1)) rfl (by rw [sumZ_s _ i1, bI_t hc])
            have hl : lv_has ls 4 [(3, .int (iI (k + 1))), (2, .int (iI (sumZ (fun x => bI (0 < VO x)) (k + 1)))), (0, .ref q), (1, .int (iI 1))] := hl
            exact ih4 (k + 1) (by omega) (by omega) (by omega) ls (lv_sub hl [2, 3, 1, 0] rfl)
  have hl := lv_chg hl 1 (b := sumZ (fun x => bI (0 < VO x)) 0) rfl ((sumZ_0 _).symm)
  have hl : lv_has ls 4 [(3, .int (iI 0)), (2, .int (iI (sumZ (fun x => bI (0 < VO x)) 0))), (0, .ref q), (1, .int (iI 1))] := hl
  exact L4 (125) 0 (by omega) (by omega) (by omega) ls (lv_sub hl [2, 3, 1, 0] rfl)
set_option maxRecDepth 20000 in
theorem in_m_X6_allVotes_f_X6 : ∀ w ∈ u_ws RX6 TX6 9, w ∈ wsX6_allVotes := zmem_of _ [2, 3, 4, 5, 6, 7, 8, 9, 10] (by decide +kernel)
set_option maxHeartbeats 4000000 in
set_option maxRecDepth 100000 in
theorem m_X6_allVotes_f (l : Launch) (g : zG) (q qn qp qi qk qt qw qv qr : Nat) (ac : Int) (VO : Int → Int) (hV : ∀ j, 0 ≤ VO j ∧ VO j ≤ 100000) : zS l yX6_allVotes wsX6_allVotes ({ frames := 0, cells := 0, slots := 0, locals := 0 }) g [.ref q, .int (iI 0)] [(q, .inr (6, [.ref qn, .ref qp, .int (iI ac), .ref qi, .ref qk, .ref qt, .ref qw, .ref qv, .ref qr])), zI g qv 124 VO] (sumZ (fun x => VO x) 124) := by
  refine z_entS (cc := cX6_allVotes) (nL := 4) (ret := (some .int)) (own := RX6) (by decide) rfl rfl (Nat.le_of_ble_eq_true rfl) ?_
  intro p e s m below meth c Q ls C hlk hr hQ hP hK hl
  have hx := C.1
  have hb := C.2.1
  have hl : lv_has ls 4 [(0, .ref q), (1, .int (iI 0))] := hl
  refine lv_iconst (v := iI 0) hx hb dX6_allVotes_0 rfl ?_
  refine lv_istore_n (lv' := [(2, .int (iI 0)), (0, .ref q), (1, .int (iI 0))]) hx hb dX6_allVotes_1 rfl hl (by decide) rfl (fun ls hl => ?_)
  refine lv_iconst (v := iI 0) hx hb dX6_allVotes_2 rfl ?_
  refine lv_istore_n (lv' := [(3, .int (iI 0)), (2, .int (iI 0)), (0, .ref q), (1, .int (iI 0))]) hx hb dX6_allVotes_3 rfl hl (by decide) rfl (fun ls hl => ?_)
  have L4 : ∀ (n : Nat) (k : Int), (i1 : 0 ≤ k) → (i2 : k ≤ 124) → (hms : 124 - k < (n : Int)) → ∀ (ls : Array Slot), lv_has ls 4 [(0, .ref q), (1, .int (iI 0)), (2, .int (iI (sumZ (fun x => VO x) k))), (3, .int (iI k))] → W p l e ({ frames := 0, cells := 0, slots := 0, locals := 0 }) s m ([.ref q, .int (iI 0)] : List Value).toArray below meth c s.heap [] 0 0 Q (F0 m 4 ls []) := by
    clear hl
    intro n
    induction n with
    | zero =>
      intro k i1 i2 hms ls hl
      exfalso; omega
    | succ n ih4 =>
      intro k i1 i2 hms ls hl
      have hv1 := hV k
      refine lv_iload_n hx hb dX6_allVotes_4 rfl (lv_at hl 3 rfl) ?_
      refine lv_bipush (v := iI 124) hx hb dX6_allVotes_5 (by decide +kernel) ?_
      refine z_icmp_ge (tgt := 46) hx hb dX6_allVotes_7 (by decide) (by omega) (by omega) (fun c_1 => ?_) (fun c_1 => ?_)
      · obtain rfl : k = 124 := by omega
        refine lv_iload_n hx hb dX6_allVotes_46 rfl (lv_at hl 2 rfl) ?_
        exact z_retS hx hb hlk hr hQ dX6_allVotes_47 (rfl)
      · refine lv_iload_n hx hb dX6_allVotes_10 rfl (lv_at hl 2 rfl) ?_
        refine lv_iload_n hx hb dX6_allVotes_11 rfl (lv_at hl 1 rfl) ?_
        refine z_if_eq (tgt := 32) hx hb dX6_allVotes_12 (by decide) (by omega) (fun c_2 => ?_) (fun c_2 => ?_)
        · refine lv_aload_n hx hb dX6_allVotes_32 rfl (lv_at hl 0 rfl) ?_
          refine z_get (v := .ref qv) (Cn := RX6) (T := TX6) (N := 9) (ci := 6) C in_m_X6_allVotes_f_X6 hK hP 0 rfl rfl 7 (by decide) (List.mem_of_getElem? (i := 1) rfl) rfl dX6_allVotes_33 ?_
          refine lv_iload_n hx hb dX6_allVotes_36 rfl (lv_at hl 3 rfl) ?_
          refine z_iald hx hb hK hP 1 rfl (by omega) (by omega) (Nat.le_of_ble_eq_true rfl) dX6_allVotes_37 ?_
          refine z_iadd hx hb dX6_allVotes_38 ?_
          refine lv_istore_n (lv' := [(2, .int (iI ((sumZ (fun x => VO x) k) + (VO k)))), (0, .ref q), (1, .int (iI 0)), (3, .int (iI k))]) hx hb dX6_allVotes_39 rfl hl (by decide) rfl (fun ls hl => ?_)
          refine z_iinc (b := k + 1) (lv' := [(3, .int (iI (k + 1))), (2, .int (iI ((sumZ (fun x => VO x) k) + (VO k)))), (0, .ref q), (1, .int (iI 0))]) hx hb dX6_allVotes_40 hl (k := 3) rfl (rfl) (by decide) rfl (fun ls hl => ?_)
          refine lv_goto (tgt := 4) hx hb dX6_allVotes_43 (by decide) ?_
          have hl := lv_chg hl 1 (b := sumZ (fun x => VO x) (k + 1)) rfl (by rw [sumZ_s _ i1])
          have hl : lv_has ls 4 [(3, .int (iI (k + 1))), (2, .int (iI (sumZ (fun x => VO x) (k + 1)))), (0, .ref q), (1, .int (iI 0))] := hl
          exact ih4 (k + 1) (by omega) (by omega) (by omega) ls (lv_sub hl [2, 3, 1, 0] rfl)
        · exfalso; omega
  have hl := lv_chg hl 1 (b := sumZ (fun x => VO x) 0) rfl ((sumZ_0 _).symm)
  have hl : lv_has ls 4 [(3, .int (iI 0)), (2, .int (iI (sumZ (fun x => VO x) 0))), (0, .ref q), (1, .int (iI 0))] := hl
  exact L4 (125) 0 (by omega) (by omega) (by omega) ls (lv_sub hl [2, 3, 1, 0] rfl)
set_option maxRecDepth 20000 in
theorem in_m_X6_mostOften_X6 : ∀ w ∈ u_ws RX6 TX6 9, w ∈ wsX6_mostOften := zmem_of _ [8, 9, 10, 11, 12, 13, 14, 15, 16] (by decide +kernel)
set_option maxHeartbeats 4000000 in
set_option maxRecDepth 100000 in
theorem m_X6_mostOften (l : Launch) (g : zG) (q qn qp qi qk qt qw qv qr : Nat) (ac : Int) (N PK : Int → Int) (pi_ : Int) (zN : okN N) (hpk : pkM N PK) (h1 : 0 ≤ pi_) (h2 : pi_ < 5) : zS l yX6_mostOften wsX6_mostOften ({ frames := 1, cells := 0, slots := 0, locals := 21 }) g [.ref q, .int (iI pi_)] [(q, .inr (6, [.ref qn, .ref qp, .int (iI ac), .ref qi, .ref qk, .ref qt, .ref qw, .ref qv, .ref qr])), zI g qn 647 N, zI g qw 80 PK] ((mo (fun x => sumZ (fun y => bI (FDn N (pi_ * 16 + y) = x)) 16) 8).1) := by
  refine z_entS (cc := cX6_mostOften) (nL := 7) (ret := (some .int)) (own := RX6) (by decide) rfl rfl (Nat.le_of_ble_eq_true rfl) ?_
  intro p e s m below meth c Q ls C hlk hr hQ hP hK hl
  have hx := C.1
  have hb := C.2.1
  have hl : lv_has ls 7 [(0, .ref q), (1, .int (iI pi_))] := hl
  have hz1 := zN.2.2.1 pi_ h1 h2
  have hmb : ∀ j, 0 ≤ (fun x => sumZ (fun y => bI (FDn N (pi_ * 16 + y) = x)) 16) j ∧ (fun x => sumZ (fun y => bI (FDn N (pi_ * 16 + y) = x)) 16) j ≤ 16 := fun j => sumZ_01 (by omega) (fun _ _ _ => bI_rg _)
  have hm0 : (fun x => sumZ (fun y => bI (FDn N (pi_ * 16 + y) = x)) 16) 0 = 0 := sumZ_zero (fun j _ _ => bI_f (FDn_rg N _).2.2)
  refine lv_iconst (v := iI (-1)) hx hb dX6_mostOften_0 rfl ?_
  refine lv_istore_n (lv' := [(2, .int (iI (-1))), (0, .ref q), (1, .int (iI pi_))]) hx hb dX6_mostOften_1 rfl hl (by decide) rfl (fun ls hl => ?_)
  refine lv_iconst (v := iI 0) hx hb dX6_mostOften_2 rfl ?_
  refine lv_istore_n (lv' := [(3, .int (iI 0)), (2, .int (iI (-1))), (0, .ref q), (1, .int (iI pi_))]) hx hb dX6_mostOften_3 rfl hl (by decide) rfl (fun ls hl => ?_)
  refine lv_iconst (v := iI 1) hx hb dX6_mostOften_4 rfl ?_
  refine lv_istore (lv' := [(4, .int (iI 1)), (3, .int (iI 0)), (2, .int (iI (-1))), (0, .ref q), (1, .int (iI pi_))]) hx hb dX6_mostOften_5 hl (by decide) rfl (fun ls hl => ?_)
  have L7 : ∀ (n : Nat) (k : Int), (i1 : 1 ≤ k) → (i2 : k ≤ 8) → (hms : 8 - k < (n : Int)) → ∀ (ls : Array Slot), lv_has ls 7 [(0, .ref q), (1, .int (iI pi_)), (2, .int (iI ((mo (fun x => sumZ (fun y => bI (FDn N (pi_ * 16 + y) = x)) 16) k).1))), (3, .int (iI ((mo (fun x => sumZ (fun y => bI (FDn N (pi_ * 16 + y) = x)) 16) k).2))), (4, .int (iI k))] → W p l e ({ frames := 1, cells := 0, slots := 0, locals := 21 }) s m ([.ref q, .int (iI pi_)] : List Value).toArray below meth c s.heap [] 0 0 Q (F0 m 7 ls []) := by
    clear hl
    intro n
    induction n with
    | zero =>
      intro k i1 i2 hms ls hl
      exfalso; omega
    | succ n ih7 =>
      intro k i1 i2 hms ls hl
      have hm1 := mo_rg (k := k) (by omega) (by omega) hmb
      have hm2 := hmb k
      have hm3 : 0 ≤ sumZ (fun y => bI (FDn N (pi_ * 16 + y) = k)) 16 ∧ sumZ (fun y => bI (FDn N (pi_ * 16 + y) = k)) 16 ≤ 16 := hmb k
      refine lv_iload hx hb dX6_mostOften_7 (lv_at hl 4 rfl) ?_
      refine lv_bipush (v := iI 8) hx hb dX6_mostOften_9 (by decide +kernel) ?_
      refine z_icmp_ge (tgt := 95) hx hb dX6_mostOften_11 (by decide) (by omega) (by omega) (fun c_1 => ?_) (fun c_1 => ?_)
      · obtain rfl : k = 8 := by omega
        refine lv_iload_n hx hb dX6_mostOften_95 rfl (lv_at hl 2 rfl) ?_
        exact z_retS hx hb hlk hr hQ dX6_mostOften_96 (rfl)
      · refine lv_iconst (v := iI 0) hx hb dX6_mostOften_14 rfl ?_
        refine lv_istore (lv' := [(5, .int (iI 0)), (0, .ref q), (1, .int (iI pi_)), (2, .int (iI ((mo (fun x => sumZ (fun y => bI (FDn N (pi_ * 16 + y) = x)) 16) k).1))), (3, .int (iI ((mo (fun x => sumZ (fun y => bI (FDn N (pi_ * 16 + y) = x)) 16) k).2))), (4, .int (iI k))]) hx hb dX6_mostOften_15 hl (by decide) rfl (fun ls hl => ?_)
        refine lv_iconst (v := iI 0) hx hb dX6_mostOften_17 rfl ?_
        refine lv_istore (lv' := [(6, .int (iI 0)), (5, .int (iI 0)), (0, .ref q), (1, .int (iI pi_)), (2, .int (iI ((mo (fun x => sumZ (fun y => bI (FDn N (pi_ * 16 + y) = x)) 16) k).1))), (3, .int (iI ((mo (fun x => sumZ (fun y => bI (FDn N (pi_ * 16 + y) = x)) 16) k).2))), (4, .int (iI k))]) hx hb dX6_mostOften_18 hl (by decide) rfl (fun ls hl => ?_)
        have L20 : ∀ (n : Nat) (w : Int), (j1 : 0 ≤ w) → (j2 : w ≤ N (2 + pi_) / 8) → (hms : N (2 + pi_) / 8 - w < (n : Int)) → ∀ (ls : Array Slot), lv_has ls 7 [(0, .ref q), (1, .int (iI pi_)), (2, .int (iI ((mo (fun x => sumZ (fun y => bI (FDn N (pi_ * 16 + y) = x)) 16) k).1))), (3, .int (iI ((mo (fun x => sumZ (fun y => bI (FDn N (pi_ * 16 + y) = x)) 16) k).2))), (4, .int (iI k)), (5, .int (iI (sumZ (fun y => bI (FDn N (pi_ * 16 + y) = k)) w))), (6, .int (iI w))] → W p l e ({ frames := 1, cells := 0, slots := 0, locals := 21 }) s m ([.ref q, .int (iI pi_)] : List Value).toArray below meth c s.heap [] 0 0 Q (F0 m 20 ls []) := by
          clear hl
          intro n
          induction n with
          | zero =>
            intro w j1 j2 hms ls hl
            exfalso; omega
          | succ n ih20 =>
            intro w j1 j2 hms ls hl
            refine lv_iload hx hb dX6_mostOften_20 (lv_at hl 6 rfl) ?_
            refine lv_aload_n hx hb dX6_mostOften_22 rfl (lv_at hl 0 rfl) ?_
            refine lv_iload_n hx hb dX6_mostOften_23 rfl (lv_at hl 1 rfl) ?_
            refine z_cS (As := [.int (iI pi_)]) (rest := [.int (iI w)]) C (m_X6_windows (l := l) (g := g) (q := q) (qn := qn) (qp := qp) (qi := qi) (qk := qk) (qt := qt) (qw := qw) (qv := qv) (qr := qr) (ac := ac) (N := N) (pi_ := pi_) (h1 := by omega) (h2 := by omega) (z1 := hz1)) (cwV 1 C.2.2.2.2 gX6_mostOften_X6_windows rfl rfl rfl (by decide +kernel) ⟨Nat.le_of_ble_eq_true rfl, Nat.le_of_ble_eq_true rfl⟩) hK hP [0, 1] rfl 0 rfl rfl rfl hl.1 rfl (Nat.le_of_ble_eq_true rfl) dX6_mostOften_24 ⟨Nat.zero_le _, Nat.zero_le _⟩ ?_
            refine z_icmp_ge (tgt := 63) hx hb dX6_mostOften_27 (by decide) (by omega) (by omega) (fun c_2 => ?_) (fun c_2 => ?_)
            · have hl := lv_chg hl 5 (b := sumZ (fun y => bI (FDn N (pi_ * 16 + y) = k)) 16) rfl ((pk_tail (fun _ z => bI (z = k)) j1 (by omega) (by omega) (fun _ => bI_f (by omega))).symm)
              have hl : lv_has ls 7 [(0, .ref q), (1, .int (iI pi_)), (2, .int (iI ((mo (fun x => sumZ (fun y => bI (FDn N (pi_ * 16 + y) = x)) 16) k).1))), (3, .int (iI ((mo (fun x => sumZ (fun y => bI (FDn N (pi_ * 16 + y) = x)) 16) k).2))), (4, .int (iI k)), (5, .int (iI (sumZ (fun y => bI (FDn N (pi_ * 16 + y) = k)) 16))), (6, .int (iI w))] := hl
              refine lv_iload hx hb dX6_mostOften_63 (lv_at hl 5 rfl) ?_
              refine lv_iload_n hx hb dX6_mostOften_65 rfl (lv_at hl 3 rfl) ?_
              refine z_icmp_le (tgt := 74) hx hb dX6_mostOften_66 (by decide) (by omega) (by omega) (fun hc => ?_) (fun hc => ?_)
              · refine lv_iload_n hx hb dX6_mostOften_74 rfl (lv_at hl 2 rfl) ?_
                refine lv_istore_n (lv' := [(2, .int (iI ((mo (fun x => sumZ (fun y => bI (FDn N (pi_ * 16 + y) = x)) 16) k).1))), (0, .ref q), (1, .int (iI pi_)), (3, .int (iI ((mo (fun x => sumZ (fun y => bI (FDn N (pi_ * 16 + y) = x)) 16) k).2))), (4, .int (iI k)), (5, .int (iI (sumZ (fun y => bI (FDn N (pi_ * 16 + y) = k)) 16))), (6, .int (iI w))]) hx hb dX6_mostOften_75 rfl hl (by decide) rfl (fun ls hl => ?_)
                refine lv_iload hx hb dX6_mostOften_76 (lv_at hl 5 rfl) ?_
                refine lv_iload_n hx hb dX6_mostOften_78 rfl (lv_at hl 3 rfl) ?_
                refine z_icmp_le (tgt := 87) hx hb dX6_mostOften_79 (by decide) (by omega) (by omega) (fun c_3 => ?_) (fun c_3 => ?_)
                · refine lv_iload_n hx hb dX6_mostOften_87 rfl (lv_at hl 3 rfl) ?_
                  refine lv_istore_n (lv' := [(3, .int (iI ((mo (fun x => sumZ (fun y => bI (FDn N (pi_ * 16 + y) = x)) 16) k).2))), (2, .int (iI ((mo (fun x => sumZ (fun y => bI (FDn N (pi_ * 16 + y) = x)) 16) k).1))), (0, .ref q), (1, .int (iI pi_)), (4, .int (iI k)), (5, .int (iI (sumZ (fun y => bI (FDn N (pi_ * 16 + y) = k)) 16))), (6, .int (iI w))]) hx hb dX6_mostOften_88 rfl hl (by decide) rfl (fun ls hl => ?_)
                  refine z_iinc (b := k + 1) (lv' := [(4, .int (iI (k + 1))), (3, .int (iI ((mo (fun x => sumZ (fun y => bI (FDn N (pi_ * 16 + y) = x)) 16) k).2))), (2, .int (iI ((mo (fun x => sumZ (fun y => bI (FDn N (pi_ * 16 + y) = x)) 16) k).1))), (0, .ref q), (1, .int (iI pi_)), (5, .int (iI (sumZ (fun y => bI (FDn N (pi_ * 16 + y) = k)) 16))), (6, .int (iI w))]) hx hb dX6_mostOften_89 hl (k := 4) rfl (rfl) (by decide) rfl (fun ls hl => ?_)
                  refine lv_goto (tgt := 7) hx hb dX6_mostOften_92 (by decide) ?_
                  have hl := lv_chg hl 2 (b := (mo (fun x => sumZ (fun y => bI (FDn N (pi_ * 16 + y) = x)) 16) (k + 1)).1) rfl (by rw [mo_f (by omega) hc])
                  have hl : lv_has ls 7 [(4, .int (iI (k + 1))), (3, .int (iI ((mo (fun x => sumZ (fun y => bI (FDn N (pi_ * 16 + y) = x)) 16) k).2))), (2, .int (iI ((mo (fun x => sumZ (fun y => bI (FDn N (pi_ * 16 + y) = x)) 16) (k + 1)).1))), (0, .ref q), (1, .int (iI pi_)), (5, .int (iI (sumZ (fun y => bI (FDn N (pi_ * 16 + y) = k)) 16))), (6, .int (iI w))] := hl
                  have hl := lv_chg hl 1 (b := (mo (fun x => sumZ (fun y => bI (FDn N (pi_ * 16 + y) = x)) 16) (k + 1)).2) rfl (by rw [mo_f (by omega) hc])
                  have hl : lv_has ls 7 [(4, .int (iI (k + 1))), (3, .int (iI ((mo (fun x => sumZ (fun y => bI (FDn N (pi_ * 16 + y) = x)) 16) (k + 1)).2))), (2, .int (iI ((mo (fun x => sumZ (fun y => bI (FDn N (pi_ * 16 + y) = x)) 16) (k + 1)).1))), (0, .ref q), (1, .int (iI pi_)), (5, .int (iI (sumZ (fun y => bI (FDn N (pi_ * 16 + y) = k)) 16))), (6, .int (iI w))] := hl
                  exact ih7 (k + 1) (by omega) (by omega) (by omega) ls (lv_sub hl [3, 4, 2, 1, 0] rfl)
                · exfalso; omega
              · refine lv_iload hx hb dX6_mostOften_69 (lv_at hl 4 rfl) ?_
                refine lv_goto (tgt := 75) hx hb dX6_mostOften_71 (by decide) ?_
                refine lv_istore_n (lv' := [(2, .int (iI k)), (0, .ref q), (1, .int (iI pi_)), (3, .int (iI ((mo (fun x => sumZ (fun y => bI (FDn N (pi_ * 16 + y) = x)) 16) k).2))), (4, .int (iI k)), (5, .int (iI (sumZ (fun y => bI (FDn N (pi_ * 16 + y) = k)) 16))), (6, .int (iI w))]) hx hb dX6_mostOften_75 rfl hl (by decide) rfl (fun ls hl => ?_)
                refine lv_iload hx hb dX6_mostOften_76 (lv_at hl 5 rfl) ?_
                refine lv_iload_n hx hb dX6_mostOften_78 rfl (lv_at hl 3 rfl) ?_
                refine z_icmp_le (tgt := 87) hx hb dX6_mostOften_79 (by decide) (by omega) (by omega) (fun c_4 => ?_) (fun c_4 => ?_)
                · exfalso; omega
                · refine lv_iload hx hb dX6_mostOften_82 (lv_at hl 5 rfl) ?_
                  refine lv_goto (tgt := 88) hx hb dX6_mostOften_84 (by decide) ?_
                  refine lv_istore_n (lv' := [(3, .int (iI (sumZ (fun y => bI (FDn N (pi_ * 16 + y) = k)) 16))), (2, .int (iI k)), (0, .ref q), (1, .int (iI pi_)), (4, .int (iI k)), (5, .int (iI (sumZ (fun y => bI (FDn N (pi_ * 16 + y) = k)) 16))), (6, .int (iI w))]) hx hb dX6_mostOften_88 rfl hl (by decide) rfl (fun ls hl => ?_)
                  refine z_iinc (b := k + 1) (lv' := [(4, .int (iI (k + 1))), (3, .int (iI (sumZ (fun y => bI (FDn N (pi_ * 16 + y) = k)) 16))), (2, .int (iI k)), (0, .ref q), (1, .int (iI pi_)), (5, .int (iI (sumZ (fun y => bI (FDn N (pi_ * 16 + y) = k)) 16))), (6, .int (iI w))]) hx hb dX6_mostOften_89 hl (k := 4) rfl (rfl) (by decide) rfl (fun ls hl => ?_)
                  refine lv_goto (tgt := 7) hx hb dX6_mostOften_92 (by decide) ?_
                  have hl := lv_chg hl 2 (b := (mo (fun x => sumZ (fun y => bI (FDn N (pi_ * 16 + y) = x)) 16) (k + 1)).1) rfl (by rw [mo_t (by omega) hc])
                  have hl : lv_has ls 7 [(4, .int (iI (k + 1))), (3, .int (iI (sumZ (fun y => bI (FDn N (pi_ * 16 + y) = k)) 16))), (2, .int (iI ((mo (fun x => sumZ (fun y => bI (FDn N (pi_ * 16 + y) = x)) 16) (k + 1)).1))), (0, .ref q), (1, .int (iI pi_)), (5, .int (iI (sumZ (fun y => bI (FDn N (pi_ * 16 + y) = k)) 16))), (6, .int (iI w))] := hl
                  have hl := lv_chg hl 1 (b := (mo (fun x => sumZ (fun y => bI (FDn N (pi_ * 16 + y) = x)) 16) (k + 1)).2) rfl (by rw [mo_t (by omega) hc])
                  have hl : lv_has ls 7 [(4, .int (iI (k + 1))), (3, .int (iI ((mo (fun x => sumZ (fun y => bI (FDn N (pi_ * 16 + y) = x)) 16) (k + 1)).2))), (2, .int (iI ((mo (fun x => sumZ (fun y => bI (FDn N (pi_ * 16 + y) = x)) 16) (k + 1)).1))), (0, .ref q), (1, .int (iI pi_)), (5, .int (iI (sumZ (fun y => bI (FDn N (pi_ * 16 + y) = k)) 16))), (6, .int (iI w))] := hl
                  exact ih7 (k + 1) (by omega) (by omega) (by omega) ls (lv_sub hl [3, 4, 2, 1, 0] rfl)
            · have hp9 := hpk pi_ w h1 h2 j1 (by omega)
              have hf9 := FDn_rg N (pi_ * 16 + w)
              refine lv_iload hx hb dX6_mostOften_30 (lv_at hl 5 rfl) ?_
              refine lv_aload_n hx hb dX6_mostOften_32 rfl (lv_at hl 0 rfl) ?_
              refine z_get (v := .ref qw) (Cn := RX6) (T := TX6) (N := 9) (ci := 6) C in_m_X6_mostOften_X6 hK hP 0 rfl rfl 6 (by decide) (List.mem_of_getElem? (i := 1) rfl) rfl dX6_mostOften_33 ?_
              refine lv_bipush (v := iI 16) hx hb dX6_mostOften_36 (by decide +kernel) ?_
              refine lv_iload_n hx hb dX6_mostOften_38 rfl (lv_at hl 1 rfl) ?_
              refine z_imul hx hb dX6_mostOften_39 ?_
              refine lv_iload hx hb dX6_mostOften_40 (lv_at hl 6 rfl) ?_
              refine z_iadd hx hb dX6_mostOften_42 ?_
              refine z_iald hx hb hK hP 2 rfl (by omega) (by omega) (Nat.le_of_ble_eq_true rfl) dX6_mostOften_43 ?_
              refine lv_iload hx hb dX6_mostOften_44 (lv_at hl 4 rfl) ?_
              refine z_icmp_ne (tgt := 53) hx hb dX6_mostOften_46 (by decide) (by omega) (by omega) (fun hd9 => ?_) (fun hd9 => ?_)
              · refine lv_iconst (v := iI 0) hx hb dX6_mostOften_53 rfl ?_
                refine z_iadd hx hb dX6_mostOften_54 ?_
                refine lv_istore (lv' := [(5, .int (iI ((sumZ (fun y => bI (FDn N (pi_ * 16 + y) = k)) w) + 0))), (0, .ref q), (1, .int (iI pi_)), (2, .int (iI ((mo (fun x => sumZ (fun y => bI (FDn N (pi_ * 16 + y) = x)) 16) k).1))), (3, .int (iI ((mo (fun x => sumZ (fun y => bI (FDn N (pi_ * 16 + y) = x)) 16) k).2))), (4, .int (iI k)), (6, .int (iI w))]) hx hb dX6_mostOften_55 hl (by decide) rfl (fun ls hl => ?_)
                refine z_iinc (b := w + 1) (lv' := [(6, .int (iI (w + 1))), (5, .int (iI ((sumZ (fun y => bI (FDn N (pi_ * 16 + y) = k)) w) + 0))), (0, .ref q), (1, .int (iI pi_)), (2, .int (iI ((mo (fun x => sumZ (fun y => bI (FDn N (pi_ * 16 + y) = x)) 16) k).1))), (3, .int (iI ((mo (fun x => sumZ (fun y => bI (FDn N (pi_ * 16 + y) = x)) 16) k).2))), (4, .int (iI k))]) hx hb dX6_mostOften_57 hl (k := 6) rfl (rfl) (by decide) rfl (fun ls hl => ?_)
                refine lv_goto (tgt := 20) hx hb dX6_mostOften_60 (by decide) ?_
                have hl := lv_chg hl 1 (b := sumZ (fun y => bI (FDn N (pi_ * 16 + y) = k)) (w + 1)) rfl (by rw [sumZ_s _ j1, bI_f (fun z => hd9 (hp9.trans z))])
                have hl : lv_has ls 7 [(6, .int (iI (w + 1))), (5, .int (iI (sumZ (fun y => bI (FDn N (pi_ * 16 + y) = k)) (w + 1)))), (0, .ref q), (1, .int (iI pi_)), (2, .int (iI ((mo (fun x => sumZ (fun y => bI (FDn N (pi_ * 16 + y) = x)) 16) k).1))), (3, .int (iI ((mo (fun x => sumZ (fun y => bI (FDn N (pi_ * 16 + y) = x)) 16) k).2))), (4, .int (iI k))] := hl
                exact ih20 (w + 1) (by omega) (by omega) (by omega) ls (lv_sub hl [2, 3, 4, 5, 6, 1, 0] rfl)
              · refine lv_iconst (v := iI 1) hx hb dX6_mostOften_49 rfl ?_
                refine lv_goto (tgt := 54) hx hb dX6_mostOften_50 (by decide) ?_
                refine z_iadd hx hb dX6_mostOften_54 ?_
                refine lv_istore (lv' := [(5, .int (iI ((sumZ (fun y => bI (FDn N (pi_ * 16 + y) = k)) w) + 1))), (0, .ref q), (1, .int (iI pi_)), (2, .int (iI ((mo (fun x => sumZ (fun y => bI (FDn N (pi_ * 16 + y) = x)) 16) k).1))), (3, .int (iI ((mo (fun x => sumZ (fun y => bI (FDn N (pi_ * 16 + y) = x)) 16) k).2))), (4, .int (iI k)), (6, .int (iI w))]) hx hb dX6_mostOften_55 hl (by decide) rfl (fun ls hl => ?_)
                refine z_iinc (b := w + 1) (lv' := [(6, .int (iI (w + 1))), (5, .int (iI ((sumZ (fun y => bI (FDn N (pi_ * 16 + y) = k)) w) + 1))), (0, .ref q), (1, .int (iI pi_)), (2, .int (iI ((mo (fun x => sumZ (fun y => bI (FDn N (pi_ * 16 + y) = x)) 16) k).1))), (3, .int (iI ((mo (fun x => sumZ (fun y => bI (FDn N (pi_ * 16 + y) = x)) 16) k).2))), (4, .int (iI k))]) hx hb dX6_mostOften_57 hl (k := 6) rfl (rfl) (by decide) rfl (fun ls hl => ?_)
                refine lv_goto (tgt := 20) hx hb dX6_mostOften_60 (by decide) ?_
                have hl := lv_chg hl 1 (b := sumZ (fun y => bI (FDn N (pi_ * 16 + y) = k)) (w + 1)) rfl (by rw [sumZ_s _ j1, bI_t (hp9.symm.trans hd9)])
                have hl : lv_has ls 7 [(6, .int (iI (w + 1))), (5, .int (iI (sumZ (fun y => bI (FDn N (pi_ * 16 + y) = k)) (w + 1)))), (0, .ref q), (1, .int (iI pi_)), (2, .int (iI ((mo (fun x => sumZ (fun y => bI (FDn N (pi_ * 16 + y) = x)) 16) k).1))), (3, .int (iI ((mo (fun x => sumZ (fun y => bI (FDn N (pi_ * 16 + y) = x)) 16) k).2))), (4, .int (iI k))] := hl
                exact ih20 (w + 1) (by omega) (by omega) (by omega) ls (lv_sub hl [2, 3, 4, 5, 6, 1, 0] rfl)
        have hl := lv_chg hl 1 (b := sumZ (fun y => bI (FDn N (pi_ * 16 + y) = k)) 0) rfl ((sumZ_0 _).symm)
        have hl : lv_has ls 7 [(6, .int (iI 0)), (5, .int (iI (sumZ (fun y => bI (FDn N (pi_ * 16 + y) = k)) 0))), (0, .ref q), (1, .int (iI pi_)), (2, .int (iI ((mo (fun x => sumZ (fun y => bI (FDn N (pi_ * 16 + y) = x)) 16) k).1))), (3, .int (iI ((mo (fun x => sumZ (fun y => bI (FDn N (pi_ * 16 + y) = x)) 16) k).2))), (4, .int (iI k))] := hl
        exact L20 (17) 0 (by omega) (by omega) (by omega) ls (lv_sub hl [2, 3, 4, 5, 6, 1, 0] rfl)
  have hl := lv_chg hl 2 (b := (mo (fun x => sumZ (fun y => bI (FDn N (pi_ * 16 + y) = x)) 16) 1).1) rfl (by rw [mo_1 hm0])
  have hl : lv_has ls 7 [(4, .int (iI 1)), (3, .int (iI 0)), (2, .int (iI ((mo (fun x => sumZ (fun y => bI (FDn N (pi_ * 16 + y) = x)) 16) 1).1))), (0, .ref q), (1, .int (iI pi_))] := hl
  have hl := lv_chg hl 1 (b := (mo (fun x => sumZ (fun y => bI (FDn N (pi_ * 16 + y) = x)) 16) 1).2) rfl (by rw [mo_1 hm0])
  have hl : lv_has ls 7 [(4, .int (iI 1)), (3, .int (iI ((mo (fun x => sumZ (fun y => bI (FDn N (pi_ * 16 + y) = x)) 16) 1).2))), (2, .int (iI ((mo (fun x => sumZ (fun y => bI (FDn N (pi_ * 16 + y) = x)) 16) 1).1))), (0, .ref q), (1, .int (iI pi_))] := hl
  exact L7 (9) 1 (by omega) (by omega) (by omega) ls (lv_sub hl [3, 4, 2, 1, 0] rfl)
