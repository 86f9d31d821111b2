set_option maxRecDepth 20000 in
theorem in_X3_look_X3 : ∀ w ∈ u_ws RX3 TX3 3, w ∈ wsX3_look := zmem_of _ [36, 37, 38] (by decide +kernel)
set_option maxHeartbeats 4000000 in
set_option maxRecDepth 100000 in
theorem m_X3_look (l : Launch) (g : zG) (a aw af ao : Nat) (h hn hs : Nat) (fl re : Int) (WA FD NU SZ : Int → Int) (f1 : 0 ≤ fl) (f2 : fl ≤ 99999) (z1 : ∀ p, 0 ≤ p → p < 5 → 0 ≤ SZ p ∧ SZ p ≤ 128) : zV l yX3_look wsX3_look ({ frames := 3, cells := 0, slots := 0, locals := 73 }) g [.ref a, .ref h] [(a, .inr (3, [.ref aw, .ref af, .ref ao])), zI g aw 8 WA, zI g af 80 FD, (h, .inr (4, [.ref hn, .ref hs, .int (iI fl), .int (iI re)])), zI g hn 640 NU, zI g hs 5 SZ] (S := (Int → Int)) (fun _ => True) (fun u => [(a, .inr (3, [.ref aw, .ref af, .ref ao])), zI g aw 8 u, zI g af 80 (pf NU SZ fl), (h, .inr (4, [.ref hn, .ref hs, .int (iI fl), .int (iI re)])), zI g hn 640 NU, zI g hs 5 SZ]) := by
  refine z_entV (cc := cX3_look) (nL := 6) (ret := none) (own := RX3) (by decide) rfl rfl (Nat.le_of_ble_eq_true rfl) ?_
  intro p e s m below meth c Q ls A C hlk hr hQ hP hK hD hA hS hl
  have hx := C.1
  have hb := C.2.1
  have hl : lv_has ls 6 [(0, .ref a), (1, .ref h)] := hl
  obtain ⟨H, hHe⟩ : ∃ H, H = s.heap := ⟨_, rfl⟩
  obtain ⟨locs, hLe⟩ : ∃ q : List Loc, q = [] := ⟨_, rfl⟩
  have hP : zP g [(a, .inr (3, [.ref aw, .ref af, .ref ao])), zI g aw 8 WA, zI g af 80 FD, (h, .inr (4, [.ref hn, .ref hs, .int (iI fl), .int (iI re)])), zI g hn 640 NU, zI g hs 5 SZ] H := by rw [hHe]; exact hP
  have hS : va_S A s.heap H locs := by rw [hHe, hLe]; exact hS
  suffices hgo : W p l e ({ frames := 3, cells := 0, slots := 0, locals := 73 }) s m ([.ref a, .ref h] : List Value).toArray below meth c H locs 0 0 Q (F0 m 0 ls []) by rw [hHe, hLe] at hgo; exact hgo
  clear hHe hLe
  refine lv_iconst (v := iI 0) hx hb dX3_look_0 rfl ?_
  refine lv_istore_n (lv' := [(2, .int (iI 0)), (0, .ref a), (1, .ref h)]) hx hb dX3_look_1 rfl hl (by decide) rfl (fun ls hl => ?_)
  have L2 : ∀ (n : Nat) (row : Int) (WA : Int → Int) (FD : Int → Int), (i1 : 0 ≤ row) → (i2 : row ≤ 5) → (i3 : ∀ j, 0 ≤ j → j < row * 16 → FD j = pf NU SZ fl j) → (hms : 5 - row < (n : Int)) → ∀ (H : Heap) (locs : List Loc) (ls : Array Slot), lv_has ls 6 [(0, .ref a), (1, .ref h), (2, .int (iI row))] → zP g [(a, .inr (3, [.ref aw, .ref af, .ref ao])), zI g aw 8 WA, zI g af 80 FD, (h, .inr (4, [.ref hn, .ref hs, .int (iI fl), .int (iI re)])), zI g hn 640 NU, zI g hs 5 SZ] H → va_D A [(a, .inr (3, [.ref aw, .ref af, .ref ao])), zI g aw 8 WA, zI g af 80 FD, (h, .inr (4, [.ref hn, .ref hs, .int (iI fl), .int (iI re)])), zI g hn 640 NU, zI g hs 5 SZ] → va_S A s.heap H locs → W p l e ({ frames := 3, cells := 0, slots := 0, locals := 73 }) s m ([.ref a, .ref h] : List Value).toArray below meth c H locs 0 0 Q (F0 m 2 ls []) := by
    clear hP hD hS hl
    intro n
    induction n with
    | zero =>
      intro row WA FD i1 i2 i3 hms H locs ls hl hP hD hS
      exfalso; omega
    | succ n ih2 =>
      intro row WA FD i1 i2 i3 hms H locs ls hl hP hD hS
      refine lv_iload_n hx hb dX3_look_2 rfl (lv_at hl 2 rfl) ?_
      refine lv_iconst (v := iI 5) hx hb dX3_look_3 rfl ?_
      refine z_icmp_ge (tgt := 69) hx hb dX3_look_4 (by decide) (by omega) (by omega) (fun c_1 => ?_) (fun c_1 => ?_)
      · have hP := zP_arr hP 2 (pf NU SZ fl) rfl (fun j g1 g2 => i3 j g1 (by omega))
        have hD := zD_set (c1 := (zI g af 80 (pf NU SZ fl)).2) hD 2 rfl
        have hP : zP g [(a, .inr (3, [.ref aw, .ref af, .ref ao])), zI g aw 8 WA, zI g af 80 (pf NU SZ fl), (h, .inr (4, [.ref hn, .ref hs, .int (iI fl), .int (iI re)])), zI g hn 640 NU, zI g hs 5 SZ] H := hP
        have hD : va_D A [(a, .inr (3, [.ref aw, .ref af, .ref ao])), zI g aw 8 WA, zI g af 80 (pf NU SZ fl), (h, .inr (4, [.ref hn, .ref hs, .int (iI fl), .int (iI re)])), zI g hn 640 NU, zI g hs 5 SZ] := hD
        exact z_retV hx hb hlk hr hQ dX3_look_69 hS WA (trivial) (hP)
      · have hz1 := z1 row i1 (by omega)
        refine lv_aload_n hx hb dX3_look_7 rfl (lv_at hl 1 rfl) ?_
        refine lv_iload_n hx hb dX3_look_8 rfl (lv_at hl 2 rfl) ?_
        refine z_cS (As := [.int (iI row)]) (rest := []) C (m_X4_windowsOf (l := l) (g := g) (h := h) (hn := hn) (hs := hs) (fl := fl) (re := re) (SZ := SZ) (row := row) (h1 := by omega) (h2 := by omega) (h3 := by omega) (h4 := by omega)) (cwV 1 C.2.2.2.2 gX3_look_X4_windowsOf rfl rfl rfl (by decide +kernel) ⟨Nat.le_of_ble_eq_true rfl, Nat.le_of_ble_eq_true rfl⟩) hK hP [3, 5] rfl 3 rfl rfl rfl hl.1 rfl (Nat.le_of_ble_eq_true rfl) dX3_look_9 ⟨Nat.zero_le _, Nat.zero_le _⟩ ?_
        refine lv_istore_n (lv' := [(3, .int (iI (SZ row / 8))), (0, .ref a), (1, .ref h), (2, .int (iI row))]) hx hb dX3_look_12 rfl hl (by decide) rfl (fun ls hl => ?_)
        refine lv_iconst (v := iI 0) hx hb dX3_look_13 rfl ?_
        refine lv_istore (lv' := [(4, .int (iI 0)), (3, .int (iI (SZ row / 8))), (0, .ref a), (1, .ref h), (2, .int (iI row))]) hx hb dX3_look_14 hl (by decide) rfl (fun ls hl => ?_)
        have L16 : ∀ (n : Nat) (w : Int) (WA : Int → Int) (FD : Int → Int), (j1 : 0 ≤ w) → (j2 : w ≤ 16) → (j3 : ∀ j, 0 ≤ j → j < row * 16 + w → FD j = pf NU SZ fl j) → (hms : 16 - w < (n : Int)) → ∀ (H : Heap) (locs : List Loc) (ls : Array Slot), lv_has ls 6 [(0, .ref a), (1, .ref h), (2, .int (iI row)), (3, .int (iI (SZ row / 8))), (4, .int (iI w))] → zP g [(a, .inr (3, [.ref aw, .ref af, .ref ao])), zI g aw 8 WA, zI g af 80 FD, (h, .inr (4, [.ref hn, .ref hs, .int (iI fl), .int (iI re)])), zI g hn 640 NU, zI g hs 5 SZ] H → va_D A [(a, .inr (3, [.ref aw, .ref af, .ref ao])), zI g aw 8 WA, zI g af 80 FD, (h, .inr (4, [.ref hn, .ref hs, .int (iI fl), .int (iI re)])), zI g hn 640 NU, zI g hs 5 SZ] → va_S A s.heap H locs → W p l e ({ frames := 3, cells := 0, slots := 0, locals := 73 }) s m ([.ref a, .ref h] : List Value).toArray below meth c H locs 0 0 Q (F0 m 16 ls []) := by
          clear hP hD hS hl
          intro n
          induction n with
          | zero =>
            intro w WA FD j1 j2 j3 hms H locs ls hl hP hD hS
            exfalso; omega
          | succ n ih16 =>
            intro w WA FD j1 j2 j3 hms H locs ls hl hP hD hS
            refine lv_iload hx hb dX3_look_16 (lv_at hl 4 rfl) ?_
            refine lv_bipush (v := iI 16) hx hb dX3_look_18 (by decide +kernel) ?_
            refine z_icmp_ge (tgt := 63) hx hb dX3_look_20 (by decide) (by omega) (by omega) (fun c_2 => ?_) (fun c_2 => ?_)
            · refine z_iinc (b := row + 1) (lv' := [(2, .int (iI (row + 1))), (0, .ref a), (1, .ref h), (3, .int (iI (SZ row / 8))), (4, .int (iI w))]) hx hb dX3_look_63 hl (k := 2) rfl (rfl) (by decide) rfl (fun ls hl => ?_)
              refine lv_goto (tgt := 2) hx hb dX3_look_66 (by decide) ?_
              exact ih2 (row + 1) WA FD (by omega) (by omega) (fun j g1 g2 => j3 j g1 (by omega)) (by omega) H locs ls (lv_sub hl [1, 2, 0] rfl) (hP) (hD) hS
            · refine lv_iload_n hx hb dX3_look_23 rfl (lv_at hl 2 rfl) ?_
              refine lv_bipush (v := iI 16) hx hb dX3_look_24 (by decide +kernel) ?_
              refine z_imul hx hb dX3_look_26 ?_
              refine lv_iload hx hb dX3_look_27 (lv_at hl 4 rfl) ?_
              refine z_iadd hx hb dX3_look_29 ?_
              refine lv_istore (lv' := [(5, .int (iI ((row * 16) + w))), (0, .ref a), (1, .ref h), (2, .int (iI row)), (3, .int (iI (SZ row / 8))), (4, .int (iI w))]) hx hb dX3_look_30 hl (by decide) rfl (fun ls hl => ?_)
              refine lv_aload_n hx hb dX3_look_32 rfl (lv_at hl 1 rfl) ?_
              refine z_get (v := .ref af) (Cn := RX3) (T := TX3) (N := 3) (ci := 3) C in_X3_look_X3 hK hP 0 rfl rfl 1 (by decide) (List.mem_of_getElem? (i := 1) rfl) rfl dX3_look_33 ?_
              refine lv_iload hx hb dX3_look_36 (lv_at hl 0 rfl) ?_
              refine lv_iload hx hb dX3_look_38 (lv_at hl 5 rfl) ?_
              refine lv_iload_n hx hb dX3_look_40 rfl (lv_at hl 4 rfl) ?_
              refine z_icmp_ge (tgt := 55) hx hb dX3_look_41 (by decide) (by omega) (by omega) (fun c_3 => ?_) (fun c_3 => ?_)
              · refine lv_iconst (v := iI (-1)) hx hb dX3_look_55 rfl ?_
                refine z_iast hx hb hK hP hD hS 2 rfl (by omega) (by omega) (Nat.le_of_ble_eq_true rfl) dX3_look_56 (fun H locs hP hD hS => ?_)
                have hP : zP g [(a, .inr (3, [.ref aw, .ref af, .ref ao])), zI g aw 8 WA, zI g af 80 (ups FD ((row * 16) + w) (-1)), (h, .inr (4, [.ref hn, .ref hs, .int (iI fl), .int (iI re)])), zI g hn 640 NU, zI g hs 5 SZ] H := hP
                have hD : va_D A [(a, .inr (3, [.ref aw, .ref af, .ref ao])), zI g aw 8 WA, zI g af 80 (ups FD ((row * 16) + w) (-1)), (h, .inr (4, [.ref hn, .ref hs, .int (iI fl), .int (iI re)])), zI g hn 640 NU, zI g hs 5 SZ] := hD
                refine z_iinc (b := w + 1) (lv' := [(4, .int (iI (w + 1))), (5, .int (iI ((row * 16) + w))), (0, .ref a), (1, .ref h), (2, .int (iI row)), (3, .int (iI (SZ row / 8)))]) hx hb dX3_look_57 hl (k := 5) rfl (rfl) (by decide) rfl (fun ls hl => ?_)
                refine lv_goto (tgt := 16) hx hb dX3_look_60 (by decide) ?_
                exact ih16 (w + 1) WA (ups FD ((row * 16) + w) (-1)) (by omega) (by omega) (fun j g1 g2 => by by_cases hj : j = row * 16 + w; (· rw [hj, ups_s]; exact (pf_f j1 (by omega) (by omega)).symm); (· rw [ups_n _ _ hj]; exact j3 j g1 (by omega))) (by omega) H locs ls (lv_sub hl [2, 3, 4, 5, 0] rfl) (hP) (hD) hS
              · refine lv_aload_n hx hb dX3_look_44 rfl (lv_at hl 1 rfl) ?_
                refine lv_aload_n hx hb dX3_look_45 rfl (lv_at hl 2 rfl) ?_
                refine lv_iload_n hx hb dX3_look_46 rfl (lv_at hl 3 rfl) ?_
                refine lv_iload hx hb dX3_look_47 (lv_at hl 5 rfl) ?_
                refine z_cE (As := [.ref h, .int (iI row), .int (iI w)]) (rest := [.int (iI ((row * 16) + w)), .ref af]) C (m_X3_findPeak (l := l) (g := g) (a := a) (aw := aw) (af := af) (ao := ao) (h := h) (hn := hn) (hs := hs) (fl := fl) (re := re) (WA := WA) (NU := NU) (row := row) (wi := w) (h1 := by omega) (h2 := by omega) (w1 := by omega) (w2 := by omega) (f1 := by omega) (f2 := by omega)) (cwV 3 C.2.2.2.2 gX3_look_X3_findPeak rfl rfl rfl (by decide +kernel) ⟨Nat.le_of_ble_eq_true rfl, Nat.le_of_ble_eq_true rfl⟩) hK hP hD hS hA [0, 1, 3, 4] (by decide) rfl (fun _ => rfl) 0 rfl rfl rfl hl.1 rfl (Nat.le_of_ble_eq_true rfl) dX3_look_49 ⟨Nat.zero_le _, Nat.zero_le _⟩ (fun r_6 u_4 H locs hq_5 hP hD hS => ?_)
                have hq_5 : r_6 = pk8 (fun i => NU (row * 128 + (w * 8 + i))) fl := hq_5
                subst hq_5
                have hP : zP g [(a, .inr (3, [.ref aw, .ref af, .ref ao])), zI g aw 8 (wv (fun i => NU (row * 128 + (w * 8 + i)))), zI g af 80 FD, (h, .inr (4, [.ref hn, .ref hs, .int (iI fl), .int (iI re)])), zI g hn 640 NU, zI g hs 5 SZ] H := hP
                have hD : va_D A [(a, .inr (3, [.ref aw, .ref af, .ref ao])), zI g aw 8 (wv (fun i => NU (row * 128 + (w * 8 + i)))), zI g af 80 FD, (h, .inr (4, [.ref hn, .ref hs, .int (iI fl), .int (iI re)])), zI g hn 640 NU, zI g hs 5 SZ] := hD
                refine lv_goto (tgt := 56) hx hb dX3_look_52 (by decide) ?_
                refine z_iast hx hb hK hP hD hS 2 rfl (by omega) (by omega) (Nat.le_of_ble_eq_true rfl) dX3_look_56 (fun H locs hP hD hS => ?_)
                have hP : zP g [(a, .inr (3, [.ref aw, .ref af, .ref ao])), zI g aw 8 (wv (fun i => NU (row * 128 + (w * 8 + i)))), zI g af 80 (ups FD ((row * 16) + w) (pk8 (fun i => NU (row * 128 + (w * 8 + i))) fl)), (h, .inr (4, [.ref hn, .ref hs, .int (iI fl), .int (iI re)])), zI g hn 640 NU, zI g hs 5 SZ] H := hP
                have hD : va_D A [(a, .inr (3, [.ref aw, .ref af, .ref ao])), zI g aw 8 (wv (fun i => NU (row * 128 + (w * 8 + i)))), zI g af 80 (ups FD ((row * 16) + w) (pk8 (fun i => NU (row * 128 + (w * 8 + i))) fl)), (h, .inr (4, [.ref hn, .ref hs, .int (iI fl), .int (iI re)])), zI g hn 640 NU, zI g hs 5 SZ] := hD
                refine z_iinc (b := w + 1) (lv' := [(4, .int (iI (w + 1))), (5, .int (iI ((row * 16) + w))), (0, .ref a), (1, .ref h), (2, .int (iI row)), (3, .int (iI (SZ row / 8)))]) hx hb dX3_look_57 hl (k := 5) rfl (rfl) (by decide) rfl (fun ls hl => ?_)
                refine lv_goto (tgt := 16) hx hb dX3_look_60 (by decide) ?_
                exact ih16 (w + 1) (wv (fun i => NU (row * 128 + (w * 8 + i)))) (ups FD ((row * 16) + w) (pk8 (fun i => NU (row * 128 + (w * 8 + i))) fl)) (by omega) (by omega) (fun j g1 g2 => by by_cases hj : j = row * 16 + w; (· rw [hj, ups_s]; exact (pf_t j1 (by omega) (by omega)).symm); (· rw [ups_n _ _ hj]; exact j3 j g1 (by omega))) (by omega) H locs ls (lv_sub hl [2, 3, 4, 5, 0] rfl) (hP) (hD) hS
        exact L16 (17) 0 WA FD (by omega) (by omega) (fun j g1 g2 => i3 j g1 (by omega)) (by omega) H locs ls (lv_sub hl [2, 3, 4, 1, 0] rfl) (hP) (hD) hS
  exact L2 (6) 0 WA FD (by omega) (by omega) (fun j g1 g2 => by omega) (by omega) H locs ls (lv_sub hl [1, 2, 0] rfl) (hP) (hD) hS
set_option maxHeartbeats 4000000 in
set_option maxRecDepth 100000 in
theorem m_X3_allSharesIn (l : Launch) (g : zG) (a aw af ao : Nat) (h hn hs : Nat) (fl re : Int) (WA NU SZ : Int → Int) (row : Int) (h1 : 0 ≤ row) (h2 : row < 5) (z1 : 0 ≤ SZ row ∧ SZ row ≤ 128) : zE l yX3_allSharesIn wsX3_allSharesIn ({ frames := 2, cells := 0, slots := 0, locals := 48 }) g [.ref a, .ref h, .int (iI row)] [(a, .inr (3, [.ref aw, .ref af, .ref ao])), zI g aw 8 WA, (h, .inr (4, [.ref hn, .ref hs, .int (iI fl), .int (iI re)])), zI g hn 640 NU, zI g hs 5 SZ] (S := (Int → Int)) (fun r _ => r = sumZ (fun x => sumZ (fun y => sh (wv (fun i => NU (row * 128 + (x * 8 + i)))) y) 8) (SZ row / 8)) (fun u => [(a, .inr (3, [.ref aw, .ref af, .ref ao])), zI g aw 8 u, (h, .inr (4, [.ref hn, .ref hs, .int (iI fl), .int (iI re)])), zI g hn 640 NU, zI g hs 5 SZ]) := by
  refine z_entE (cc := cX3_allSharesIn) (nL := 7) (ret := (some .int)) (own := RX3) (by decide) rfl rfl (Nat.le_of_ble_eq_true rfl) ?_
  intro p e s m below meth c Q ls A C hlk hr hQ hP hK hD hA hS hl
  have hx := C.1
  have hb := C.2.1
  have hl : lv_has ls 7 [(0, .ref a), (1, .ref h), (2, .int (iI row))] := hl
  obtain ⟨H, hHe⟩ : ∃ H, H = s.heap := ⟨_, rfl⟩
  obtain ⟨locs, hLe⟩ : ∃ q : List Loc, q = [] := ⟨_, rfl⟩
  have hP : zP g [(a, .inr (3, [.ref aw, .ref af, .ref ao])), zI g aw 8 WA, (h, .inr (4, [.ref hn, .ref hs, .int (iI fl), .int (iI re)])), zI g hn 640 NU, zI g hs 5 SZ] H := by rw [hHe]; exact hP
  have hS : va_S A s.heap H locs := by rw [hHe, hLe]; exact hS
  suffices hgo : W p l e ({ frames := 2, cells := 0, slots := 0, locals := 48 }) s m ([.ref a, .ref h, .int (iI row)] : List Value).toArray below meth c H locs 0 0 Q (F0 m 0 ls []) by rw [hHe, hLe] at hgo; exact hgo
  clear hHe hLe
  refine lv_aload_n hx hb dX3_allSharesIn_0 rfl (lv_at hl 1 rfl) ?_
  refine lv_iload_n hx hb dX3_allSharesIn_1 rfl (lv_at hl 2 rfl) ?_
  refine z_cS (As := [.int (iI row)]) (rest := []) C (m_X4_windowsOf (l := l) (g := g) (h := h) (hn := hn) (hs := hs) (fl := fl) (re := re) (SZ := SZ) (row := row) (h1 := by omega) (h2 := by omega) (h3 := by omega) (h4 := by omega)) (cwV 1 C.2.2.2.2 gX3_allSharesIn_X4_windowsOf rfl rfl rfl (by decide +kernel) ⟨Nat.le_of_ble_eq_true rfl, Nat.le_of_ble_eq_true rfl⟩) hK hP [2, 4] rfl 2 rfl rfl rfl hl.1 rfl (Nat.le_of_ble_eq_true rfl) dX3_allSharesIn_2 ⟨Nat.zero_le _, Nat.zero_le _⟩ ?_
  refine lv_istore_n (lv' := [(3, .int (iI (SZ row / 8))), (0, .ref a), (1, .ref h), (2, .int (iI row))]) hx hb dX3_allSharesIn_5 rfl hl (by decide) rfl (fun ls hl => ?_)
  refine lv_iconst (v := iI 0) hx hb dX3_allSharesIn_6 rfl ?_
  refine lv_istore (lv' := [(4, .int (iI 0)), (3, .int (iI (SZ row / 8))), (0, .ref a), (1, .ref h), (2, .int (iI row))]) hx hb dX3_allSharesIn_7 hl (by decide) rfl (fun ls hl => ?_)
  refine lv_iconst (v := iI 0) hx hb dX3_allSharesIn_9 rfl ?_
  refine lv_istore (lv' := [(5, .int (iI 0)), (4, .int (iI 0)), (3, .int (iI (SZ row / 8))), (0, .ref a), (1, .ref h), (2, .int (iI row))]) hx hb dX3_allSharesIn_10 hl (by decide) rfl (fun ls hl => ?_)
  have L12 : ∀ (n : Nat) (wi : Int) (WA : Int → Int), (i1 : 0 ≤ wi) → (i2 : wi ≤ SZ row / 8) → (hms : SZ row / 8 - wi < (n : Int)) → ∀ (H : Heap) (locs : List Loc) (ls : Array Slot), lv_has ls 7 [(0, .ref a), (1, .ref h), (2, .int (iI row)), (3, .int (iI (SZ row / 8))), (4, .int (iI (sumZ (fun x => sumZ (fun y => sh (wv (fun i => NU (row * 128 + (x * 8 + i)))) y) 8) wi))), (5, .int (iI wi))] → zP g [(a, .inr (3, [.ref aw, .ref af, .ref ao])), zI g aw 8 WA, (h, .inr (4, [.ref hn, .ref hs, .int (iI fl), .int (iI re)])), zI g hn 640 NU, zI g hs 5 SZ] H → va_D A [(a, .inr (3, [.ref aw, .ref af, .ref ao])), zI g aw 8 WA, (h, .inr (4, [.ref hn, .ref hs, .int (iI fl), .int (iI re)])), zI g hn 640 NU, zI g hs 5 SZ] → va_S A s.heap H locs → W p l e ({ frames := 2, cells := 0, slots := 0, locals := 48 }) s m ([.ref a, .ref h, .int (iI row)] : List Value).toArray below meth c H locs 0 0 Q (F0 m 12 ls []) := by
    clear hP hD hS hl
    intro n
    induction n with
    | zero =>
      intro wi WA i1 i2 hms H locs ls hl hP hD hS
      exfalso; omega
    | succ n ih12 =>
      intro wi WA i1 i2 hms H locs ls hl hP hD hS
      refine lv_iload hx hb dX3_allSharesIn_12 (lv_at hl 5 rfl) ?_
      refine lv_iload_n hx hb dX3_allSharesIn_14 rfl (lv_at hl 3 rfl) ?_
      refine z_icmp_ge (tgt := 59) hx hb dX3_allSharesIn_15 (by decide) (by omega) (by omega) (fun c_1 => ?_) (fun c_1 => ?_)
      · refine lv_iload hx hb dX3_allSharesIn_59 (lv_at hl 4 rfl) ?_
        exact z_retE hx hb hlk hr hQ dX3_allSharesIn_61 hS WA (by rw [show wi = SZ row / 8 by omega]) (hP)
      · refine lv_aload_n hx hb dX3_allSharesIn_18 rfl (lv_at hl 0 rfl) ?_
        refine lv_aload_n hx hb dX3_allSharesIn_19 rfl (lv_at hl 1 rfl) ?_
        refine lv_iload_n hx hb dX3_allSharesIn_20 rfl (lv_at hl 2 rfl) ?_
        refine lv_iload hx hb dX3_allSharesIn_21 (lv_at hl 5 rfl) ?_
        refine z_cV (As := [.ref h, .int (iI row), .int (iI wi)]) (rest := []) C (m_X3_turn (l := l) (g := g) (a := a) (aw := aw) (af := af) (ao := ao) (h := h) (hn := hn) (hs := hs) (fl := fl) (re := re) (WA := WA) (NU := NU) (row := row) (wi := wi) (h1 := by omega) (h2 := by omega) (w1 := by omega) (w2 := by omega)) (cwV 3 C.2.2.2.2 gX3_allSharesIn_X3_turn rfl rfl rfl (by decide +kernel) ⟨Nat.le_of_ble_eq_true rfl, Nat.le_of_ble_eq_true rfl⟩) hK hP hD hS hA [0, 1, 2, 3] (by decide) rfl (fun _ => rfl) 0 rfl rfl rfl hl.1 rfl (Nat.le_of_ble_eq_true rfl) dX3_allSharesIn_23 ⟨Nat.zero_le _, Nat.zero_le _⟩ (fun u_2 H locs hq_3 hP hD hS => ?_)
        have hP : zP g [(a, .inr (3, [.ref aw, .ref af, .ref ao])), zI g aw 8 (wv (fun i => NU (row * 128 + (wi * 8 + i)))), (h, .inr (4, [.ref hn, .ref hs, .int (iI fl), .int (iI re)])), zI g hn 640 NU, zI g hs 5 SZ] H := hP
        have hD : va_D A [(a, .inr (3, [.ref aw, .ref af, .ref ao])), zI g aw 8 (wv (fun i => NU (row * 128 + (wi * 8 + i)))), (h, .inr (4, [.ref hn, .ref hs, .int (iI fl), .int (iI re)])), zI g hn 640 NU, zI g hs 5 SZ] := hD
        refine lv_iconst (v := iI 0) hx hb dX3_allSharesIn_26 rfl ?_
        refine lv_istore (lv' := [(6, .int (iI 0)), (0, .ref a), (1, .ref h), (2, .int (iI row)), (3, .int (iI (SZ row / 8))), (4, .int (iI (sumZ (fun x => sumZ (fun y => sh (wv (fun i => NU (row * 128 + (x * 8 + i)))) y) 8) wi))), (5, .int (iI wi))]) hx hb dX3_allSharesIn_27 hl (by decide) rfl (fun ls hl => ?_)
        have L29 : ∀ (n : Nat) (k : Int), (j1 : 0 ≤ k) → (j2 : k ≤ 8) → (hms : 8 - k < (n : Int)) → ∀ (H : Heap) (locs : List Loc) (ls : Array Slot), lv_has ls 7 [(0, .ref a), (1, .ref h), (2, .int (iI row)), (3, .int (iI (SZ row / 8))), (4, .int (iI (sumZ (fun x => sumZ (fun y => sh (wv (fun i => NU (row * 128 + (x * 8 + i)))) y) 8) wi + sumZ (fun y => sh (wv (fun i => NU (row * 128 + (wi * 8 + i)))) y) k))), (5, .int (iI wi)), (6, .int (iI k))] → zP g [(a, .inr (3, [.ref aw, .ref af, .ref ao])), zI g aw 8 (wv (fun i => NU (row * 128 + (wi * 8 + i)))), (h, .inr (4, [.ref hn, .ref hs, .int (iI fl), .int (iI re)])), zI g hn 640 NU, zI g hs 5 SZ] H → va_D A [(a, .inr (3, [.ref aw, .ref af, .ref ao])), zI g aw 8 (wv (fun i => NU (row * 128 + (wi * 8 + i)))), (h, .inr (4, [.ref hn, .ref hs, .int (iI fl), .int (iI re)])), zI g hn 640 NU, zI g hs 5 SZ] → va_S A s.heap H locs → W p l e ({ frames := 2, cells := 0, slots := 0, locals := 48 }) s m ([.ref a, .ref h, .int (iI row)] : List Value).toArray below meth c H locs 0 0 Q (F0 m 29 ls []) := by
          clear hP hD hS hl
          intro n
          induction n with
          | zero =>
            intro k j1 j2 hms H locs ls hl hP hD hS
            exfalso; omega
          | succ n ih29 =>
            intro k j1 j2 hms H locs ls hl hP hD hS
            refine lv_iload hx hb dX3_allSharesIn_29 (lv_at hl 6 rfl) ?_
            refine lv_bipush (v := iI 8) hx hb dX3_allSharesIn_31 (by decide +kernel) ?_
            refine z_icmp_ge (tgt := 53) hx hb dX3_allSharesIn_33 (by decide) (by omega) (by omega) (fun c_4 => ?_) (fun c_4 => ?_)
            · refine z_iinc (b := wi + 1) (lv' := [(5, .int (iI (wi + 1))), (0, .ref a), (1, .ref h), (2, .int (iI row)), (3, .int (iI (SZ row / 8))), (4, .int (iI (sumZ (fun x => sumZ (fun y => sh (wv (fun i => NU (row * 128 + (x * 8 + i)))) y) 8) wi + sumZ (fun y => sh (wv (fun i => NU (row * 128 + (wi * 8 + i)))) y) k))), (6, .int (iI k))]) hx hb dX3_allSharesIn_53 hl (k := 5) rfl (rfl) (by decide) rfl (fun ls hl => ?_)
              refine lv_goto (tgt := 12) hx hb dX3_allSharesIn_56 (by decide) ?_
              have hl := lv_chg hl 5 (b := sumZ (fun x => sumZ (fun y => sh (wv (fun i => NU (row * 128 + (x * 8 + i)))) y) 8) (wi + 1)) rfl (by rw [sumZ_s _ i1, show k = 8 by omega])
              have hl : lv_has ls 7 [(5, .int (iI (wi + 1))), (0, .ref a), (1, .ref h), (2, .int (iI row)), (3, .int (iI (SZ row / 8))), (4, .int (iI (sumZ (fun x => sumZ (fun y => sh (wv (fun i => NU (row * 128 + (x * 8 + i)))) y) 8) (wi + 1)))), (6, .int (iI k))] := hl
              exact ih12 (wi + 1) (wv (fun i => NU (row * 128 + (wi * 8 + i)))) (by omega) (by omega) (by omega) H locs ls (lv_sub hl [1, 2, 3, 4, 5, 0] rfl) (hP) (hD) hS
            · refine lv_iload hx hb dX3_allSharesIn_36 (lv_at hl 4 rfl) ?_
              refine lv_aload_n hx hb dX3_allSharesIn_38 rfl (lv_at hl 0 rfl) ?_
              refine lv_iload hx hb dX3_allSharesIn_39 (lv_at hl 6 rfl) ?_
              refine z_cS (As := [.int (iI k)]) (rest := [.int (iI (sumZ (fun x => sumZ (fun y => sh (wv (fun i => NU (row * 128 + (x * 8 + i)))) y) 8) wi + sumZ (fun y => sh (wv (fun i => NU (row * 128 + (wi * 8 + i)))) y) k))]) C (m_X3_shareOf (l := l) (g := g) (a := a) (aw := aw) (af := af) (ao := ao) (WA := wv (fun i => NU (row * 128 + (wi * 8 + i)))) (k := k) (h1 := by omega) (h2 := by omega)) (cwV 1 C.2.2.2.2 gX3_allSharesIn_X3_shareOf rfl rfl rfl (by decide +kernel) ⟨Nat.le_of_ble_eq_true rfl, Nat.le_of_ble_eq_true rfl⟩) hK hP [0, 1] rfl 0 rfl rfl rfl hl.1 rfl (Nat.le_of_ble_eq_true rfl) dX3_allSharesIn_41 ⟨Nat.zero_le _, Nat.zero_le _⟩ ?_
              have hsr := sh_rg (wv (fun i => NU (row * 128 + (wi * 8 + i)))) k
              refine z_iadd hx hb dX3_allSharesIn_44 ?_
              refine lv_istore (lv' := [(4, .int (iI ((sumZ (fun x => sumZ (fun y => sh (wv (fun i => NU (row * 128 + (x * 8 + i)))) y) 8) wi + sumZ (fun y => sh (wv (fun i => NU (row * 128 + (wi * 8 + i)))) y) k) + (sh (wv (fun i => NU (row * 128 + (wi * 8 + i)))) k)))), (0, .ref a), (1, .ref h), (2, .int (iI row)), (3, .int (iI (SZ row / 8))), (5, .int (iI wi)), (6, .int (iI k))]) hx hb dX3_allSharesIn_45 hl (by decide) rfl (fun ls hl => ?_)
              refine z_iinc (b := k + 1) (lv' := [(6, .int (iI (k + 1))), (4, .int (iI ((sumZ (fun x => sumZ (fun y => sh (wv (fun i => NU (row * 128 + (x * 8 + i)))) y) 8) wi + sumZ (fun y => sh (wv (fun i => NU (row * 128 + (wi * 8 + i)))) y) k) + (sh (wv (fun i => NU (row * 128 + (wi * 8 + i)))) k)))), (0, .ref a), (1, .ref h), (2, .int (iI row)), (3, .int (iI (SZ row / 8))), (5, .int (iI wi))]) hx hb dX3_allSharesIn_47 hl (k := 6) rfl (rfl) (by decide) rfl (fun ls hl => ?_)
              refine lv_goto (tgt := 29) hx hb dX3_allSharesIn_50 (by decide) ?_
              have hl := lv_chg hl 1 (b := sumZ (fun x => sumZ (fun y => sh (wv (fun i => NU (row * 128 + (x * 8 + i)))) y) 8) wi + sumZ (fun y => sh (wv (fun i => NU (row * 128 + (wi * 8 + i)))) y) (k + 1)) rfl (by rw [sumZ_s _ j1]; omega)
              have hl : lv_has ls 7 [(6, .int (iI (k + 1))), (4, .int (iI (sumZ (fun x => sumZ (fun y => sh (wv (fun i => NU (row * 128 + (x * 8 + i)))) y) 8) wi + sumZ (fun y => sh (wv (fun i => NU (row * 128 + (wi * 8 + i)))) y) (k + 1)))), (0, .ref a), (1, .ref h), (2, .int (iI row)), (3, .int (iI (SZ row / 8))), (5, .int (iI wi))] := hl
              exact ih29 (k + 1) (by omega) (by omega) (by omega) H locs ls (lv_sub hl [2, 3, 4, 5, 1, 6, 0] rfl) (hP) (hD) hS
        have hl := lv_chg hl 5 (b := sumZ (fun x => sumZ (fun y => sh (wv (fun i => NU (row * 128 + (x * 8 + i)))) y) 8) wi + sumZ (fun y => sh (wv (fun i => NU (row * 128 + (wi * 8 + i)))) y) 0) rfl (by rw [sumZ_0]; omega)
        have hl : lv_has ls 7 [(6, .int (iI 0)), (0, .ref a), (1, .ref h), (2, .int (iI row)), (3, .int (iI (SZ row / 8))), (4, .int (iI (sumZ (fun x => sumZ (fun y => sh (wv (fun i => NU (row * 128 + (x * 8 + i)))) y) 8) wi + sumZ (fun y => sh (wv (fun i => NU (row * 128 + (wi * 8 + i)))) y) 0))), (5, .int (iI wi))] := hl
        exact L29 (9) 0 (by omega) (by omega) (by omega) H locs ls (lv_sub hl [1, 2, 3, 4, 5, 6, 0] rfl) (hP) (hD) hS
  have hl := lv_chg hl 1 (b := sumZ (fun x => sumZ (fun y => sh (wv (fun i => NU (row * 128 + (x * 8 + i)))) y) 8) 0) rfl ((sumZ_0 _).symm)
  have hl : lv_has ls 7 [(5, .int (iI 0)), (4, .int (iI (sumZ (fun x => sumZ (fun y => sh (wv (fun i => NU (row * 128 + (x * 8 + i)))) y) 8) 0))), (3, .int (iI (SZ row / 8))), (0, .ref a), (1, .ref h), (2, .int (iI row))] := hl
  exact L12 (17) 0 WA (by omega) (by omega) (by omega) H locs ls (lv_sub hl [3, 4, 5, 2, 1, 0] rfl) (hP) (hD) hS
set_option maxRecDepth 20000 in
theorem in_X3_mostOftenIn_X3 : ∀ w ∈ u_ws RX3 TX3 3, w ∈ wsX3_mostOftenIn := zmem_of _ [8, 9, 10] (by decide +kernel)
set_option maxHeartbeats 4000000 in
set_option maxRecDepth 100000 in
theorem m_X3_mostOftenIn (l : Launch) (g : zG) (a aw af ao : Nat) (FD OF : Int → Int) (row : Int) (h1 : 0 ≤ row) (h2 : row < 5) (hF : ∀ j, -1 ≤ FD j ∧ FD j ≤ 7 ∧ FD j ≠ 0) : zE l yX3_mostOftenIn wsX3_mostOftenIn ({ frames := 1, cells := 0, slots := 0, locals := 22 }) g [.ref a, .int (iI row)] [(a, .inr (3, [.ref aw, .ref af, .ref ao])), zI g af 80 FD, zI g ao 8 OF] (S := (Int → Int)) (fun r _ => r = (mo (fun x => sumZ (fun y => bI (FD (row * 16 + y) = x)) 16) 8).1) (fun u => [(a, .inr (3, [.ref aw, .ref af, .ref ao])), zI g af 80 FD, zI g ao 8 u]) := by
  refine z_entE (cc := cX3_mostOftenIn) (nL := 5) (ret := (some .int)) (own := RX3) (by decide) rfl rfl (Nat.le_of_ble_eq_true rfl) ?_
  intro p e s m below meth c Q ls A C hlk hr hQ hP hK hD hA hS hl
  have hx := C.1
  have hb := C.2.1
  have hl : lv_has ls 5 [(0, .ref a), (1, .int (iI row))] := hl
  obtain ⟨H, hHe⟩ : ∃ H, H = s.heap := ⟨_, rfl⟩
  obtain ⟨locs, hLe⟩ : ∃ q : List Loc, q = [] := ⟨_, rfl⟩
  have hP : zP g [(a, .inr (3, [.ref aw, .ref af, .ref ao])), zI g af 80 FD, zI g ao 8 OF] H := by rw [hHe]; exact hP
  have hS : va_S A s.heap H locs := by rw [hHe, hLe]; exact hS
  suffices hgo : W p l e ({ frames := 1, cells := 0, slots := 0, locals := 22 }) s m ([.ref a, .int (iI row)] : List Value).toArray below meth c H locs 0 0 Q (F0 m 0 ls []) by rw [hHe, hLe] at hgo; exact hgo
  clear hHe hLe
  refine lv_iconst (v := iI 0) hx hb dX3_mostOftenIn_0 rfl ?_
  refine lv_istore_n (lv' := [(2, .int (iI 0)), (0, .ref a), (1, .int (iI row))]) hx hb dX3_mostOftenIn_1 rfl hl (by decide) rfl (fun ls hl => ?_)
  have L2 : ∀ (n : Nat) (k : Int) (OF : Int → Int), (i1 : 0 ≤ k) → (i2 : k ≤ 8) → (i3 : ∀ j, 0 ≤ j → j < k → OF j = 0) → (hms : 8 - k < (n : Int)) → ∀ (H : Heap) (locs : List Loc) (ls : Array Slot), lv_has ls 5 [(0, .ref a), (1, .int (iI row)), (2, .int (iI k))] → zP g [(a, .inr (3, [.ref aw, .ref af, .ref ao])), zI g af 80 FD, zI g ao 8 OF] H → va_D A [(a, .inr (3, [.ref aw, .ref af, .ref ao])), zI g af 80 FD, zI g ao 8 OF] → va_S A s.heap H locs → W p l e ({ frames := 1, cells := 0, slots := 0, locals := 22 }) s m ([.ref a, .int (iI row)] : List Value).toArray below meth c H locs 0 0 Q (F0 m 2 ls []) := by
    clear hP hD hS hl
    intro n
    induction n with
    | zero =>
      intro k OF i1 i2 i3 hms H locs ls hl hP hD hS
      exfalso; omega
    | succ n ih2 =>
      intro k OF i1 i2 i3 hms H locs ls hl hP hD hS
      refine lv_iload_n hx hb dX3_mostOftenIn_2 rfl (lv_at hl 2 rfl) ?_
      refine lv_bipush (v := iI 8) hx hb dX3_mostOftenIn_3 (by decide +kernel) ?_
      refine z_icmp_ge (tgt := 21) hx hb dX3_mostOftenIn_5 (by decide) (by omega) (by omega) (fun c_1 => ?_) (fun c_1 => ?_)
      · refine lv_iconst (v := iI 0) hx hb dX3_mostOftenIn_21 rfl ?_
        refine lv_istore_n (lv' := [(2, .int (iI 0)), (0, .ref a), (1, .int (iI row))]) hx hb dX3_mostOftenIn_22 rfl hl (by decide) rfl (fun ls hl => ?_)
        have L23 : ∀ (n : Nat) (w : Int) (OF : Int → Int), (i1 : 0 ≤ w) → (i2 : w ≤ 16) → (i3 : ∀ j, 0 ≤ j → j < 8 → OF j = sumZ (fun y => bI (FD (row * 16 + y) = j)) w) → (hms : 16 - w < (n : Int)) → ∀ (H : Heap) (locs : List Loc) (ls : Array Slot), lv_has ls 5 [(0, .ref a), (1, .int (iI row)), (2, .int (iI w))] → zP g [(a, .inr (3, [.ref aw, .ref af, .ref ao])), zI g af 80 FD, zI g ao 8 OF] H → va_D A [(a, .inr (3, [.ref aw, .ref af, .ref ao])), zI g af 80 FD, zI g ao 8 OF] → va_S A s.heap H locs → W p l e ({ frames := 1, cells := 0, slots := 0, locals := 22 }) s m ([.ref a, .int (iI row)] : List Value).toArray below meth c H locs 0 0 Q (F0 m 23 ls []) := by
          clear hP hD hS hl
          intro n
          induction n with
          | zero =>
            intro w OF i1 i2 i3 hms H locs ls hl hP hD hS
            exfalso; omega
          | succ n ih23 =>
            intro w OF i1 i2 i3 hms H locs ls hl hP hD hS
            refine lv_iload_n hx hb dX3_mostOftenIn_23 rfl (lv_at hl 2 rfl) ?_
            refine lv_bipush (v := iI 16) hx hb dX3_mostOftenIn_24 (by decide +kernel) ?_
            refine z_icmp_ge (tgt := 57) hx hb dX3_mostOftenIn_26 (by decide) (by omega) (by omega) (fun c_2 => ?_) (fun c_2 => ?_)
            · have hmb : ∀ j, 0 ≤ (fun x => sumZ (fun y => bI (FD (row * 16 + y) = x)) 16) j ∧ (fun x => sumZ (fun y => bI (FD (row * 16 + y) = x)) 16) j ≤ 16 := fun j => sumZ_01 (by omega) (fun _ _ _ => bI_rg _)
              have hP := zP_arr hP 2 (fun x => sumZ (fun y => bI (FD (row * 16 + y) = x)) 16) rfl (fun j g1 g2 => by rw [i3 j g1 (by omega), show w = 16 by omega])
              have hD := zD_set (c1 := (zI g ao 8 (fun x => sumZ (fun y => bI (FD (row * 16 + y) = x)) 16)).2) hD 2 rfl
              have hP : zP g [(a, .inr (3, [.ref aw, .ref af, .ref ao])), zI g af 80 FD, zI g ao 8 (fun x => sumZ (fun y => bI (FD (row * 16 + y) = x)) 16)] H := hP
              have hD : va_D A [(a, .inr (3, [.ref aw, .ref af, .ref ao])), zI g af 80 FD, zI g ao 8 (fun x => sumZ (fun y => bI (FD (row * 16 + y) = x)) 16)] := hD
              refine lv_iconst (v := iI (-1)) hx hb dX3_mostOftenIn_57 rfl ?_
              refine lv_istore_n (lv' := [(2, .int (iI (-1))), (0, .ref a), (1, .int (iI row))]) hx hb dX3_mostOftenIn_58 rfl hl (by decide) rfl (fun ls hl => ?_)
              refine lv_iconst (v := iI 0) hx hb dX3_mostOftenIn_59 rfl ?_
              refine lv_istore_n (lv' := [(3, .int (iI 0)), (2, .int (iI (-1))), (0, .ref a), (1, .int (iI row))]) hx hb dX3_mostOftenIn_60 rfl hl (by decide) rfl (fun ls hl => ?_)
              refine lv_iconst (v := iI 0) hx hb dX3_mostOftenIn_61 rfl ?_
              refine lv_istore (lv' := [(4, .int (iI 0)), (3, .int (iI 0)), (2, .int (iI (-1))), (0, .ref a), (1, .int (iI row))]) hx hb dX3_mostOftenIn_62 hl (by decide) rfl (fun ls hl => ?_)
              have L64 : ∀ (n : Nat) (k : Int), (m1 : 0 ≤ k) → (m2 : k ≤ 8) → (hms : 8 - k < (n : Int)) → ∀ (H : Heap) (locs : List Loc) (ls : Array Slot), lv_has ls 5 [(0, .ref a), (2, .int (iI ((mo (fun x => sumZ (fun y => bI (FD (row * 16 + y) = x)) 16) k).1))), (3, .int (iI ((mo (fun x => sumZ (fun y => bI (FD (row * 16 + y) = x)) 16) k).2))), (4, .int (iI k))] → zP g [(a, .inr (3, [.ref aw, .ref af, .ref ao])), zI g af 80 FD, zI g ao 8 (fun x => sumZ (fun y => bI (FD (row * 16 + y) = x)) 16)] H → va_D A [(a, .inr (3, [.ref aw, .ref af, .ref ao])), zI g af 80 FD, zI g ao 8 (fun x => sumZ (fun y => bI (FD (row * 16 + y) = x)) 16)] → va_S A s.heap H locs → W p l e ({ frames := 1, cells := 0, slots := 0, locals := 22 }) s m ([.ref a, .int (iI row)] : List Value).toArray below meth c H locs 0 0 Q (F0 m 64 ls []) := by
                clear hP hD hS hl
                intro n
                induction n with
                | zero =>
                  intro k m1 m2 hms H locs ls hl hP hD hS
                  exfalso; omega
                | succ n ih64 =>
                  intro k m1 m2 hms H locs ls hl hP hD hS
                  have hm1 := mo_rg (k := k) (by omega) m1 hmb
                  have hm2 := hmb k
                  have hm3 : 0 ≤ sumZ (fun y => bI (FD (row * 16 + y) = k)) 16 ∧ sumZ (fun y => bI (FD (row * 16 + y) = k)) 16 ≤ 16 := hmb k
                  refine lv_iload hx hb dX3_mostOftenIn_64 (lv_at hl 3 rfl) ?_
                  refine lv_bipush (v := iI 8) hx hb dX3_mostOftenIn_66 (by decide +kernel) ?_
                  refine z_icmp_ge (tgt := 99) hx hb dX3_mostOftenIn_68 (by decide) (by omega) (by omega) (fun c_3 => ?_) (fun c_3 => ?_)
                  · obtain rfl : k = 8 := by omega
                    refine lv_iload_n hx hb dX3_mostOftenIn_99 rfl (lv_at hl 1 rfl) ?_
                    exact z_retE hx hb hlk hr hQ dX3_mostOftenIn_100 hS (fun x => sumZ (fun y => bI (FD (row * 16 + y) = x)) 16) (rfl) (hP)
                  · refine lv_aload_n hx hb dX3_mostOftenIn_71 rfl (lv_at hl 0 rfl) ?_
                    refine z_get (v := .ref ao) (Cn := RX3) (T := TX3) (N := 3) (ci := 3) C in_X3_mostOftenIn_X3 hK hP 0 rfl rfl 2 (by decide) (List.mem_of_getElem? (i := 1) rfl) rfl dX3_mostOftenIn_72 ?_
                    refine lv_iload hx hb dX3_mostOftenIn_75 (lv_at hl 3 rfl) ?_
                    refine z_iald hx hb hK hP 2 rfl (by omega) (by omega) (Nat.le_of_ble_eq_true rfl) dX3_mostOftenIn_77 ?_
                    refine lv_iload_n hx hb dX3_mostOftenIn_78 rfl (lv_at hl 2 rfl) ?_
                    refine z_icmp_le (tgt := 93) hx hb dX3_mostOftenIn_79 (by decide) (by omega) (by omega) (fun hc => ?_) (fun hc => ?_)
                    · refine z_iinc (b := k + 1) (lv' := [(4, .int (iI (k + 1))), (0, .ref a), (2, .int (iI ((mo (fun x => sumZ (fun y => bI (FD (row * 16 + y) = x)) 16) k).1))), (3, .int (iI ((mo (fun x => sumZ (fun y => bI (FD (row * 16 + y) = x)) 16) k).2)))]) hx hb dX3_mostOftenIn_93 hl (k := 3) rfl (rfl) (by decide) rfl (fun ls hl => ?_)
                      refine lv_goto (tgt := 64) hx hb dX3_mostOftenIn_96 (by decide) ?_
                      have hl := lv_chg hl 2 (b := (mo (fun x => sumZ (fun y => bI (FD (row * 16 + y) = x)) 16) (k + 1)).1) rfl (by rw [mo_f m1 hc])
                      have hl : lv_has ls 5 [(4, .int (iI (k + 1))), (0, .ref a), (2, .int (iI ((mo (fun x => sumZ (fun y => bI (FD (row * 16 + y) = x)) 16) (k + 1)).1))), (3, .int (iI ((mo (fun x => sumZ (fun y => bI (FD (row * 16 + y) = x)) 16) k).2)))] := hl
                      have hl := lv_chg hl 3 (b := (mo (fun x => sumZ (fun y => bI (FD (row * 16 + y) = x)) 16) (k + 1)).2) rfl (by rw [mo_f m1 hc])
                      have hl : lv_has ls 5 [(4, .int (iI (k + 1))), (0, .ref a), (2, .int (iI ((mo (fun x => sumZ (fun y => bI (FD (row * 16 + y) = x)) 16) (k + 1)).1))), (3, .int (iI ((mo (fun x => sumZ (fun y => bI (FD (row * 16 + y) = x)) 16) (k + 1)).2)))] := hl
                      exact ih64 (k + 1) (by omega) (by omega) (by omega) H locs ls (lv_sub hl [1, 2, 3, 0] rfl) (hP) (hD) hS
                    · refine lv_aload_n hx hb dX3_mostOftenIn_82 rfl (lv_at hl 0 rfl) ?_
                      refine z_get (v := .ref ao) (Cn := RX3) (T := TX3) (N := 3) (ci := 3) C in_X3_mostOftenIn_X3 hK hP 0 rfl rfl 2 (by decide) (List.mem_of_getElem? (i := 1) rfl) rfl dX3_mostOftenIn_83 ?_
                      refine lv_iload hx hb dX3_mostOftenIn_86 (lv_at hl 3 rfl) ?_
                      refine z_iald hx hb hK hP 2 rfl (by omega) (by omega) (Nat.le_of_ble_eq_true rfl) dX3_mostOftenIn_88 ?_
                      refine lv_istore_n (lv' := [(3, .int (iI ((fun x => sumZ (fun y => bI (FD (row * 16 + y) = x)) 16) k))), (0, .ref a), (2, .int (iI ((mo (fun x => sumZ (fun y => bI (FD (row * 16 + y) = x)) 16) k).1))), (4, .int (iI k))]) hx hb dX3_mostOftenIn_89 rfl hl (by decide) rfl (fun ls hl => ?_)
                      refine lv_iload hx hb dX3_mostOftenIn_90 (lv_at hl 3 rfl) ?_
                      refine lv_istore_n (lv' := [(2, .int (iI k)), (3, .int (iI ((fun x => sumZ (fun y => bI (FD (row * 16 + y) = x)) 16) k))), (0, .ref a), (4, .int (iI k))]) hx hb dX3_mostOftenIn_92 rfl hl (by decide) rfl (fun ls hl => ?_)
                      refine z_iinc (b := k + 1) (lv' := [(4, .int (iI (k + 1))), (2, .int (iI k)), (3, .int (iI ((fun x => sumZ (fun y => bI (FD (row * 16 + y) = x)) 16) k))), (0, .ref a)]) hx hb dX3_mostOftenIn_93 hl (k := 3) rfl (rfl) (by decide) rfl (fun ls hl => ?_)
                      refine lv_goto (tgt := 64) hx hb dX3_mostOftenIn_96 (by decide) ?_
                      have hl := lv_chg hl 1 (b := (mo (fun x => sumZ (fun y => bI (FD (row * 16 + y) = x)) 16) (k + 1)).1) rfl (by rw [mo_t m1 hc])
                      have hl : lv_has ls 5 [(4, .int (iI (k + 1))), (2, .int (iI ((mo (fun x => sumZ (fun y => bI (FD (row * 16 + y) = x)) 16) (k + 1)).1))), (3, .int (iI ((fun x => sumZ (fun y => bI (FD (row * 16 + y) = x)) 16) k))), (0, .ref a)] := hl
                      have hl := lv_chg hl 2 (b := (mo (fun x => sumZ (fun y => bI (FD (row * 16 + y) = x)) 16) (k + 1)).2) rfl (by rw [mo_t m1 hc])
                      have hl : lv_has ls 5 [(4, .int (iI (k + 1))), (2, .int (iI ((mo (fun x => sumZ (fun y => bI (FD (row * 16 + y) = x)) 16) (k + 1)).1))), (3, .int (iI ((mo (fun x => sumZ (fun y => bI (FD (row * 16 + y) = x)) 16) (k + 1)).2))), (0, .ref a)] := hl
                      exact ih64 (k + 1) (by omega) (by omega) (by omega) H locs ls (lv_sub hl [3, 1, 2, 0] rfl) (hP) (hD) hS
              have hl := lv_chg hl 2 (b := (mo (fun x => sumZ (fun y => bI (FD (row * 16 + y) = x)) 16) 0).1) rfl (by rw [mo_0])
              have hl : lv_has ls 5 [(4, .int (iI 0)), (3, .int (iI 0)), (2, .int (iI ((mo (fun x => sumZ (fun y => bI (FD (row * 16 + y) = x)) 16) 0).1))), (0, .ref a), (1, .int (iI row))] := hl
              have hl := lv_chg hl 1 (b := (mo (fun x => sumZ (fun y => bI (FD (row * 16 + y) = x)) 16) 0).2) rfl (by rw [mo_0])
              have hl : lv_has ls 5 [(4, .int (iI 0)), (3, .int (iI ((mo (fun x => sumZ (fun y => bI (FD (row * 16 + y) = x)) 16) 0).2))), (2, .int (iI ((mo (fun x => sumZ (fun y => bI (FD (row * 16 + y) = x)) 16) 0).1))), (0, .ref a), (1, .int (iI row))] := hl
              exact L64 (9) 0 (by omega) (by omega) (by omega) H locs ls (lv_sub hl [3, 2, 1, 0] rfl) (hP) (hD) hS
            · refine lv_aload_n hx hb dX3_mostOftenIn_29 rfl (lv_at hl 0 rfl) ?_
              refine lv_iload_n hx hb dX3_mostOftenIn_30 rfl (lv_at hl 1 rfl) ?_
              refine lv_iload_n hx hb dX3_mostOftenIn_31 rfl (lv_at hl 2 rfl) ?_
              refine z_cS (As := [.int (iI row), .int (iI w)]) (rest := []) C (m_X3_peakOf (l := l) (g := g) (a := a) (aw := aw) (af := af) (ao := ao) (FD := FD) (row := row) (w := w) (h1 := by omega) (h2 := by omega)) (cwV 2 C.2.2.2.2 gX3_mostOftenIn_X3_peakOf rfl rfl rfl (by decide +kernel) ⟨Nat.le_of_ble_eq_true rfl, Nat.le_of_ble_eq_true rfl⟩) hK hP [0, 1] rfl 0 rfl rfl rfl hl.1 rfl (Nat.le_of_ble_eq_true rfl) dX3_mostOftenIn_32 ⟨Nat.zero_le _, Nat.zero_le _⟩ ?_
              refine lv_istore_n (lv' := [(3, .int (iI (FD (row * 16 + w)))), (0, .ref a), (1, .int (iI row)), (2, .int (iI w))]) hx hb dX3_mostOftenIn_35 rfl hl (by decide) rfl (fun ls hl => ?_)
              have hf1 := hF (row * 16 + w)
              refine lv_iload_n hx hb dX3_mostOftenIn_36 rfl (lv_at hl 0 rfl) ?_
              refine lv_iconst (v := iI (-1)) hx hb dX3_mostOftenIn_37 rfl ?_
              refine z_icmp_eq (tgt := 51) hx hb dX3_mostOftenIn_38 (by decide) (by omega) (by omega) (fun c_4 => ?_) (fun c_4 => ?_)
              · refine z_iinc (b := w + 1) (lv' := [(2, .int (iI (w + 1))), (3, .int (iI (FD (row * 16 + w)))), (0, .ref a), (1, .int (iI row))]) hx hb dX3_mostOftenIn_51 hl (k := 3) rfl (rfl) (by decide) rfl (fun ls hl => ?_)
                refine lv_goto (tgt := 23) hx hb dX3_mostOftenIn_54 (by decide) ?_
                exact ih23 (w + 1) OF (by omega) (by omega) (fun j g1 g2 => by rw [sumZ_s _ i1, bI_f (by omega), i3 j g1 g2]; omega) (by omega) H locs ls (lv_sub hl [2, 3, 0] rfl) (hP) (hD) hS
              · refine lv_aload_n hx hb dX3_mostOftenIn_41 rfl (lv_at hl 1 rfl) ?_
                refine z_get (v := .ref ao) (Cn := RX3) (T := TX3) (N := 3) (ci := 3) C in_X3_mostOftenIn_X3 hK hP 0 rfl rfl 2 (by decide) (List.mem_of_getElem? (i := 1) rfl) rfl dX3_mostOftenIn_42 ?_
                refine lv_iload_n hx hb dX3_mostOftenIn_45 rfl (lv_at hl 0 rfl) ?_
                refine lv_dup2_11 hx hb dX3_mostOftenIn_46 rfl rfl ?_
                refine z_iald hx hb hK hP 2 rfl (by omega) (by omega) (Nat.le_of_ble_eq_true rfl) dX3_mostOftenIn_47 ?_
                refine lv_iconst (v := iI 1) hx hb dX3_mostOftenIn_48 rfl ?_
                refine z_iadd hx hb dX3_mostOftenIn_49 ?_
                refine z_iast hx hb hK hP hD hS 2 rfl (by omega) (by omega) (Nat.le_of_ble_eq_true rfl) dX3_mostOftenIn_50 (fun H locs hP hD hS => ?_)
                have hP : zP g [(a, .inr (3, [.ref aw, .ref af, .ref ao])), zI g af 80 FD, zI g ao 8 (ups OF (FD (row * 16 + w)) ((OF (FD (row * 16 + w))) + 1))] H := hP
                have hD : va_D A [(a, .inr (3, [.ref aw, .ref af, .ref ao])), zI g af 80 FD, zI g ao 8 (ups OF (FD (row * 16 + w)) ((OF (FD (row * 16 + w))) + 1))] := hD
                refine z_iinc (b := w + 1) (lv' := [(2, .int (iI (w + 1))), (3, .int (iI (FD (row * 16 + w)))), (0, .ref a), (1, .int (iI row))]) hx hb dX3_mostOftenIn_51 hl (k := 3) rfl (rfl) (by decide) rfl (fun ls hl => ?_)
                refine lv_goto (tgt := 23) hx hb dX3_mostOftenIn_54 (by decide) ?_
                exact ih23 (w + 1) (ups OF (FD (row * 16 + w)) ((OF (FD (row * 16 + w))) + 1)) (by omega) (by omega) (fun j g1 g2 => by by_cases hj : j = FD (row * 16 + w); (· rw [hj, ups_s, sumZ_s _ i1, bI_t rfl, i3 _ (by omega) (by omega)]); (· rw [ups_n _ _ hj, sumZ_s _ i1, bI_f (fun z => hj z.symm), i3 j g1 g2]; omega)) (by omega) H locs ls (lv_sub hl [2, 3, 0] rfl) (hP) (hD) hS
        exact L23 (17) 0 OF (by omega) (by omega) (fun j g1 g2 => by rw [i3 j g1 (by omega), sumZ_0]) (by omega) H locs ls (lv_sub hl [1, 2, 0] rfl) (hP) (hD) hS
      · refine lv_aload_n hx hb dX3_mostOftenIn_8 rfl (lv_at hl 0 rfl) ?_
        refine z_get (v := .ref ao) (Cn := RX3) (T := TX3) (N := 3) (ci := 3) C in_X3_mostOftenIn_X3 hK hP 0 rfl rfl 2 (by decide) (List.mem_of_getElem? (i := 1) rfl) rfl dX3_mostOftenIn_9 ?_
        refine lv_iload_n hx hb dX3_mostOftenIn_12 rfl (lv_at hl 2 rfl) ?_
        refine lv_iconst (v := iI 0) hx hb dX3_mostOftenIn_13 rfl ?_
        refine z_iast hx hb hK hP hD hS 2 rfl (by omega) (by omega) (Nat.le_of_ble_eq_true rfl) dX3_mostOftenIn_14 (fun H locs hP hD hS => ?_)
        have hP : zP g [(a, .inr (3, [.ref aw, .ref af, .ref ao])), zI g af 80 FD, zI g ao 8 (ups OF k 0)] H := hP
        have hD : va_D A [(a, .inr (3, [.ref aw, .ref af, .ref ao])), zI g af 80 FD, zI g ao 8 (ups OF k 0)] := hD
        refine z_iinc (b := k + 1) (lv' := [(2, .int (iI (k + 1))), (0, .ref a), (1, .int (iI row))]) hx hb dX3_mostOftenIn_15 hl (k := 2) rfl (rfl) (by decide) rfl (fun ls hl => ?_)
        refine lv_goto (tgt := 2) hx hb dX3_mostOftenIn_18 (by decide) ?_
        exact ih2 (k + 1) (ups OF k 0) (by omega) (by omega) (fun j g1 g2 => by by_cases hj : j = k; (· rw [hj, ups_s]); (· rw [ups_n _ _ hj]; exact i3 j g1 (by omega))) (by omega) H locs ls (lv_sub hl [1, 2, 0] rfl) (hP) (hD) hS
  exact L2 (9) 0 OF (by omega) (by omega) (fun j g1 g2 => by omega) (by omega) H locs ls (lv_sub hl [1, 2, 0] rfl) (hP) (hD) hS
