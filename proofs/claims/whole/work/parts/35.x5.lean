set_option maxRecDepth 20000 in
theorem in_m_X5_hear_X5 : ∀ w ∈ u_ws RX5 TX5 7, w ∈ wsX5_hear := zmem_of _ [73, 74, 75, 76, 77, 78, 79] (by decide +kernel)
set_option maxHeartbeats 4000000 in
set_option maxRecDepth 100000 in
theorem m_X5_hear (l : Launch) (g : zG) (o h b im a d bb : Nat) (fr : Int) (hn hs : Nat) (N : Int → Int) (bn br bs bf be : Nat) (nx dp : Int) (NB RR RS RF RE : Int → Int) (pi_ f_ n_ : Int) (p1 : 0 ≤ nx) (p2 : nx < 8) (p3 : 0 ≤ dp) (p4 : dp ≤ 8) (zN : okN N) (a1 : (0 ≤ pi_ ∧ pi_ ≤ 3) ∧ (0 ≤ f_ ∧ f_ ≤ 127) ∧ (1 ≤ n_ ∧ n_ ≤ 128) ∧ f_ < N (2 + pi_)) : zE l yX5_hear wsX5_hear ({ frames := 4, cells := 0, slots := 0, locals := 126 }) g [.ref o, .int (iI pi_), .int (iI f_), .int (iI n_)] [(o, .inr (5, [.ref h, .ref b, .ref im, .ref a, .ref d, .ref bb, .int (iI fr)])), (h, .inr (4, [.ref hn, .ref hs, .int (iI (N 0)), .int (iI (N 1))])), zI g hn 640 (fun x => N (7 + x)), zI g hs 5 (fun x => N (2 + x)), (b, .inr (2, [.ref bn, .ref br, .ref bs, .ref bf, .ref be, .int (iI nx), .int (iI dp)])), zI g bn 1024 NB, zI g br 8 RR, zI g bs 8 RS, zI g bf 8 RF, zI g be 8 RE] (S := Unit) (fun r _ => r = min n_ (N (2 + pi_) - f_)) (fun _ => [(o, .inr (5, [.ref h, .ref b, .ref im, .ref a, .ref d, .ref bb, .int (iI 0)])), (h, .inr (4, [.ref hn, .ref hs, .int (iI ((sp_hear N pi_ f_ (min n_ (N (2 + pi_) - f_))) 0)), .int (iI ((sp_hear N pi_ f_ (min n_ (N (2 + pi_) - f_))) 1))])), zI g hn 640 (fun x => (sp_hear N pi_ f_ (min n_ (N (2 + pi_) - f_))) (7 + x)), zI g hs 5 (fun x => (sp_hear N pi_ f_ (min n_ (N (2 + pi_) - f_))) (2 + x)), (b, .inr (2, [.ref bn, .ref br, .ref bs, .ref bf, .ref be, .int (iI ((nx + 1) % 8)), .int (iI (min (dp + 1) 8))])), zI g bn 1024 (rmN NB (fun x => N (7 + x)) nx 4), zI g br 8 (ups RR nx 4), zI g bs 8 (ups RS nx (N (2 + 4))), zI g bf 8 (ups RF nx (N 0)), zI g be 8 (ups RE nx (N 1))]) := by
  refine z_entE (cc := cX5_hear) (nL := 7) (ret := (some .int)) (own := RX5) (by decide) rfl rfl (Nat.le_of_ble_eq_true rfl) ?_
  intro p e s m below meth c Q ls A C hlk hr hQ hP hK hD hA hS hl
  have hx := C.1
  have hb := C.2.1
  have hl : lv_has ls 7 [(0, .ref o), (1, .int (iI pi_)), (2, .int (iI f_)), (3, .int (iI n_))] := hl
  obtain ⟨H, hHe⟩ : ∃ H, H = s.heap := ⟨_, rfl⟩
  obtain ⟨locs, hLe⟩ : ∃ q : List Loc, q = [] := ⟨_, rfl⟩
  have hP : zP g [(o, .inr (5, [.ref h, .ref b, .ref im, .ref a, .ref d, .ref bb, .int (iI fr)])), (h, .inr (4, [.ref hn, .ref hs, .int (iI (N 0)), .int (iI (N 1))])), zI g hn 640 (fun x => N (7 + x)), zI g hs 5 (fun x => N (2 + x)), (b, .inr (2, [.ref bn, .ref br, .ref bs, .ref bf, .ref be, .int (iI nx), .int (iI dp)])), zI g bn 1024 NB, zI g br 8 RR, zI g bs 8 RS, zI g bf 8 RF, zI g be 8 RE] H := by rw [hHe]; exact hP
  have hS : va_S A s.heap H locs := by rw [hHe, hLe]; exact hS
  suffices hgo : W p l e ({ frames := 4, cells := 0, slots := 0, locals := 126 }) s m ([.ref o, .int (iI pi_), .int (iI f_), .int (iI n_)] : List Value).toArray below meth c H locs 0 0 Q (F0 m 0 ls []) by rw [hHe, hLe] at hgo; exact hgo
  clear hHe hLe
  refine lv_iload_n hx hb dX5_hear_0 rfl (lv_at hl 1 rfl) ?_
  refine z_cSS (As := [.int (iI pi_)]) (rest := []) C (m_X5_isPiece (l := l) (g := g) (v := pi_) (g_v := by omega)) (cwS 1 C.2.2.2.2 gX5_hear_X5_isPiece rfl rfl rfl (by decide +kernel) ⟨Nat.le_of_ble_eq_true rfl, Nat.le_of_ble_eq_true rfl⟩) hK hP [] rfl rfl hl.1 rfl (Nat.le_of_ble_eq_true rfl) dX5_hear_1 ⟨Nat.zero_le _, Nat.zero_le _⟩ ?_
  refine z_ifb_ne (tgt := 10) hx hb dX5_hear_4 (by decide) (fun c_1 => ?_) (fun c_1 => ?_)
  · refine lv_iload_n hx hb dX5_hear_10 rfl (lv_at hl 2 rfl) ?_
    refine lv_iconst (v := iI 0) hx hb dX5_hear_11 rfl ?_
    refine lv_bipush (v := iI 127) hx hb dX5_hear_12 (by decide +kernel) ?_
    refine z_cSS (As := [.int (iI f_), .int (iI 0), .int (iI 127)]) (rest := []) C (m_X5_isWithin (l := l) (g := g) (v := f_) (lo := 0) (hi := 127) (g_v := by omega) (g_lo := by omega) (g_hi := by omega)) (cwS 3 C.2.2.2.2 gX5_hear_X5_isWithin rfl rfl rfl (by decide +kernel) ⟨Nat.le_of_ble_eq_true rfl, Nat.le_of_ble_eq_true rfl⟩) hK hP [] rfl rfl hl.1 rfl (Nat.le_of_ble_eq_true rfl) dX5_hear_14 ⟨Nat.zero_le _, Nat.zero_le _⟩ ?_
    refine z_ifb_eq (tgt := 31) hx hb dX5_hear_17 (by decide) (fun c_2 => ?_) (fun c_2 => ?_)
    · exfalso; omega
    · refine lv_iload_n hx hb dX5_hear_20 rfl (lv_at hl 3 rfl) ?_
      refine lv_iconst (v := iI 1) hx hb dX5_hear_21 rfl ?_
      refine lv_sipush (v := iI 128) hx hb dX5_hear_22 (by decide +kernel) ?_
      refine z_cSS (As := [.int (iI n_), .int (iI 1), .int (iI 128)]) (rest := []) C (m_X5_isWithin (l := l) (g := g) (v := n_) (lo := 1) (hi := 128) (g_v := by omega) (g_lo := by omega) (g_hi := by omega)) (cwS 3 C.2.2.2.2 gX5_hear_X5_isWithin rfl rfl rfl (by decide +kernel) ⟨Nat.le_of_ble_eq_true rfl, Nat.le_of_ble_eq_true rfl⟩) hK hP [] rfl rfl hl.1 rfl (Nat.le_of_ble_eq_true rfl) dX5_hear_25 ⟨Nat.zero_le _, Nat.zero_le _⟩ ?_
      refine z_ifb_ne (tgt := 34) hx hb dX5_hear_28 (by decide) (fun c_3 => ?_) (fun c_3 => ?_)
      · have hz1 := zN.2.2.1 pi_ (by omega) (by omega)
        refine lv_aload_n hx hb dX5_hear_34 rfl (lv_at hl 0 rfl) ?_
        refine z_get (v := .ref h) (Cn := RX5) (T := TX5) (N := 7) (ci := 5) C in_m_X5_hear_X5 hK hP 0 rfl rfl 0 (by decide) (List.mem_of_getElem? (i := 3) rfl) rfl dX5_hear_35 ?_
        refine lv_iload_n hx hb dX5_hear_38 rfl (lv_at hl 1 rfl) ?_
        refine z_cS (As := [.int (iI pi_)]) (rest := []) C (m_X4_sizeOf (l := l) (g := g) (h := h) (hn := hn) (hs := hs) (fl := N 0) (re := N 1) (SZ := fun x => N (2 + x)) (row := pi_) (h1 := by omega) (h2 := by omega)) (cwV 1 C.2.2.2.2 gX5_hear_X4_sizeOf rfl rfl rfl (by decide +kernel) ⟨Nat.le_of_ble_eq_true rfl, Nat.le_of_ble_eq_true rfl⟩) hK hP [1, 3] rfl 1 rfl rfl rfl hl.1 rfl (Nat.le_of_ble_eq_true rfl) dX5_hear_39 ⟨Nat.zero_le _, Nat.zero_le _⟩ ?_
        refine z_top (b := N (2 + pi_)) (rfl) ?_
        refine lv_istore (lv' := [(4, .int (iI (N (2 + pi_)))), (0, .ref o), (1, .int (iI pi_)), (2, .int (iI f_)), (3, .int (iI n_))]) hx hb dX5_hear_42 hl (by decide) rfl (fun ls hl => ?_)
        refine lv_iload_n hx hb dX5_hear_44 rfl (lv_at hl 3 rfl) ?_
        refine lv_iload hx hb dX5_hear_45 (lv_at hl 0 rfl) ?_
        refine z_icmp_lt (tgt := 53) hx hb dX5_hear_47 (by decide) (by omega) (by omega) (fun c_4 => ?_) (fun c_4 => ?_)
        · refine lv_aload_n hx hb dX5_hear_53 rfl (lv_at hl 1 rfl) ?_
          refine lv_iconst (v := iI 4) hx hb dX5_hear_54 rfl ?_
          refine z_cV (As := [.int (iI 4)]) (rest := []) C (m_X5_beforeChange (l := l) (g := g) (o := o) (h := h) (b := b) (im := im) (a := a) (d := d) (bb := bb) (fr := fr) (hn := hn) (hs := hs) (NU := fun x => N (7 + x)) (SZ := fun x => N (2 + x)) (fl := N 0) (re := N 1) (bn := bn) (br := br) (bs := bs) (bf := bf) (be := be) (nx := nx) (dp := dp) (NB := NB) (RR := RR) (RS := RS) (RF := RF) (RE := RE) (row := 4) (h1 := by omega) (h2 := by omega) (p1 := by omega) (p2 := by omega) (p3 := by omega) (p4 := by omega)) (cwV 1 C.2.2.2.2 gX5_hear_X5_beforeChange rfl rfl rfl (by decide +kernel) ⟨Nat.le_of_ble_eq_true rfl, Nat.le_of_ble_eq_true rfl⟩) hK hP hD hS hA [0, 1, 2, 3, 4, 5, 6, 7, 8, 9] (by decide) rfl (fun _ => rfl) 0 rfl rfl rfl hl.1 rfl (Nat.le_of_ble_eq_true rfl) dX5_hear_55 ⟨Nat.zero_le _, Nat.zero_le _⟩ (fun u_5 H locs hq_6 hP hD hS => ?_)
          have hP : zP g [(o, .inr (5, [.ref h, .ref b, .ref im, .ref a, .ref d, .ref bb, .int (iI 0)])), (h, .inr (4, [.ref hn, .ref hs, .int (iI (N 0)), .int (iI (N 1))])), zI g hn 640 (fun x => N (7 + x)), zI g hs 5 (fun x => N (2 + x)), (b, .inr (2, [.ref bn, .ref br, .ref bs, .ref bf, .ref be, .int (iI ((nx + 1) % 8)), .int (iI (min (dp + 1) 8))])), zI g bn 1024 (rmN NB (fun x => N (7 + x)) nx 4), zI g br 8 (ups RR nx 4), zI g bs 8 (ups RS nx ((fun x => N (2 + x)) 4)), zI g bf 8 (ups RF nx (N 0)), zI g be 8 (ups RE nx (N 1))] H := hP
          have hD : va_D A [(o, .inr (5, [.ref h, .ref b, .ref im, .ref a, .ref d, .ref bb, .int (iI 0)])), (h, .inr (4, [.ref hn, .ref hs, .int (iI (N 0)), .int (iI (N 1))])), zI g hn 640 (fun x => N (7 + x)), zI g hs 5 (fun x => N (2 + x)), (b, .inr (2, [.ref bn, .ref br, .ref bs, .ref bf, .ref be, .int (iI ((nx + 1) % 8)), .int (iI (min (dp + 1) 8))])), zI g bn 1024 (rmN NB (fun x => N (7 + x)) nx 4), zI g br 8 (ups RR nx 4), zI g bs 8 (ups RS nx ((fun x => N (2 + x)) 4)), zI g bf 8 (ups RF nx (N 0)), zI g be 8 (ups RE nx (N 1))] := hD
          refine lv_iload hx hb dX5_hear_58 (lv_at hl 0 rfl) ?_
          refine lv_iload_n hx hb dX5_hear_60 rfl (lv_at hl 3 rfl) ?_
          refine lv_iload_n hx hb dX5_hear_61 rfl (lv_at hl 4 rfl) ?_
          refine z_iadd hx hb dX5_hear_62 ?_
          refine z_mmin C hl.1 (List.mem_of_getElem? (i := 5) rfl) (List.mem_of_getElem? (i := 6) rfl) (List.mem_of_getElem? (i := 7) rfl) (List.mem_of_getElem? (i := 8) rfl) (Nat.le_of_ble_eq_true rfl) (Nat.le_of_ble_eq_true rfl) (Nat.zero_le _) (Nat.zero_le _) dX5_hear_63 ?_
          refine z_top (b := f_ + min n_ (N (2 + pi_) - f_)) (by rw [zr_of (by omega) (by omega), zr_of (by omega) (by omega)]; split <;> omega) ?_
          refine lv_istore (lv' := [(5, .int (iI (f_ + min n_ (N (2 + pi_) - f_)))), (4, .int (iI (N (2 + pi_)))), (0, .ref o), (1, .int (iI pi_)), (2, .int (iI f_)), (3, .int (iI n_))]) hx hb dX5_hear_66 hl (by decide) rfl (fun ls hl => ?_)
          refine lv_aload_n hx hb dX5_hear_68 rfl (lv_at hl 2 rfl) ?_
          refine z_get (v := .ref h) (Cn := RX5) (T := TX5) (N := 7) (ci := 5) C in_m_X5_hear_X5 hK hP 0 rfl rfl 0 (by decide) (List.mem_of_getElem? (i := 3) rfl) rfl dX5_hear_69 ?_
          refine lv_iconst (v := iI 4) hx hb dX5_hear_72 rfl ?_
          refine z_cV (As := [.int (iI 4)]) (rest := []) C (m_X4_empty (l := l) (g := g) (h := h) (hn := hn) (hs := hs) (fl := (N 0)) (re := (N 1)) (SZ := (fun x => N (2 + x))) (row := 4) (h1 := by omega) (h2 := by omega)) (cwV 1 C.2.2.2.2 gX5_hear_X4_empty rfl rfl rfl (by decide +kernel) ⟨Nat.le_of_ble_eq_true rfl, Nat.le_of_ble_eq_true rfl⟩) hK hP hD hS hA [1, 3] (by decide) rfl (fun _ => rfl) 1 rfl rfl rfl hl.1 rfl (Nat.le_of_ble_eq_true rfl) dX5_hear_73 ⟨Nat.zero_le _, Nat.zero_le _⟩ (fun u_7 H locs hq_8 hP hD hS => ?_)
          have hP : zP g [(o, .inr (5, [.ref h, .ref b, .ref im, .ref a, .ref d, .ref bb, .int (iI 0)])), (h, .inr (4, [.ref hn, .ref hs, .int (iI (N 0)), .int (iI (N 1))])), zI g hn 640 (fun x => N (7 + x)), zI g hs 5 (ups (fun x => N (2 + x)) 4 0), (b, .inr (2, [.ref bn, .ref br, .ref bs, .ref bf, .ref be, .int (iI ((nx + 1) % 8)), .int (iI (min (dp + 1) 8))])), zI g bn 1024 (rmN NB (fun x => N (7 + x)) nx 4), zI g br 8 (ups RR nx 4), zI g bs 8 (ups RS nx ((fun x => N (2 + x)) 4)), zI g bf 8 (ups RF nx (N 0)), zI g be 8 (ups RE nx (N 1))] H := hP
          have hD : va_D A [(o, .inr (5, [.ref h, .ref b, .ref im, .ref a, .ref d, .ref bb, .int (iI 0)])), (h, .inr (4, [.ref hn, .ref hs, .int (iI (N 0)), .int (iI (N 1))])), zI g hn 640 (fun x => N (7 + x)), zI g hs 5 (ups (fun x => N (2 + x)) 4 0), (b, .inr (2, [.ref bn, .ref br, .ref bs, .ref bf, .ref be, .int (iI ((nx + 1) % 8)), .int (iI (min (dp + 1) 8))])), zI g bn 1024 (rmN NB (fun x => N (7 + x)) nx 4), zI g br 8 (ups RR nx 4), zI g bs 8 (ups RS nx ((fun x => N (2 + x)) 4)), zI g bf 8 (ups RF nx (N 0)), zI g be 8 (ups RE nx (N 1))] := hD
          refine lv_iload_n hx hb dX5_hear_76 rfl (lv_at hl 4 rfl) ?_
          refine lv_istore (lv' := [(6, .int (iI f_)), (5, .int (iI (f_ + min n_ (N (2 + pi_) - f_)))), (4, .int (iI (N (2 + pi_)))), (0, .ref o), (1, .int (iI pi_)), (2, .int (iI f_)), (3, .int (iI n_))]) hx hb dX5_hear_77 hl (by decide) rfl (fun ls hl => ?_)
          have L79 : ∀ (n : Nat) (k : Int) (NV : Int → Int) (SV : Int → Int), (i1 : f_ ≤ k) → (i2 : k ≤ f_ + min n_ (N (2 + pi_) - f_)) → (i3 : ∀ j, 0 ≤ j → j < 640 → NV j = if 512 ≤ j ∧ j < 512 + (k - f_) then N (7 + 128 * pi_ + (f_ + (j - 512))) else N (7 + j)) → (i4 : ∀ j, 0 ≤ j → j < 5 → SV j = if j = 4 then k - f_ else N (2 + j)) → (hms : f_ + min n_ (N (2 + pi_) - f_) - k < (n : Int)) → ∀ (H : Heap) (locs : List Loc) (ls : Array Slot), lv_has ls 7 [(0, .ref o), (1, .int (iI pi_)), (5, .int (iI (f_ + min n_ (N (2 + pi_) - f_)))), (6, .int (iI k))] → zP g [(o, .inr (5, [.ref h, .ref b, .ref im, .ref a, .ref d, .ref bb, .int (iI 0)])), (h, .inr (4, [.ref hn, .ref hs, .int (iI (N 0)), .int (iI (N 1))])), zI g hn 640 NV, zI g hs 5 SV, (b, .inr (2, [.ref bn, .ref br, .ref bs, .ref bf, .ref be, .int (iI ((nx + 1) % 8)), .int (iI (min (dp + 1) 8))])), zI g bn 1024 (rmN NB (fun x => N (7 + x)) nx 4), zI g br 8 (ups RR nx 4), zI g bs 8 (ups RS nx (N (2 + 4))), zI g bf 8 (ups RF nx (N 0)), zI g be 8 (ups RE nx (N 1))] H → va_D A [(o, .inr (5, [.ref h, .ref b, .ref im, .ref a, .ref d, .ref bb, .int (iI 0)])), (h, .inr (4, [.ref hn, .ref hs, .int (iI (N 0)), .int (iI (N 1))])), zI g hn 640 NV, zI g hs 5 SV, (b, .inr (2, [.ref bn, .ref br, .ref bs, .ref bf, .ref be, .int (iI ((nx + 1) % 8)), .int (iI (min (dp + 1) 8))])), zI g bn 1024 (rmN NB (fun x => N (7 + x)) nx 4), zI g br 8 (ups RR nx 4), zI g bs 8 (ups RS nx (N (2 + 4))), zI g bf 8 (ups RF nx (N 0)), zI g be 8 (ups RE nx (N 1))] → va_S A s.heap H locs → W p l e ({ frames := 4, cells := 0, slots := 0, locals := 126 }) s m ([.ref o, .int (iI pi_), .int (iI f_), .int (iI n_)] : List Value).toArray below meth c H locs 0 0 Q (F0 m 79 ls []) := by
            clear hP hD hS hl
            intro n
            induction n with
            | zero =>
              intro k NV SV i1 i2 i3 i4 hms H locs ls hl hP hD hS
              exfalso; omega
            | succ n ih79 =>
              intro k NV SV i1 i2 i3 i4 hms H locs ls hl hP hD hS
              have esv : SV 4 = k - f_ := by rw [i4 4 (by omega) (by omega), if_pos rfl]
              refine lv_iload hx hb dX5_hear_79 (lv_at hl 3 rfl) ?_
              refine lv_iload hx hb dX5_hear_81 (lv_at hl 2 rfl) ?_
              refine z_icmp_ge (tgt := 110) hx hb dX5_hear_83 (by decide) (by omega) (by omega) (fun c_9 => ?_) (fun c_9 => ?_)
              · refine lv_aload_n hx hb dX5_hear_110 rfl (lv_at hl 0 rfl) ?_
                refine z_get (v := .ref h) (Cn := RX5) (T := TX5) (N := 7) (ci := 5) C in_m_X5_hear_X5 hK hP 0 rfl rfl 0 (by decide) (List.mem_of_getElem? (i := 3) rfl) rfl dX5_hear_111 ?_
                refine lv_iconst (v := iI 4) hx hb dX5_hear_114 rfl ?_
                refine z_cS (As := [.int (iI 4)]) (rest := []) C (m_X4_sizeOf (l := l) (g := g) (h := h) (hn := hn) (hs := hs) (fl := N 0) (re := N 1) (SZ := SV) (row := 4) (h1 := by omega) (h2 := by omega)) (cwV 1 C.2.2.2.2 gX5_hear_X4_sizeOf rfl rfl rfl (by decide +kernel) ⟨Nat.le_of_ble_eq_true rfl, Nat.le_of_ble_eq_true rfl⟩) hK hP [1, 3] rfl 1 rfl rfl rfl hl.1 rfl (Nat.le_of_ble_eq_true rfl) dX5_hear_115 ⟨Nat.zero_le _, Nat.zero_le _⟩ ?_
                have hP := zP_arr hP 2 (fun x => (sp_hear N pi_ f_ (min n_ (N (2 + pi_) - f_))) (7 + x)) rfl (fun j g1 g2 => by rw [i3 j g1 g2, show k = f_ + min n_ (N (2 + pi_) - f_) by omega]; simp only [sp_hear]; rw [if_neg (show ¬ 7 + j = 6 by omega)]; (repeat' split) <;> first | rfl | omega | (congr 1; omega))
                have hD := zD_set (c1 := (zI g hn 640 (fun x => (sp_hear N pi_ f_ (min n_ (N (2 + pi_) - f_))) (7 + x))).2) hD 2 rfl
                have hP : zP g [(o, .inr (5, [.ref h, .ref b, .ref im, .ref a, .ref d, .ref bb, .int (iI 0)])), (h, .inr (4, [.ref hn, .ref hs, .int (iI (N 0)), .int (iI (N 1))])), zI g hn 640 (fun x => (sp_hear N pi_ f_ (min n_ (N (2 + pi_) - f_))) (7 + x)), zI g hs 5 SV, (b, .inr (2, [.ref bn, .ref br, .ref bs, .ref bf, .ref be, .int (iI ((nx + 1) % 8)), .int (iI (min (dp + 1) 8))])), zI g bn 1024 (rmN NB (fun x => N (7 + x)) nx 4), zI g br 8 (ups RR nx 4), zI g bs 8 (ups RS nx (N (2 + 4))), zI g bf 8 (ups RF nx (N 0)), zI g be 8 (ups RE nx (N 1))] H := hP
                have hD : va_D A [(o, .inr (5, [.ref h, .ref b, .ref im, .ref a, .ref d, .ref bb, .int (iI 0)])), (h, .inr (4, [.ref hn, .ref hs, .int (iI (N 0)), .int (iI (N 1))])), zI g hn 640 (fun x => (sp_hear N pi_ f_ (min n_ (N (2 + pi_) - f_))) (7 + x)), zI g hs 5 SV, (b, .inr (2, [.ref bn, .ref br, .ref bs, .ref bf, .ref be, .int (iI ((nx + 1) % 8)), .int (iI (min (dp + 1) 8))])), zI g bn 1024 (rmN NB (fun x => N (7 + x)) nx 4), zI g br 8 (ups RR nx 4), zI g bs 8 (ups RS nx (N (2 + 4))), zI g bf 8 (ups RF nx (N 0)), zI g be 8 (ups RE nx (N 1))] := hD
                have hP := zP_arr hP 3 (fun x => (sp_hear N pi_ f_ (min n_ (N (2 + pi_) - f_))) (2 + x)) rfl (fun j g1 g2 => by rw [i4 j g1 g2]; simp only [sp_hear]; (repeat' split) <;> first | rfl | omega)
                have hD := zD_set (c1 := (zI g hs 5 (fun x => (sp_hear N pi_ f_ (min n_ (N (2 + pi_) - f_))) (2 + x))).2) hD 3 rfl
                have hP : zP g [(o, .inr (5, [.ref h, .ref b, .ref im, .ref a, .ref d, .ref bb, .int (iI 0)])), (h, .inr (4, [.ref hn, .ref hs, .int (iI (N 0)), .int (iI (N 1))])), zI g hn 640 (fun x => (sp_hear N pi_ f_ (min n_ (N (2 + pi_) - f_))) (7 + x)), zI g hs 5 (fun x => (sp_hear N pi_ f_ (min n_ (N (2 + pi_) - f_))) (2 + x)), (b, .inr (2, [.ref bn, .ref br, .ref bs, .ref bf, .ref be, .int (iI ((nx + 1) % 8)), .int (iI (min (dp + 1) 8))])), zI g bn 1024 (rmN NB (fun x => N (7 + x)) nx 4), zI g br 8 (ups RR nx 4), zI g bs 8 (ups RS nx (N (2 + 4))), zI g bf 8 (ups RF nx (N 0)), zI g be 8 (ups RE nx (N 1))] H := hP
                have hD : va_D A [(o, .inr (5, [.ref h, .ref b, .ref im, .ref a, .ref d, .ref bb, .int (iI 0)])), (h, .inr (4, [.ref hn, .ref hs, .int (iI (N 0)), .int (iI (N 1))])), zI g hn 640 (fun x => (sp_hear N pi_ f_ (min n_ (N (2 + pi_) - f_))) (7 + x)), zI g hs 5 (fun x => (sp_hear N pi_ f_ (min n_ (N (2 + pi_) - f_))) (2 + x)), (b, .inr (2, [.ref bn, .ref br, .ref bs, .ref bf, .ref be, .int (iI ((nx + 1) % 8)), .int (iI (min (dp + 1) 8))])), zI g bn 1024 (rmN NB (fun x => N (7 + x)) nx 4), zI g br 8 (ups RR nx 4), zI g bs 8 (ups RS nx (N (2 + 4))), zI g bf 8 (ups RF nx (N 0)), zI g be 8 (ups RE nx (N 1))] := hD
                have hP := zP_fld hP 1 rfl 2 ((sp_hear N pi_ f_ (min n_ (N (2 + pi_) - f_))) 0) rfl (by simp only [sp_hear]; (repeat' split) <;> first | rfl | omega)
                have hD := zD_set (c1 := ((h, .inr (4, [.ref hn, .ref hs, .int (iI ((sp_hear N pi_ f_ (min n_ (N (2 + pi_) - f_))) 0)), .int (iI (N 1))]))).2) hD 1 rfl
                have hP : zP g [(o, .inr (5, [.ref h, .ref b, .ref im, .ref a, .ref d, .ref bb, .int (iI 0)])), (h, .inr (4, [.ref hn, .ref hs, .int (iI ((sp_hear N pi_ f_ (min n_ (N (2 + pi_) - f_))) 0)), .int (iI (N 1))])), zI g hn 640 (fun x => (sp_hear N pi_ f_ (min n_ (N (2 + pi_) - f_))) (7 + x)), zI g hs 5 (fun x => (sp_hear N pi_ f_ (min n_ (N (2 + pi_) - f_))) (2 + x)), (b, .inr (2, [.ref bn, .ref br, .ref bs, .ref bf, .ref be, .int (iI ((nx + 1) % 8)), .int (iI (min (dp + 1) 8))])), zI g bn 1024 (rmN NB (fun x => N (7 + x)) nx 4), zI g br 8 (ups RR nx 4), zI g bs 8 (ups RS nx (N (2 + 4))), zI g bf 8 (ups RF nx (N 0)), zI g be 8 (ups RE nx (N 1))] H := hP
                have hD : va_D A [(o, .inr (5, [.ref h, .ref b, .ref im, .ref a, .ref d, .ref bb, .int (iI 0)])), (h, .inr (4, [.ref hn, .ref hs, .int (iI ((sp_hear N pi_ f_ (min n_ (N (2 + pi_) - f_))) 0)), .int (iI (N 1))])), zI g hn 640 (fun x => (sp_hear N pi_ f_ (min n_ (N (2 + pi_) - f_))) (7 + x)), zI g hs 5 (fun x => (sp_hear N pi_ f_ (min n_ (N (2 + pi_) - f_))) (2 + x)), (b, .inr (2, [.ref bn, .ref br, .ref bs, .ref bf, .ref be, .int (iI ((nx + 1) % 8)), .int (iI (min (dp + 1) 8))])), zI g bn 1024 (rmN NB (fun x => N (7 + x)) nx 4), zI g br 8 (ups RR nx 4), zI g bs 8 (ups RS nx (N (2 + 4))), zI g bf 8 (ups RF nx (N 0)), zI g be 8 (ups RE nx (N 1))] := hD
                have hP := zP_fld hP 1 rfl 3 ((sp_hear N pi_ f_ (min n_ (N (2 + pi_) - f_))) 1) rfl (by simp only [sp_hear]; (repeat' split) <;> first | rfl | omega)
                have hD := zD_set (c1 := ((h, .inr (4, [.ref hn, .ref hs, .int (iI ((sp_hear N pi_ f_ (min n_ (N (2 + pi_) - f_))) 0)), .int (iI ((sp_hear N pi_ f_ (min n_ (N (2 + pi_) - f_))) 1))]))).2) hD 1 rfl
                have hP : zP g [(o, .inr (5, [.ref h, .ref b, .ref im, .ref a, .ref d, .ref bb, .int (iI 0)])), (h, .inr (4, [.ref hn, .ref hs, .int (iI ((sp_hear N pi_ f_ (min n_ (N (2 + pi_) - f_))) 0)), .int (iI ((sp_hear N pi_ f_ (min n_ (N (2 + pi_) - f_))) 1))])), zI g hn 640 (fun x => (sp_hear N pi_ f_ (min n_ (N (2 + pi_) - f_))) (7 + x)), zI g hs 5 (fun x => (sp_hear N pi_ f_ (min n_ (N (2 + pi_) - f_))) (2 + x)), (b, .inr (2, [.ref bn, .ref br, .ref bs, .ref bf, .ref be, .int (iI ((nx + 1) % 8)), .int (iI (min (dp + 1) 8))])), zI g bn 1024 (rmN NB (fun x => N (7 + x)) nx 4), zI g br 8 (ups RR nx 4), zI g bs 8 (ups RS nx (N (2 + 4))), zI g bf 8 (ups RF nx (N 0)), zI g be 8 (ups RE nx (N 1))] H := hP
                have hD : va_D A [(o, .inr (5, [.ref h, .ref b, .ref im, .ref a, .ref d, .ref bb, .int (iI 0)])), (h, .inr (4, [.ref hn, .ref hs, .int (iI ((sp_hear N pi_ f_ (min n_ (N (2 + pi_) - f_))) 0)), .int (iI ((sp_hear N pi_ f_ (min n_ (N (2 + pi_) - f_))) 1))])), zI g hn 640 (fun x => (sp_hear N pi_ f_ (min n_ (N (2 + pi_) - f_))) (7 + x)), zI g hs 5 (fun x => (sp_hear N pi_ f_ (min n_ (N (2 + pi_) - f_))) (2 + x)), (b, .inr (2, [.ref bn, .ref br, .ref bs, .ref bf, .ref be, .int (iI ((nx + 1) % 8)), .int (iI (min (dp + 1) 8))])), zI g bn 1024 (rmN NB (fun x => N (7 + x)) nx 4), zI g br 8 (ups RR nx 4), zI g bs 8 (ups RS nx (N (2 + 4))), zI g bf 8 (ups RF nx (N 0)), zI g be 8 (ups RE nx (N 1))] := hD
                exact z_retE hx hb hlk hr hQ dX5_hear_118 hS () (by show SV 4 = _; rw [esv]; omega) (hP)
              · refine lv_aload_n hx hb dX5_hear_86 rfl (lv_at hl 0 rfl) ?_
                refine z_get (v := .ref h) (Cn := RX5) (T := TX5) (N := 7) (ci := 5) C in_m_X5_hear_X5 hK hP 0 rfl rfl 0 (by decide) (List.mem_of_getElem? (i := 3) rfl) rfl dX5_hear_87 ?_
                refine lv_iconst (v := iI 4) hx hb dX5_hear_90 rfl ?_
                refine lv_aload_n hx hb dX5_hear_91 rfl (lv_at hl 0 rfl) ?_
                refine z_get (v := .ref h) (Cn := RX5) (T := TX5) (N := 7) (ci := 5) C in_m_X5_hear_X5 hK hP 0 rfl rfl 0 (by decide) (List.mem_of_getElem? (i := 3) rfl) rfl dX5_hear_92 ?_
                refine lv_iload_n hx hb dX5_hear_95 rfl (lv_at hl 1 rfl) ?_
                refine lv_iload hx hb dX5_hear_96 (lv_at hl 3 rfl) ?_
                refine z_cS (As := [.int (iI pi_), .int (iI k)]) (rest := [.int (iI 4), .ref h]) C (m_X4_numberAt (l := l) (g := g) (h := h) (hn := hn) (hs := hs) (fl := N 0) (re := N 1) (NU := NV) (row := pi_) (i := k) (h1 := by omega) (h2 := by omega) (h3 := by omega) (h4 := by omega)) (cwV 2 C.2.2.2.2 gX5_hear_X4_numberAt rfl rfl rfl (by decide +kernel) ⟨Nat.le_of_ble_eq_true rfl, Nat.le_of_ble_eq_true rfl⟩) hK hP [1, 2] rfl 1 rfl rfl rfl hl.1 rfl (Nat.le_of_ble_eq_true rfl) dX5_hear_98 ⟨Nat.zero_le _, Nat.zero_le _⟩ ?_
                refine z_top (b := N (7 + (pi_ * 128 + k))) (by rw [i3 _ (by omega) (by omega), if_neg (by omega)]) ?_
                refine z_cV (As := [.int (iI 4), .int (iI (N (7 + (pi_ * 128 + k))))]) (rest := []) C (m_X4_append (l := l) (g := g) (h := h) (hn := hn) (hs := hs) (NU := NV) (SZ := SV) (fl := N 0) (re := N 1) (row := 4) (v := N (7 + (pi_ * 128 + k))) (h1 := by omega) (h2 := by omega) (h3 := by rw [esv]; omega) (h4 := by rw [esv]; omega)) (cwV 2 C.2.2.2.2 gX5_hear_X4_append rfl rfl rfl (by decide +kernel) ⟨Nat.le_of_ble_eq_true rfl, Nat.le_of_ble_eq_true rfl⟩) hK hP hD hS hA [1, 2, 3] (by decide) rfl (fun _ => rfl) 1 rfl rfl rfl hl.1 rfl (Nat.le_of_ble_eq_true rfl) dX5_hear_101 ⟨Nat.zero_le _, Nat.zero_le _⟩ (fun u_10 H locs hq_11 hP hD hS => ?_)
                have hP : zP g [(o, .inr (5, [.ref h, .ref b, .ref im, .ref a, .ref d, .ref bb, .int (iI 0)])), (h, .inr (4, [.ref hn, .ref hs, .int (iI (N 0)), .int (iI (N 1))])), zI g hn 640 (ups NV (4 * 128 + SV 4) (N (7 + (pi_ * 128 + k)))), zI g hs 5 (ups SV 4 (SV 4 + 1)), (b, .inr (2, [.ref bn, .ref br, .ref bs, .ref bf, .ref be, .int (iI ((nx + 1) % 8)), .int (iI (min (dp + 1) 8))])), zI g bn 1024 (rmN NB (fun x => N (7 + x)) nx 4), zI g br 8 (ups RR nx 4), zI g bs 8 (ups RS nx (N (2 + 4))), zI g bf 8 (ups RF nx (N 0)), zI g be 8 (ups RE nx (N 1))] H := hP
                have hD : va_D A [(o, .inr (5, [.ref h, .ref b, .ref im, .ref a, .ref d, .ref bb, .int (iI 0)])), (h, .inr (4, [.ref hn, .ref hs, .int (iI (N 0)), .int (iI (N 1))])), zI g hn 640 (ups NV (4 * 128 + SV 4) (N (7 + (pi_ * 128 + k)))), zI g hs 5 (ups SV 4 (SV 4 + 1)), (b, .inr (2, [.ref bn, .ref br, .ref bs, .ref bf, .ref be, .int (iI ((nx + 1) % 8)), .int (iI (min (dp + 1) 8))])), zI g bn 1024 (rmN NB (fun x => N (7 + x)) nx 4), zI g br 8 (ups RR nx 4), zI g bs 8 (ups RS nx (N (2 + 4))), zI g bf 8 (ups RF nx (N 0)), zI g be 8 (ups RE nx (N 1))] := hD
                refine z_iinc (b := k + 1) (lv' := [(6, .int (iI (k + 1))), (0, .ref o), (1, .int (iI pi_)), (5, .int (iI (f_ + min n_ (N (2 + pi_) - f_))))]) hx hb dX5_hear_104 hl (k := 3) rfl (rfl) (by decide) rfl (fun ls hl => ?_)
                refine lv_goto (tgt := 79) hx hb dX5_hear_107 (by decide) ?_
                have hP := zP_fld hP 1 rfl 2 (N 0) rfl (by omega)
                have hD := zD_set (c1 := ((h, .inr (4, [.ref hn, .ref hs, .int (iI (N 0)), .int (iI (N 1))]))).2) hD 1 rfl
                have hP : zP g [(o, .inr (5, [.ref h, .ref b, .ref im, .ref a, .ref d, .ref bb, .int (iI 0)])), (h, .inr (4, [.ref hn, .ref hs, .int (iI (N 0)), .int (iI (N 1))])), zI g hn 640 (ups NV (4 * 128 + SV 4) (N (7 + (pi_ * 128 + k)))), zI g hs 5 (ups SV 4 (SV 4 + 1)), (b, .inr (2, [.ref bn, .ref br, .ref bs, .ref bf, .ref be, .int (iI ((nx + 1) % 8)), .int (iI (min (dp + 1) 8))])), zI g bn 1024 (rmN NB (fun x => N (7 + x)) nx 4), zI g br 8 (ups RR nx 4), zI g bs 8 (ups RS nx (N (2 + 4))), zI g bf 8 (ups RF nx (N 0)), zI g be 8 (ups RE nx (N 1))] H := hP
                have hD : va_D A [(o, .inr (5, [.ref h, .ref b, .ref im, .ref a, .ref d, .ref bb, .int (iI 0)])), (h, .inr (4, [.ref hn, .ref hs, .int (iI (N 0)), .int (iI (N 1))])), zI g hn 640 (ups NV (4 * 128 + SV 4) (N (7 + (pi_ * 128 + k)))), zI g hs 5 (ups SV 4 (SV 4 + 1)), (b, .inr (2, [.ref bn, .ref br, .ref bs, .ref bf, .ref be, .int (iI ((nx + 1) % 8)), .int (iI (min (dp + 1) 8))])), zI g bn 1024 (rmN NB (fun x => N (7 + x)) nx 4), zI g br 8 (ups RR nx 4), zI g bs 8 (ups RS nx (N (2 + 4))), zI g bf 8 (ups RF nx (N 0)), zI g be 8 (ups RE nx (N 1))] := hD
                have hP := zP_fld hP 1 rfl 3 (N 1) rfl (by omega)
                have hD := zD_set (c1 := ((h, .inr (4, [.ref hn, .ref hs, .int (iI (N 0)), .int (iI (N 1))]))).2) hD 1 rfl
                have hP : zP g [(o, .inr (5, [.ref h, .ref b, .ref im, .ref a, .ref d, .ref bb, .int (iI 0)])), (h, .inr (4, [.ref hn, .ref hs, .int (iI (N 0)), .int (iI (N 1))])), zI g hn 640 (ups NV (4 * 128 + SV 4) (N (7 + (pi_ * 128 + k)))), zI g hs 5 (ups SV 4 (SV 4 + 1)), (b, .inr (2, [.ref bn, .ref br, .ref bs, .ref bf, .ref be, .int (iI ((nx + 1) % 8)), .int (iI (min (dp + 1) 8))])), zI g bn 1024 (rmN NB (fun x => N (7 + x)) nx 4), zI g br 8 (ups RR nx 4), zI g bs 8 (ups RS nx (N (2 + 4))), zI g bf 8 (ups RF nx (N 0)), zI g be 8 (ups RE nx (N 1))] H := hP
                have hD : va_D A [(o, .inr (5, [.ref h, .ref b, .ref im, .ref a, .ref d, .ref bb, .int (iI 0)])), (h, .inr (4, [.ref hn, .ref hs, .int (iI (N 0)), .int (iI (N 1))])), zI g hn 640 (ups NV (4 * 128 + SV 4) (N (7 + (pi_ * 128 + k)))), zI g hs 5 (ups SV 4 (SV 4 + 1)), (b, .inr (2, [.ref bn, .ref br, .ref bs, .ref bf, .ref be, .int (iI ((nx + 1) % 8)), .int (iI (min (dp + 1) 8))])), zI g bn 1024 (rmN NB (fun x => N (7 + x)) nx 4), zI g br 8 (ups RR nx 4), zI g bs 8 (ups RS nx (N (2 + 4))), zI g bf 8 (ups RF nx (N 0)), zI g be 8 (ups RE nx (N 1))] := hD
                exact ih79 (k + 1) (ups NV (4 * 128 + SV 4) (N (7 + (pi_ * 128 + k)))) (ups SV 4 (SV 4 + 1)) (by omega) (by omega) (fun j g1 g2 => by rw [esv]; by_cases hj : j = 4 * 128 + (k - f_); (· rw [hj, ups_s, if_pos (by omega)]; congr 1; omega); (· rw [ups_n _ _ hj, i3 j g1 g2]; (repeat' split) <;> first | rfl | omega)) (fun j g1 g2 => by rw [esv]; simp only [ups]; split; (· omega); (· rename_i hne; rw [i4 j g1 g2, if_neg hne])) (by omega) H locs ls (lv_sub hl [1, 2, 3, 0] rfl) (hP) (hD) hS
          have hP := zP_fld hP 1 rfl 2 (N 0) rfl (by omega)
          have hD := zD_set (c1 := ((h, .inr (4, [.ref hn, .ref hs, .int (iI (N 0)), .int (iI (N 1))]))).2) hD 1 rfl
          have hP : zP g [(o, .inr (5, [.ref h, .ref b, .ref im, .ref a, .ref d, .ref bb, .int (iI 0)])), (h, .inr (4, [.ref hn, .ref hs, .int (iI (N 0)), .int (iI (N 1))])), zI g hn 640 (fun x => N (7 + x)), zI g hs 5 (ups (fun x => N (2 + x)) 4 0), (b, .inr (2, [.ref bn, .ref br, .ref bs, .ref bf, .ref be, .int (iI ((nx + 1) % 8)), .int (iI (min (dp + 1) 8))])), zI g bn 1024 (rmN NB (fun x => N (7 + x)) nx 4), zI g br 8 (ups RR nx 4), zI g bs 8 (ups RS nx ((fun x => N (2 + x)) 4)), zI g bf 8 (ups RF nx (N 0)), zI g be 8 (ups RE nx (N 1))] H := hP
          have hD : va_D A [(o, .inr (5, [.ref h, .ref b, .ref im, .ref a, .ref d, .ref bb, .int (iI 0)])), (h, .inr (4, [.ref hn, .ref hs, .int (iI (N 0)), .int (iI (N 1))])), zI g hn 640 (fun x => N (7 + x)), zI g hs 5 (ups (fun x => N (2 + x)) 4 0), (b, .inr (2, [.ref bn, .ref br, .ref bs, .ref bf, .ref be, .int (iI ((nx + 1) % 8)), .int (iI (min (dp + 1) 8))])), zI g bn 1024 (rmN NB (fun x => N (7 + x)) nx 4), zI g br 8 (ups RR nx 4), zI g bs 8 (ups RS nx ((fun x => N (2 + x)) 4)), zI g bf 8 (ups RF nx (N 0)), zI g be 8 (ups RE nx (N 1))] := hD
          have hP := zP_fld hP 1 rfl 3 (N 1) rfl (by omega)
          have hD := zD_set (c1 := ((h, .inr (4, [.ref hn, .ref hs, .int (iI (N 0)), .int (iI (N 1))]))).2) hD 1 rfl
          have hP : zP g [(o, .inr (5, [.ref h, .ref b, .ref im, .ref a, .ref d, .ref bb, .int (iI 0)])), (h, .inr (4, [.ref hn, .ref hs, .int (iI (N 0)), .int (iI (N 1))])), zI g hn 640 (fun x => N (7 + x)), zI g hs 5 (ups (fun x => N (2 + x)) 4 0), (b, .inr (2, [.ref bn, .ref br, .ref bs, .ref bf, .ref be, .int (iI ((nx + 1) % 8)), .int (iI (min (dp + 1) 8))])), zI g bn 1024 (rmN NB (fun x => N (7 + x)) nx 4), zI g br 8 (ups RR nx 4), zI g bs 8 (ups RS nx ((fun x => N (2 + x)) 4)), zI g bf 8 (ups RF nx (N 0)), zI g be 8 (ups RE nx (N 1))] H := hP
          have hD : va_D A [(o, .inr (5, [.ref h, .ref b, .ref im, .ref a, .ref d, .ref bb, .int (iI 0)])), (h, .inr (4, [.ref hn, .ref hs, .int (iI (N 0)), .int (iI (N 1))])), zI g hn 640 (fun x => N (7 + x)), zI g hs 5 (ups (fun x => N (2 + x)) 4 0), (b, .inr (2, [.ref bn, .ref br, .ref bs, .ref bf, .ref be, .int (iI ((nx + 1) % 8)), .int (iI (min (dp + 1) 8))])), zI g bn 1024 (rmN NB (fun x => N (7 + x)) nx 4), zI g br 8 (ups RR nx 4), zI g bs 8 (ups RS nx ((fun x => N (2 + x)) 4)), zI g bf 8 (ups RF nx (N 0)), zI g be 8 (ups RE nx (N 1))] := hD
          exact L79 (129) f_ (fun x => N (7 + x)) (ups (fun x => N (2 + x)) 4 0) (by omega) (by omega) (fun j g1 g2 => by rw [if_neg (by omega)]) (fun j g1 g2 => by simp only [ups]; rw [show f_ - f_ = 0 by omega]) (by omega) H locs ls (lv_sub hl [3, 4, 1, 0] rfl) (hP) (hD) hS
        · exfalso; omega
      · exfalso; omega
  · exfalso; omega
set_option maxRecDepth 20000 in
theorem in_m_X5_hear_n_X5 : ∀ w ∈ u_ws RX5 TX5 7, w ∈ wsX5_hear := zmem_of _ [73, 74, 75, 76, 77, 78, 79] (by decide +kernel)
set_option maxHeartbeats 4000000 in
set_option maxRecDepth 100000 in
theorem m_X5_hear_n (l : Launch) (g : zG) (o h b im a d bb : Nat) (fr : Int) (hn hs : Nat) (N : Int → Int) (pi_ f_ n_ : Int) (zN : okN N) (g_pi_ : -2147483648 ≤ pi_ ∧ pi_ < 2147483648) (g_f_ : -2147483648 ≤ f_ ∧ f_ < 2147483648) (g_n_ : -2147483648 ≤ n_ ∧ n_ < 2147483648) (rf : ¬ ((0 ≤ pi_ ∧ pi_ ≤ 3) ∧ (0 ≤ f_ ∧ f_ ≤ 127) ∧ (1 ≤ n_ ∧ n_ ≤ 128) ∧ f_ < N (2 + pi_))) : zS l yX5_hear wsX5_hear ({ frames := 2, cells := 0, slots := 0, locals := 42 }) g [.ref o, .int (iI pi_), .int (iI f_), .int (iI n_)] [(o, .inr (5, [.ref h, .ref b, .ref im, .ref a, .ref d, .ref bb, .int (iI fr)])), (h, .inr (4, [.ref hn, .ref hs, .int (iI (N 0)), .int (iI (N 1))])), zI g hn 640 (fun x => N (7 + x)), zI g hs 5 (fun x => N (2 + x))] (if ¬ (0 ≤ pi_ ∧ pi_ ≤ 3) then -1000000001 else if ¬ ((0 ≤ f_ ∧ f_ ≤ 127) ∧ (1 ≤ n_ ∧ n_ ≤ 128)) then -1000000002 else -1000000003) := by
  refine z_entS (cc := cX5_hear) (nL := 7) (ret := (some .int)) (own := RX5) (by decide) rfl rfl (Nat.le_of_ble_eq_true rfl) ?_
  intro p e s m below meth c Q ls C hlk hr hQ hP hK hl
  have hx := C.1
  have hb := C.2.1
  have hl : lv_has ls 7 [(0, .ref o), (1, .int (iI pi_)), (2, .int (iI f_)), (3, .int (iI n_))] := hl
  refine lv_iload_n hx hb dX5_hear_0 rfl (lv_at hl 1 rfl) ?_
  refine z_cSS (As := [.int (iI pi_)]) (rest := []) C (m_X5_isPiece (l := l) (g := g) (v := pi_) (g_v := by omega)) (cwS 1 C.2.2.2.2 gX5_hear_X5_isPiece rfl rfl rfl (by decide +kernel) ⟨Nat.le_of_ble_eq_true rfl, Nat.le_of_ble_eq_true rfl⟩) hK hP [] rfl rfl hl.1 rfl (Nat.le_of_ble_eq_true rfl) dX5_hear_1 ⟨Nat.zero_le _, Nat.zero_le _⟩ ?_
  refine z_ifb_ne (tgt := 10) hx hb dX5_hear_4 (by decide) (fun c1 => ?_) (fun c1 => ?_)
  · refine lv_iload_n hx hb dX5_hear_10 rfl (lv_at hl 2 rfl) ?_
    refine lv_iconst (v := iI 0) hx hb dX5_hear_11 rfl ?_
    refine lv_bipush (v := iI 127) hx hb dX5_hear_12 (by decide +kernel) ?_
    refine z_cSS (As := [.int (iI f_), .int (iI 0), .int (iI 127)]) (rest := []) C (m_X5_isWithin (l := l) (g := g) (v := f_) (lo := 0) (hi := 127) (g_v := by omega) (g_lo := by omega) (g_hi := by omega)) (cwS 3 C.2.2.2.2 gX5_hear_X5_isWithin rfl rfl rfl (by decide +kernel) ⟨Nat.le_of_ble_eq_true rfl, Nat.le_of_ble_eq_true rfl⟩) hK hP [] rfl rfl hl.1 rfl (Nat.le_of_ble_eq_true rfl) dX5_hear_14 ⟨Nat.zero_le _, Nat.zero_le _⟩ ?_
    refine z_ifb_eq (tgt := 31) hx hb dX5_hear_17 (by decide) (fun c2 => ?_) (fun c2 => ?_)
    · refine z_ldc C (List.mem_of_getElem? (i := 2) rfl) (-1000000002) (by decide +kernel) dX5_hear_31 ?_
      exact z_retS hx hb hlk hr hQ dX5_hear_33 (by rw [if_neg (fun z => z c1), if_pos (by omega)])
    · refine lv_iload_n hx hb dX5_hear_20 rfl (lv_at hl 3 rfl) ?_
      refine lv_iconst (v := iI 1) hx hb dX5_hear_21 rfl ?_
      refine lv_sipush (v := iI 128) hx hb dX5_hear_22 (by decide +kernel) ?_
      refine z_cSS (As := [.int (iI n_), .int (iI 1), .int (iI 128)]) (rest := []) C (m_X5_isWithin (l := l) (g := g) (v := n_) (lo := 1) (hi := 128) (g_v := by omega) (g_lo := by omega) (g_hi := by omega)) (cwS 3 C.2.2.2.2 gX5_hear_X5_isWithin rfl rfl rfl (by decide +kernel) ⟨Nat.le_of_ble_eq_true rfl, Nat.le_of_ble_eq_true rfl⟩) hK hP [] rfl rfl hl.1 rfl (Nat.le_of_ble_eq_true rfl) dX5_hear_25 ⟨Nat.zero_le _, Nat.zero_le _⟩ ?_
      refine z_ifb_ne (tgt := 34) hx hb dX5_hear_28 (by decide) (fun c3 => ?_) (fun c3 => ?_)
      · have hz1 := zN.2.2.1 pi_ (by omega) (by omega)
        refine lv_aload_n hx hb dX5_hear_34 rfl (lv_at hl 0 rfl) ?_
        refine z_get (v := .ref h) (Cn := RX5) (T := TX5) (N := 7) (ci := 5) C in_m_X5_hear_n_X5 hK hP 0 rfl rfl 0 (by decide) (List.mem_of_getElem? (i := 3) rfl) rfl dX5_hear_35 ?_
        refine lv_iload_n hx hb dX5_hear_38 rfl (lv_at hl 1 rfl) ?_
        refine z_cS (As := [.int (iI pi_)]) (rest := []) C (m_X4_sizeOf (l := l) (g := g) (h := h) (hn := hn) (hs := hs) (fl := N 0) (re := N 1) (SZ := fun x => N (2 + x)) (row := pi_) (h1 := by omega) (h2 := by omega)) (cwV 1 C.2.2.2.2 gX5_hear_X4_sizeOf rfl rfl rfl (by decide +kernel) ⟨Nat.le_of_ble_eq_true rfl, Nat.le_of_ble_eq_true rfl⟩) hK hP [1, 3] rfl 1 rfl rfl rfl hl.1 rfl (Nat.le_of_ble_eq_true rfl) dX5_hear_39 ⟨Nat.zero_le _, Nat.zero_le _⟩ ?_
        refine z_top (b := N (2 + pi_)) (rfl) ?_
        refine lv_istore (lv' := [(4, .int (iI (N (2 + pi_)))), (0, .ref o), (1, .int (iI pi_)), (2, .int (iI f_)), (3, .int (iI n_))]) hx hb dX5_hear_42 hl (by decide) rfl (fun ls hl => ?_)
        refine lv_iload_n hx hb dX5_hear_44 rfl (lv_at hl 3 rfl) ?_
        refine lv_iload hx hb dX5_hear_45 (lv_at hl 0 rfl) ?_
        refine z_icmp_lt (tgt := 53) hx hb dX5_hear_47 (by decide) (by omega) (by omega) (fun c_1 => ?_) (fun c_1 => ?_)
        · exfalso; omega
        · refine z_ldc C (List.mem_of_getElem? (i := 4) rfl) (-1000000003) (by decide +kernel) dX5_hear_50 ?_
          exact z_retS hx hb hlk hr hQ dX5_hear_52 (by rw [if_neg (fun z => z c1), if_neg (by omega)])
      · refine z_ldc C (List.mem_of_getElem? (i := 2) rfl) (-1000000002) (by decide +kernel) dX5_hear_31 ?_
        exact z_retS hx hb hlk hr hQ dX5_hear_33 (by rw [if_neg (fun z => z c1), if_pos (by omega)])
  · refine z_ldc C (List.mem_of_getElem? (i := 1) rfl) (-1000000001) (by decide +kernel) dX5_hear_7 ?_
    exact z_retS hx hb hlk hr hQ dX5_hear_9 ((if_pos c1).symm)
set_option maxHeartbeats 4000000 in
set_option maxRecDepth 100000 in
theorem m_X5_bound (l : Launch) (g : zG) (o h b im a d bb : Nat) (fr : Int) (hn hs : Nat) (N : Int → Int) (bn br bs bf be : Nat) (nx dp : Int) (NB RR RS RF RE : Int → Int) (wh v : Int) (p1 : 0 ≤ nx) (p2 : nx < 8) (p3 : 0 ≤ dp) (p4 : dp ≤ 8) (g_wh : -2147483648 ≤ wh ∧ wh < 2147483648) (g_v : -2147483648 ≤ v ∧ v < 2147483648) (a1 : (wh = 0 ∧ 0 ≤ v ∧ v ≤ 99999) ∨ (wh = 1 ∧ 1 ≤ v ∧ v ≤ 5)) : zE l yX5_bound wsX5_bound ({ frames := 5, cells := 0, slots := 0, locals := 148 }) g [.ref o, .int (iI wh), .int (iI v)] [(o, .inr (5, [.ref h, .ref b, .ref im, .ref a, .ref d, .ref bb, .int (iI fr)])), (h, .inr (4, [.ref hn, .ref hs, .int (iI (N 0)), .int (iI (N 1))])), zI g hn 640 (fun x => N (7 + x)), zI g hs 5 (fun x => N (2 + x)), (b, .inr (2, [.ref bn, .ref br, .ref bs, .ref bf, .ref be, .int (iI nx), .int (iI dp)])), zI g bn 1024 NB, zI g br 8 RR, zI g bs 8 RS, zI g bf 8 RF, zI g be 8 RE] (S := Unit) (fun r _ => r = N wh) (fun _ => [(o, .inr (5, [.ref h, .ref b, .ref im, .ref a, .ref d, .ref bb, .int (iI 0)])), (h, .inr (4, [.ref hn, .ref hs, .int (iI ((ups N wh v) 0)), .int (iI ((ups N wh v) 1))])), zI g hn 640 (fun x => (ups N wh v) (7 + x)), zI g hs 5 (fun x => (ups N wh v) (2 + x)), (b, .inr (2, [.ref bn, .ref br, .ref bs, .ref bf, .ref be, .int (iI ((nx + 1) % 8)), .int (iI (min (dp + 1) 8))])), zI g bn 1024 (rmN NB (fun x => N (7 + x)) nx 4), zI g br 8 (ups RR nx 4), zI g bs 8 (ups RS nx (N (2 + 4))), zI g bf 8 (ups RF nx (N 0)), zI g be 8 (ups RE nx (N 1))]) := by
  refine z_entE (cc := cX5_bound) (nL := 3) (ret := (some .int)) (own := RX5) (by decide) rfl rfl (Nat.le_of_ble_eq_true rfl) ?_
  intro p e s m below meth c Q ls A C hlk hr hQ hP hK hD hA hS hl
  have hx := C.1
  have hb := C.2.1
  have hl : lv_has ls 3 [(0, .ref o), (1, .int (iI wh)), (2, .int (iI v))] := hl
  obtain ⟨H, hHe⟩ : ∃ H, H = s.heap := ⟨_, rfl⟩
  obtain ⟨locs, hLe⟩ : ∃ q : List Loc, q = [] := ⟨_, rfl⟩
  have hP : zP g [(o, .inr (5, [.ref h, .ref b, .ref im, .ref a, .ref d, .ref bb, .int (iI fr)])), (h, .inr (4, [.ref hn, .ref hs, .int (iI (N 0)), .int (iI (N 1))])), zI g hn 640 (fun x => N (7 + x)), zI g hs 5 (fun x => N (2 + x)), (b, .inr (2, [.ref bn, .ref br, .ref bs, .ref bf, .ref be, .int (iI nx), .int (iI dp)])), zI g bn 1024 NB, zI g br 8 RR, zI g bs 8 RS, zI g bf 8 RF, zI g be 8 RE] H := by rw [hHe]; exact hP
  have hS : va_S A s.heap H locs := by rw [hHe, hLe]; exact hS
  suffices hgo : W p l e ({ frames := 5, cells := 0, slots := 0, locals := 148 }) s m ([.ref o, .int (iI wh), .int (iI v)] : List Value).toArray below meth c H locs 0 0 Q (F0 m 0 ls []) by rw [hHe, hLe] at hgo; exact hgo
  clear hHe hLe
  refine lv_iload_n hx hb dX5_bound_0 rfl (lv_at hl 1 rfl) ?_
  refine z_if_ne (tgt := 25) hx hb dX5_bound_1 (by decide) (by omega) (fun c_1 => ?_) (fun c_1 => ?_)
  · refine lv_iload_n hx hb dX5_bound_25 rfl (lv_at hl 1 rfl) ?_
    refine lv_iconst (v := iI 1) hx hb dX5_bound_26 rfl ?_
    refine z_icmp_ne (tgt := 50) hx hb dX5_bound_27 (by decide) (by omega) (by omega) (fun c_2 => ?_) (fun c_2 => ?_)
    · exfalso; omega
    · obtain rfl : wh = 1 := by omega
      refine lv_iload_n hx hb dX5_bound_30 rfl (lv_at hl 2 rfl) ?_
      refine lv_iconst (v := iI 1) hx hb dX5_bound_31 rfl ?_
      refine lv_iconst (v := iI 5) hx hb dX5_bound_32 rfl ?_
      refine z_cSS (As := [.int (iI v), .int (iI 1), .int (iI 5)]) (rest := []) C (m_X5_isWithin (l := l) (g := g) (v := v) (lo := 1) (hi := 5) (g_v := by omega) (g_lo := by omega) (g_hi := by omega)) (cwS 3 C.2.2.2.2 gX5_bound_X5_isWithin rfl rfl rfl (by decide +kernel) ⟨Nat.le_of_ble_eq_true rfl, Nat.le_of_ble_eq_true rfl⟩) hK hP [] rfl rfl hl.1 rfl (Nat.le_of_ble_eq_true rfl) dX5_bound_33 ⟨Nat.zero_le _, Nat.zero_le _⟩ ?_
      refine z_ifb_eq (tgt := 47) hx hb dX5_bound_36 (by decide) (fun c_3 => ?_) (fun c_3 => ?_)
      · exfalso; omega
      · refine lv_aload_n hx hb dX5_bound_39 rfl (lv_at hl 0 rfl) ?_
        refine lv_iload_n hx hb dX5_bound_40 rfl (lv_at hl 2 rfl) ?_
        refine z_cE (As := [.int (iI v)]) (rest := []) C (m_X5_changeReach (l := l) (g := g) (o := o) (h := h) (b := b) (im := im) (a := a) (d := d) (bb := bb) (fr := fr) (hn := hn) (hs := hs) (N := N) (bn := bn) (br := br) (bs := bs) (bf := bf) (be := be) (nx := nx) (dp := dp) (NB := NB) (RR := RR) (RS := RS) (RF := RF) (RE := RE) (v := v) (p1 := by omega) (p2 := by omega) (p3 := by omega) (p4 := by omega)) (cwV 1 C.2.2.2.2 gX5_bound_X5_changeReach rfl rfl rfl (by decide +kernel) ⟨Nat.le_of_ble_eq_true rfl, Nat.le_of_ble_eq_true rfl⟩) hK hP hD hS hA [0, 1, 2, 3, 4, 5, 6, 7, 8, 9] (by decide) rfl (fun _ => rfl) 0 rfl rfl rfl hl.1 rfl (Nat.le_of_ble_eq_true rfl) dX5_bound_41 ⟨Nat.zero_le _, Nat.zero_le _⟩ (fun r_6 u_4 H locs hq_5 hP hD hS => ?_)
        have hq_5 : r_6 = N 1 := hq_5
        subst hq_5
        have hP : zP g [(o, .inr (5, [.ref h, .ref b, .ref im, .ref a, .ref d, .ref bb, .int (iI 0)])), (h, .inr (4, [.ref hn, .ref hs, .int (iI ((ups N 1 v) 0)), .int (iI ((ups N 1 v) 1))])), zI g hn 640 (fun x => (ups N 1 v) (7 + x)), zI g hs 5 (fun x => (ups N 1 v) (2 + x)), (b, .inr (2, [.ref bn, .ref br, .ref bs, .ref bf, .ref be, .int (iI ((nx + 1) % 8)), .int (iI (min (dp + 1) 8))])), zI g bn 1024 (rmN NB (fun x => N (7 + x)) nx 4), zI g br 8 (ups RR nx 4), zI g bs 8 (ups RS nx (N (2 + 4))), zI g bf 8 (ups RF nx (N 0)), zI g be 8 (ups RE nx (N 1))] H := hP
        have hD : va_D A [(o, .inr (5, [.ref h, .ref b, .ref im, .ref a, .ref d, .ref bb, .int (iI 0)])), (h, .inr (4, [.ref hn, .ref hs, .int (iI ((ups N 1 v) 0)), .int (iI ((ups N 1 v) 1))])), zI g hn 640 (fun x => (ups N 1 v) (7 + x)), zI g hs 5 (fun x => (ups N 1 v) (2 + x)), (b, .inr (2, [.ref bn, .ref br, .ref bs, .ref bf, .ref be, .int (iI ((nx + 1) % 8)), .int (iI (min (dp + 1) 8))])), zI g bn 1024 (rmN NB (fun x => N (7 + x)) nx 4), zI g br 8 (ups RR nx 4), zI g bs 8 (ups RS nx (N (2 + 4))), zI g bf 8 (ups RF nx (N 0)), zI g be 8 (ups RE nx (N 1))] := hD
        refine lv_goto (tgt := 49) hx hb dX5_bound_44 (by decide) ?_
        exact z_retE hx hb hlk hr hQ dX5_bound_49 hS () (rfl) (hP)
  · obtain rfl : wh = 0 := by omega
    refine lv_iload_n hx hb dX5_bound_4 rfl (lv_at hl 2 rfl) ?_
    refine lv_iconst (v := iI 0) hx hb dX5_bound_5 rfl ?_
    refine z_ldc C (List.mem_of_getElem? (i := 1) rfl) (99999) (by decide +kernel) dX5_bound_6 ?_
    refine z_cSS (As := [.int (iI v), .int (iI 0), .int (iI 99999)]) (rest := []) C (m_X5_isWithin (l := l) (g := g) (v := v) (lo := 0) (hi := 99999) (g_v := by omega) (g_lo := by omega) (g_hi := by omega)) (cwS 3 C.2.2.2.2 gX5_bound_X5_isWithin rfl rfl rfl (by decide +kernel) ⟨Nat.le_of_ble_eq_true rfl, Nat.le_of_ble_eq_true rfl⟩) hK hP [] rfl rfl hl.1 rfl (Nat.le_of_ble_eq_true rfl) dX5_bound_8 ⟨Nat.zero_le _, Nat.zero_le _⟩ ?_
    refine z_ifb_eq (tgt := 22) hx hb dX5_bound_11 (by decide) (fun c_7 => ?_) (fun c_7 => ?_)
    · exfalso; omega
    · refine lv_aload_n hx hb dX5_bound_14 rfl (lv_at hl 0 rfl) ?_
      refine lv_iload_n hx hb dX5_bound_15 rfl (lv_at hl 2 rfl) ?_
      refine z_cE (As := [.int (iI v)]) (rest := []) C (m_X5_changeFloor (l := l) (g := g) (o := o) (h := h) (b := b) (im := im) (a := a) (d := d) (bb := bb) (fr := fr) (hn := hn) (hs := hs) (N := N) (bn := bn) (br := br) (bs := bs) (bf := bf) (be := be) (nx := nx) (dp := dp) (NB := NB) (RR := RR) (RS := RS) (RF := RF) (RE := RE) (v := v) (p1 := by omega) (p2 := by omega) (p3 := by omega) (p4 := by omega)) (cwV 1 C.2.2.2.2 gX5_bound_X5_changeFloor rfl rfl rfl (by decide +kernel) ⟨Nat.le_of_ble_eq_true rfl, Nat.le_of_ble_eq_true rfl⟩) hK hP hD hS hA [0, 1, 2, 3, 4, 5, 6, 7, 8, 9] (by decide) rfl (fun _ => rfl) 0 rfl rfl rfl hl.1 rfl (Nat.le_of_ble_eq_true rfl) dX5_bound_16 ⟨Nat.zero_le _, Nat.zero_le _⟩ (fun r_10 u_8 H locs hq_9 hP hD hS => ?_)
      have hq_9 : r_10 = N 0 := hq_9
      subst hq_9
      have hP : zP g [(o, .inr (5, [.ref h, .ref b, .ref im, .ref a, .ref d, .ref bb, .int (iI 0)])), (h, .inr (4, [.ref hn, .ref hs, .int (iI ((ups N 0 v) 0)), .int (iI ((ups N 0 v) 1))])), zI g hn 640 (fun x => (ups N 0 v) (7 + x)), zI g hs 5 (fun x => (ups N 0 v) (2 + x)), (b, .inr (2, [.ref bn, .ref br, .ref bs, .ref bf, .ref be, .int (iI ((nx + 1) % 8)), .int (iI (min (dp + 1) 8))])), zI g bn 1024 (rmN NB (fun x => N (7 + x)) nx 4), zI g br 8 (ups RR nx 4), zI g bs 8 (ups RS nx (N (2 + 4))), zI g bf 8 (ups RF nx (N 0)), zI g be 8 (ups RE nx (N 1))] H := hP
      have hD : va_D A [(o, .inr (5, [.ref h, .ref b, .ref im, .ref a, .ref d, .ref bb, .int (iI 0)])), (h, .inr (4, [.ref hn, .ref hs, .int (iI ((ups N 0 v) 0)), .int (iI ((ups N 0 v) 1))])), zI g hn 640 (fun x => (ups N 0 v) (7 + x)), zI g hs 5 (fun x => (ups N 0 v) (2 + x)), (b, .inr (2, [.ref bn, .ref br, .ref bs, .ref bf, .ref be, .int (iI ((nx + 1) % 8)), .int (iI (min (dp + 1) 8))])), zI g bn 1024 (rmN NB (fun x => N (7 + x)) nx 4), zI g br 8 (ups RR nx 4), zI g bs 8 (ups RS nx (N (2 + 4))), zI g bf 8 (ups RF nx (N 0)), zI g be 8 (ups RE nx (N 1))] := hD
      refine lv_goto (tgt := 24) hx hb dX5_bound_19 (by decide) ?_
      exact z_retE hx hb hlk hr hQ dX5_bound_24 hS () (rfl) (hP)
set_option maxHeartbeats 4000000 in
set_option maxRecDepth 100000 in
theorem m_X5_bound_n (l : Launch) (g : zG) (o h b im a d bb : Nat) (fr : Int) (hn hs : Nat) (N : Int → Int) (wh v : Int) (g_wh : -2147483648 ≤ wh ∧ wh < 2147483648) (g_v : -2147483648 ≤ v ∧ v < 2147483648) (rf : ¬ ((wh = 0 ∧ 0 ≤ v ∧ v ≤ 99999) ∨ (wh = 1 ∧ 1 ≤ v ∧ v ≤ 5))) : zS l yX5_bound wsX5_bound ({ frames := 1, cells := 0, slots := 0, locals := 22 }) g [.ref o, .int (iI wh), .int (iI v)] [(o, .inr (5, [.ref h, .ref b, .ref im, .ref a, .ref d, .ref bb, .int (iI fr)])), (h, .inr (4, [.ref hn, .ref hs, .int (iI (N 0)), .int (iI (N 1))])), zI g hn 640 (fun x => N (7 + x)), zI g hs 5 (fun x => N (2 + x))] (-1000000002) := by
  refine z_entS (cc := cX5_bound) (nL := 3) (ret := (some .int)) (own := RX5) (by decide) rfl rfl (Nat.le_of_ble_eq_true rfl) ?_
  intro p e s m below meth c Q ls C hlk hr hQ hP hK hl
  have hx := C.1
  have hb := C.2.1
  have hl : lv_has ls 3 [(0, .ref o), (1, .int (iI wh)), (2, .int (iI v))] := hl
  refine lv_iload_n hx hb dX5_bound_0 rfl (lv_at hl 1 rfl) ?_
  refine z_if_ne (tgt := 25) hx hb dX5_bound_1 (by decide) (by omega) (fun c_1 => ?_) (fun c_1 => ?_)
  · refine lv_iload_n hx hb dX5_bound_25 rfl (lv_at hl 1 rfl) ?_
    refine lv_iconst (v := iI 1) hx hb dX5_bound_26 rfl ?_
    refine z_icmp_ne (tgt := 50) hx hb dX5_bound_27 (by decide) (by omega) (by omega) (fun c_2 => ?_) (fun c_2 => ?_)
    · refine z_ldc C (List.mem_of_getElem? (i := 2) rfl) (-1000000002) (by decide +kernel) dX5_bound_50 ?_
      exact z_retS hx hb hlk hr hQ dX5_bound_52 (rfl)
    · refine lv_iload_n hx hb dX5_bound_30 rfl (lv_at hl 2 rfl) ?_
      refine lv_iconst (v := iI 1) hx hb dX5_bound_31 rfl ?_
      refine lv_iconst (v := iI 5) hx hb dX5_bound_32 rfl ?_
      refine z_cSS (As := [.int (iI v), .int (iI 1), .int (iI 5)]) (rest := []) C (m_X5_isWithin (l := l) (g := g) (v := v) (lo := 1) (hi := 5) (g_v := by omega) (g_lo := by omega) (g_hi := by omega)) (cwS 3 C.2.2.2.2 gX5_bound_X5_isWithin rfl rfl rfl (by decide +kernel) ⟨Nat.le_of_ble_eq_true rfl, Nat.le_of_ble_eq_true rfl⟩) hK hP [] rfl rfl hl.1 rfl (Nat.le_of_ble_eq_true rfl) dX5_bound_33 ⟨Nat.zero_le _, Nat.zero_le _⟩ ?_
      refine z_ifb_eq (tgt := 47) hx hb dX5_bound_36 (by decide) (fun c_3 => ?_) (fun c_3 => ?_)
      · refine z_ldc C (List.mem_of_getElem? (i := 2) rfl) (-1000000002) (by decide +kernel) dX5_bound_47 ?_
        exact z_retS hx hb hlk hr hQ dX5_bound_49 (rfl)
      · exfalso; omega
  · refine lv_iload_n hx hb dX5_bound_4 rfl (lv_at hl 2 rfl) ?_
    refine lv_iconst (v := iI 0) hx hb dX5_bound_5 rfl ?_
    refine z_ldc C (List.mem_of_getElem? (i := 1) rfl) (99999) (by decide +kernel) dX5_bound_6 ?_
    refine z_cSS (As := [.int (iI v), .int (iI 0), .int (iI 99999)]) (rest := []) C (m_X5_isWithin (l := l) (g := g) (v := v) (lo := 0) (hi := 99999) (g_v := by omega) (g_lo := by omega) (g_hi := by omega)) (cwS 3 C.2.2.2.2 gX5_bound_X5_isWithin rfl rfl rfl (by decide +kernel) ⟨Nat.le_of_ble_eq_true rfl, Nat.le_of_ble_eq_true rfl⟩) hK hP [] rfl rfl hl.1 rfl (Nat.le_of_ble_eq_true rfl) dX5_bound_8 ⟨Nat.zero_le _, Nat.zero_le _⟩ ?_
    refine z_ifb_eq (tgt := 22) hx hb dX5_bound_11 (by decide) (fun c_4 => ?_) (fun c_4 => ?_)
    · refine z_ldc C (List.mem_of_getElem? (i := 2) rfl) (-1000000002) (by decide +kernel) dX5_bound_22 ?_
      exact z_retS hx hb hlk hr hQ dX5_bound_24 (rfl)
    · exfalso; omega
set_option maxRecDepth 20000 in
theorem in_m_X5_undo_X5 : ∀ w ∈ u_ws RX5 TX5 7, w ∈ wsX5_undo := zmem_of _ [42, 43, 44, 45, 46, 47, 48] (by decide +kernel)
set_option maxHeartbeats 4000000 in
set_option maxRecDepth 100000 in
theorem m_X5_undo (l : Launch) (g : zG) (o h b im a d bb : Nat) (fr : Int) (hn hs : Nat) (NU SZ : Int → Int) (fl re : Int) (bn br bs bf be : Nat) (nx dp : Int) (NB RR RS RF RE : Int → Int) (h3 : 0 ≤ nx) (h4 : nx < 8) (h5 : 0 < dp) (h6 : dp ≤ 8) (h7 : 0 ≤ RR ((nx + 7) % 8)) (h8 : RR ((nx + 7) % 8) < 5) : zE l yX5_undo wsX5_undo ({ frames := 3, cells := 0, slots := 0, locals := 105 }) g [.ref o] [(o, .inr (5, [.ref h, .ref b, .ref im, .ref a, .ref d, .ref bb, .int (iI fr)])), (h, .inr (4, [.ref hn, .ref hs, .int (iI fl), .int (iI re)])), zI g hn 640 NU, zI g hs 5 SZ, (b, .inr (2, [.ref bn, .ref br, .ref bs, .ref bf, .ref be, .int (iI nx), .int (iI dp)])), zI g bn 1024 NB, zI g br 8 RR, zI g bs 8 RS, zI g bf 8 RF, zI g be 8 RE] (S := Unit) (fun r _ => r = dp - 1) (fun _ => [(o, .inr (5, [.ref h, .ref b, .ref im, .ref a, .ref d, .ref bb, .int (iI 0)])), (h, .inr (4, [.ref hn, .ref hs, .int (iI (RF ((nx + 7) % 8))), .int (iI (RE ((nx + 7) % 8)))])), zI g hn 640 (fun j => if RR ((nx + 7) % 8) * 128 ≤ j ∧ j < RR ((nx + 7) % 8) * 128 + 128 then NB ((nx + 7) % 8 * 128 + (j - RR ((nx + 7) % 8) * 128)) else NU j), zI g hs 5 (ups SZ (RR ((nx + 7) % 8)) (RS ((nx + 7) % 8))), (b, .inr (2, [.ref bn, .ref br, .ref bs, .ref bf, .ref be, .int (iI ((nx + 7) % 8)), .int (iI (dp - 1))])), zI g bn 1024 NB, zI g br 8 RR, zI g bs 8 RS, zI g bf 8 RF, zI g be 8 RE]) := by
  refine z_entE (cc := cX5_undo) (nL := 1) (ret := (some .int)) (own := RX5) (by decide) rfl rfl (Nat.le_of_ble_eq_true rfl) ?_
  intro p e s m below meth c Q ls A C hlk hr hQ hP hK hD hA hS hl
  have hx := C.1
  have hb := C.2.1
  have hl : lv_has ls 1 [(0, .ref o)] := hl
  obtain ⟨H, hHe⟩ : ∃ H, H = s.heap := ⟨_, rfl⟩
  obtain ⟨locs, hLe⟩ : ∃ q : List Loc, q = [] := ⟨_, rfl⟩
  have hP : zP g [(o, .inr (5, [.ref h, .ref b, .ref im, .ref a, .ref d, .ref bb, .int (iI fr)])), (h, .inr (4, [.ref hn, .ref hs, .int (iI fl), .int (iI re)])), zI g hn 640 NU, zI g hs 5 SZ, (b, .inr (2, [.ref bn, .ref br, .ref bs, .ref bf, .ref be, .int (iI nx), .int (iI dp)])), zI g bn 1024 NB, zI g br 8 RR, zI g bs 8 RS, zI g bf 8 RF, zI g be 8 RE] H := by rw [hHe]; exact hP
  have hS : va_S A s.heap H locs := by rw [hHe, hLe]; exact hS
  suffices hgo : W p l e ({ frames := 3, cells := 0, slots := 0, locals := 105 }) s m ([.ref o] : List Value).toArray below meth c H locs 0 0 Q (F0 m 0 ls []) by rw [hHe, hLe] at hgo; exact hgo
  clear hHe hLe
  refine lv_aload_n hx hb dX5_undo_0 rfl (lv_at hl 0 rfl) ?_
  refine z_get (v := .ref b) (Cn := RX5) (T := TX5) (N := 7) (ci := 5) C in_m_X5_undo_X5 hK hP 0 rfl rfl 1 (by decide) (List.mem_of_getElem? (i := 1) rfl) rfl dX5_undo_1 ?_
  refine z_cS (As := []) (rest := []) C (m_X2_depth (l := l) (g := g) (b := b) (bn := bn) (br := br) (bs := bs) (bf := bf) (be := be) (nx := nx) (dp := dp) ) (cwV 0 C.2.2.2.2 gX5_undo_X2_depth rfl rfl rfl (by decide +kernel) ⟨Nat.le_of_ble_eq_true rfl, Nat.le_of_ble_eq_true rfl⟩) hK hP [4] rfl 4 rfl rfl rfl hl.1 rfl (Nat.le_of_ble_eq_true rfl) dX5_undo_4 ⟨Nat.zero_le _, Nat.zero_le _⟩ ?_
  refine z_if_ne (tgt := 13) hx hb dX5_undo_7 (by decide) (by omega) (fun c_1 => ?_) (fun c_1 => ?_)
  · refine lv_aload_n hx hb dX5_undo_13 rfl (lv_at hl 0 rfl) ?_
    refine z_get (v := .ref b) (Cn := RX5) (T := TX5) (N := 7) (ci := 5) C in_m_X5_undo_X5 hK hP 0 rfl rfl 1 (by decide) (List.mem_of_getElem? (i := 1) rfl) rfl dX5_undo_14 ?_
    refine lv_aload_n hx hb dX5_undo_17 rfl (lv_at hl 0 rfl) ?_
    refine z_get (v := .ref h) (Cn := RX5) (T := TX5) (N := 7) (ci := 5) C in_m_X5_undo_X5 hK hP 0 rfl rfl 0 (by decide) (List.mem_of_getElem? (i := 3) rfl) rfl dX5_undo_18 ?_
    refine z_cV (As := [.ref h]) (rest := []) C (m_X2_restoreLatest (l := l) (g := g) (b := b) (bn := bn) (br := br) (bs := bs) (bf := bf) (be := be) (nx := nx) (dp := dp) (NB := NB) (RR := RR) (RS := RS) (RF := RF) (RE := RE) (h := h) (hn := hn) (hs := hs) (NU := NU) (SZ := SZ) (fl := fl) (re := re) (h3 := by omega) (h4 := by omega) (h5 := by omega) (h6 := by omega) (h7 := by omega) (h8 := by omega)) (cwV 1 C.2.2.2.2 gX5_undo_X2_restoreLatest rfl rfl rfl (by decide +kernel) ⟨Nat.le_of_ble_eq_true rfl, Nat.le_of_ble_eq_true rfl⟩) hK hP hD hS hA [4, 5, 6, 7, 8, 9, 1, 2, 3] (by decide) rfl (fun _ => rfl) 4 rfl rfl rfl hl.1 rfl (Nat.le_of_ble_eq_true rfl) dX5_undo_21 ⟨Nat.zero_le _, Nat.zero_le _⟩ (fun u_2 H locs hq_3 hP hD hS => ?_)
    have hP : zP g [(o, .inr (5, [.ref h, .ref b, .ref im, .ref a, .ref d, .ref bb, .int (iI fr)])), (h, .inr (4, [.ref hn, .ref hs, .int (iI (RF ((nx + 7) % 8))), .int (iI (RE ((nx + 7) % 8)))])), zI g hn 640 (fun j => if RR ((nx + 7) % 8) * 128 ≤ j ∧ j < RR ((nx + 7) % 8) * 128 + 128 then NB ((nx + 7) % 8 * 128 + (j - RR ((nx + 7) % 8) * 128)) else NU j), zI g hs 5 (ups SZ (RR ((nx + 7) % 8)) (RS ((nx + 7) % 8))), (b, .inr (2, [.ref bn, .ref br, .ref bs, .ref bf, .ref be, .int (iI ((nx + 7) % 8)), .int (iI (dp - 1))])), zI g bn 1024 NB, zI g br 8 RR, zI g bs 8 RS, zI g bf 8 RF, zI g be 8 RE] H := hP
    have hD : va_D A [(o, .inr (5, [.ref h, .ref b, .ref im, .ref a, .ref d, .ref bb, .int (iI fr)])), (h, .inr (4, [.ref hn, .ref hs, .int (iI (RF ((nx + 7) % 8))), .int (iI (RE ((nx + 7) % 8)))])), zI g hn 640 (fun j => if RR ((nx + 7) % 8) * 128 ≤ j ∧ j < RR ((nx + 7) % 8) * 128 + 128 then NB ((nx + 7) % 8 * 128 + (j - RR ((nx + 7) % 8) * 128)) else NU j), zI g hs 5 (ups SZ (RR ((nx + 7) % 8)) (RS ((nx + 7) % 8))), (b, .inr (2, [.ref bn, .ref br, .ref bs, .ref bf, .ref be, .int (iI ((nx + 7) % 8)), .int (iI (dp - 1))])), zI g bn 1024 NB, zI g br 8 RR, zI g bs 8 RS, zI g bf 8 RF, zI g be 8 RE] := hD
    refine lv_aload_n hx hb dX5_undo_24 rfl (lv_at hl 0 rfl) ?_
    refine lv_iconst (v := iI 0) hx hb dX5_undo_25 rfl ?_
    refine z_put (v := .int (iI 0)) (Cn := RX5) (T := TX5) (N := 7) (ci := 5) C in_m_X5_undo_X5 tyX5 tyX5_ok nmX5 hK hP hD hS 0 rfl rfl 6 (by decide) (List.mem_of_getElem? (i := 4) rfl) rfl (by decide +kernel) (by decide +kernel) (Nat.le_of_ble_eq_true rfl) dX5_undo_26 (fun H locs hP hD hS => ?_)
    have hP : zP g [(o, .inr (5, [.ref h, .ref b, .ref im, .ref a, .ref d, .ref bb, .int (iI 0)])), (h, .inr (4, [.ref hn, .ref hs, .int (iI (RF ((nx + 7) % 8))), .int (iI (RE ((nx + 7) % 8)))])), zI g hn 640 (fun j => if RR ((nx + 7) % 8) * 128 ≤ j ∧ j < RR ((nx + 7) % 8) * 128 + 128 then NB ((nx + 7) % 8 * 128 + (j - RR ((nx + 7) % 8) * 128)) else NU j), zI g hs 5 (ups SZ (RR ((nx + 7) % 8)) (RS ((nx + 7) % 8))), (b, .inr (2, [.ref bn, .ref br, .ref bs, .ref bf, .ref be, .int (iI ((nx + 7) % 8)), .int (iI (dp - 1))])), zI g bn 1024 NB, zI g br 8 RR, zI g bs 8 RS, zI g bf 8 RF, zI g be 8 RE] H := hP
    have hD : va_D A [(o, .inr (5, [.ref h, .ref b, .ref im, .ref a, .ref d, .ref bb, .int (iI 0)])), (h, .inr (4, [.ref hn, .ref hs, .int (iI (RF ((nx + 7) % 8))), .int (iI (RE ((nx + 7) % 8)))])), zI g hn 640 (fun j => if RR ((nx + 7) % 8) * 128 ≤ j ∧ j < RR ((nx + 7) % 8) * 128 + 128 then NB ((nx + 7) % 8 * 128 + (j - RR ((nx + 7) % 8) * 128)) else NU j), zI g hs 5 (ups SZ (RR ((nx + 7) % 8)) (RS ((nx + 7) % 8))), (b, .inr (2, [.ref bn, .ref br, .ref bs, .ref bf, .ref be, .int (iI ((nx + 7) % 8)), .int (iI (dp - 1))])), zI g bn 1024 NB, zI g br 8 RR, zI g bs 8 RS, zI g bf 8 RF, zI g be 8 RE] := hD
    refine lv_aload_n hx hb dX5_undo_29 rfl (lv_at hl 0 rfl) ?_
    refine z_get (v := .ref b) (Cn := RX5) (T := TX5) (N := 7) (ci := 5) C in_m_X5_undo_X5 hK hP 0 rfl rfl 1 (by decide) (List.mem_of_getElem? (i := 1) rfl) rfl dX5_undo_30 ?_
    refine z_cS (As := []) (rest := []) C (m_X2_depth (l := l) (g := g) (b := b) (bn := bn) (br := br) (bs := bs) (bf := bf) (be := be) (nx := (nx + 7) % 8) (dp := dp - 1) ) (cwV 0 C.2.2.2.2 gX5_undo_X2_depth rfl rfl rfl (by decide +kernel) ⟨Nat.le_of_ble_eq_true rfl, Nat.le_of_ble_eq_true rfl⟩) hK hP [4] rfl 4 rfl rfl rfl hl.1 rfl (Nat.le_of_ble_eq_true rfl) dX5_undo_33 ⟨Nat.zero_le _, Nat.zero_le _⟩ ?_
    exact z_retE hx hb hlk hr hQ dX5_undo_36 hS () (rfl) (hP)
  · exfalso; omega
set_option maxRecDepth 20000 in
theorem in_m_X5_undo_n_X5 : ∀ w ∈ u_ws RX5 TX5 7, w ∈ wsX5_undo := zmem_of _ [42, 43, 44, 45, 46, 47, 48] (by decide +kernel)
set_option maxHeartbeats 4000000 in
set_option maxRecDepth 100000 in
theorem m_X5_undo_n (l : Launch) (g : zG) (o h b im a d bb : Nat) (fr : Int) (bn br bs bf be : Nat) (nx dp : Int) (h5 : dp = 0) : zS l yX5_undo wsX5_undo ({ frames := 1, cells := 0, slots := 0, locals := 20 }) g [.ref o] [(o, .inr (5, [.ref h, .ref b, .ref im, .ref a, .ref d, .ref bb, .int (iI fr)])), (b, .inr (2, [.ref bn, .ref br, .ref bs, .ref bf, .ref be, .int (iI nx), .int (iI dp)]))] (-1000000003) := by
  refine z_entS (cc := cX5_undo) (nL := 1) (ret := (some .int)) (own := RX5) (by decide) rfl rfl (Nat.le_of_ble_eq_true rfl) ?_
  intro p e s m below meth c Q ls C hlk hr hQ hP hK hl
  have hx := C.1
  have hb := C.2.1
  have hl : lv_has ls 1 [(0, .ref o)] := hl
  refine lv_aload_n hx hb dX5_undo_0 rfl (lv_at hl 0 rfl) ?_
  refine z_get (v := .ref b) (Cn := RX5) (T := TX5) (N := 7) (ci := 5) C in_m_X5_undo_n_X5 hK hP 0 rfl rfl 1 (by decide) (List.mem_of_getElem? (i := 1) rfl) rfl dX5_undo_1 ?_
  refine z_cS (As := []) (rest := []) C (m_X2_depth (l := l) (g := g) (b := b) (bn := bn) (br := br) (bs := bs) (bf := bf) (be := be) (nx := nx) (dp := dp) ) (cwV 0 C.2.2.2.2 gX5_undo_X2_depth rfl rfl rfl (by decide +kernel) ⟨Nat.le_of_ble_eq_true rfl, Nat.le_of_ble_eq_true rfl⟩) hK hP [1] rfl 1 rfl rfl rfl hl.1 rfl (Nat.le_of_ble_eq_true rfl) dX5_undo_4 ⟨Nat.zero_le _, Nat.zero_le _⟩ ?_
  refine z_if_ne (tgt := 13) hx hb dX5_undo_7 (by decide) (by omega) (fun c_1 => ?_) (fun c_1 => ?_)
  · exfalso; omega
  · refine z_ldc C (List.mem_of_getElem? (i := 2) rfl) (-1000000003) (by decide +kernel) dX5_undo_10 ?_
    exact z_retS hx hb hlk hr hQ dX5_undo_12 (rfl)
set_option maxRecDepth 20000 in
theorem in_m_X5_goBack_X5 : ∀ w ∈ u_ws RX5 TX5 7, w ∈ wsX5_goBack := zmem_of _ [30, 31, 32, 33, 34, 35, 36] (by decide +kernel)
set_option maxHeartbeats 4000000 in
set_option maxRecDepth 100000 in
theorem m_X5_goBack (l : Launch) (g : zG) (o h b im a d bb : Nat) (fr : Int) (hn hs : Nat) (NU SZ : Int → Int) (fl re : Int) (bn br bs bf be : Nat) (nx dp : Int) (IM : Nat → Option Nat) (k kn ks : Nat) (NV SV : Int → Int) (fm rm : Int) (i_ : Int) (a1 : 0 ≤ i_ ∧ i_ ≤ 1) (hk : IM i_.toNat = some k) : zE l yX5_goBack wsX5_goBack ({ frames := 2, cells := 0, slots := 0, locals := 81 }) g [.ref o, .int (iI i_)] [(o, .inr (5, [.ref h, .ref b, .ref im, .ref a, .ref d, .ref bb, .int (iI fr)])), (h, .inr (4, [.ref hn, .ref hs, .int (iI fl), .int (iI re)])), zI g hn 640 NU, zI g hs 5 SZ, (b, .inr (2, [.ref bn, .ref br, .ref bs, .ref bf, .ref be, .int (iI nx), .int (iI dp)])), zQ g im 2 IM, (k, .inr (4, [.ref kn, .ref ks, .int (iI fm), .int (iI rm)])), zI g kn 640 NV, zI g ks 5 SV] (S := Unit) (fun r _ => r = 1) (fun _ => [(o, .inr (5, [.ref h, .ref b, .ref im, .ref a, .ref d, .ref bb, .int (iI 0)])), (h, .inr (4, [.ref hn, .ref hs, .int (iI fm), .int (iI rm)])), zI g hn 640 NV, zI g hs 5 SV, (b, .inr (2, [.ref bn, .ref br, .ref bs, .ref bf, .ref be, .int (iI nx), .int (iI 0)])), zQ g im 2 IM, (k, .inr (4, [.ref kn, .ref ks, .int (iI fm), .int (iI rm)])), zI g kn 640 NV, zI g ks 5 SV]) := by
  refine z_entE (cc := cX5_goBack) (nL := 3) (ret := (some .int)) (own := RX5) (by decide) rfl rfl (Nat.le_of_ble_eq_true rfl) ?_
  intro p e s m below meth c Q ls A C hlk hr hQ hP hK hD hA hS hl
  have hx := C.1
  have hb := C.2.1
  have hl : lv_has ls 3 [(0, .ref o), (1, .int (iI i_))] := hl
  obtain ⟨H, hHe⟩ : ∃ H, H = s.heap := ⟨_, rfl⟩
  obtain ⟨locs, hLe⟩ : ∃ q : List Loc, q = [] := ⟨_, rfl⟩
  have hP : zP g [(o, .inr (5, [.ref h, .ref b, .ref im, .ref a, .ref d, .ref bb, .int (iI fr)])), (h, .inr (4, [.ref hn, .ref hs, .int (iI fl), .int (iI re)])), zI g hn 640 NU, zI g hs 5 SZ, (b, .inr (2, [.ref bn, .ref br, .ref bs, .ref bf, .ref be, .int (iI nx), .int (iI dp)])), zQ g im 2 IM, (k, .inr (4, [.ref kn, .ref ks, .int (iI fm), .int (iI rm)])), zI g kn 640 NV, zI g ks 5 SV] H := by rw [hHe]; exact hP
  have hS : va_S A s.heap H locs := by rw [hHe, hLe]; exact hS
  suffices hgo : W p l e ({ frames := 2, cells := 0, slots := 0, locals := 81 }) s m ([.ref o, .int (iI i_)] : List Value).toArray below meth c H locs 0 0 Q (F0 m 0 ls []) by rw [hHe, hLe] at hgo; exact hgo
  clear hHe hLe
  refine lv_iload_n hx hb dX5_goBack_0 rfl (lv_at hl 1 rfl) ?_
  refine lv_iconst (v := iI 0) hx hb dX5_goBack_1 rfl ?_
  refine lv_iconst (v := iI 1) hx hb dX5_goBack_2 rfl ?_
  refine z_cSS (As := [.int (iI i_), .int (iI 0), .int (iI 1)]) (rest := []) C (m_X5_isWithin (l := l) (g := g) (v := i_) (lo := 0) (hi := 1) (g_v := by omega) (g_lo := by omega) (g_hi := by omega)) (cwS 3 C.2.2.2.2 gX5_goBack_X5_isWithin rfl rfl rfl (by decide +kernel) ⟨Nat.le_of_ble_eq_true rfl, Nat.le_of_ble_eq_true rfl⟩) hK hP [] rfl rfl hl.1 rfl (Nat.le_of_ble_eq_true rfl) dX5_goBack_3 ⟨Nat.zero_le _, Nat.zero_le _⟩ ?_
  refine z_ifb_ne (tgt := 12) hx hb dX5_goBack_6 (by decide) (fun c_1 => ?_) (fun c_1 => ?_)
  · refine lv_aload_n hx hb dX5_goBack_12 rfl (lv_at hl 0 rfl) ?_
    refine z_get (v := .ref im) (Cn := RX5) (T := TX5) (N := 7) (ci := 5) C in_m_X5_goBack_X5 hK hP 0 rfl rfl 2 (by decide) (List.mem_of_getElem? (i := 2) rfl) rfl dX5_goBack_13 ?_
    refine lv_iload_n hx hb dX5_goBack_16 rfl (lv_at hl 1 rfl) ?_
    refine z_aald (r := some k) hx hb hK hP 5 rfl (by omega) (by omega) (Nat.le_of_ble_eq_true rfl) (hk) dX5_goBack_17 ?_
    refine lv_astore_n (lv' := [(2, .ref k), (0, .ref o), (1, .int (iI i_))]) hx hb dX5_goBack_18 rfl hl (by decide) rfl (fun ls hl => ?_)
    refine lv_aload_n hx hb dX5_goBack_19 rfl (lv_at hl 0 rfl) ?_
    refine lv_ifnonnull (tgt := 26) hx hb dX5_goBack_20 (by decide) ?_
    refine lv_aload_n hx hb dX5_goBack_26 rfl (lv_at hl 1 rfl) ?_
    refine z_get (v := .ref h) (Cn := RX5) (T := TX5) (N := 7) (ci := 5) C in_m_X5_goBack_X5 hK hP 0 rfl rfl 0 (by decide) (List.mem_of_getElem? (i := 4) rfl) rfl dX5_goBack_27 ?_
    refine lv_aload_n hx hb dX5_goBack_30 rfl (lv_at hl 0 rfl) ?_
    refine z_cV (As := [.ref k]) (rest := []) C (m_X4_become (l := l) (g := g) (h := h) (hn := hn) (hs := hs) (NU := NU) (SZ := SZ) (fl := fl) (re := re) (k := k) (kn := kn) (ks := ks) (NV := NV) (SV := SV) (fm := fm) (rm := rm) ) (cwV 1 C.2.2.2.2 gX5_goBack_X4_become rfl rfl rfl (by decide +kernel) ⟨Nat.le_of_ble_eq_true rfl, Nat.le_of_ble_eq_true rfl⟩) hK hP hD hS hA [1, 2, 3, 6, 7, 8] (by decide) rfl (fun _ => rfl) 1 rfl rfl rfl hl.1 rfl (Nat.le_of_ble_eq_true rfl) dX5_goBack_31 ⟨Nat.zero_le _, Nat.zero_le _⟩ (fun u_2 H locs hq_3 hP hD hS => ?_)
    have hP : zP g [(o, .inr (5, [.ref h, .ref b, .ref im, .ref a, .ref d, .ref bb, .int (iI fr)])), (h, .inr (4, [.ref hn, .ref hs, .int (iI fm), .int (iI rm)])), zI g hn 640 NV, zI g hs 5 SV, (b, .inr (2, [.ref bn, .ref br, .ref bs, .ref bf, .ref be, .int (iI nx), .int (iI dp)])), zQ g im 2 IM, (k, .inr (4, [.ref kn, .ref ks, .int (iI fm), .int (iI rm)])), zI g kn 640 NV, zI g ks 5 SV] H := hP
    have hD : va_D A [(o, .inr (5, [.ref h, .ref b, .ref im, .ref a, .ref d, .ref bb, .int (iI fr)])), (h, .inr (4, [.ref hn, .ref hs, .int (iI fm), .int (iI rm)])), zI g hn 640 NV, zI g hs 5 SV, (b, .inr (2, [.ref bn, .ref br, .ref bs, .ref bf, .ref be, .int (iI nx), .int (iI dp)])), zQ g im 2 IM, (k, .inr (4, [.ref kn, .ref ks, .int (iI fm), .int (iI rm)])), zI g kn 640 NV, zI g ks 5 SV] := hD
    refine lv_aload_n hx hb dX5_goBack_34 rfl (lv_at hl 1 rfl) ?_
    refine z_get (v := .ref b) (Cn := RX5) (T := TX5) (N := 7) (ci := 5) C in_m_X5_goBack_X5 hK hP 0 rfl rfl 1 (by decide) (List.mem_of_getElem? (i := 5) rfl) rfl dX5_goBack_35 ?_
    refine z_cV (As := []) (rest := []) C (m_X2_forget (l := l) (g := g) (b := b) (bn := bn) (br := br) (bs := bs) (bf := bf) (be := be) (nx := nx) (dp := dp) ) (cwV 0 C.2.2.2.2 gX5_goBack_X2_forget rfl rfl rfl (by decide +kernel) ⟨Nat.le_of_ble_eq_true rfl, Nat.le_of_ble_eq_true rfl⟩) hK hP hD hS hA [4] (by decide) rfl (fun _ => rfl) 4 rfl rfl rfl hl.1 rfl (Nat.le_of_ble_eq_true rfl) dX5_goBack_38 ⟨Nat.zero_le _, Nat.zero_le _⟩ (fun u_4 H locs hq_5 hP hD hS => ?_)
    have hP : zP g [(o, .inr (5, [.ref h, .ref b, .ref im, .ref a, .ref d, .ref bb, .int (iI fr)])), (h, .inr (4, [.ref hn, .ref hs, .int (iI fm), .int (iI rm)])), zI g hn 640 NV, zI g hs 5 SV, (b, .inr (2, [.ref bn, .ref br, .ref bs, .ref bf, .ref be, .int (iI nx), .int (iI 0)])), zQ g im 2 IM, (k, .inr (4, [.ref kn, .ref ks, .int (iI fm), .int (iI rm)])), zI g kn 640 NV, zI g ks 5 SV] H := hP
    have hD : va_D A [(o, .inr (5, [.ref h, .ref b, .ref im, .ref a, .ref d, .ref bb, .int (iI fr)])), (h, .inr (4, [.ref hn, .ref hs, .int (iI fm), .int (iI rm)])), zI g hn 640 NV, zI g hs 5 SV, (b, .inr (2, [.ref bn, .ref br, .ref bs, .ref bf, .ref be, .int (iI nx), .int (iI 0)])), zQ g im 2 IM, (k, .inr (4, [.ref kn, .ref ks, .int (iI fm), .int (iI rm)])), zI g kn 640 NV, zI g ks 5 SV] := hD
    refine lv_aload_n hx hb dX5_goBack_41 rfl (lv_at hl 1 rfl) ?_
    refine lv_iconst (v := iI 0) hx hb dX5_goBack_42 rfl ?_
    refine z_put (v := .int (iI 0)) (Cn := RX5) (T := TX5) (N := 7) (ci := 5) C in_m_X5_goBack_X5 tyX5 tyX5_ok nmX5 hK hP hD hS 0 rfl rfl 6 (by decide) (List.mem_of_getElem? (i := 6) rfl) rfl (by decide +kernel) (by decide +kernel) (Nat.le_of_ble_eq_true rfl) dX5_goBack_43 (fun H locs hP hD hS => ?_)
    have hP : zP g [(o, .inr (5, [.ref h, .ref b, .ref im, .ref a, .ref d, .ref bb, .int (iI 0)])), (h, .inr (4, [.ref hn, .ref hs, .int (iI fm), .int (iI rm)])), zI g hn 640 NV, zI g hs 5 SV, (b, .inr (2, [.ref bn, .ref br, .ref bs, .ref bf, .ref be, .int (iI nx), .int (iI 0)])), zQ g im 2 IM, (k, .inr (4, [.ref kn, .ref ks, .int (iI fm), .int (iI rm)])), zI g kn 640 NV, zI g ks 5 SV] H := hP
    have hD : va_D A [(o, .inr (5, [.ref h, .ref b, .ref im, .ref a, .ref d, .ref bb, .int (iI 0)])), (h, .inr (4, [.ref hn, .ref hs, .int (iI fm), .int (iI rm)])), zI g hn 640 NV, zI g hs 5 SV, (b, .inr (2, [.ref bn, .ref br, .ref bs, .ref bf, .ref be, .int (iI nx), .int (iI 0)])), zQ g im 2 IM, (k, .inr (4, [.ref kn, .ref ks, .int (iI fm), .int (iI rm)])), zI g kn 640 NV, zI g ks 5 SV] := hD
    refine lv_iconst (v := iI 1) hx hb dX5_goBack_46 rfl ?_
    exact z_retE hx hb hlk hr hQ dX5_goBack_47 hS () (rfl) (hP)
  · exfalso; omega
set_option maxRecDepth 20000 in
theorem in_m_X5_keep_X5 : ∀ w ∈ u_ws RX5 TX5 7, w ∈ wsX5_keep := zmem_of _ [37, 38, 39, 40, 41, 42, 43] (by decide +kernel)
set_option maxHeartbeats 4000000 in
set_option maxRecDepth 100000 in
theorem m_X5_keep (l : Launch) (g : zG) (o h b im a d bb : Nat) (fr : Int) (hn hs : Nat) (NU SZ : Int → Int) (fl re : Int) (bn br bs bf be : Nat) (nx dp : Int) (IM : Nat → Option Nat) (k kn ks : Nat) (NV SV : Int → Int) (fm rm : Int) (i_ : Int) (a1 : 0 ≤ i_ ∧ i_ ≤ 1) (hk : IM i_.toNat = some k) : zE l yX5_keep wsX5_keep ({ frames := 2, cells := 0, slots := 0, locals := 81 }) g [.ref o, .int (iI i_)] [(o, .inr (5, [.ref h, .ref b, .ref im, .ref a, .ref d, .ref bb, .int (iI fr)])), (h, .inr (4, [.ref hn, .ref hs, .int (iI fl), .int (iI re)])), zI g hn 640 NU, zI g hs 5 SZ, (b, .inr (2, [.ref bn, .ref br, .ref bs, .ref bf, .ref be, .int (iI nx), .int (iI dp)])), zQ g im 2 IM, (k, .inr (4, [.ref kn, .ref ks, .int (iI fm), .int (iI rm)])), zI g kn 640 NV, zI g ks 5 SV] (S := Unit) (fun r _ => r = 1) (fun _ => [(o, .inr (5, [.ref h, .ref b, .ref im, .ref a, .ref d, .ref bb, .int (iI fr)])), (h, .inr (4, [.ref hn, .ref hs, .int (iI fl), .int (iI re)])), zI g hn 640 NU, zI g hs 5 SZ, (b, .inr (2, [.ref bn, .ref br, .ref bs, .ref bf, .ref be, .int (iI nx), .int (iI 0)])), zQ g im 2 IM, (k, .inr (4, [.ref kn, .ref ks, .int (iI fl), .int (iI re)])), zI g kn 640 NU, zI g ks 5 SZ]) := by
  refine z_entE (cc := cX5_keep) (nL := 3) (ret := (some .int)) (own := RX5) (by decide) rfl rfl (Nat.le_of_ble_eq_true rfl) ?_
  intro p e s m below meth c Q ls A C hlk hr hQ hP hK hD hA hS hl
  have hx := C.1
  have hb := C.2.1
  have hl : lv_has ls 3 [(0, .ref o), (1, .int (iI i_))] := hl
  obtain ⟨H, hHe⟩ : ∃ H, H = s.heap := ⟨_, rfl⟩
  obtain ⟨locs, hLe⟩ : ∃ q : List Loc, q = [] := ⟨_, rfl⟩
  have hP : zP g [(o, .inr (5, [.ref h, .ref b, .ref im, .ref a, .ref d, .ref bb, .int (iI fr)])), (h, .inr (4, [.ref hn, .ref hs, .int (iI fl), .int (iI re)])), zI g hn 640 NU, zI g hs 5 SZ, (b, .inr (2, [.ref bn, .ref br, .ref bs, .ref bf, .ref be, .int (iI nx), .int (iI dp)])), zQ g im 2 IM, (k, .inr (4, [.ref kn, .ref ks, .int (iI fm), .int (iI rm)])), zI g kn 640 NV, zI g ks 5 SV] H := by rw [hHe]; exact hP
  have hS : va_S A s.heap H locs := by rw [hHe, hLe]; exact hS
  suffices hgo : W p l e ({ frames := 2, cells := 0, slots := 0, locals := 81 }) s m ([.ref o, .int (iI i_)] : List Value).toArray below meth c H locs 0 0 Q (F0 m 0 ls []) by rw [hHe, hLe] at hgo; exact hgo
  clear hHe hLe
  refine lv_iload_n hx hb dX5_keep_0 rfl (lv_at hl 1 rfl) ?_
  refine lv_iconst (v := iI 0) hx hb dX5_keep_1 rfl ?_
  refine lv_iconst (v := iI 1) hx hb dX5_keep_2 rfl ?_
  refine z_cSS (As := [.int (iI i_), .int (iI 0), .int (iI 1)]) (rest := []) C (m_X5_isWithin (l := l) (g := g) (v := i_) (lo := 0) (hi := 1) (g_v := by omega) (g_lo := by omega) (g_hi := by omega)) (cwS 3 C.2.2.2.2 gX5_keep_X5_isWithin rfl rfl rfl (by decide +kernel) ⟨Nat.le_of_ble_eq_true rfl, Nat.le_of_ble_eq_true rfl⟩) hK hP [] rfl rfl hl.1 rfl (Nat.le_of_ble_eq_true rfl) dX5_keep_3 ⟨Nat.zero_le _, Nat.zero_le _⟩ ?_
  refine z_ifb_ne (tgt := 12) hx hb dX5_keep_6 (by decide) (fun c_1 => ?_) (fun c_1 => ?_)
  · refine lv_aload_n hx hb dX5_keep_12 rfl (lv_at hl 0 rfl) ?_
    refine z_get (v := .ref im) (Cn := RX5) (T := TX5) (N := 7) (ci := 5) C in_m_X5_keep_X5 hK hP 0 rfl rfl 2 (by decide) (List.mem_of_getElem? (i := 2) rfl) rfl dX5_keep_13 ?_
    refine lv_iload_n hx hb dX5_keep_16 rfl (lv_at hl 1 rfl) ?_
    refine z_aald (r := some k) hx hb hK hP 5 rfl (by omega) (by omega) (Nat.le_of_ble_eq_true rfl) (hk) dX5_keep_17 ?_
    refine lv_astore_n (lv' := [(2, .ref k), (0, .ref o), (1, .int (iI i_))]) hx hb dX5_keep_18 rfl hl (by decide) rfl (fun ls hl => ?_)
    refine lv_aload_n hx hb dX5_keep_19 rfl (lv_at hl 0 rfl) ?_
    refine lv_ifnonnull (tgt := 38) hx hb dX5_keep_20 (by decide) ?_
    refine lv_aload_n hx hb dX5_keep_38 rfl (lv_at hl 0 rfl) ?_
    refine lv_aload_n hx hb dX5_keep_39 rfl (lv_at hl 1 rfl) ?_
    refine z_get (v := .ref h) (Cn := RX5) (T := TX5) (N := 7) (ci := 5) C in_m_X5_keep_X5 hK hP 0 rfl rfl 0 (by decide) (List.mem_of_getElem? (i := 6) rfl) rfl dX5_keep_40 ?_
    refine z_cV (As := [.ref h]) (rest := []) C (m_X4_become (l := l) (g := g) (h := k) (hn := kn) (hs := ks) (NU := NV) (SZ := SV) (fl := fm) (re := rm) (k := h) (kn := hn) (ks := hs) (NV := NU) (SV := SZ) (fm := fl) (rm := re) ) (cwV 1 C.2.2.2.2 gX5_keep_X4_become rfl rfl rfl (by decide +kernel) ⟨Nat.le_of_ble_eq_true rfl, Nat.le_of_ble_eq_true rfl⟩) hK hP hD hS hA [6, 7, 8, 1, 2, 3] (by decide) rfl (fun _ => rfl) 6 rfl rfl rfl hl.1 rfl (Nat.le_of_ble_eq_true rfl) dX5_keep_43 ⟨Nat.zero_le _, Nat.zero_le _⟩ (fun u_2 H locs hq_3 hP hD hS => ?_)
    have hP : zP g [(o, .inr (5, [.ref h, .ref b, .ref im, .ref a, .ref d, .ref bb, .int (iI fr)])), (h, .inr (4, [.ref hn, .ref hs, .int (iI fl), .int (iI re)])), zI g hn 640 NU, zI g hs 5 SZ, (b, .inr (2, [.ref bn, .ref br, .ref bs, .ref bf, .ref be, .int (iI nx), .int (iI dp)])), zQ g im 2 IM, (k, .inr (4, [.ref kn, .ref ks, .int (iI fl), .int (iI re)])), zI g kn 640 NU, zI g ks 5 SZ] H := hP
    have hD : va_D A [(o, .inr (5, [.ref h, .ref b, .ref im, .ref a, .ref d, .ref bb, .int (iI fr)])), (h, .inr (4, [.ref hn, .ref hs, .int (iI fl), .int (iI re)])), zI g hn 640 NU, zI g hs 5 SZ, (b, .inr (2, [.ref bn, .ref br, .ref bs, .ref bf, .ref be, .int (iI nx), .int (iI dp)])), zQ g im 2 IM, (k, .inr (4, [.ref kn, .ref ks, .int (iI fl), .int (iI re)])), zI g kn 640 NU, zI g ks 5 SZ] := hD
    refine lv_aload_n hx hb dX5_keep_46 rfl (lv_at hl 1 rfl) ?_
    refine z_get (v := .ref b) (Cn := RX5) (T := TX5) (N := 7) (ci := 5) C in_m_X5_keep_X5 hK hP 0 rfl rfl 1 (by decide) (List.mem_of_getElem? (i := 7) rfl) rfl dX5_keep_47 ?_
    refine z_cV (As := []) (rest := []) C (m_X2_forget (l := l) (g := g) (b := b) (bn := bn) (br := br) (bs := bs) (bf := bf) (be := be) (nx := nx) (dp := dp) ) (cwV 0 C.2.2.2.2 gX5_keep_X2_forget rfl rfl rfl (by decide +kernel) ⟨Nat.le_of_ble_eq_true rfl, Nat.le_of_ble_eq_true rfl⟩) hK hP hD hS hA [4] (by decide) rfl (fun _ => rfl) 4 rfl rfl rfl hl.1 rfl (Nat.le_of_ble_eq_true rfl) dX5_keep_50 ⟨Nat.zero_le _, Nat.zero_le _⟩ (fun u_4 H locs hq_5 hP hD hS => ?_)
    have hP : zP g [(o, .inr (5, [.ref h, .ref b, .ref im, .ref a, .ref d, .ref bb, .int (iI fr)])), (h, .inr (4, [.ref hn, .ref hs, .int (iI fl), .int (iI re)])), zI g hn 640 NU, zI g hs 5 SZ, (b, .inr (2, [.ref bn, .ref br, .ref bs, .ref bf, .ref be, .int (iI nx), .int (iI 0)])), zQ g im 2 IM, (k, .inr (4, [.ref kn, .ref ks, .int (iI fl), .int (iI re)])), zI g kn 640 NU, zI g ks 5 SZ] H := hP
    have hD : va_D A [(o, .inr (5, [.ref h, .ref b, .ref im, .ref a, .ref d, .ref bb, .int (iI fr)])), (h, .inr (4, [.ref hn, .ref hs, .int (iI fl), .int (iI re)])), zI g hn 640 NU, zI g hs 5 SZ, (b, .inr (2, [.ref bn, .ref br, .ref bs, .ref bf, .ref be, .int (iI nx), .int (iI 0)])), zQ g im 2 IM, (k, .inr (4, [.ref kn, .ref ks, .int (iI fl), .int (iI re)])), zI g kn 640 NU, zI g ks 5 SZ] := hD
    refine lv_iconst (v := iI 1) hx hb dX5_keep_53 rfl ?_
    exact z_retE hx hb hlk hr hQ dX5_keep_54 hS () (rfl) (hP)
  · exfalso; omega
set_option maxRecDepth 20000 in
theorem in_m_X5_goBack_n_X5 : ∀ w ∈ u_ws RX5 TX5 7, w ∈ wsX5_goBack := zmem_of _ [30, 31, 32, 33, 34, 35, 36] (by decide +kernel)
set_option maxHeartbeats 4000000 in
set_option maxRecDepth 100000 in
theorem m_X5_goBack_n (l : Launch) (g : zG) (o h b im a d bb : Nat) (fr : Int) (IM : Nat → Option Nat) (i_ : Int) (g_i_ : -2147483648 ≤ i_ ∧ i_ < 2147483648) (rf : (0 ≤ i_ ∧ i_ ≤ 1) → IM i_.toNat = none) : zS l yX5_goBack wsX5_goBack ({ frames := 1, cells := 0, slots := 0, locals := 22 }) g [.ref o, .int (iI i_)] [(o, .inr (5, [.ref h, .ref b, .ref im, .ref a, .ref d, .ref bb, .int (iI fr)])), zQ g im 2 IM] (if ¬ (0 ≤ i_ ∧ i_ ≤ 1) then -1000000001 else -1000000003) := by
  refine z_entS (cc := cX5_goBack) (nL := 3) (ret := (some .int)) (own := RX5) (by decide) rfl rfl (Nat.le_of_ble_eq_true rfl) ?_
  intro p e s m below meth c Q ls C hlk hr hQ hP hK hl
  have hx := C.1
  have hb := C.2.1
  have hl : lv_has ls 3 [(0, .ref o), (1, .int (iI i_))] := hl
  refine lv_iload_n hx hb dX5_goBack_0 rfl (lv_at hl 1 rfl) ?_
  refine lv_iconst (v := iI 0) hx hb dX5_goBack_1 rfl ?_
  refine lv_iconst (v := iI 1) hx hb dX5_goBack_2 rfl ?_
  refine z_cSS (As := [.int (iI i_), .int (iI 0), .int (iI 1)]) (rest := []) C (m_X5_isWithin (l := l) (g := g) (v := i_) (lo := 0) (hi := 1) (g_v := by omega) (g_lo := by omega) (g_hi := by omega)) (cwS 3 C.2.2.2.2 gX5_goBack_X5_isWithin rfl rfl rfl (by decide +kernel) ⟨Nat.le_of_ble_eq_true rfl, Nat.le_of_ble_eq_true rfl⟩) hK hP [] rfl rfl hl.1 rfl (Nat.le_of_ble_eq_true rfl) dX5_goBack_3 ⟨Nat.zero_le _, Nat.zero_le _⟩ ?_
  refine z_ifb_ne (tgt := 12) hx hb dX5_goBack_6 (by decide) (fun c1 => ?_) (fun c1 => ?_)
  · refine lv_aload_n hx hb dX5_goBack_12 rfl (lv_at hl 0 rfl) ?_
    refine z_get (v := .ref im) (Cn := RX5) (T := TX5) (N := 7) (ci := 5) C in_m_X5_goBack_n_X5 hK hP 0 rfl rfl 2 (by decide) (List.mem_of_getElem? (i := 2) rfl) rfl dX5_goBack_13 ?_
    refine lv_iload_n hx hb dX5_goBack_16 rfl (lv_at hl 1 rfl) ?_
    refine z_aald (r := none) hx hb hK hP 1 rfl (by omega) (by omega) (Nat.le_of_ble_eq_true rfl) (rf c1) dX5_goBack_17 ?_
    refine lv_astore_nN (lv' := [(2, .null), (0, .ref o), (1, .int (iI i_))]) hx hb dX5_goBack_18 rfl hl (by decide) rfl (fun ls hl => ?_)
    refine lv_aload_nN hx hb dX5_goBack_19 rfl (lv_at hl 0 rfl) ?_
    refine lv_ifnonnullN hx hb dX5_goBack_20 ?_
    refine z_ldc C (List.mem_of_getElem? (i := 3) rfl) (-1000000003) (by decide +kernel) dX5_goBack_23 ?_
    exact z_retS hx hb hlk hr hQ dX5_goBack_25 ((if_neg (fun z => z c1)).symm)
  · refine z_ldc C (List.mem_of_getElem? (i := 1) rfl) (-1000000001) (by decide +kernel) dX5_goBack_9 ?_
    exact z_retS hx hb hlk hr hQ dX5_goBack_11 ((if_pos c1).symm)
set_option maxHeartbeats 4000000 in
set_option maxRecDepth 100000 in
theorem m_X5_keep_n (l : Launch) (g : zG) (o h b im a d bb : Nat) (fr : Int) (IM : Nat → Option Nat) (i_ : Int) (g_i_ : -2147483648 ≤ i_ ∧ i_ < 2147483648) (rf : ¬ (0 ≤ i_ ∧ i_ ≤ 1)) : zS l yX5_keep wsX5_keep ({ frames := 1, cells := 0, slots := 0, locals := 22 }) g [.ref o, .int (iI i_)] [(o, .inr (5, [.ref h, .ref b, .ref im, .ref a, .ref d, .ref bb, .int (iI fr)])), zQ g im 2 IM] (-1000000001) := by
  refine z_entS (cc := cX5_keep) (nL := 3) (ret := (some .int)) (own := RX5) (by decide) rfl rfl (Nat.le_of_ble_eq_true rfl) ?_
  intro p e s m below meth c Q ls C hlk hr hQ hP hK hl
  have hx := C.1
  have hb := C.2.1
  have hl : lv_has ls 3 [(0, .ref o), (1, .int (iI i_))] := hl
  refine lv_iload_n hx hb dX5_keep_0 rfl (lv_at hl 1 rfl) ?_
  refine lv_iconst (v := iI 0) hx hb dX5_keep_1 rfl ?_
  refine lv_iconst (v := iI 1) hx hb dX5_keep_2 rfl ?_
  refine z_cSS (As := [.int (iI i_), .int (iI 0), .int (iI 1)]) (rest := []) C (m_X5_isWithin (l := l) (g := g) (v := i_) (lo := 0) (hi := 1) (g_v := by omega) (g_lo := by omega) (g_hi := by omega)) (cwS 3 C.2.2.2.2 gX5_keep_X5_isWithin rfl rfl rfl (by decide +kernel) ⟨Nat.le_of_ble_eq_true rfl, Nat.le_of_ble_eq_true rfl⟩) hK hP [] rfl rfl hl.1 rfl (Nat.le_of_ble_eq_true rfl) dX5_keep_3 ⟨Nat.zero_le _, Nat.zero_le _⟩ ?_
  refine z_ifb_ne (tgt := 12) hx hb dX5_keep_6 (by decide) (fun c_1 => ?_) (fun c_1 => ?_)
  · exfalso; omega
  · refine z_ldc C (List.mem_of_getElem? (i := 1) rfl) (-1000000001) (by decide +kernel) dX5_keep_9 ?_
    exact z_retS hx hb hlk hr hQ dX5_keep_11 (rfl)
set_option maxRecDepth 20000 in
theorem in_m_X5_at_X5 : ∀ w ∈ u_ws RX5 TX5 7, w ∈ wsX5_at := zmem_of _ [22, 23, 24, 25, 26, 27, 28] (by decide +kernel)
set_option maxHeartbeats 4000000 in
set_option maxRecDepth 100000 in
theorem m_X5_at (l : Launch) (g : zG) (o h b im a d bb : Nat) (fr : Int) (hn hs : Nat) (N : Int → Int) (pi_ i_ : Int) (zN : okN N) (g_pi_ : -2147483648 ≤ pi_ ∧ pi_ < 2147483648) (g_i_ : -2147483648 ≤ i_ ∧ i_ < 2147483648) : zS l yX5_at wsX5_at ({ frames := 2, cells := 0, slots := 0, locals := 42 }) g [.ref o, .int (iI pi_), .int (iI i_)] [(o, .inr (5, [.ref h, .ref b, .ref im, .ref a, .ref d, .ref bb, .int (iI fr)])), (h, .inr (4, [.ref hn, .ref hs, .int (iI (N 0)), .int (iI (N 1))])), zI g hn 640 (fun x => N (7 + x)), zI g hs 5 (fun x => N (2 + x))] (if ¬ (0 ≤ pi_ ∧ pi_ ≤ 4) then -1000000001 else if 0 ≤ i_ ∧ i_ ≤ N (2 + pi_) - 1 then N (7 + 128 * pi_ + i_) else -1000000002) := by
  refine z_entS (cc := cX5_at) (nL := 3) (ret := (some .int)) (own := RX5) (by decide) rfl rfl (Nat.le_of_ble_eq_true rfl) ?_
  intro p e s m below meth c Q ls C hlk hr hQ hP hK hl
  have hx := C.1
  have hb := C.2.1
  have hl : lv_has ls 3 [(0, .ref o), (1, .int (iI pi_)), (2, .int (iI i_))] := hl
  refine lv_iload_n hx hb dX5_at_0 rfl (lv_at hl 1 rfl) ?_
  refine z_cSS (As := [.int (iI pi_)]) (rest := []) C (m_X5_isRow (l := l) (g := g) (v := pi_) (g_v := by omega)) (cwS 1 C.2.2.2.2 gX5_at_X5_isRow rfl rfl rfl (by decide +kernel) ⟨Nat.le_of_ble_eq_true rfl, Nat.le_of_ble_eq_true rfl⟩) hK hP [] rfl rfl hl.1 rfl (Nat.le_of_ble_eq_true rfl) dX5_at_1 ⟨Nat.zero_le _, Nat.zero_le _⟩ ?_
  refine z_ifb_ne (tgt := 10) hx hb dX5_at_4 (by decide) (fun c1 => ?_) (fun c1 => ?_)
  · have hz1 := zN.2.2.1 pi_ (by omega) (by omega)
    refine lv_iload_n hx hb dX5_at_10 rfl (lv_at hl 2 rfl) ?_
    refine lv_iconst (v := iI 0) hx hb dX5_at_11 rfl ?_
    refine lv_aload_n hx hb dX5_at_12 rfl (lv_at hl 0 rfl) ?_
    refine z_get (v := .ref h) (Cn := RX5) (T := TX5) (N := 7) (ci := 5) C in_m_X5_at_X5 hK hP 0 rfl rfl 0 (by decide) (List.mem_of_getElem? (i := 2) rfl) rfl dX5_at_13 ?_
    refine lv_iload_n hx hb dX5_at_16 rfl (lv_at hl 1 rfl) ?_
    refine z_cS (As := [.int (iI pi_)]) (rest := [.int (iI 0), .int (iI i_)]) C (m_X4_sizeOf (l := l) (g := g) (h := h) (hn := hn) (hs := hs) (fl := N 0) (re := N 1) (SZ := fun x => N (2 + x)) (row := pi_) (h1 := by omega) (h2 := by omega)) (cwV 1 C.2.2.2.2 gX5_at_X4_sizeOf rfl rfl rfl (by decide +kernel) ⟨Nat.le_of_ble_eq_true rfl, Nat.le_of_ble_eq_true rfl⟩) hK hP [1, 3] rfl 1 rfl rfl rfl hl.1 rfl (Nat.le_of_ble_eq_true rfl) dX5_at_17 ⟨Nat.zero_le _, Nat.zero_le _⟩ ?_
    refine z_top (b := N (2 + pi_)) (rfl) ?_
    refine lv_iconst (v := iI 1) hx hb dX5_at_20 rfl ?_
    refine z_isub hx hb dX5_at_21 ?_
    refine z_cSS (As := [.int (iI i_), .int (iI 0), .int (iI ((N (2 + pi_)) - 1))]) (rest := []) C (m_X5_isWithin (l := l) (g := g) (v := i_) (lo := 0) (hi := (N (2 + pi_)) - 1) (g_v := by omega) (g_lo := by omega) (g_hi := by omega)) (cwS 3 C.2.2.2.2 gX5_at_X5_isWithin rfl rfl rfl (by decide +kernel) ⟨Nat.le_of_ble_eq_true rfl, Nat.le_of_ble_eq_true rfl⟩) hK hP [] rfl rfl hl.1 rfl (Nat.le_of_ble_eq_true rfl) dX5_at_22 ⟨Nat.zero_le _, Nat.zero_le _⟩ ?_
    refine z_ifb_ne (tgt := 31) hx hb dX5_at_25 (by decide) (fun c2 => ?_) (fun c2 => ?_)
    · refine lv_aload_n hx hb dX5_at_31 rfl (lv_at hl 0 rfl) ?_
      refine z_get (v := .ref h) (Cn := RX5) (T := TX5) (N := 7) (ci := 5) C in_m_X5_at_X5 hK hP 0 rfl rfl 0 (by decide) (List.mem_of_getElem? (i := 2) rfl) rfl dX5_at_32 ?_
      refine lv_iload_n hx hb dX5_at_35 rfl (lv_at hl 1 rfl) ?_
      refine lv_iload_n hx hb dX5_at_36 rfl (lv_at hl 2 rfl) ?_
      refine z_cS (As := [.int (iI pi_), .int (iI i_)]) (rest := []) C (m_X4_numberAt (l := l) (g := g) (h := h) (hn := hn) (hs := hs) (fl := N 0) (re := N 1) (NU := fun x => N (7 + x)) (row := pi_) (i := i_) (h1 := by omega) (h2 := by omega) (h3 := by omega) (h4 := by omega)) (cwV 2 C.2.2.2.2 gX5_at_X4_numberAt rfl rfl rfl (by decide +kernel) ⟨Nat.le_of_ble_eq_true rfl, Nat.le_of_ble_eq_true rfl⟩) hK hP [1, 2] rfl 1 rfl rfl rfl hl.1 rfl (Nat.le_of_ble_eq_true rfl) dX5_at_37 ⟨Nat.zero_le _, Nat.zero_le _⟩ ?_
      exact z_retS hx hb hlk hr hQ dX5_at_40 (by rw [if_neg (fun z => z c1), if_pos c2]; show N (7 + (pi_ * 128 + i_)) = _; congr 1; omega)
    · refine z_ldc C (List.mem_of_getElem? (i := 3) rfl) (-1000000002) (by decide +kernel) dX5_at_28 ?_
      exact z_retS hx hb hlk hr hQ dX5_at_30 (by rw [if_neg (fun z => z c1), if_neg c2])
  · refine z_ldc C (List.mem_of_getElem? (i := 1) rfl) (-1000000001) (by decide +kernel) dX5_at_7 ?_
    exact z_retS hx hb hlk hr hQ dX5_at_9 ((if_pos c1).symm)
