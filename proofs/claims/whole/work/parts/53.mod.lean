set_option maxRecDepth 20000 in
theorem in_m_X6_turns_X6 : ∀ w ∈ u_ws RX6 TX6 9, w ∈ wsX6_turns := zmem_of _ [8, 9, 10, 11, 12, 13, 14, 15, 16] (by decide +kernel)
set_option maxHeartbeats 4000000 in
set_option maxRecDepth 100000 in
theorem m_X6_turns (l : Launch) (g : zG) (q qn qp qi qk qt qw qv qr : Nat) (ac : Int) (N TU : Int → Int) (pi_ wi : Int) (h1 : 0 ≤ pi_) (h2 : pi_ < 5) (w1 : 0 ≤ wi ∧ wi < 16) : zV l yX6_turns wsX6_turns ({ frames := 1, cells := 0, slots := 0, locals := 22 }) g [.ref q, .int (iI pi_), .int (iI wi)] [(q, .inr (6, [.ref qn, .ref qp, .int (iI ac), .ref qi, .ref qk, .ref qt, .ref qw, .ref qv, .ref qr])), zI g qn 647 N, zI g qt 8 TU] (S := Unit) (fun _ => True) (fun _ => [(q, .inr (6, [.ref qn, .ref qp, .int (iI ac), .ref qi, .ref qk, .ref qt, .ref qw, .ref qv, .ref qr])), zI g qn 647 N, zI g qt 8 (wv (fun i => N (7 + (pi_ * 128 + (wi * 8 + i)))))]) := by
  refine z_entV (cc := cX6_turns) (nL := 7) (ret := none) (own := RX6) (by decide) rfl rfl (Nat.le_of_ble_eq_true rfl) ?_
  intro p e s m below meth c Q ls A C hlk hr hQ hP hK hD hA hS hl
  have hx := C.1
  have hb := C.2.1
  have hl : lv_has ls 7 [(0, .ref q), (1, .int (iI pi_)), (2, .int (iI wi))] := hl
  obtain ⟨H, hHe⟩ : ∃ H, H = s.heap := ⟨_, rfl⟩
  obtain ⟨locs, hLe⟩ : ∃ q : List Loc, q = [] := ⟨_, rfl⟩
  have hP : zP g [(q, .inr (6, [.ref qn, .ref qp, .int (iI ac), .ref qi, .ref qk, .ref qt, .ref qw, .ref qv, .ref qr])), zI g qn 647 N, zI g qt 8 TU] H := by rw [hHe]; exact hP
  have hS : va_S A s.heap H locs := by rw [hHe, hLe]; exact hS
  suffices hgo : W p l e ({ frames := 1, cells := 0, slots := 0, locals := 22 }) s m ([.ref q, .int (iI pi_), .int (iI wi)] : List Value).toArray below meth c H locs 0 0 Q (F0 m 0 ls []) by rw [hHe, hLe] at hgo; exact hgo
  clear hHe hLe
  refine lv_iconst (v := iI 0) hx hb dX6_turns_0 rfl ?_
  refine lv_istore_n (lv' := [(3, .int (iI 0)), (0, .ref q), (1, .int (iI pi_)), (2, .int (iI wi))]) hx hb dX6_turns_1 rfl hl (by decide) rfl (fun ls hl => ?_)
  have L2 : ∀ (n : Nat) (k : Int) (TU : Int → Int), (i1 : 0 ≤ k) → (i2 : k ≤ 8) → (i3 : ∀ j, 0 ≤ j → j < k → TU j = N (7 + (pi_ * 128 + (wi * 8 + j)))) → (hms : 8 - k < (n : Int)) → ∀ (H : Heap) (locs : List Loc) (ls : Array Slot), lv_has ls 7 [(0, .ref q), (1, .int (iI pi_)), (2, .int (iI wi)), (3, .int (iI k))] → zP g [(q, .inr (6, [.ref qn, .ref qp, .int (iI ac), .ref qi, .ref qk, .ref qt, .ref qw, .ref qv, .ref qr])), zI g qn 647 N, zI g qt 8 TU] H → va_D A [(q, .inr (6, [.ref qn, .ref qp, .int (iI ac), .ref qi, .ref qk, .ref qt, .ref qw, .ref qv, .ref qr])), zI g qn 647 N, zI g qt 8 TU] → va_S A s.heap H locs → W p l e ({ frames := 1, cells := 0, slots := 0, locals := 22 }) s m ([.ref q, .int (iI pi_), .int (iI wi)] : List Value).toArray below meth c H locs 0 0 Q (F0 m 2 ls []) := by
    clear hP hD hS hl
    intro n
    induction n with
    | zero =>
      intro k TU i1 i2 i3 hms H locs ls hl hP hD hS
      exfalso; omega
    | succ n ih2 =>
      intro k TU i1 i2 i3 hms H locs ls hl hP hD hS
      refine lv_iload_n hx hb dX6_turns_2 rfl (lv_at hl 3 rfl) ?_
      refine lv_bipush (v := iI 8) hx hb dX6_turns_3 (by decide +kernel) ?_
      refine z_icmp_ge (tgt := 31) hx hb dX6_turns_5 (by decide) (by omega) (by omega) (fun c_1 => ?_) (fun c_1 => ?_)
      · have hP := zP_arr hP 2 (fun i => N (7 + (pi_ * 128 + (wi * 8 + i)))) rfl (fun j g1 g2 => i3 j g1 (by omega))
        have hD := zD_set (c1 := (zI g qt 8 (fun i => N (7 + (pi_ * 128 + (wi * 8 + i))))).2) hD 2 rfl
        have hP : zP g [(q, .inr (6, [.ref qn, .ref qp, .int (iI ac), .ref qi, .ref qk, .ref qt, .ref qw, .ref qv, .ref qr])), zI g qn 647 N, zI g qt 8 (fun i => N (7 + (pi_ * 128 + (wi * 8 + i))))] H := hP
        have hD : va_D A [(q, .inr (6, [.ref qn, .ref qp, .int (iI ac), .ref qi, .ref qk, .ref qt, .ref qw, .ref qv, .ref qr])), zI g qn 647 N, zI g qt 8 (fun i => N (7 + (pi_ * 128 + (wi * 8 + i))))] := hD
        refine lv_iconst (v := iI 1) hx hb dX6_turns_31 rfl ?_
        refine lv_istore_n (lv' := [(3, .int (iI 1)), (0, .ref q), (1, .int (iI pi_)), (2, .int (iI wi))]) hx hb dX6_turns_32 rfl hl (by decide) rfl (fun ls hl => ?_)
        refine lv_iload_n hx hb dX6_turns_33 rfl (lv_at hl 0 rfl) ?_
        refine lv_bipush (v := iI 8) hx hb dX6_turns_34 (by decide +kernel) ?_
        refine z_icmp_ge (tgt := 115) hx hb dX6_turns_36 (by decide) (by omega) (by omega) (fun c_2 => ?_) (fun c_2 => ?_)
        · exfalso; omega
        · refine lv_iconst (v := iI 0) hx hb dX6_turns_39 rfl ?_
          refine lv_istore (lv' := [(4, .int (iI 0)), (3, .int (iI 1)), (0, .ref q), (1, .int (iI pi_)), (2, .int (iI wi))]) hx hb dX6_turns_40 hl (by decide) rfl (fun ls hl => ?_)
          have L42 : ∀ (n : Nat) (k : Int), (i1 : 0 ≤ k) → (i2 : k ≤ 8) → (hms : 8 - k < (n : Int)) → ∀ (H : Heap) (locs : List Loc) (ls : Array Slot), lv_has ls 7 [(0, .ref q), (1, .int (iI pi_)), (2, .int (iI wi)), (3, .int (iI 1)), (4, .int (iI k))] → zP g [(q, .inr (6, [.ref qn, .ref qp, .int (iI ac), .ref qi, .ref qk, .ref qt, .ref qw, .ref qv, .ref qr])), zI g qn 647 N, zI g qt 8 (fp 1 (fun i => N (7 + (pi_ * 128 + (wi * 8 + i)))) k)] H → va_D A [(q, .inr (6, [.ref qn, .ref qp, .int (iI ac), .ref qi, .ref qk, .ref qt, .ref qw, .ref qv, .ref qr])), zI g qn 647 N, zI g qt 8 (fp 1 (fun i => N (7 + (pi_ * 128 + (wi * 8 + i)))) k)] → va_S A s.heap H locs → W p l e ({ frames := 1, cells := 0, slots := 0, locals := 22 }) s m ([.ref q, .int (iI pi_), .int (iI wi)] : List Value).toArray below meth c H locs 0 0 Q (F0 m 42 ls []) := by
            clear hP hD hS hl
            intro n
            induction n with
            | zero =>
              intro k i1 i2 hms H locs ls hl hP hD hS
              exfalso; omega
            | succ n ih42 =>
              intro k i1 i2 hms H locs ls hl hP hD hS
              refine lv_iload hx hb dX6_turns_42 (lv_at hl 4 rfl) ?_
              refine lv_bipush (v := iI 8) hx hb dX6_turns_44 (by decide +kernel) ?_
              refine z_icmp_ge (tgt := 108) hx hb dX6_turns_46 (by decide) (by omega) (by omega) (fun c_3 => ?_) (fun c_3 => ?_)
              · obtain rfl : k = 8 := by omega
                refine lv_iload_n hx hb dX6_turns_108 rfl (lv_at hl 3 rfl) ?_
                refine lv_iconst (v := iI 2) hx hb dX6_turns_109 rfl ?_
                refine z_imul hx hb dX6_turns_110 ?_
                refine z_top (b := 2) (by omega) ?_
                refine lv_istore_n (lv' := [(3, .int (iI 2)), (0, .ref q), (1, .int (iI pi_)), (2, .int (iI wi)), (4, .int (iI 8))]) hx hb dX6_turns_111 rfl hl (by decide) rfl (fun ls hl => ?_)
                refine lv_goto (tgt := 33) hx hb dX6_turns_112 (by decide) ?_
                refine lv_iload_n hx hb dX6_turns_33 rfl (lv_at hl 0 rfl) ?_
                refine lv_bipush (v := iI 8) hx hb dX6_turns_34 (by decide +kernel) ?_
                refine z_icmp_ge (tgt := 115) hx hb dX6_turns_36 (by decide) (by omega) (by omega) (fun c_4 => ?_) (fun c_4 => ?_)
                · exfalso; omega
                · refine lv_iconst (v := iI 0) hx hb dX6_turns_39 rfl ?_
                  refine lv_istore (lv' := [(4, .int (iI 0)), (3, .int (iI 2)), (0, .ref q), (1, .int (iI pi_)), (2, .int (iI wi))]) hx hb dX6_turns_40 hl (by decide) rfl (fun ls hl => ?_)
                  have L42 : ∀ (n : Nat) (k : Int), (i1 : 0 ≤ k) → (i2 : k ≤ 8) → (hms : 8 - k < (n : Int)) → ∀ (H : Heap) (locs : List Loc) (ls : Array Slot), lv_has ls 7 [(0, .ref q), (1, .int (iI pi_)), (2, .int (iI wi)), (3, .int (iI 2)), (4, .int (iI k))] → zP g [(q, .inr (6, [.ref qn, .ref qp, .int (iI ac), .ref qi, .ref qk, .ref qt, .ref qw, .ref qv, .ref qr])), zI g qn 647 N, zI g qt 8 (fp 2 (fp 1 (fun i => N (7 + (pi_ * 128 + (wi * 8 + i)))) 8) k)] H → va_D A [(q, .inr (6, [.ref qn, .ref qp, .int (iI ac), .ref qi, .ref qk, .ref qt, .ref qw, .ref qv, .ref qr])), zI g qn 647 N, zI g qt 8 (fp 2 (fp 1 (fun i => N (7 + (pi_ * 128 + (wi * 8 + i)))) 8) k)] → va_S A s.heap H locs → W p l e ({ frames := 1, cells := 0, slots := 0, locals := 22 }) s m ([.ref q, .int (iI pi_), .int (iI wi)] : List Value).toArray below meth c H locs 0 0 Q (F0 m 42 ls []) := by
                    clear hP hD hS hl
                    intro n
                    induction n with
                    | zero =>
                      intro k i1 i2 hms H locs ls hl hP hD hS
                      exfalso; omega
                    | succ n ih42 =>
                      intro k i1 i2 hms H locs ls hl hP hD hS
                      refine lv_iload hx hb dX6_turns_42 (lv_at hl 4 rfl) ?_
                      refine lv_bipush (v := iI 8) hx hb dX6_turns_44 (by decide +kernel) ?_
                      refine z_icmp_ge (tgt := 108) hx hb dX6_turns_46 (by decide) (by omega) (by omega) (fun c_5 => ?_) (fun c_5 => ?_)
                      · obtain rfl : k = 8 := by omega
                        refine lv_iload_n hx hb dX6_turns_108 rfl (lv_at hl 3 rfl) ?_
                        refine lv_iconst (v := iI 2) hx hb dX6_turns_109 rfl ?_
                        refine z_imul hx hb dX6_turns_110 ?_
                        refine z_top (b := 4) (by omega) ?_
                        refine lv_istore_n (lv' := [(3, .int (iI 4)), (0, .ref q), (1, .int (iI pi_)), (2, .int (iI wi)), (4, .int (iI 8))]) hx hb dX6_turns_111 rfl hl (by decide) rfl (fun ls hl => ?_)
                        refine lv_goto (tgt := 33) hx hb dX6_turns_112 (by decide) ?_
                        refine lv_iload_n hx hb dX6_turns_33 rfl (lv_at hl 0 rfl) ?_
                        refine lv_bipush (v := iI 8) hx hb dX6_turns_34 (by decide +kernel) ?_
                        refine z_icmp_ge (tgt := 115) hx hb dX6_turns_36 (by decide) (by omega) (by omega) (fun c_6 => ?_) (fun c_6 => ?_)
                        · exfalso; omega
                        · refine lv_iconst (v := iI 0) hx hb dX6_turns_39 rfl ?_
                          refine lv_istore (lv' := [(4, .int (iI 0)), (3, .int (iI 4)), (0, .ref q), (1, .int (iI pi_)), (2, .int (iI wi))]) hx hb dX6_turns_40 hl (by decide) rfl (fun ls hl => ?_)
                          have L42 : ∀ (n : Nat) (k : Int), (i1 : 0 ≤ k) → (i2 : k ≤ 8) → (hms : 8 - k < (n : Int)) → ∀ (H : Heap) (locs : List Loc) (ls : Array Slot), lv_has ls 7 [(0, .ref q), (1, .int (iI pi_)), (2, .int (iI wi)), (3, .int (iI 4)), (4, .int (iI k))] → zP g [(q, .inr (6, [.ref qn, .ref qp, .int (iI ac), .ref qi, .ref qk, .ref qt, .ref qw, .ref qv, .ref qr])), zI g qn 647 N, zI g qt 8 (fp 4 (fp 2 (fp 1 (fun i => N (7 + (pi_ * 128 + (wi * 8 + i)))) 8) 8) k)] H → va_D A [(q, .inr (6, [.ref qn, .ref qp, .int (iI ac), .ref qi, .ref qk, .ref qt, .ref qw, .ref qv, .ref qr])), zI g qn 647 N, zI g qt 8 (fp 4 (fp 2 (fp 1 (fun i => N (7 + (pi_ * 128 + (wi * 8 + i)))) 8) 8) k)] → va_S A s.heap H locs → W p l e ({ frames := 1, cells := 0, slots := 0, locals := 22 }) s m ([.ref q, .int (iI pi_), .int (iI wi)] : List Value).toArray below meth c H locs 0 0 Q (F0 m 42 ls []) := by
                            clear hP hD hS hl
                            intro n
                            induction n with
                            | zero =>
                              intro k i1 i2 hms H locs ls hl hP hD hS
                              exfalso; omega
                            | succ n ih42 =>
                              intro k i1 i2 hms H locs ls hl hP hD hS
                              refine lv_iload hx hb dX6_turns_42 (lv_at hl 4 rfl) ?_
                              refine lv_bipush (v := iI 8) hx hb dX6_turns_44 (by decide +kernel) ?_
                              refine z_icmp_ge (tgt := 108) hx hb dX6_turns_46 (by decide) (by omega) (by omega) (fun c_7 => ?_) (fun c_7 => ?_)
                              · obtain rfl : k = 8 := by omega
                                refine lv_iload_n hx hb dX6_turns_108 rfl (lv_at hl 3 rfl) ?_
                                refine lv_iconst (v := iI 2) hx hb dX6_turns_109 rfl ?_
                                refine z_imul hx hb dX6_turns_110 ?_
                                refine z_top (b := 8) (by omega) ?_
                                refine lv_istore_n (lv' := [(3, .int (iI 8)), (0, .ref q), (1, .int (iI pi_)), (2, .int (iI wi)), (4, .int (iI 8))]) hx hb dX6_turns_111 rfl hl (by decide) rfl (fun ls hl => ?_)
                                refine lv_goto (tgt := 33) hx hb dX6_turns_112 (by decide) ?_
                                refine lv_iload_n hx hb dX6_turns_33 rfl (lv_at hl 0 rfl) ?_
                                refine lv_bipush (v := iI 8) hx hb dX6_turns_34 (by decide +kernel) ?_
                                refine z_icmp_ge (tgt := 115) hx hb dX6_turns_36 (by decide) (by omega) (by omega) (fun c_8 => ?_) (fun c_8 => ?_)
                                · have hP := zP_arr hP 2 (wv (fun i => N (7 + (pi_ * 128 + (wi * 8 + i))))) rfl (fun j _ _ => rfl)
                                  have hD := zD_set (c1 := (zI g qt 8 (wv (fun i => N (7 + (pi_ * 128 + (wi * 8 + i)))))).2) hD 2 rfl
                                  have hP : zP g [(q, .inr (6, [.ref qn, .ref qp, .int (iI ac), .ref qi, .ref qk, .ref qt, .ref qw, .ref qv, .ref qr])), zI g qn 647 N, zI g qt 8 (wv (fun i => N (7 + (pi_ * 128 + (wi * 8 + i)))))] H := hP
                                  have hD : va_D A [(q, .inr (6, [.ref qn, .ref qp, .int (iI ac), .ref qi, .ref qk, .ref qt, .ref qw, .ref qv, .ref qr])), zI g qn 647 N, zI g qt 8 (wv (fun i => N (7 + (pi_ * 128 + (wi * 8 + i)))))] := hD
                                  exact z_retV hx hb hlk hr hQ dX6_turns_115 hS () (trivial) (hP)
                                · exfalso; omega
                              · refine lv_iload hx hb dX6_turns_49 (lv_at hl 4 rfl) ?_
                                refine lv_iload_n hx hb dX6_turns_51 rfl (lv_at hl 3 rfl) ?_
                                refine z_iand hx hb dX6_turns_52 ?_
                                refine z_if_ne (tgt := 102) hx hb dX6_turns_53 (by decide) (zand_rg _ _) (fun hz => ?_) (fun hz => ?_)
                                · refine z_iinc (b := k + 1) (lv' := [(4, .int (iI (k + 1))), (0, .ref q), (1, .int (iI pi_)), (2, .int (iI wi)), (3, .int (iI 4))]) hx hb dX6_turns_102 hl (k := 4) rfl (rfl) (by decide) rfl (fun ls hl => ?_)
                                  refine lv_goto (tgt := 42) hx hb dX6_turns_105 (by decide) ?_
                                  have hP := zP_arr hP 2 (fp 4 (fp 2 (fp 1 (fun i => N (7 + (pi_ * 128 + (wi * 8 + i)))) 8) 8) (k + 1)) rfl (fun j _ _ => by rw [fp_f _ i1 hz])
                                  have hD := zD_set (c1 := (zI g qt 8 (fp 4 (fp 2 (fp 1 (fun i => N (7 + (pi_ * 128 + (wi * 8 + i)))) 8) 8) (k + 1))).2) hD 2 rfl
                                  have hP : zP g [(q, .inr (6, [.ref qn, .ref qp, .int (iI ac), .ref qi, .ref qk, .ref qt, .ref qw, .ref qv, .ref qr])), zI g qn 647 N, zI g qt 8 (fp 4 (fp 2 (fp 1 (fun i => N (7 + (pi_ * 128 + (wi * 8 + i)))) 8) 8) (k + 1))] H := hP
                                  have hD : va_D A [(q, .inr (6, [.ref qn, .ref qp, .int (iI ac), .ref qi, .ref qk, .ref qt, .ref qw, .ref qv, .ref qr])), zI g qn 647 N, zI g qt 8 (fp 4 (fp 2 (fp 1 (fun i => N (7 + (pi_ * 128 + (wi * 8 + i)))) 8) 8) (k + 1))] := hD
                                  exact ih42 (k + 1) (by omega) (by omega) (by omega) H locs ls (lv_sub hl [1, 2, 3, 4, 0] rfl) (hP) (hD) hS
                                · have hz8 := (zand_8 i1 (by omega) (by omega)).1 hz
                                  refine lv_aload_n hx hb dX6_turns_56 rfl (lv_at hl 0 rfl) ?_
                                  refine z_get (v := .ref qt) (Cn := RX6) (T := TX6) (N := 9) (ci := 6) C in_m_X6_turns_X6 hK hP 0 rfl rfl 5 (by decide) (List.mem_of_getElem? (i := 1) rfl) rfl dX6_turns_57 ?_
                                  refine lv_iload hx hb dX6_turns_60 (lv_at hl 4 rfl) ?_
                                  refine z_iald hx hb hK hP 2 rfl (by omega) (by omega) (Nat.le_of_ble_eq_true rfl) dX6_turns_62 ?_
                                  refine lv_istore (lv' := [(5, .int (iI ((fp 4 (fp 2 (fp 1 (fun i => N (7 + (pi_ * 128 + (wi * 8 + i)))) 8) 8) k) k))), (0, .ref q), (1, .int (iI pi_)), (2, .int (iI wi)), (3, .int (iI 4)), (4, .int (iI k))]) hx hb dX6_turns_63 hl (by decide) rfl (fun ls hl => ?_)
                                  refine lv_aload_n hx hb dX6_turns_65 rfl (lv_at hl 1 rfl) ?_
                                  refine z_get (v := .ref qt) (Cn := RX6) (T := TX6) (N := 9) (ci := 6) C in_m_X6_turns_X6 hK hP 0 rfl rfl 5 (by decide) (List.mem_of_getElem? (i := 1) rfl) rfl dX6_turns_66 ?_
                                  refine lv_iload hx hb dX6_turns_69 (lv_at hl 5 rfl) ?_
                                  refine lv_iload_n hx hb dX6_turns_71 rfl (lv_at hl 4 rfl) ?_
                                  refine z_iadd hx hb dX6_turns_72 ?_
                                  refine z_iald hx hb hK hP 2 rfl (by omega) (by omega) (Nat.le_of_ble_eq_true rfl) dX6_turns_73 ?_
                                  refine lv_istore (lv' := [(6, .int (iI ((fp 4 (fp 2 (fp 1 (fun i => N (7 + (pi_ * 128 + (wi * 8 + i)))) 8) 8) k) (k + 4)))), (5, .int (iI ((fp 4 (fp 2 (fp 1 (fun i => N (7 + (pi_ * 128 + (wi * 8 + i)))) 8) 8) k) k))), (0, .ref q), (1, .int (iI pi_)), (2, .int (iI wi)), (3, .int (iI 4)), (4, .int (iI k))]) hx hb dX6_turns_74 hl (by decide) rfl (fun ls hl => ?_)
                                  refine lv_aload_n hx hb dX6_turns_76 rfl (lv_at hl 2 rfl) ?_
                                  refine z_get (v := .ref qt) (Cn := RX6) (T := TX6) (N := 9) (ci := 6) C in_m_X6_turns_X6 hK hP 0 rfl rfl 5 (by decide) (List.mem_of_getElem? (i := 1) rfl) rfl dX6_turns_77 ?_
                                  refine lv_iload hx hb dX6_turns_80 (lv_at hl 6 rfl) ?_
                                  refine lv_iload hx hb dX6_turns_82 (lv_at hl 1 rfl) ?_
                                  refine lv_iload hx hb dX6_turns_84 (lv_at hl 0 rfl) ?_
                                  refine z_iadd hx hb dX6_turns_86 ?_
                                  refine z_iast hx hb hK hP hD hS 2 rfl (by omega) (by omega) (Nat.le_of_ble_eq_true rfl) dX6_turns_87 (fun H locs hP hD hS => ?_)
                                  have hP : zP g [(q, .inr (6, [.ref qn, .ref qp, .int (iI ac), .ref qi, .ref qk, .ref qt, .ref qw, .ref qv, .ref qr])), zI g qn 647 N, zI g qt 8 (ups (fp 4 (fp 2 (fp 1 (fun i => N (7 + (pi_ * 128 + (wi * 8 + i)))) 8) 8) k) k (((fp 4 (fp 2 (fp 1 (fun i => N (7 + (pi_ * 128 + (wi * 8 + i)))) 8) 8) k) k) + ((fp 4 (fp 2 (fp 1 (fun i => N (7 + (pi_ * 128 + (wi * 8 + i)))) 8) 8) k) (k + 4))))] H := hP
                                  have hD : va_D A [(q, .inr (6, [.ref qn, .ref qp, .int (iI ac), .ref qi, .ref qk, .ref qt, .ref qw, .ref qv, .ref qr])), zI g qn 647 N, zI g qt 8 (ups (fp 4 (fp 2 (fp 1 (fun i => N (7 + (pi_ * 128 + (wi * 8 + i)))) 8) 8) k) k (((fp 4 (fp 2 (fp 1 (fun i => N (7 + (pi_ * 128 + (wi * 8 + i)))) 8) 8) k) k) + ((fp 4 (fp 2 (fp 1 (fun i => N (7 + (pi_ * 128 + (wi * 8 + i)))) 8) 8) k) (k + 4))))] := hD
                                  refine lv_aload_n hx hb dX6_turns_88 rfl (lv_at hl 2 rfl) ?_
                                  refine z_get (v := .ref qt) (Cn := RX6) (T := TX6) (N := 9) (ci := 6) C in_m_X6_turns_X6 hK hP 0 rfl rfl 5 (by decide) (List.mem_of_getElem? (i := 1) rfl) rfl dX6_turns_89 ?_
                                  refine lv_iload hx hb dX6_turns_92 (lv_at hl 6 rfl) ?_
                                  refine lv_iload_n hx hb dX6_turns_94 rfl (lv_at hl 5 rfl) ?_
                                  refine z_iadd hx hb dX6_turns_95 ?_
                                  refine lv_iload hx hb dX6_turns_96 (lv_at hl 1 rfl) ?_
                                  refine lv_iload hx hb dX6_turns_98 (lv_at hl 0 rfl) ?_
                                  refine z_isub hx hb dX6_turns_100 ?_
                                  refine z_iast hx hb hK hP hD hS 2 rfl (by omega) (by omega) (Nat.le_of_ble_eq_true rfl) dX6_turns_101 (fun H locs hP hD hS => ?_)
                                  have hP : zP g [(q, .inr (6, [.ref qn, .ref qp, .int (iI ac), .ref qi, .ref qk, .ref qt, .ref qw, .ref qv, .ref qr])), zI g qn 647 N, zI g qt 8 (ups (ups (fp 4 (fp 2 (fp 1 (fun i => N (7 + (pi_ * 128 + (wi * 8 + i)))) 8) 8) k) k (((fp 4 (fp 2 (fp 1 (fun i => N (7 + (pi_ * 128 + (wi * 8 + i)))) 8) 8) k) k) + ((fp 4 (fp 2 (fp 1 (fun i => N (7 + (pi_ * 128 + (wi * 8 + i)))) 8) 8) k) (k + 4)))) (k + 4) (((fp 4 (fp 2 (fp 1 (fun i => N (7 + (pi_ * 128 + (wi * 8 + i)))) 8) 8) k) k) - ((fp 4 (fp 2 (fp 1 (fun i => N (7 + (pi_ * 128 + (wi * 8 + i)))) 8) 8) k) (k + 4))))] H := hP
                                  have hD : va_D A [(q, .inr (6, [.ref qn, .ref qp, .int (iI ac), .ref qi, .ref qk, .ref qt, .ref qw, .ref qv, .ref qr])), zI g qn 647 N, zI g qt 8 (ups (ups (fp 4 (fp 2 (fp 1 (fun i => N (7 + (pi_ * 128 + (wi * 8 + i)))) 8) 8) k) k (((fp 4 (fp 2 (fp 1 (fun i => N (7 + (pi_ * 128 + (wi * 8 + i)))) 8) 8) k) k) + ((fp 4 (fp 2 (fp 1 (fun i => N (7 + (pi_ * 128 + (wi * 8 + i)))) 8) 8) k) (k + 4)))) (k + 4) (((fp 4 (fp 2 (fp 1 (fun i => N (7 + (pi_ * 128 + (wi * 8 + i)))) 8) 8) k) k) - ((fp 4 (fp 2 (fp 1 (fun i => N (7 + (pi_ * 128 + (wi * 8 + i)))) 8) 8) k) (k + 4))))] := hD
                                  refine z_iinc (b := k + 1) (lv' := [(4, .int (iI (k + 1))), (6, .int (iI ((fp 4 (fp 2 (fp 1 (fun i => N (7 + (pi_ * 128 + (wi * 8 + i)))) 8) 8) k) (k + 4)))), (5, .int (iI ((fp 4 (fp 2 (fp 1 (fun i => N (7 + (pi_ * 128 + (wi * 8 + i)))) 8) 8) k) k))), (0, .ref q), (1, .int (iI pi_)), (2, .int (iI wi)), (3, .int (iI 4))]) hx hb dX6_turns_102 hl (k := 6) rfl (rfl) (by decide) rfl (fun ls hl => ?_)
                                  refine lv_goto (tgt := 42) hx hb dX6_turns_105 (by decide) ?_
                                  have hP := zP_arr hP 2 (fp 4 (fp 2 (fp 1 (fun i => N (7 + (pi_ * 128 + (wi * 8 + i)))) 8) 8) (k + 1)) rfl (fun j _ _ => by rw [fp_t _ i1 hz])
                                  have hD := zD_set (c1 := (zI g qt 8 (fp 4 (fp 2 (fp 1 (fun i => N (7 + (pi_ * 128 + (wi * 8 + i)))) 8) 8) (k + 1))).2) hD 2 rfl
                                  have hP : zP g [(q, .inr (6, [.ref qn, .ref qp, .int (iI ac), .ref qi, .ref qk, .ref qt, .ref qw, .ref qv, .ref qr])), zI g qn 647 N, zI g qt 8 (fp 4 (fp 2 (fp 1 (fun i => N (7 + (pi_ * 128 + (wi * 8 + i)))) 8) 8) (k + 1))] H := hP
                                  have hD : va_D A [(q, .inr (6, [.ref qn, .ref qp, .int (iI ac), .ref qi, .ref qk, .ref qt, .ref qw, .ref qv, .ref qr])), zI g qn 647 N, zI g qt 8 (fp 4 (fp 2 (fp 1 (fun i => N (7 + (pi_ * 128 + (wi * 8 + i)))) 8) 8) (k + 1))] := hD
                                  exact ih42 (k + 1) (by omega) (by omega) (by omega) H locs ls (lv_sub hl [3, 4, 5, 6, 0] rfl) (hP) (hD) hS
                          have hP := zP_arr hP 2 (fp 4 (fp 2 (fp 1 (fun i => N (7 + (pi_ * 128 + (wi * 8 + i)))) 8) 8) 0) rfl (fun j _ _ => by rw [fp_0])
                          have hD := zD_set (c1 := (zI g qt 8 (fp 4 (fp 2 (fp 1 (fun i => N (7 + (pi_ * 128 + (wi * 8 + i)))) 8) 8) 0)).2) hD 2 rfl
                          have hP : zP g [(q, .inr (6, [.ref qn, .ref qp, .int (iI ac), .ref qi, .ref qk, .ref qt, .ref qw, .ref qv, .ref qr])), zI g qn 647 N, zI g qt 8 (fp 4 (fp 2 (fp 1 (fun i => N (7 + (pi_ * 128 + (wi * 8 + i)))) 8) 8) 0)] H := hP
                          have hD : va_D A [(q, .inr (6, [.ref qn, .ref qp, .int (iI ac), .ref qi, .ref qk, .ref qt, .ref qw, .ref qv, .ref qr])), zI g qn 647 N, zI g qt 8 (fp 4 (fp 2 (fp 1 (fun i => N (7 + (pi_ * 128 + (wi * 8 + i)))) 8) 8) 0)] := hD
                          exact L42 (9) 0 (by omega) (by omega) (by omega) H locs ls (lv_sub hl [2, 3, 4, 1, 0] rfl) (hP) (hD) hS
                      · refine lv_iload hx hb dX6_turns_49 (lv_at hl 4 rfl) ?_
                        refine lv_iload_n hx hb dX6_turns_51 rfl (lv_at hl 3 rfl) ?_
                        refine z_iand hx hb dX6_turns_52 ?_
                        refine z_if_ne (tgt := 102) hx hb dX6_turns_53 (by decide) (zand_rg _ _) (fun hz => ?_) (fun hz => ?_)
                        · refine z_iinc (b := k + 1) (lv' := [(4, .int (iI (k + 1))), (0, .ref q), (1, .int (iI pi_)), (2, .int (iI wi)), (3, .int (iI 2))]) hx hb dX6_turns_102 hl (k := 4) rfl (rfl) (by decide) rfl (fun ls hl => ?_)
                          refine lv_goto (tgt := 42) hx hb dX6_turns_105 (by decide) ?_
                          have hP := zP_arr hP 2 (fp 2 (fp 1 (fun i => N (7 + (pi_ * 128 + (wi * 8 + i)))) 8) (k + 1)) rfl (fun j _ _ => by rw [fp_f _ i1 hz])
                          have hD := zD_set (c1 := (zI g qt 8 (fp 2 (fp 1 (fun i => N (7 + (pi_ * 128 + (wi * 8 + i)))) 8) (k + 1))).2) hD 2 rfl
                          have hP : zP g [(q, .inr (6, [.ref qn, .ref qp, .int (iI ac), .ref qi, .ref qk, .ref qt, .ref qw, .ref qv, .ref qr])), zI g qn 647 N, zI g qt 8 (fp 2 (fp 1 (fun i => N (7 + (pi_ * 128 + (wi * 8 + i)))) 8) (k + 1))] H := hP
                          have hD : va_D A [(q, .inr (6, [.ref qn, .ref qp, .int (iI ac), .ref qi, .ref qk, .ref qt, .ref qw, .ref qv, .ref qr])), zI g qn 647 N, zI g qt 8 (fp 2 (fp 1 (fun i => N (7 + (pi_ * 128 + (wi * 8 + i)))) 8) (k + 1))] := hD
                          exact ih42 (k + 1) (by omega) (by omega) (by omega) H locs ls (lv_sub hl [1, 2, 3, 4, 0] rfl) (hP) (hD) hS
                        · have hz8 := (zand_8 i1 (by omega) (by omega)).1 hz
                          refine lv_aload_n hx hb dX6_turns_56 rfl (lv_at hl 0 rfl) ?_
                          refine z_get (v := .ref qt) (Cn := RX6) (T := TX6) (N := 9) (ci := 6) C in_m_X6_turns_X6 hK hP 0 rfl rfl 5 (by decide) (List.mem_of_getElem? (i := 1) rfl) rfl dX6_turns_57 ?_
                          refine lv_iload hx hb dX6_turns_60 (lv_at hl 4 rfl) ?_
                          refine z_iald hx hb hK hP 2 rfl (by omega) (by omega) (Nat.le_of_ble_eq_true rfl) dX6_turns_62 ?_
                          refine lv_istore (lv' := [(5, .int (iI ((fp 2 (fp 1 (fun i => N (7 + (pi_ * 128 + (wi * 8 + i)))) 8) k) k))), (0, .ref q), (1, .int (iI pi_)), (2, .int (iI wi)), (3, .int (iI 2)), (4, .int (iI k))]) hx hb dX6_turns_63 hl (by decide) rfl (fun ls hl => ?_)
                          refine lv_aload_n hx hb dX6_turns_65 rfl (lv_at hl 1 rfl) ?_
                          refine z_get (v := .ref qt) (Cn := RX6) (T := TX6) (N := 9) (ci := 6) C in_m_X6_turns_X6 hK hP 0 rfl rfl 5 (by decide) (List.mem_of_getElem? (i := 1) rfl) rfl dX6_turns_66 ?_
                          refine lv_iload hx hb dX6_turns_69 (lv_at hl 5 rfl) ?_
                          refine lv_iload_n hx hb dX6_turns_71 rfl (lv_at hl 4 rfl) ?_
                          refine z_iadd hx hb dX6_turns_72 ?_
                          refine z_iald hx hb hK hP 2 rfl (by omega) (by omega) (Nat.le_of_ble_eq_true rfl) dX6_turns_73 ?_
                          refine lv_istore (lv' := [(6, .int (iI ((fp 2 (fp 1 (fun i => N (7 + (pi_ * 128 + (wi * 8 + i)))) 8) k) (k + 2)))), (5, .int (iI ((fp 2 (fp 1 (fun i => N (7 + (pi_ * 128 + (wi * 8 + i)))) 8) k) k))), (0, .ref q), (1, .int (iI pi_)), (2, .int (iI wi)), (3, .int (iI 2)), (4, .int (iI k))]) hx hb dX6_turns_74 hl (by decide) rfl (fun ls hl => ?_)
                          refine lv_aload_n hx hb dX6_turns_76 rfl (lv_at hl 2 rfl) ?_
                          refine z_get (v := .ref qt) (Cn := RX6) (T := TX6) (N := 9) (ci := 6) C in_m_X6_turns_X6 hK hP 0 rfl rfl 5 (by decide) (List.mem_of_getElem? (i := 1) rfl) rfl dX6_turns_77 ?_
                          refine lv_iload hx hb dX6_turns_80 (lv_at hl 6 rfl) ?_
                          refine lv_iload hx hb dX6_turns_82 (lv_at hl 1 rfl) ?_
                          refine lv_iload hx hb dX6_turns_84 (lv_at hl 0 rfl) ?_
                          refine z_iadd hx hb dX6_turns_86 ?_
                          refine z_iast hx hb hK hP hD hS 2 rfl (by omega) (by omega) (Nat.le_of_ble_eq_true rfl) dX6_turns_87 (fun H locs hP hD hS => ?_)
                          have hP : zP g [(q, .inr (6, [.ref qn, .ref qp, .int (iI ac), .ref qi, .ref qk, .ref qt, .ref qw, .ref qv, .ref qr])), zI g qn 647 N, zI g qt 8 (ups (fp 2 (fp 1 (fun i => N (7 + (pi_ * 128 + (wi * 8 + i)))) 8) k) k (((fp 2 (fp 1 (fun i => N (7 + (pi_ * 128 + (wi * 8 + i)))) 8) k) k) + ((fp 2 (fp 1 (fun i => N (7 + (pi_ * 128 + (wi * 8 + i)))) 8) k) (k + 2))))] H := hP
                          have hD : va_D A [(q, .inr (6, [.ref qn, .ref qp, .int (iI ac), .ref qi, .ref qk, .ref qt, .ref qw, .ref qv, .ref qr])), zI g qn 647 N, zI g qt 8 (ups (fp 2 (fp 1 (fun i => N (7 + (pi_ * 128 + (wi * 8 + i)))) 8) k) k (((fp 2 (fp 1 (fun i => N (7 + (pi_ * 128 + (wi * 8 + i)))) 8) k) k) + ((fp 2 (fp 1 (fun i => N (7 + (pi_ * 128 + (wi * 8 + i)))) 8) k) (k + 2))))] := hD
                          refine lv_aload_n hx hb dX6_turns_88 rfl (lv_at hl 2 rfl) ?_
                          refine z_get (v := .ref qt) (Cn := RX6) (T := TX6) (N := 9) (ci := 6) C in_m_X6_turns_X6 hK hP 0 rfl rfl 5 (by decide) (List.mem_of_getElem? (i := 1) rfl) rfl dX6_turns_89 ?_
                          refine lv_iload hx hb dX6_turns_92 (lv_at hl 6 rfl) ?_
                          refine lv_iload_n hx hb dX6_turns_94 rfl (lv_at hl 5 rfl) ?_
                          refine z_iadd hx hb dX6_turns_95 ?_
                          refine lv_iload hx hb dX6_turns_96 (lv_at hl 1 rfl) ?_
                          refine lv_iload hx hb dX6_turns_98 (lv_at hl 0 rfl) ?_
                          refine z_isub hx hb dX6_turns_100 ?_
                          refine z_iast hx hb hK hP hD hS 2 rfl (by omega) (by omega) (Nat.le_of_ble_eq_true rfl) dX6_turns_101 (fun H locs hP hD hS => ?_)
                          have hP : zP g [(q, .inr (6, [.ref qn, .ref qp, .int (iI ac), .ref qi, .ref qk, .ref qt, .ref qw, .ref qv, .ref qr])), zI g qn 647 N, zI g qt 8 (ups (ups (fp 2 (fp 1 (fun i => N (7 + (pi_ * 128 + (wi * 8 + i)))) 8) k) k (((fp 2 (fp 1 (fun i => N (7 + (pi_ * 128 + (wi * 8 + i)))) 8) k) k) + ((fp 2 (fp 1 (fun i => N (7 + (pi_ * 128 + (wi * 8 + i)))) 8) k) (k + 2)))) (k + 2) (((fp 2 (fp 1 (fun i => N (7 + (pi_ * 128 + (wi * 8 + i)))) 8) k) k) - ((fp 2 (fp 1 (fun i => N (7 + (pi_ * 128 + (wi * 8 + i)))) 8) k) (k + 2))))] H := hP
                          have hD : va_D A [(q, .inr (6, [.ref qn, .ref qp, .int (iI ac), .ref qi, .ref qk, .ref qt, .ref qw, .ref qv, .ref qr])), zI g qn 647 N, zI g qt 8 (ups (ups (fp 2 (fp 1 (fun i => N (7 + (pi_ * 128 + (wi * 8 + i)))) 8) k) k (((fp 2 (fp 1 (fun i => N (7 + (pi_ * 128 + (wi * 8 + i)))) 8) k) k) + ((fp 2 (fp 1 (fun i => N (7 + (pi_ * 128 + (wi * 8 + i)))) 8) k) (k + 2)))) (k + 2) (((fp 2 (fp 1 (fun i => N (7 + (pi_ * 128 + (wi * 8 + i)))) 8) k) k) - ((fp 2 (fp 1 (fun i => N (7 + (pi_ * 128 + (wi * 8 + i)))) 8) k) (k + 2))))] := hD
                          refine z_iinc (b := k + 1) (lv' := [(4, .int (iI (k + 1))), (6, .int (iI ((fp 2 (fp 1 (fun i => N (7 + (pi_ * 128 + (wi * 8 + i)))) 8) k) (k + 2)))), (5, .int (iI ((fp 2 (fp 1 (fun i => N (7 + (pi_ * 128 + (wi * 8 + i)))) 8) k) k))), (0, .ref q), (1, .int (iI pi_)), (2, .int (iI wi)), (3, .int (iI 2))]) hx hb dX6_turns_102 hl (k := 6) rfl (rfl) (by decide) rfl (fun ls hl => ?_)
                          refine lv_goto (tgt := 42) hx hb dX6_turns_105 (by decide) ?_
                          have hP := zP_arr hP 2 (fp 2 (fp 1 (fun i => N (7 + (pi_ * 128 + (wi * 8 + i)))) 8) (k + 1)) rfl (fun j _ _ => by rw [fp_t _ i1 hz])
                          have hD := zD_set (c1 := (zI g qt 8 (fp 2 (fp 1 (fun i => N (7 + (pi_ * 128 + (wi * 8 + i)))) 8) (k + 1))).2) hD 2 rfl
                          have hP : zP g [(q, .inr (6, [.ref qn, .ref qp, .int (iI ac), .ref qi, .ref qk, .ref qt, .ref qw, .ref qv, .ref qr])), zI g qn 647 N, zI g qt 8 (fp 2 (fp 1 (fun i => N (7 + (pi_ * 128 + (wi * 8 + i)))) 8) (k + 1))] H := hP
                          have hD : va_D A [(q, .inr (6, [.ref qn, .ref qp, .int (iI ac), .ref qi, .ref qk, .ref qt, .ref qw, .ref qv, .ref qr])), zI g qn 647 N, zI g qt 8 (fp 2 (fp 1 (fun i => N (7 + (pi_ * 128 + (wi * 8 + i)))) 8) (k + 1))] := hD
                          exact ih42 (k + 1) (by omega) (by omega) (by omega) H locs ls (lv_sub hl [3, 4, 5, 6, 0] rfl) (hP) (hD) hS
                  have hP := zP_arr hP 2 (fp 2 (fp 1 (fun i => N (7 + (pi_ * 128 + (wi * 8 + i)))) 8) 0) rfl (fun j _ _ => by rw [fp_0])
                  have hD := zD_set (c1 := (zI g qt 8 (fp 2 (fp 1 (fun i => N (7 + (pi_ * 128 + (wi * 8 + i)))) 8) 0)).2) hD 2 rfl
                  have hP : zP g [(q, .inr (6, [.ref qn, .ref qp, .int (iI ac), .ref qi, .ref qk, .ref qt, .ref qw, .ref qv, .ref qr])), zI g qn 647 N, zI g qt 8 (fp 2 (fp 1 (fun i => N (7 + (pi_ * 128 + (wi * 8 + i)))) 8) 0)] H := hP
                  have hD : va_D A [(q, .inr (6, [.ref qn, .ref qp, .int (iI ac), .ref qi, .ref qk, .ref qt, .ref qw, .ref qv, .ref qr])), zI g qn 647 N, zI g qt 8 (fp 2 (fp 1 (fun i => N (7 + (pi_ * 128 + (wi * 8 + i)))) 8) 0)] := hD
                  exact L42 (9) 0 (by omega) (by omega) (by omega) H locs ls (lv_sub hl [2, 3, 4, 1, 0] rfl) (hP) (hD) hS
              · refine lv_iload hx hb dX6_turns_49 (lv_at hl 4 rfl) ?_
                refine lv_iload_n hx hb dX6_turns_51 rfl (lv_at hl 3 rfl) ?_
                refine z_iand hx hb dX6_turns_52 ?_
                refine z_if_ne (tgt := 102) hx hb dX6_turns_53 (by decide) (zand_rg _ _) (fun hz => ?_) (fun hz => ?_)
                · refine z_iinc (b := k + 1) (lv' := [(4, .int (iI (k + 1))), (0, .ref q), (1, .int (iI pi_)), (2, .int (iI wi)), (3, .int (iI 1))]) hx hb dX6_turns_102 hl (k := 4) rfl (rfl) (by decide) rfl (fun ls hl => ?_)
                  refine lv_goto (tgt := 42) hx hb dX6_turns_105 (by decide) ?_
                  have hP := zP_arr hP 2 (fp 1 (fun i => N (7 + (pi_ * 128 + (wi * 8 + i)))) (k + 1)) rfl (fun j _ _ => by rw [fp_f _ i1 hz])
                  have hD := zD_set (c1 := (zI g qt 8 (fp 1 (fun i => N (7 + (pi_ * 128 + (wi * 8 + i)))) (k + 1))).2) hD 2 rfl
                  have hP : zP g [(q, .inr (6, [.ref qn, .ref qp, .int (iI ac), .ref qi, .ref qk, .ref qt, .ref qw, .ref qv, .ref qr])), zI g qn 647 N, zI g qt 8 (fp 1 (fun i => N (7 + (pi_ * 128 + (wi * 8 + i)))) (k + 1))] H := hP
                  have hD : va_D A [(q, .inr (6, [.ref qn, .ref qp, .int (iI ac), .ref qi, .ref qk, .ref qt, .ref qw, .ref qv, .ref qr])), zI g qn 647 N, zI g qt 8 (fp 1 (fun i => N (7 + (pi_ * 128 + (wi * 8 + i)))) (k + 1))] := hD
                  exact ih42 (k + 1) (by omega) (by omega) (by omega) H locs ls (lv_sub hl [1, 2, 3, 4, 0] rfl) (hP) (hD) hS
                · have hz8 := (zand_8 i1 (by omega) (by omega)).1 hz
                  refine lv_aload_n hx hb dX6_turns_56 rfl (lv_at hl 0 rfl) ?_
                  refine z_get (v := .ref qt) (Cn := RX6) (T := TX6) (N := 9) (ci := 6) C in_m_X6_turns_X6 hK hP 0 rfl rfl 5 (by decide) (List.mem_of_getElem? (i := 1) rfl) rfl dX6_turns_57 ?_
                  refine lv_iload hx hb dX6_turns_60 (lv_at hl 4 rfl) ?_
                  refine z_iald hx hb hK hP 2 rfl (by omega) (by omega) (Nat.le_of_ble_eq_true rfl) dX6_turns_62 ?_
                  refine lv_istore (lv' := [(5, .int (iI ((fp 1 (fun i => N (7 + (pi_ * 128 + (wi * 8 + i)))) k) k))), (0, .ref q), (1, .int (iI pi_)), (2, .int (iI wi)), (3, .int (iI 1)), (4, .int (iI k))]) hx hb dX6_turns_63 hl (by decide) rfl (fun ls hl => ?_)
                  refine lv_aload_n hx hb dX6_turns_65 rfl (lv_at hl 1 rfl) ?_
                  refine z_get (v := .ref qt) (Cn := RX6) (T := TX6) (N := 9) (ci := 6) C in_m_X6_turns_X6 hK hP 0 rfl rfl 5 (by decide) (List.mem_of_getElem? (i := 1) rfl) rfl dX6_turns_66 ?_
                  refine lv_iload hx hb dX6_turns_69 (lv_at hl 5 rfl) ?_
                  refine lv_iload_n hx hb dX6_turns_71 rfl (lv_at hl 4 rfl) ?_
                  refine z_iadd hx hb dX6_turns_72 ?_
                  refine z_iald hx hb hK hP 2 rfl (by omega) (by omega) (Nat.le_of_ble_eq_true rfl) dX6_turns_73 ?_
                  refine lv_istore (lv' := [(6, .int (iI ((fp 1 (fun i => N (7 + (pi_ * 128 + (wi * 8 + i)))) k) (k + 1)))), (5, .int (iI ((fp 1 (fun i => N (7 + (pi_ * 128 + (wi * 8 + i)))) k) k))), (0, .ref q), (1, .int (iI pi_)), (2, .int (iI wi)), (3, .int (iI 1)), (4, .int (iI k))]) hx hb dX6_turns_74 hl (by decide) rfl (fun ls hl => ?_)
                  refine lv_aload_n hx hb dX6_turns_76 rfl (lv_at hl 2 rfl) ?_
                  refine z_get (v := .ref qt) (Cn := RX6) (T := TX6) (N := 9) (ci := 6) C in_m_X6_turns_X6 hK hP 0 rfl rfl 5 (by decide) (List.mem_of_getElem? (i := 1) rfl) rfl dX6_turns_77 ?_
                  refine lv_iload hx hb dX6_turns_80 (lv_at hl 6 rfl) ?_
                  refine lv_iload hx hb dX6_turns_82 (lv_at hl 1 rfl) ?_
                  refine lv_iload hx hb dX6_turns_84 (lv_at hl 0 rfl) ?_
                  refine z_iadd hx hb dX6_turns_86 ?_
                  refine z_iast hx hb hK hP hD hS 2 rfl (by omega) (by omega) (Nat.le_of_ble_eq_true rfl) dX6_turns_87 (fun H locs hP hD hS => ?_)
                  have hP : zP g [(q, .inr (6, [.ref qn, .ref qp, .int (iI ac), .ref qi, .ref qk, .ref qt, .ref qw, .ref qv, .ref qr])), zI g qn 647 N, zI g qt 8 (ups (fp 1 (fun i => N (7 + (pi_ * 128 + (wi * 8 + i)))) k) k (((fp 1 (fun i => N (7 + (pi_ * 128 + (wi * 8 + i)))) k) k) + ((fp 1 (fun i => N (7 + (pi_ * 128 + (wi * 8 + i)))) k) (k + 1))))] H := hP
                  have hD : va_D A [(q, .inr (6, [.ref qn, .ref qp, .int (iI ac), .ref qi, .ref qk, .ref qt, .ref qw, .ref qv, .ref qr])), zI g qn 647 N, zI g qt 8 (ups (fp 1 (fun i => N (7 + (pi_ * 128 + (wi * 8 + i)))) k) k (((fp 1 (fun i => N (7 + (pi_ * 128 + (wi * 8 + i)))) k) k) + ((fp 1 (fun i => N (7 + (pi_ * 128 + (wi * 8 + i)))) k) (k + 1))))] := hD
                  refine lv_aload_n hx hb dX6_turns_88 rfl (lv_at hl 2 rfl) ?_
                  refine z_get (v := .ref qt) (Cn := RX6) (T := TX6) (N := 9) (ci := 6) C in_m_X6_turns_X6 hK hP 0 rfl rfl 5 (by decide) (List.mem_of_getElem? (i := 1) rfl) rfl dX6_turns_89 ?_
                  refine lv_iload hx hb dX6_turns_92 (lv_at hl 6 rfl) ?_
                  refine lv_iload_n hx hb dX6_turns_94 rfl (lv_at hl 5 rfl) ?_
                  refine z_iadd hx hb dX6_turns_95 ?_
                  refine lv_iload hx hb dX6_turns_96 (lv_at hl 1 rfl) ?_
                  refine lv_iload hx hb dX6_turns_98 (lv_at hl 0 rfl) ?_
                  refine z_isub hx hb dX6_turns_100 ?_
                  refine z_iast hx hb hK hP hD hS 2 rfl (by omega) (by omega) (Nat.le_of_ble_eq_true rfl) dX6_turns_101 (fun H locs hP hD hS => ?_)
                  have hP : zP g [(q, .inr (6, [.ref qn, .ref qp, .int (iI ac), .ref qi, .ref qk, .ref qt, .ref qw, .ref qv, .ref qr])), zI g qn 647 N, zI g qt 8 (ups (ups (fp 1 (fun i => N (7 + (pi_ * 128 + (wi * 8 + i)))) k) k (((fp 1 (fun i => N (7 + (pi_ * 128 + (wi * 8 + i)))) k) k) + ((fp 1 (fun i => N (7 + (pi_ * 128 + (wi * 8 + i)))) k) (k + 1)))) (k + 1) (((fp 1 (fun i => N (7 + (pi_ * 128 + (wi * 8 + i)))) k) k) - ((fp 1 (fun i => N (7 + (pi_ * 128 + (wi * 8 + i)))) k) (k + 1))))] H := hP
                  have hD : va_D A [(q, .inr (6, [.ref qn, .ref qp, .int (iI ac), .ref qi, .ref qk, .ref qt, .ref qw, .ref qv, .ref qr])), zI g qn 647 N, zI g qt 8 (ups (ups (fp 1 (fun i => N (7 + (pi_ * 128 + (wi * 8 + i)))) k) k (((fp 1 (fun i => N (7 + (pi_ * 128 + (wi * 8 + i)))) k) k) + ((fp 1 (fun i => N (7 + (pi_ * 128 + (wi * 8 + i)))) k) (k + 1)))) (k + 1) (((fp 1 (fun i => N (7 + (pi_ * 128 + (wi * 8 + i)))) k) k) - ((fp 1 (fun i => N (7 + (pi_ * 128 + (wi * 8 + i)))) k) (k + 1))))] := hD
                  refine z_iinc (b := k + 1) (lv' := [(4, .int (iI (k + 1))), (6, .int (iI ((fp 1 (fun i => N (7 + (pi_ * 128 + (wi * 8 + i)))) k) (k + 1)))), (5, .int (iI ((fp 1 (fun i => N (7 + (pi_ * 128 + (wi * 8 + i)))) k) k))), (0, .ref q), (1, .int (iI pi_)), (2, .int (iI wi)), (3, .int (iI 1))]) hx hb dX6_turns_102 hl (k := 6) rfl (rfl) (by decide) rfl (fun ls hl => ?_)
                  refine lv_goto (tgt := 42) hx hb dX6_turns_105 (by decide) ?_
                  have hP := zP_arr hP 2 (fp 1 (fun i => N (7 + (pi_ * 128 + (wi * 8 + i)))) (k + 1)) rfl (fun j _ _ => by rw [fp_t _ i1 hz])
                  have hD := zD_set (c1 := (zI g qt 8 (fp 1 (fun i => N (7 + (pi_ * 128 + (wi * 8 + i)))) (k + 1))).2) hD 2 rfl
                  have hP : zP g [(q, .inr (6, [.ref qn, .ref qp, .int (iI ac), .ref qi, .ref qk, .ref qt, .ref qw, .ref qv, .ref qr])), zI g qn 647 N, zI g qt 8 (fp 1 (fun i => N (7 + (pi_ * 128 + (wi * 8 + i)))) (k + 1))] H := hP
                  have hD : va_D A [(q, .inr (6, [.ref qn, .ref qp, .int (iI ac), .ref qi, .ref qk, .ref qt, .ref qw, .ref qv, .ref qr])), zI g qn 647 N, zI g qt 8 (fp 1 (fun i => N (7 + (pi_ * 128 + (wi * 8 + i)))) (k + 1))] := hD
                  exact ih42 (k + 1) (by omega) (by omega) (by omega) H locs ls (lv_sub hl [3, 4, 5, 6, 0] rfl) (hP) (hD) hS
          have hP := zP_arr hP 2 (fp 1 (fun i => N (7 + (pi_ * 128 + (wi * 8 + i)))) 0) rfl (fun j _ _ => by rw [fp_0])
          have hD := zD_set (c1 := (zI g qt 8 (fp 1 (fun i => N (7 + (pi_ * 128 + (wi * 8 + i)))) 0)).2) hD 2 rfl
          have hP : zP g [(q, .inr (6, [.ref qn, .ref qp, .int (iI ac), .ref qi, .ref qk, .ref qt, .ref qw, .ref qv, .ref qr])), zI g qn 647 N, zI g qt 8 (fp 1 (fun i => N (7 + (pi_ * 128 + (wi * 8 + i)))) 0)] H := hP
          have hD : va_D A [(q, .inr (6, [.ref qn, .ref qp, .int (iI ac), .ref qi, .ref qk, .ref qt, .ref qw, .ref qv, .ref qr])), zI g qn 647 N, zI g qt 8 (fp 1 (fun i => N (7 + (pi_ * 128 + (wi * 8 + i)))) 0)] := hD
          exact L42 (9) 0 (by omega) (by omega) (by omega) H locs ls (lv_sub hl [2, 3, 4, 1, 0] rfl) (hP) (hD) hS
      · refine lv_aload_n hx hb dX6_turns_8 rfl (lv_at hl 0 rfl) ?_
        refine z_get (v := .ref qt) (Cn := RX6) (T := TX6) (N := 9) (ci := 6) C in_m_X6_turns_X6 hK hP 0 rfl rfl 5 (by decide) (List.mem_of_getElem? (i := 1) rfl) rfl dX6_turns_9 ?_
        refine lv_iload_n hx hb dX6_turns_12 rfl (lv_at hl 3 rfl) ?_
        refine lv_aload_n hx hb dX6_turns_13 rfl (lv_at hl 0 rfl) ?_
        refine lv_iload_n hx hb dX6_turns_14 rfl (lv_at hl 1 rfl) ?_
        refine lv_bipush (v := iI 8) hx hb dX6_turns_15 (by decide +kernel) ?_
        refine lv_iload_n hx hb dX6_turns_17 rfl (lv_at hl 2 rfl) ?_
        refine z_imul hx hb dX6_turns_18 ?_
        refine lv_iload_n hx hb dX6_turns_19 rfl (lv_at hl 3 rfl) ?_
        refine z_iadd hx hb dX6_turns_20 ?_
        refine z_cS (As := [.int (iI pi_), .int (iI ((8 * wi) + k))]) (rest := [.int (iI k), .ref qt]) C (m_X6_of (l := l) (g := g) (q := q) (qn := qn) (qp := qp) (qi := qi) (qk := qk) (qt := qt) (qw := qw) (qv := qv) (qr := qr) (ac := ac) (N := N) (pi_ := pi_) (ix := (8 * wi) + k) (h1 := by omega) (h2 := by omega) (x1 := by omega)) (cwV 2 C.2.2.2.2 gX6_turns_X6_of rfl rfl rfl (by decide +kernel) ⟨Nat.le_of_ble_eq_true rfl, Nat.le_of_ble_eq_true rfl⟩) hK hP [0, 1] rfl 0 rfl rfl rfl hl.1 rfl (Nat.le_of_ble_eq_true rfl) dX6_turns_21 ⟨Nat.zero_le _, Nat.zero_le _⟩ ?_
        refine z_top (b := N (7 + (pi_ * 128 + (wi * 8 + k)))) (by congr 1; omega) ?_
        refine z_iast hx hb hK hP hD hS 2 rfl (by omega) (by omega) (Nat.le_of_ble_eq_true rfl) dX6_turns_24 (fun H locs hP hD hS => ?_)
        have hP : zP g [(q, .inr (6, [.ref qn, .ref qp, .int (iI ac), .ref qi, .ref qk, .ref qt, .ref qw, .ref qv, .ref qr])), zI g qn 647 N, zI g qt 8 (ups TU k (N (7 + (pi_ * 128 + (wi * 8 + k)))))] H := hP
        have hD : va_D A [(q, .inr (6, [.ref qn, .ref qp, .int (iI ac), .ref qi, .ref qk, .ref qt, .ref qw, .ref qv, .ref qr])), zI g qn 647 N, zI g qt 8 (ups TU k (N (7 + (pi_ * 128 + (wi * 8 + k)))))] := hD
        refine z_iinc (b := k + 1) (lv' := [(3, .int (iI (k + 1))), (0, .ref q), (1, .int (iI pi_)), (2, .int (iI wi))]) hx hb dX6_turns_25 hl (k := 3) rfl (rfl) (by decide) rfl (fun ls hl => ?_)
        refine lv_goto (tgt := 2) hx hb dX6_turns_28 (by decide) ?_
        exact ih2 (k + 1) (ups TU k (N (7 + (pi_ * 128 + (wi * 8 + k))))) (by omega) (by omega) (fun j g1 g2 => by by_cases hj : j = k; (· rw [hj, ups_s]); (· rw [ups_n _ _ hj]; exact i3 j g1 (by omega))) (by omega) H locs ls (lv_sub hl [1, 2, 3, 0] rfl) (hP) (hD) hS
  exact L2 (9) 0 TU (by omega) (by omega) (fun j g1 g2 => by omega) (by omega) H locs ls (lv_sub hl [1, 2, 3, 0] rfl) (hP) (hD) hS
set_option maxRecDepth 20000 in
theorem in_m_X6_shareOf_X6 : ∀ w ∈ u_ws RX6 TX6 9, w ∈ wsX6_shareOf := zmem_of _ [2, 3, 4, 5, 6, 7, 8, 9, 10] (by decide +kernel)
set_option maxHeartbeats 4000000 in
set_option maxRecDepth 100000 in
theorem m_X6_shareOf (l : Launch) (g : zG) (q qn qp qi qk qt qw qv qr : Nat) (ac : Int) (TU : Int → Int) (k : Int) (h1 : 0 ≤ k) (h2 : k < 8) : zS l yX6_shareOf wsX6_shareOf ({ frames := 0, cells := 0, slots := 0, locals := 0 }) g [.ref q, .int (iI k)] [(q, .inr (6, [.ref qn, .ref qp, .int (iI ac), .ref qi, .ref qk, .ref qt, .ref qw, .ref qv, .ref qr])), zI g qt 8 TU] (sh TU k) := by
  refine z_entS (cc := cX6_shareOf) (nL := 2) (ret := (some .int)) (own := RX6) (by decide) rfl rfl (Nat.le_of_ble_eq_true rfl) ?_
  intro p e s m below meth c Q ls C hlk hr hQ hP hK hl
  have hx := C.1
  have hb := C.2.1
  have hl : lv_has ls 2 [(0, .ref q), (1, .int (iI k))] := hl
  refine lv_aload_n hx hb dX6_shareOf_0 rfl (lv_at hl 0 rfl) ?_
  refine z_get (v := .ref qt) (Cn := RX6) (T := TX6) (N := 9) (ci := 6) C in_m_X6_shareOf_X6 hK hP 0 rfl rfl 5 (by decide) (List.mem_of_getElem? (i := 1) rfl) rfl dX6_shareOf_1 ?_
  refine lv_iload_n hx hb dX6_shareOf_4 rfl (lv_at hl 1 rfl) ?_
  refine z_iald hx hb hK hP 1 rfl (by omega) (by omega) (Nat.le_of_ble_eq_true rfl) dX6_shareOf_5 ?_
  refine lv_aload_n hx hb dX6_shareOf_6 rfl (lv_at hl 0 rfl) ?_
  refine z_get (v := .ref qt) (Cn := RX6) (T := TX6) (N := 9) (ci := 6) C in_m_X6_shareOf_X6 hK hP 0 rfl rfl 5 (by decide) (List.mem_of_getElem? (i := 1) rfl) rfl dX6_shareOf_7 ?_
  refine lv_iload_n hx hb dX6_shareOf_10 rfl (lv_at hl 1 rfl) ?_
  refine z_iald hx hb hK hP 1 rfl (by omega) (by omega) (Nat.le_of_ble_eq_true rfl) dX6_shareOf_11 ?_
  refine z_imul hx hb dX6_shareOf_12 ?_
  refine lv_bipush (v := iI 64) hx hb dX6_shareOf_13 (by decide +kernel) ?_
  refine z_idiv hx hb dX6_shareOf_15 (by omega) (by omega) ?_
  exact z_retS hx hb hlk hr hQ dX6_shareOf_16 (rfl)
set_option maxRecDepth 20000 in
theorem in_m_X6_peakOf_X6 : ∀ w ∈ u_ws RX6 TX6 9, w ∈ wsX6_peakOf := zmem_of _ [16, 17, 18, 19, 20, 21, 22, 23, 24] (by decide +kernel)
set_option maxHeartbeats 4000000 in
set_option maxRecDepth 100000 in
theorem m_X6_peakOf (l : Launch) (g : zG) (q qn qp qi qk qt qw qv qr : Nat) (ac : Int) (N TU : Int → Int) (pi_ wi : Int) (h1 : 0 ≤ pi_) (h2 : pi_ < 5) (w1 : 0 ≤ wi ∧ wi < 16) (f1 : 0 ≤ N 0 ∧ N 0 ≤ 99999) : zE l yX6_peakOf wsX6_peakOf ({ frames := 2, cells := 0, slots := 0, locals := 48 }) g [.ref q, .int (iI pi_), .int (iI wi)] [(q, .inr (6, [.ref qn, .ref qp, .int (iI ac), .ref qi, .ref qk, .ref qt, .ref qw, .ref qv, .ref qr])), zI g qn 647 N, zI g qt 8 TU] (S := Unit) (fun r _ => r = pk8 (fun i => N (7 + (pi_ * 128 + (wi * 8 + i)))) (N 0)) (fun _ => [(q, .inr (6, [.ref qn, .ref qp, .int (iI ac), .ref qi, .ref qk, .ref qt, .ref qw, .ref qv, .ref qr])), zI g qn 647 N, zI g qt 8 (wv (fun i => N (7 + (pi_ * 128 + (wi * 8 + i)))))]) := by
  refine z_entE (cc := cX6_peakOf) (nL := 5) (ret := (some .int)) (own := RX6) (by decide) rfl rfl (Nat.le_of_ble_eq_true rfl) ?_
  intro p e s m below meth c Q ls A C hlk hr hQ hP hK hD hA hS hl
  have hx := C.1
  have hb := C.2.1
  have hl : lv_has ls 5 [(0, .ref q), (1, .int (iI pi_)), (2, .int (iI wi))] := hl
  obtain ⟨H, hHe⟩ : ∃ H, H = s.heap := ⟨_, rfl⟩
  obtain ⟨locs, hLe⟩ : ∃ q : List Loc, q = [] := ⟨_, rfl⟩
  have hP : zP g [(q, .inr (6, [.ref qn, .ref qp, .int (iI ac), .ref qi, .ref qk, .ref qt, .ref qw, .ref qv, .ref qr])), zI g qn 647 N, zI g qt 8 TU] H := by rw [hHe]; exact hP
  have hS : va_S A s.heap H locs := by rw [hHe, hLe]; exact hS
  suffices hgo : W p l e ({ frames := 2, cells := 0, slots := 0, locals := 48 }) s m ([.ref q, .int (iI pi_), .int (iI wi)] : List Value).toArray below meth c H locs 0 0 Q (F0 m 0 ls []) by rw [hHe, hLe] at hgo; exact hgo
  clear hHe hLe
  refine lv_aload_n hx hb dX6_peakOf_0 rfl (lv_at hl 0 rfl) ?_
  refine lv_iload_n hx hb dX6_peakOf_1 rfl (lv_at hl 1 rfl) ?_
  refine lv_iload_n hx hb dX6_peakOf_2 rfl (lv_at hl 2 rfl) ?_
  refine z_cV (As := [.int (iI pi_), .int (iI wi)]) (rest := []) C (m_X6_turns (l := l) (g := g) (q := q) (qn := qn) (qp := qp) (qi := qi) (qk := qk) (qt := qt) (qw := qw) (qv := qv) (qr := qr) (ac := ac) (N := N) (TU := TU) (pi_ := pi_) (wi := wi) (h1 := by omega) (h2 := by omega) (w1 := by omega)) (cwV 2 C.2.2.2.2 gX6_peakOf_X6_turns rfl rfl rfl (by decide +kernel) ⟨Nat.le_of_ble_eq_true rfl, Nat.le_of_ble_eq_true rfl⟩) hK hP hD hS hA [0, 1, 2] (by decide) rfl (fun _ => rfl) 0 rfl rfl rfl hl.1 rfl (Nat.le_of_ble_eq_true rfl) dX6_peakOf_3 ⟨Nat.zero_le _, Nat.zero_le _⟩ (fun u_1 H locs hq_2 hP hD hS => ?_)
  have hP : zP g [(q, .inr (6, [.ref qn, .ref qp, .int (iI ac), .ref qi, .ref qk, .ref qt, .ref qw, .ref qv, .ref qr])), zI g qn 647 N, zI g qt 8 (wv (fun i => N (7 + (pi_ * 128 + (wi * 8 + i)))))] H := hP
  have hD : va_D A [(q, .inr (6, [.ref qn, .ref qp, .int (iI ac), .ref qi, .ref qk, .ref qt, .ref qw, .ref qv, .ref qr])), zI g qn 647 N, zI g qt 8 (wv (fun i => N (7 + (pi_ * 128 + (wi * 8 + i)))))] := hD
  refine lv_iconst (v := iI 1) hx hb dX6_peakOf_6 rfl ?_
  refine lv_istore_n (lv' := [(3, .int (iI 1)), (0, .ref q), (1, .int (iI pi_)), (2, .int (iI wi))]) hx hb dX6_peakOf_7 rfl hl (by decide) rfl (fun ls hl => ?_)
  refine lv_iconst (v := iI 2) hx hb dX6_peakOf_8 rfl ?_
  refine lv_istore (lv' := [(4, .int (iI 2)), (3, .int (iI 1)), (0, .ref q), (1, .int (iI pi_)), (2, .int (iI wi))]) hx hb dX6_peakOf_9 hl (by decide) rfl (fun ls hl => ?_)
  have L11 : ∀ (n : Nat) (k : Int), (i1 : 2 ≤ k) → (i2 : k ≤ 8) → (hms : 8 - k < (n : Int)) → ∀ (H : Heap) (locs : List Loc) (ls : Array Slot), lv_has ls 5 [(0, .ref q), (3, .int (iI (bs (sh (wv (fun i => N (7 + (pi_ * 128 + (wi * 8 + i)))))) k))), (4, .int (iI k))] → zP g [(q, .inr (6, [.ref qn, .ref qp, .int (iI ac), .ref qi, .ref qk, .ref qt, .ref qw, .ref qv, .ref qr])), zI g qn 647 N, zI g qt 8 (wv (fun i => N (7 + (pi_ * 128 + (wi * 8 + i)))))] H → va_D A [(q, .inr (6, [.ref qn, .ref qp, .int (iI ac), .ref qi, .ref qk, .ref qt, .ref qw, .ref qv, .ref qr])), zI g qn 647 N, zI g qt 8 (wv (fun i => N (7 + (pi_ * 128 + (wi * 8 + i)))))] → va_S A s.heap H locs → W p l e ({ frames := 2, cells := 0, slots := 0, locals := 48 }) s m ([.ref q, .int (iI pi_), .int (iI wi)] : List Value).toArray below meth c H locs 0 0 Q (F0 m 11 ls []) := by
    clear hP hD hS hl
    intro n
    induction n with
    | zero =>
      intro k i1 i2 hms H locs ls hl hP hD hS
      exfalso; omega
    | succ n ih11 =>
      intro k i1 i2 hms H locs ls hl hP hD hS
      have hbs := bs_rg (sh (wv (fun i => N (7 + (pi_ * 128 + (wi * 8 + i)))))) (k := k) (by omega)
      refine lv_iload hx hb dX6_peakOf_11 (lv_at hl 2 rfl) ?_
      refine lv_bipush (v := iI 8) hx hb dX6_peakOf_13 (by decide +kernel) ?_
      refine z_icmp_ge (tgt := 45) hx hb dX6_peakOf_15 (by decide) (by omega) (by omega) (fun c_3 => ?_) (fun c_3 => ?_)
      · obtain rfl : k = 8 := by omega
        refine lv_aload_n hx hb dX6_peakOf_45 rfl (lv_at hl 0 rfl) ?_
        refine lv_iload_n hx hb dX6_peakOf_46 rfl (lv_at hl 1 rfl) ?_
        refine z_cS (As := [.int (iI (bs (sh (wv (fun i => N (7 + (pi_ * 128 + (wi * 8 + i)))))) 8))]) (rest := []) C (m_X6_shareOf (l := l) (g := g) (q := q) (qn := qn) (qp := qp) (qi := qi) (qk := qk) (qt := qt) (qw := qw) (qv := qv) (qr := qr) (ac := ac) (TU := wv (fun i => N (7 + (pi_ * 128 + (wi * 8 + i))))) (k := bs (sh (wv (fun i => N (7 + (pi_ * 128 + (wi * 8 + i)))))) 8) (h1 := by omega) (h2 := by omega)) (cwV 1 C.2.2.2.2 gX6_peakOf_X6_shareOf rfl rfl rfl (by decide +kernel) ⟨Nat.le_of_ble_eq_true rfl, Nat.le_of_ble_eq_true rfl⟩) hK hP [0, 2] rfl 0 rfl rfl rfl hl.1 rfl (Nat.le_of_ble_eq_true rfl) dX6_peakOf_47 ⟨Nat.zero_le _, Nat.zero_le _⟩ ?_
        have hsr := sh_rg (wv (fun i => N (7 + (pi_ * 128 + (wi * 8 + i))))) (bs (sh (wv (fun i => N (7 + (pi_ * 128 + (wi * 8 + i)))))) 8)
        refine lv_aload_n hx hb dX6_peakOf_50 rfl (lv_at hl 0 rfl) ?_
        refine z_get (v := .ref qn) (Cn := RX6) (T := TX6) (N := 9) (ci := 6) C in_m_X6_peakOf_X6 hK hP 0 rfl rfl 0 (by decide) (List.mem_of_getElem? (i := 1) rfl) rfl dX6_peakOf_51 ?_
        refine lv_iconst (v := iI 0) hx hb dX6_peakOf_54 rfl ?_
        refine z_iald hx hb hK hP 1 rfl (by omega) (by omega) (Nat.le_of_ble_eq_true rfl) dX6_peakOf_55 ?_
        refine z_icmp_lt (tgt := 63) hx hb dX6_peakOf_56 (by decide) (by omega) (by omega) (fun c_4 => ?_) (fun c_4 => ?_)
        · refine lv_iconst (v := iI (-1)) hx hb dX6_peakOf_63 rfl ?_
          exact z_retE hx hb hlk hr hQ dX6_peakOf_64 hS () (by
            show _ = pk8 _ _
            unfold pk8
            rw [if_neg (by omega)]) (hP)
        · refine lv_iload_n hx hb dX6_peakOf_59 rfl (lv_at hl 1 rfl) ?_
          refine lv_goto (tgt := 64) hx hb dX6_peakOf_60 (by decide) ?_
          exact z_retE hx hb hlk hr hQ dX6_peakOf_64 hS () (by
            show _ = pk8 _ _
            unfold pk8
            rw [if_pos (by omega)]) (hP)
      · refine lv_aload_n hx hb dX6_peakOf_18 rfl (lv_at hl 0 rfl) ?_
        refine lv_iload hx hb dX6_peakOf_19 (lv_at hl 2 rfl) ?_
        refine z_cS (As := [.int (iI k)]) (rest := []) C (m_X6_shareOf (l := l) (g := g) (q := q) (qn := qn) (qp := qp) (qi := qi) (qk := qk) (qt := qt) (qw := qw) (qv := qv) (qr := qr) (ac := ac) (TU := wv (fun i => N (7 + (pi_ * 128 + (wi * 8 + i))))) (k := k) (h1 := by omega) (h2 := by omega)) (cwV 1 C.2.2.2.2 gX6_peakOf_X6_shareOf rfl rfl rfl (by decide +kernel) ⟨Nat.le_of_ble_eq_true rfl, Nat.le_of_ble_eq_true rfl⟩) hK hP [0, 2] rfl 0 rfl rfl rfl hl.1 rfl (Nat.le_of_ble_eq_true rfl) dX6_peakOf_21 ⟨Nat.zero_le _, Nat.zero_le _⟩ ?_
        have hsr := sh_rg (wv (fun i => N (7 + (pi_ * 128 + (wi * 8 + i))))) k
        refine lv_aload_n hx hb dX6_peakOf_24 rfl (lv_at hl 0 rfl) ?_
        refine lv_iload_n hx hb dX6_peakOf_25 rfl (lv_at hl 1 rfl) ?_
        refine z_cS (As := [.int (iI (bs (sh (wv (fun i => N (7 + (pi_ * 128 + (wi * 8 + i)))))) k))]) (rest := [.int (iI (sh (wv (fun i => N (7 + (pi_ * 128 + (wi * 8 + i))))) k))]) C (m_X6_shareOf (l := l) (g := g) (q := q) (qn := qn) (qp := qp) (qi := qi) (qk := qk) (qt := qt) (qw := qw) (qv := qv) (qr := qr) (ac := ac) (TU := wv (fun i => N (7 + (pi_ * 128 + (wi * 8 + i))))) (k := bs (sh (wv (fun i => N (7 + (pi_ * 128 + (wi * 8 + i)))))) k) (h1 := by omega) (h2 := by omega)) (cwV 1 C.2.2.2.2 gX6_peakOf_X6_shareOf rfl rfl rfl (by decide +kernel) ⟨Nat.le_of_ble_eq_true rfl, Nat.le_of_ble_eq_true rfl⟩) hK hP [0, 2] rfl 0 rfl rfl rfl hl.1 rfl (Nat.le_of_ble_eq_true rfl) dX6_peakOf_26 ⟨Nat.zero_le _, Nat.zero_le _⟩ ?_
        have hsr := sh_rg (wv (fun i => N (7 + (pi_ * 128 + (wi * 8 + i))))) (bs (sh (wv (fun i => N (7 + (pi_ * 128 + (wi * 8 + i)))))) k)
        refine z_icmp_le (tgt := 37) hx hb dX6_peakOf_29 (by decide) (by omega) (by omega) (fun hc => ?_) (fun hc => ?_)
        · refine lv_iload_n hx hb dX6_peakOf_37 rfl (lv_at hl 1 rfl) ?_
          refine lv_istore_n (lv' := [(3, .int (iI (bs (sh (wv (fun i => N (7 + (pi_ * 128 + (wi * 8 + i)))))) k))), (0, .ref q), (4, .int (iI k))]) hx hb dX6_peakOf_38 rfl hl (by decide) rfl (fun ls hl => ?_)
          refine z_iinc (b := k + 1) (lv' := [(4, .int (iI (k + 1))), (3, .int (iI (bs (sh (wv (fun i => N (7 + (pi_ * 128 + (wi * 8 + i)))))) k))), (0, .ref q)]) hx hb dX6_peakOf_39 hl (k := 2) rfl (rfl) (by decide) rfl (fun ls hl => ?_)
          refine lv_goto (tgt := 11) hx hb dX6_peakOf_42 (by decide) ?_
          have hl := lv_chg hl 1 (b := bs (sh (wv (fun i => N (7 + (pi_ * 128 + (wi * 8 + i)))))) (k + 1)) rfl ((bs_f (by omega) hc).symm)
          have hl : lv_has ls 5 [(4, .int (iI (k + 1))), (3, .int (iI (bs (sh (wv (fun i => N (7 + (pi_ * 128 + (wi * 8 + i)))))) (k + 1)))), (0, .ref q)] := hl
          exact ih11 (k + 1) (by omega) (by omega) (by omega) H locs ls (lv_sub hl [2, 1, 0] rfl) (hP) (hD) hS
        · refine lv_iload hx hb dX6_peakOf_32 (lv_at hl 2 rfl) ?_
          refine lv_goto (tgt := 38) hx hb dX6_peakOf_34 (by decide) ?_
          refine lv_istore_n (lv' := [(3, .int (iI k)), (0, .ref q), (4, .int (iI k))]) hx hb dX6_peakOf_38 rfl hl (by decide) rfl (fun ls hl => ?_)
          refine z_iinc (b := k + 1) (lv' := [(4, .int (iI (k + 1))), (3, .int (iI k)), (0, .ref q)]) hx hb dX6_peakOf_39 hl (k := 2) rfl (rfl) (by decide) rfl (fun ls hl => ?_)
          refine lv_goto (tgt := 11) hx hb dX6_peakOf_42 (by decide) ?_
          have hl := lv_chg hl 1 (b := bs (sh (wv (fun i => N (7 + (pi_ * 128 + (wi * 8 + i)))))) (k + 1)) rfl ((bs_t (by omega) hc).symm)
          have hl : lv_has ls 5 [(4, .int (iI (k + 1))), (3, .int (iI (bs (sh (wv (fun i => N (7 + (pi_ * 128 + (wi * 8 + i)))))) (k + 1)))), (0, .ref q)] := hl
          exact ih11 (k + 1) (by omega) (by omega) (by omega) H locs ls (lv_sub hl [2, 1, 0] rfl) (hP) (hD) hS
  have hl := lv_chg hl 1 (b := bs (sh (wv (fun i => N (7 + (pi_ * 128 + (wi * 8 + i)))))) 2) rfl ((bs_2 _).symm)
  have hl : lv_has ls 5 [(4, .int (iI 2)), (3, .int (iI (bs (sh (wv (fun i => N (7 + (pi_ * 128 + (wi * 8 + i)))))) 2))), (0, .ref q), (1, .int (iI pi_)), (2, .int (iI wi))] := hl
  exact L11 (9) 2 (by omega) (by omega) (by omega) H locs ls (lv_sub hl [2, 1, 0] rfl) (hP) (hD) hS
set_option maxRecDepth 20000 in
theorem in_m_X6_findsPeaks_X6 : ∀ w ∈ u_ws RX6 TX6 9, w ∈ wsX6_findsPeaks := zmem_of _ [25, 26, 27, 28, 29, 30, 31, 32, 33] (by decide +kernel)
set_option maxHeartbeats 4000000 in
set_option maxRecDepth 100000 in
theorem m_X6_findsPeaks (l : Launch) (g : zG) (q qn qp qi qk qt qw qv qr : Nat) (ac : Int) (N TU PK : Int → Int) (zN : okN N) : zV l yX6_findsPeaks wsX6_findsPeaks ({ frames := 3, cells := 0, slots := 0, locals := 72 }) g [.ref q] [(q, .inr (6, [.ref qn, .ref qp, .int (iI ac), .ref qi, .ref qk, .ref qt, .ref qw, .ref qv, .ref qr])), zI g qn 647 N, zI g qt 8 TU, zI g qw 80 PK] (S := ((Int → Int) × (Int → Int))) (fun u => pkM N u.2) (fun u => [(q, .inr (6, [.ref qn, .ref qp, .int (iI ac), .ref qi, .ref qk, .ref qt, .ref qw, .ref qv, .ref qr])), zI g qn 647 N, zI g qt 8 (u.1), zI g qw 80 (u.2)]) := by
  refine z_entV (cc := cX6_findsPeaks) (nL := 3) (ret := none) (own := RX6) (by decide) rfl rfl (Nat.le_of_ble_eq_true rfl) ?_
  intro p e s m below meth c Q ls A C hlk hr hQ hP hK hD hA hS hl
  have hx := C.1
  have hb := C.2.1
  have hl : lv_has ls 3 [(0, .ref q)] := hl
  obtain ⟨H, hHe⟩ : ∃ H, H = s.heap := ⟨_, rfl⟩
  obtain ⟨locs, hLe⟩ : ∃ q : List Loc, q = [] := ⟨_, rfl⟩
  have hP : zP g [(q, .inr (6, [.ref qn, .ref qp, .int (iI ac), .ref qi, .ref qk, .ref qt, .ref qw, .ref qv, .ref qr])), zI g qn 647 N, zI g qt 8 TU, zI g qw 80 PK] H := by rw [hHe]; exact hP
  have hS : va_S A s.heap H locs := by rw [hHe, hLe]; exact hS
  suffices hgo : W p l e ({ frames := 3, cells := 0, slots := 0, locals := 72 }) s m ([.ref q] : List Value).toArray below meth c H locs 0 0 Q (F0 m 0 ls []) by rw [hHe, hLe] at hgo; exact hgo
  clear hHe hLe
  refine lv_iconst (v := iI 0) hx hb dX6_findsPeaks_0 rfl ?_
  refine lv_istore_n (lv' := [(1, .int (iI 0)), (0, .ref q)]) hx hb dX6_findsPeaks_1 rfl hl (by decide) rfl (fun ls hl => ?_)
  have L2 : ∀ (n : Nat) (r_ : Int) (TU : Int → Int) (PK : Int → Int), (i1 : 0 ≤ r_) → (i2 : r_ ≤ 5) → (i3 : ∀ r w, 0 ≤ r → r < r_ → 0 ≤ w → w < N (2 + r) / 8 → PK (16 * r + w) = FDn N (r * 16 + w)) → (hms : 5 - r_ < (n : Int)) → ∀ (H : Heap) (locs : List Loc) (ls : Array Slot), lv_has ls 3 [(0, .ref q), (1, .int (iI r_))] → zP g [(q, .inr (6, [.ref qn, .ref qp, .int (iI ac), .ref qi, .ref qk, .ref qt, .ref qw, .ref qv, .ref qr])), zI g qn 647 N, zI g qt 8 TU, zI g qw 80 PK] H → va_D A [(q, .inr (6, [.ref qn, .ref qp, .int (iI ac), .ref qi, .ref qk, .ref qt, .ref qw, .ref qv, .ref qr])), zI g qn 647 N, zI g qt 8 TU, zI g qw 80 PK] → va_S A s.heap H locs → W p l e ({ frames := 3, cells := 0, slots := 0, locals := 72 }) s m ([.ref q] : List Value).toArray below meth c H locs 0 0 Q (F0 m 2 ls []) := by
    clear hP hD hS hl
    intro n
    induction n with
    | zero =>
      intro r_ TU PK i1 i2 i3 hms H locs ls hl hP hD hS
      exfalso; omega
    | succ n ih2 =>
      intro r_ TU PK i1 i2 i3 hms H locs ls hl hP hD hS
      refine lv_iload_n hx hb dX6_findsPeaks_2 rfl (lv_at hl 1 rfl) ?_
      refine lv_iconst (v := iI 5) hx hb dX6_findsPeaks_3 rfl ?_
      refine z_icmp_ge (tgt := 47) hx hb dX6_findsPeaks_4 (by decide) (by omega) (by omega) (fun c_1 => ?_) (fun c_1 => ?_)
      · exact z_retV hx hb hlk hr hQ dX6_findsPeaks_47 hS (TU, PK) (fun r w g1 g2 => i3 r w g1 (by omega)) (hP)
      · have hz1 := zN.2.2.1 r_ i1 (by omega)
        refine lv_iconst (v := iI 0) hx hb dX6_findsPeaks_7 rfl ?_
        refine lv_istore_n (lv' := [(2, .int (iI 0)), (0, .ref q), (1, .int (iI r_))]) hx hb dX6_findsPeaks_8 rfl hl (by decide) rfl (fun ls hl => ?_)
        have L9 : ∀ (n : Nat) (w_ : Int) (TU : Int → Int) (PK : Int → Int), (j1 : 0 ≤ w_) → (j2 : w_ ≤ N (2 + r_) / 8) → (j3 : ∀ r w, 0 ≤ r → r < r_ → 0 ≤ w → w < N (2 + r) / 8 → PK (16 * r + w) = FDn N (r * 16 + w)) → (j4 : ∀ w, 0 ≤ w → w < w_ → PK (16 * r_ + w) = FDn N (r_ * 16 + w)) → (hms : N (2 + r_) / 8 - w_ < (n : Int)) → ∀ (H : Heap) (locs : List Loc) (ls : Array Slot), lv_has ls 3 [(0, .ref q), (1, .int (iI r_)), (2, .int (iI w_))] → zP g [(q, .inr (6, [.ref qn, .ref qp, .int (iI ac), .ref qi, .ref qk, .ref qt, .ref qw, .ref qv, .ref qr])), zI g qn 647 N, zI g qt 8 TU, zI g qw 80 PK] H → va_D A [(q, .inr (6, [.ref qn, .ref qp, .int (iI ac), .ref qi, .ref qk, .ref qt, .ref qw, .ref qv, .ref qr])), zI g qn 647 N, zI g qt 8 TU, zI g qw 80 PK] → va_S A s.heap H locs → W p l e ({ frames := 3, cells := 0, slots := 0, locals := 72 }) s m ([.ref q] : List Value).toArray below meth c H locs 0 0 Q (F0 m 9 ls []) := by
          clear hP hD hS hl
          intro n
          induction n with
          | zero =>
            intro w_ TU PK j1 j2 j3 j4 hms H locs ls hl hP hD hS
            exfalso; omega
          | succ n ih9 =>
            intro w_ TU PK j1 j2 j3 j4 hms H locs ls hl hP hD hS
            refine lv_iload_n hx hb dX6_findsPeaks_9 rfl (lv_at hl 2 rfl) ?_
            refine lv_aload_n hx hb dX6_findsPeaks_10 rfl (lv_at hl 0 rfl) ?_
            refine lv_iload_n hx hb dX6_findsPeaks_11 rfl (lv_at hl 1 rfl) ?_
            refine z_cS (As := [.int (iI r_)]) (rest := [.int (iI w_)]) C (m_X6_windows (l := l) (g := g) (q := q) (qn := qn) (qp := qp) (qi := qi) (qk := qk) (qt := qt) (qw := qw) (qv := qv) (qr := qr) (ac := ac) (N := N) (pi_ := r_) (h1 := by omega) (h2 := by omega) (z1 := by omega)) (cwV 1 C.2.2.2.2 gX6_findsPeaks_X6_windows rfl rfl rfl (by decide +kernel) ⟨Nat.le_of_ble_eq_true rfl, Nat.le_of_ble_eq_true rfl⟩) hK hP [0, 1] rfl 0 rfl rfl rfl hl.1 rfl (Nat.le_of_ble_eq_true rfl) dX6_findsPeaks_12 ⟨Nat.zero_le _, Nat.zero_le _⟩ ?_
            refine z_icmp_ge (tgt := 41) hx hb dX6_findsPeaks_15 (by decide) (by omega) (by omega) (fun c_2 => ?_) (fun c_2 => ?_)
            · refine z_iinc (b := r_ + 1) (lv' := [(1, .int (iI (r_ + 1))), (0, .ref q), (2, .int (iI w_))]) hx hb dX6_findsPeaks_41 hl (k := 1) rfl (rfl) (by decide) rfl (fun ls hl => ?_)
              refine lv_goto (tgt := 2) hx hb dX6_findsPeaks_44 (by decide) ?_
              exact ih2 (r_ + 1) TU PK (by omega) (by omega) (fun r w g1 g2 g3 g4 => by by_cases hr9 : r = r_; (· subst hr9; exact j4 w g3 (by omega)); (· exact j3 r w g1 (by omega) g3 g4)) (by omega) H locs ls (lv_sub hl [1, 0] rfl) (hP) (hD) hS
            · refine lv_aload_n hx hb dX6_findsPeaks_18 rfl (lv_at hl 0 rfl) ?_
              refine z_get (v := .ref qw) (Cn := RX6) (T := TX6) (N := 9) (ci := 6) C in_m_X6_findsPeaks_X6 hK hP 0 rfl rfl 6 (by decide) (List.mem_of_getElem? (i := 1) rfl) rfl dX6_findsPeaks_19 ?_
              refine lv_bipush (v := iI 16) hx hb dX6_findsPeaks_22 (by decide +kernel) ?_
              refine lv_iload_n hx hb dX6_findsPeaks_24 rfl (lv_at hl 1 rfl) ?_
              refine z_imul hx hb dX6_findsPeaks_25 ?_
              refine lv_iload_n hx hb dX6_findsPeaks_26 rfl (lv_at hl 2 rfl) ?_
              refine z_iadd hx hb dX6_findsPeaks_27 ?_
              refine lv_aload_n hx hb dX6_findsPeaks_28 rfl (lv_at hl 0 rfl) ?_
              refine lv_iload_n hx hb dX6_findsPeaks_29 rfl (lv_at hl 1 rfl) ?_
              refine lv_iload_n hx hb dX6_findsPeaks_30 rfl (lv_at hl 2 rfl) ?_
              refine z_cE (As := [.int (iI r_), .int (iI w_)]) (rest := [.int (iI ((16 * r_) + w_)), .ref qw]) C (m_X6_peakOf (l := l) (g := g) (q := q) (qn := qn) (qp := qp) (qi := qi) (qk := qk) (qt := qt) (qw := qw) (qv := qv) (qr := qr) (ac := ac) (N := N) (TU := TU) (pi_ := r_) (wi := w_) (h1 := by omega) (h2 := by omega) (w1 := by omega) (f1 := zN.1)) (cwV 2 C.2.2.2.2 gX6_findsPeaks_X6_peakOf rfl rfl rfl (by decide +kernel) ⟨Nat.le_of_ble_eq_true rfl, Nat.le_of_ble_eq_true rfl⟩) hK hP hD hS hA [0, 1, 2] (by decide) rfl (fun _ => rfl) 0 rfl rfl rfl hl.1 rfl (Nat.le_of_ble_eq_true rfl) dX6_findsPeaks_31 ⟨Nat.zero_le _, Nat.zero_le _⟩ (fun r_5 u_3 H locs hq_4 hP hD hS => ?_)
              have hq_4 : r_5 = pk8 (fun i => N (7 + (r_ * 128 + (w_ * 8 + i)))) (N 0) := hq_4
              subst hq_4
              have hP : zP g [(q, .inr (6, [.ref qn, .ref qp, .int (iI ac), .ref qi, .ref qk, .ref qt, .ref qw, .ref qv, .ref qr])), zI g qn 647 N, zI g qt 8 (wv (fun i => N (7 + (r_ * 128 + (w_ * 8 + i))))), zI g qw 80 PK] H := hP
              have hD : va_D A [(q, .inr (6, [.ref qn, .ref qp, .int (iI ac), .ref qi, .ref qk, .ref qt, .ref qw, .ref qv, .ref qr])), zI g qn 647 N, zI g qt 8 (wv (fun i => N (7 + (r_ * 128 + (w_ * 8 + i))))), zI g qw 80 PK] := hD
              refine z_iast hx hb hK hP hD hS 3 rfl (by omega) (by omega) (Nat.le_of_ble_eq_true rfl) dX6_findsPeaks_34 (fun H locs hP hD hS => ?_)
              have hP : zP g [(q, .inr (6, [.ref qn, .ref qp, .int (iI ac), .ref qi, .ref qk, .ref qt, .ref qw, .ref qv, .ref qr])), zI g qn 647 N, zI g qt 8 (wv (fun i => N (7 + (r_ * 128 + (w_ * 8 + i))))), zI g qw 80 (ups PK ((16 * r_) + w_) (pk8 (fun i => N (7 + (r_ * 128 + (w_ * 8 + i)))) (N 0)))] H := hP
              have hD : va_D A [(q, .inr (6, [.ref qn, .ref qp, .int (iI ac), .ref qi, .ref qk, .ref qt, .ref qw, .ref qv, .ref qr])), zI g qn 647 N, zI g qt 8 (wv (fun i => N (7 + (r_ * 128 + (w_ * 8 + i))))), zI g qw 80 (ups PK ((16 * r_) + w_) (pk8 (fun i => N (7 + (r_ * 128 + (w_ * 8 + i)))) (N 0)))] := hD
              refine z_iinc (b := w_ + 1) (lv' := [(2, .int (iI (w_ + 1))), (0, .ref q), (1, .int (iI r_))]) hx hb dX6_findsPeaks_35 hl (k := 2) rfl (rfl) (by decide) rfl (fun ls hl => ?_)
              refine lv_goto (tgt := 9) hx hb dX6_findsPeaks_38 (by decide) ?_
              exact ih9 (w_ + 1) (wv (fun i => N (7 + (r_ * 128 + (w_ * 8 + i))))) (ups PK ((16 * r_) + w_) (pk8 (fun i => N (7 + (r_ * 128 + (w_ * 8 + i)))) (N 0))) (by omega) (by omega) (fun r w g1 g2 g3 g4 => by have hz9 := zN.2.2.1 r g1 (by omega); rw [ups_n _ _ (by omega)]; exact j3 r w g1 g2 g3 g4) (fun w g1 g2 => by by_cases hw9 : w = w_; (· rw [hw9, ups_s]; exact (FDn_in j1 (by omega) (by omega)).symm); (· rw [ups_n _ _ (by omega)]; exact j4 w g1 (by omega))) (by omega) H locs ls (lv_sub hl [1, 2, 0] rfl) (hP) (hD) hS
        exact L9 (17) 0 TU PK (by omega) (by omega) (i3) (fun w g1 g2 => by omega) (by omega) H locs ls (lv_sub hl [1, 2, 0] rfl) (hP) (hD) hS
  exact L2 (6) 0 TU PK (by omega) (by omega) (fun r w g1 g2 => by omega) (by omega) H locs ls (lv_sub hl [1, 0] rfl) (hP) (hD) hS
set_option maxRecDepth 20000 in
theorem in_m_X6_keyOf_X6 : ∀ w ∈ u_ws RX6 TX6 9, w ∈ wsX6_keyOf := zmem_of _ [15, 16, 17, 18, 19, 20, 21, 22, 23] (by decide +kernel)
set_option maxHeartbeats 4000000 in
set_option maxRecDepth 100000 in
theorem m_X6_keyOf (l : Launch) (g : zG) (q qn qp qi qk qt qw qv qr : Nat) (ac : Int) (N PK : Int → Int) (pi_ v w : Int) (zN : okN N) (hpk : pkM N PK) (h1 : 0 ≤ pi_) (h2 : pi_ < 5) (v1 : -1000 ≤ v ∧ v ≤ 1000) (v2 : -1000 ≤ w ∧ w ≤ 1000) : zS l yX6_keyOf wsX6_keyOf ({ frames := 2, cells := 0, slots := 0, locals := 44 }) g [.ref q, .int (iI pi_), .int (iI v), .int (iI w)] [(q, .inr (6, [.ref qn, .ref qp, .int (iI ac), .ref qi, .ref qk, .ref qt, .ref qw, .ref qv, .ref qr])), zI g qn 647 N, zI g qw 80 PK] (kyf (FDn N) (N 1) pi_ v w) := by
  refine z_entS (cc := cX6_keyOf) (nL := 5) (ret := (some .int)) (own := RX6) (by decide) rfl rfl (Nat.le_of_ble_eq_true rfl) ?_
  intro p e s m below meth c Q ls C hlk hr hQ hP hK hl
  have hx := C.1
  have hb := C.2.1
  have hl : lv_has ls 5 [(0, .ref q), (1, .int (iI pi_)), (2, .int (iI v)), (3, .int (iI w))] := hl
  have hz1 := zN.2.2.1 pi_ (by omega) (by omega)
  have hz2 := zN.2.1
  refine lv_iload_n hx hb dX6_keyOf_0 rfl (lv_at hl 2 rfl) ?_
  refine lv_iload_n hx hb dX6_keyOf_1 rfl (lv_at hl 3 rfl) ?_
  refine z_icmp_ge (tgt := 39) hx hb dX6_keyOf_2 (by decide) (by omega) (by omega) (fun c_1 => ?_) (fun c_1 => ?_)
  · refine lv_iconst (v := iI 0) hx hb dX6_keyOf_39 rfl ?_
    refine lv_istore (lv' := [(4, .int (iI 0)), (0, .ref q), (1, .int (iI pi_)), (2, .int (iI v)), (3, .int (iI w))]) hx hb dX6_keyOf_40 hl (by decide) rfl (fun ls hl => ?_)
    refine lv_iload hx hb dX6_keyOf_42 (lv_at hl 0 rfl) ?_
    refine z_if_eq (tgt := 77) hx hb dX6_keyOf_44 (by decide) (by omega) (fun c_2 => ?_) (fun c_2 => ?_)
    · refine lv_iconst (v := iI (-1)) hx hb dX6_keyOf_77 rfl ?_
      exact z_retS hx hb hlk hr hQ dX6_keyOf_78 ((kyf_no (by omega)).symm)
    · exfalso; omega
  · refine lv_iload_n hx hb dX6_keyOf_5 rfl (lv_at hl 3 rfl) ?_
    refine lv_iload_n hx hb dX6_keyOf_6 rfl (lv_at hl 2 rfl) ?_
    refine z_isub hx hb dX6_keyOf_7 ?_
    refine lv_aload_n hx hb dX6_keyOf_8 rfl (lv_at hl 0 rfl) ?_
    refine z_get (v := .ref qn) (Cn := RX6) (T := TX6) (N := 9) (ci := 6) C in_m_X6_keyOf_X6 hK hP 0 rfl rfl 0 (by decide) (List.mem_of_getElem? (i := 1) rfl) rfl dX6_keyOf_9 ?_
    refine lv_iconst (v := iI 1) hx hb dX6_keyOf_12 rfl ?_
    refine z_iald hx hb hK hP 1 rfl (by omega) (by omega) (Nat.le_of_ble_eq_true rfl) dX6_keyOf_13 ?_
    refine z_icmp_gt (tgt := 39) hx hb dX6_keyOf_14 (by decide) (by omega) (by omega) (fun c_3 => ?_) (fun c_3 => ?_)
    · refine lv_iconst (v := iI 0) hx hb dX6_keyOf_39 rfl ?_
      refine lv_istore (lv' := [(4, .int (iI 0)), (0, .ref q), (1, .int (iI pi_)), (2, .int (iI v)), (3, .int (iI w))]) hx hb dX6_keyOf_40 hl (by decide) rfl (fun ls hl => ?_)
      refine lv_iload hx hb dX6_keyOf_42 (lv_at hl 0 rfl) ?_
      refine z_if_eq (tgt := 77) hx hb dX6_keyOf_44 (by decide) (by omega) (fun c_4 => ?_) (fun c_4 => ?_)
      · refine lv_iconst (v := iI (-1)) hx hb dX6_keyOf_77 rfl ?_
        exact z_retS hx hb hlk hr hQ dX6_keyOf_78 ((kyf_no (by omega)).symm)
      · exfalso; omega
    · refine lv_aload_n hx hb dX6_keyOf_17 rfl (lv_at hl 0 rfl) ?_
      refine lv_iload_n hx hb dX6_keyOf_18 rfl (lv_at hl 1 rfl) ?_
      refine lv_iload_n hx hb dX6_keyOf_19 rfl (lv_at hl 2 rfl) ?_
      refine z_cS (As := [.int (iI pi_), .int (iI v)]) (rest := []) C (m_X6_isWindow (l := l) (g := g) (q := q) (qn := qn) (qp := qp) (qi := qi) (qk := qk) (qt := qt) (qw := qw) (qv := qv) (qr := qr) (ac := ac) (N := N) (pi_ := pi_) (w := v) (h1 := by omega) (h2 := by omega) (g_w := by omega) (z1 := by omega)) (cwV 2 C.2.2.2.2 gX6_keyOf_X6_isWindow rfl rfl rfl (by decide +kernel) ⟨Nat.le_of_ble_eq_true rfl, Nat.le_of_ble_eq_true rfl⟩) hK hP [0, 1] rfl 0 rfl rfl rfl hl.1 rfl (Nat.le_of_ble_eq_true rfl) dX6_keyOf_20 ⟨Nat.zero_le _, Nat.zero_le _⟩ ?_
      refine z_ifb_eq (tgt := 39) hx hb dX6_keyOf_23 (by decide) (fun c_3 => ?_) (fun c_3 => ?_)
      · refine lv_iconst (v := iI 0) hx hb dX6_keyOf_39 rfl ?_
        refine lv_istore (lv' := [(4, .int (iI 0)), (0, .ref q), (1, .int (iI pi_)), (2, .int (iI v)), (3, .int (iI w))]) hx hb dX6_keyOf_40 hl (by decide) rfl (fun ls hl => ?_)
        refine lv_iload hx hb dX6_keyOf_42 (lv_at hl 0 rfl) ?_
        refine z_if_eq (tgt := 77) hx hb dX6_keyOf_44 (by decide) (by omega) (fun c_5 => ?_) (fun c_5 => ?_)
        · refine lv_iconst (v := iI (-1)) hx hb dX6_keyOf_77 rfl ?_
          exact z_retS hx hb hlk hr hQ dX6_keyOf_78 ((ky_nw (Or.inl c_3)).symm)
        · exfalso; omega
      · refine lv_aload_n hx hb dX6_keyOf_26 rfl (lv_at hl 0 rfl) ?_
        refine lv_iload_n hx hb dX6_keyOf_27 rfl (lv_at hl 1 rfl) ?_
        refine lv_iload_n hx hb dX6_keyOf_28 rfl (lv_at hl 3 rfl) ?_
        refine z_cS (As := [.int (iI pi_), .int (iI w)]) (rest := []) C (m_X6_isWindow (l := l) (g := g) (q := q) (qn := qn) (qp := qp) (qi := qi) (qk := qk) (qt := qt) (qw := qw) (qv := qv) (qr := qr) (ac := ac) (N := N) (pi_ := pi_) (w := w) (h1 := by omega) (h2 := by omega) (g_w := by omega) (z1 := by omega)) (cwV 2 C.2.2.2.2 gX6_keyOf_X6_isWindow rfl rfl rfl (by decide +kernel) ⟨Nat.le_of_ble_eq_true rfl, Nat.le_of_ble_eq_true rfl⟩) hK hP [0, 1] rfl 0 rfl rfl rfl hl.1 rfl (Nat.le_of_ble_eq_true rfl) dX6_keyOf_29 ⟨Nat.zero_le _, Nat.zero_le _⟩ ?_
        refine z_ifb_eq (tgt := 39) hx hb dX6_keyOf_32 (by decide) (fun c_4 => ?_) (fun c_4 => ?_)
        · refine lv_iconst (v := iI 0) hx hb dX6_keyOf_39 rfl ?_
          refine lv_istore (lv' := [(4, .int (iI 0)), (0, .ref q), (1, .int (iI pi_)), (2, .int (iI v)), (3, .int (iI w))]) hx hb dX6_keyOf_40 hl (by decide) rfl (fun ls hl => ?_)
          refine lv_iload hx hb dX6_keyOf_42 (lv_at hl 0 rfl) ?_
          refine z_if_eq (tgt := 77) hx hb dX6_keyOf_44 (by decide) (by omega) (fun c_6 => ?_) (fun c_6 => ?_)
          · refine lv_iconst (v := iI (-1)) hx hb dX6_keyOf_77 rfl ?_
            exact z_retS hx hb hlk hr hQ dX6_keyOf_78 ((ky_nw (Or.inr c_4)).symm)
          · exfalso; omega
        · refine lv_iconst (v := iI 1) hx hb dX6_keyOf_35 rfl ?_
          refine lv_goto (tgt := 40) hx hb dX6_keyOf_36 (by decide) ?_
          refine lv_istore (lv' := [(4, .int (iI 1)), (0, .ref q), (1, .int (iI pi_)), (2, .int (iI v)), (3, .int (iI w))]) hx hb dX6_keyOf_40 hl (by decide) rfl (fun ls hl => ?_)
          refine lv_iload hx hb dX6_keyOf_42 (lv_at hl 0 rfl) ?_
          refine z_if_eq (tgt := 77) hx hb dX6_keyOf_44 (by decide) (by omega) (fun c_7 => ?_) (fun c_7 => ?_)
          · exfalso; omega
          · have hpv := hpk pi_ v (by omega) (by omega) (by omega) (by omega)
            have hpw := hpk pi_ w (by omega) (by omega) (by omega) (by omega)
            have hf1 := FDn_rg N (pi_ * 16 + v)
            have hf2 := FDn_rg N (pi_ * 16 + w)
            refine lv_aload_n hx hb dX6_keyOf_47 rfl (lv_at hl 1 rfl) ?_
            refine z_get (v := .ref qw) (Cn := RX6) (T := TX6) (N := 9) (ci := 6) C in_m_X6_keyOf_X6 hK hP 0 rfl rfl 6 (by decide) (List.mem_of_getElem? (i := 2) rfl) rfl dX6_keyOf_48 ?_
            refine lv_bipush (v := iI 16) hx hb dX6_keyOf_51 (by decide +kernel) ?_
            refine lv_iload_n hx hb dX6_keyOf_53 rfl (lv_at hl 2 rfl) ?_
            refine z_imul hx hb dX6_keyOf_54 ?_
            refine lv_iload_n hx hb dX6_keyOf_55 rfl (lv_at hl 3 rfl) ?_
            refine z_iadd hx hb dX6_keyOf_56 ?_
            refine z_iald hx hb hK hP 2 rfl (by omega) (by omega) (Nat.le_of_ble_eq_true rfl) dX6_keyOf_57 ?_
            refine lv_iconst (v := iI (-1)) hx hb dX6_keyOf_58 rfl ?_
            refine z_icmp_eq (tgt := 77) hx hb dX6_keyOf_59 (by decide) (by omega) (by omega) (fun c_8 => ?_) (fun c_8 => ?_)
            · refine lv_iconst (v := iI (-1)) hx hb dX6_keyOf_77 rfl ?_
              exact z_retS hx hb hlk hr hQ dX6_keyOf_78 ((kyf_no (by omega)).symm)
            · refine lv_aload_n hx hb dX6_keyOf_62 rfl (lv_at hl 1 rfl) ?_
              refine z_get (v := .ref qw) (Cn := RX6) (T := TX6) (N := 9) (ci := 6) C in_m_X6_keyOf_X6 hK hP 0 rfl rfl 6 (by decide) (List.mem_of_getElem? (i := 2) rfl) rfl dX6_keyOf_63 ?_
              refine lv_bipush (v := iI 16) hx hb dX6_keyOf_66 (by decide +kernel) ?_
              refine lv_iload_n hx hb dX6_keyOf_68 rfl (lv_at hl 2 rfl) ?_
              refine z_imul hx hb dX6_keyOf_69 ?_
              refine lv_iload_n hx hb dX6_keyOf_70 rfl (lv_at hl 4 rfl) ?_
              refine z_iadd hx hb dX6_keyOf_71 ?_
              refine z_iald hx hb hK hP 2 rfl (by omega) (by omega) (Nat.le_of_ble_eq_true rfl) dX6_keyOf_72 ?_
              refine lv_iconst (v := iI (-1)) hx hb dX6_keyOf_73 rfl ?_
              refine z_icmp_ne (tgt := 79) hx hb dX6_keyOf_74 (by decide) (by omega) (by omega) (fun c_9 => ?_) (fun c_9 => ?_)
              · refine lv_bipush (v := iI 64) hx hb dX6_keyOf_79 (by decide +kernel) ?_
                refine lv_iload_n hx hb dX6_keyOf_81 rfl (lv_at hl 4 rfl) ?_
                refine lv_iload_n hx hb dX6_keyOf_82 rfl (lv_at hl 3 rfl) ?_
                refine z_isub hx hb dX6_keyOf_83 ?_
                refine z_imul hx hb dX6_keyOf_84 ?_
                refine lv_bipush (v := iI 8) hx hb dX6_keyOf_85 (by decide +kernel) ?_
                refine lv_aload_n hx hb dX6_keyOf_87 rfl (lv_at hl 1 rfl) ?_
                refine z_get (v := .ref qw) (Cn := RX6) (T := TX6) (N := 9) (ci := 6) C in_m_X6_keyOf_X6 hK hP 0 rfl rfl 6 (by decide) (List.mem_of_getElem? (i := 2) rfl) rfl dX6_keyOf_88 ?_
                refine lv_bipush (v := iI 16) hx hb dX6_keyOf_91 (by decide +kernel) ?_
                refine lv_iload_n hx hb dX6_keyOf_93 rfl (lv_at hl 2 rfl) ?_
                refine z_imul hx hb dX6_keyOf_94 ?_
                refine lv_iload_n hx hb dX6_keyOf_95 rfl (lv_at hl 3 rfl) ?_
                refine z_iadd hx hb dX6_keyOf_96 ?_
                refine z_iald hx hb hK hP 2 rfl (by omega) (by omega) (Nat.le_of_ble_eq_true rfl) dX6_keyOf_97 ?_
                refine z_imul hx hb dX6_keyOf_98 ?_
                refine z_iadd hx hb dX6_keyOf_99 ?_
                refine lv_aload_n hx hb dX6_keyOf_100 rfl (lv_at hl 1 rfl) ?_
                refine z_get (v := .ref qw) (Cn := RX6) (T := TX6) (N := 9) (ci := 6) C in_m_X6_keyOf_X6 hK hP 0 rfl rfl 6 (by decide) (List.mem_of_getElem? (i := 2) rfl) rfl dX6_keyOf_101 ?_
                refine lv_bipush (v := iI 16) hx hb dX6_keyOf_104 (by decide +kernel) ?_
                refine lv_iload_n hx hb dX6_keyOf_106 rfl (lv_at hl 2 rfl) ?_
                refine z_imul hx hb dX6_keyOf_107 ?_
                refine lv_iload_n hx hb dX6_keyOf_108 rfl (lv_at hl 4 rfl) ?_
                refine z_iadd hx hb dX6_keyOf_109 ?_
                refine z_iald hx hb hK hP 2 rfl (by omega) (by omega) (Nat.le_of_ble_eq_true rfl) dX6_keyOf_110 ?_
                refine z_iadd hx hb dX6_keyOf_111 ?_
                exact z_retS hx hb hlk hr hQ dX6_keyOf_112 (by rw [kyf_yes (by omega), hpv, hpw])
              · refine lv_iconst (v := iI (-1)) hx hb dX6_keyOf_77 rfl ?_
                exact z_retS hx hb hlk hr hQ dX6_keyOf_78 ((kyf_no (by omega)).symm)
set_option maxHeartbeats 4000000 in
set_option maxRecDepth 100000 in
theorem m_X6_stands (l : Launch) (g : zG) (q qn qp qi qk qt qw qv qr : Nat) (ac : Int) (N PK : Int → Int) (pi_ key v : Int) (zN : okN N) (hpk : pkM N PK) (h1 : 0 ≤ pi_) (h2 : pi_ < 5) (v1 : 0 ≤ v ∧ v ≤ 15) (k1 : 0 ≤ key ∧ key ≤ 383) : zS l yX6_stands wsX6_stands ({ frames := 3, cells := 0, slots := 0, locals := 68 }) g [.ref q, .int (iI pi_), .int (iI key), .int (iI v)] [(q, .inr (6, [.ref qn, .ref qp, .int (iI ac), .ref qi, .ref qk, .ref qt, .ref qw, .ref qv, .ref qr])), zI g qn 647 N, zI g qw 80 PK] (bI (kyf (FDn N) (N 1) pi_ v (v + key / 64) = key)) := by
  refine z_entS (cc := cX6_stands) (nL := 4) (ret := (some .boolean)) (own := RX6) (by decide) rfl rfl (Nat.le_of_ble_eq_true rfl) ?_
  intro p e s m below meth c Q ls C hlk hr hQ hP hK hl
  have hx := C.1
  have hb := C.2.1
  have hl : lv_has ls 4 [(0, .ref q), (1, .int (iI pi_)), (2, .int (iI key)), (3, .int (iI v))] := hl
  refine lv_aload_n hx hb dX6_stands_0 rfl (lv_at hl 0 rfl) ?_
  refine lv_iload_n hx hb dX6_stands_1 rfl (lv_at hl 1 rfl) ?_
  refine lv_iload_n hx hb dX6_stands_2 rfl (lv_at hl 3 rfl) ?_
  refine lv_iload_n hx hb dX6_stands_3 rfl (lv_at hl 3 rfl) ?_
  refine lv_iload_n hx hb dX6_stands_4 rfl (lv_at hl 2 rfl) ?_
  refine lv_bipush (v := iI 64) hx hb dX6_stands_5 (by decide +kernel) ?_
  refine z_idivN hx hb dX6_stands_7 (by omega) (by omega) (by omega) (by omega) ?_
  refine z_iadd hx hb dX6_stands_8 ?_
  refine z_cS (As := [.int (iI pi_), .int (iI v), .int (iI (v + (key / 64)))]) (rest := []) C (m_X6_keyOf (l := l) (g := g) (q := q) (qn := qn) (qp := qp) (qi := qi) (qk := qk) (qt := qt) (qw := qw) (qv := qv) (qr := qr) (ac := ac) (N := N) (PK := PK) (pi_ := pi_) (v := v) (w := v + (key / 64)) (zN := zN) (hpk := hpk) (h1 := by omega) (h2 := by omega) (v1 := by omega) (v2 := by omega)) (cwV 3 C.2.2.2.2 gX6_stands_X6_keyOf rfl rfl rfl (by decide +kernel) ⟨Nat.le_of_ble_eq_true rfl, Nat.le_of_ble_eq_true rfl⟩) hK hP [0, 1, 2] rfl 0 rfl rfl rfl hl.1 rfl (Nat.le_of_ble_eq_true rfl) dX6_stands_9 ⟨Nat.zero_le _, Nat.zero_le _⟩ ?_
  have hkr := kyf_rg (FDn_rg N) (N 1) pi_ v (v + key / 64) (by have := zN.2.1; omega)
  refine lv_iload_n hx hb dX6_stands_12 rfl (lv_at hl 2 rfl) ?_
  refine z_icmp_ne (tgt := 20) hx hb dX6_stands_13 (by decide) (by omega) (by omega) (fun hc => ?_) (fun hc => ?_)
  · refine lv_iconst (v := iI 0) hx hb dX6_stands_20 rfl ?_
    exact z_retSb hx hb hlk hr hQ dX6_stands_21 (by omega) ((bI_f hc).symm)
  · refine lv_iconst (v := iI 1) hx hb dX6_stands_16 rfl ?_
    refine lv_goto (tgt := 21) hx hb dX6_stands_17 (by decide) ?_
    exact z_retSb hx hb hlk hr hQ dX6_stands_21 (by omega) ((bI_t hc).symm)
set_option maxHeartbeats 4000000 in
set_option maxRecDepth 100000 in
theorem m_X6_placesOf (l : Launch) (g : zG) (q qn qp qi qk qt qw qv qr : Nat) (ac : Int) (N PK : Int → Int) (key : Int) (zN : okN N) (hpk : pkM N PK) (k1 : 0 ≤ key ∧ key ≤ 383) : zS l yX6_placesOf wsX6_placesOf ({ frames := 4, cells := 0, slots := 0, locals := 91 }) g [.ref q, .int (iI key)] [(q, .inr (6, [.ref qn, .ref qp, .int (iI ac), .ref qi, .ref qk, .ref qt, .ref qw, .ref qv, .ref qr])), zI g qn 647 N, zI g qw 80 PK] (cnt (FDn N) (N 1) key (64)) := by
  refine z_entS (cc := cX6_placesOf) (nL := 5) (ret := (some .int)) (own := RX6) (by decide) rfl rfl (Nat.le_of_ble_eq_true rfl) ?_
  intro p e s m below meth c Q ls C hlk hr hQ hP hK hl
  have hx := C.1
  have hb := C.2.1
  have hl : lv_has ls 5 [(0, .ref q), (1, .int (iI key))] := hl
  refine lv_iconst (v := iI 0) hx hb dX6_placesOf_0 rfl ?_
  refine lv_istore_n (lv' := [(2, .int (iI 0)), (0, .ref q), (1, .int (iI key))]) hx hb dX6_placesOf_1 rfl hl (by decide) rfl (fun ls hl => ?_)
  refine lv_iconst (v := iI 0) hx hb dX6_placesOf_2 rfl ?_
  refine lv_istore_n (lv' := [(3, .int (iI 0)), (2, .int (iI 0)), (0, .ref q), (1, .int (iI key))]) hx hb dX6_placesOf_3 rfl hl (by decide) rfl (fun ls hl => ?_)
  have L4 : ∀ (n : Nat) (p_ : Int), (i1 : 0 ≤ p_) → (i2 : p_ ≤ 4) → (hms : 4 - p_ < (n : Int)) → ∀ (ls : Array Slot), lv_has ls 5 [(0, .ref q), (1, .int (iI key)), (2, .int (iI (cnt (FDn N) (N 1) key (p_ * 16)))), (3, .int (iI p_))] → W p l e ({ frames := 4, cells := 0, slots := 0, locals := 91 }) s m ([.ref q, .int (iI key)] : List Value).toArray below meth c s.heap [] 0 0 Q (F0 m 4 ls []) := by
    clear hl
    intro n
    induction n with
    | zero =>
      intro p_ i1 i2 hms ls hl
      exfalso; omega
    | succ n ih4 =>
      intro p_ i1 i2 hms ls hl
      refine lv_iload_n hx hb dX6_placesOf_4 rfl (lv_at hl 3 rfl) ?_
      refine lv_iconst (v := iI 4) hx hb dX6_placesOf_5 rfl ?_
      refine z_icmp_ge (tgt := 50) hx hb dX6_placesOf_6 (by decide) (by omega) (by omega) (fun c_1 => ?_) (fun c_1 => ?_)
      · obtain rfl : p_ = 4 := by omega
        refine lv_iload_n hx hb dX6_placesOf_50 rfl (lv_at hl 2 rfl) ?_
        exact z_retS hx hb hlk hr hQ dX6_placesOf_51 (by rw [show (4 : Int) * 16 = 64 by omega])
      · refine lv_iconst (v := iI 0) hx hb dX6_placesOf_9 rfl ?_
        refine lv_istore (lv' := [(4, .int (iI 0)), (0, .ref q), (1, .int (iI key)), (2, .int (iI (cnt (FDn N) (N 1) key (p_ * 16)))), (3, .int (iI p_))]) hx hb dX6_placesOf_10 hl (by decide) rfl (fun ls hl => ?_)
        have L12 : ∀ (n : Nat) (v : Int), (j1 : 0 ≤ v) → (j2 : v ≤ 16) → (hms : 16 - v < (n : Int)) → ∀ (ls : Array Slot), lv_has ls 5 [(0, .ref q), (1, .int (iI key)), (2, .int (iI (cnt (FDn N) (N 1) key (p_ * 16 + v)))), (3, .int (iI p_)), (4, .int (iI v))] → W p l e ({ frames := 4, cells := 0, slots := 0, locals := 91 }) s m ([.ref q, .int (iI key)] : List Value).toArray below meth c s.heap [] 0 0 Q (F0 m 12 ls []) := by
          clear hl
          intro n
          induction n with
          | zero =>
            intro v j1 j2 hms ls hl
            exfalso; omega
          | succ n ih12 =>
            intro v j1 j2 hms ls hl
            refine lv_iload hx hb dX6_placesOf_12 (lv_at hl 4 rfl) ?_
            refine lv_bipush (v := iI 16) hx hb dX6_placesOf_14 (by decide +kernel) ?_
            refine z_icmp_ge (tgt := 44) hx hb dX6_placesOf_16 (by decide) (by omega) (by omega) (fun c_2 => ?_) (fun c_2 => ?_)
            · refine z_iinc (b := p_ + 1) (lv' := [(3, .int (iI (p_ + 1))), (0, .ref q), (1, .int (iI key)), (2, .int (iI (cnt (FDn N) (N 1) key (p_ * 16 + v)))), (4, .int (iI v))]) hx hb dX6_placesOf_44 hl (k := 3) rfl (rfl) (by decide) rfl (fun ls hl => ?_)
              refine lv_goto (tgt := 4) hx hb dX6_placesOf_47 (by decide) ?_
              have hl := lv_chg hl 3 (b := cnt (FDn N) (N 1) key ((p_ + 1) * 16)) rfl (by rw [show v = 16 by omega, show p_ * 16 + 16 = (p_ + 1) * 16 by omega])
              have hl : lv_has ls 5 [(3, .int (iI (p_ + 1))), (0, .ref q), (1, .int (iI key)), (2, .int (iI (cnt (FDn N) (N 1) key ((p_ + 1) * 16)))), (4, .int (iI v))] := hl
              exact ih4 (p_ + 1) (by omega) (by omega) (by omega) ls (lv_sub hl [1, 2, 3, 0] rfl)
            · refine lv_iload_n hx hb dX6_placesOf_19 rfl (lv_at hl 2 rfl) ?_
              refine lv_aload_n hx hb dX6_placesOf_20 rfl (lv_at hl 0 rfl) ?_
              refine lv_iload_n hx hb dX6_placesOf_21 rfl (lv_at hl 3 rfl) ?_
              refine lv_iload_n hx hb dX6_placesOf_22 rfl (lv_at hl 1 rfl) ?_
              refine lv_iload hx hb dX6_placesOf_23 (lv_at hl 4 rfl) ?_
              refine z_cS (As := [.int (iI p_), .int (iI key), .int (iI v)]) (rest := [.int (iI (cnt (FDn N) (N 1) key (p_ * 16 + v)))]) C (m_X6_stands (l := l) (g := g) (q := q) (qn := qn) (qp := qp) (qi := qi) (qk := qk) (qt := qt) (qw := qw) (qv := qv) (qr := qr) (ac := ac) (N := N) (PK := PK) (pi_ := p_) (key := key) (v := v) (zN := zN) (hpk := hpk) (h1 := by omega) (h2 := by omega) (v1 := by omega) (k1 := by omega)) (cwV 3 C.2.2.2.2 gX6_placesOf_X6_stands rfl rfl rfl (by decide +kernel) ⟨Nat.le_of_ble_eq_true rfl, Nat.le_of_ble_eq_true rfl⟩) hK hP [0, 1, 2] rfl 0 rfl rfl rfl hl.1 rfl (Nat.le_of_ble_eq_true rfl) dX6_placesOf_25 ⟨Nat.zero_le _, Nat.zero_le _⟩ ?_
              refine z_ifb_eq (tgt := 35) hx hb dX6_placesOf_28 (by decide) (fun hc => ?_) (fun hc => ?_)
              · refine lv_iconst (v := iI 0) hx hb dX6_placesOf_35 rfl ?_
                refine z_iadd hx hb dX6_placesOf_36 ?_
                refine lv_istore_n (lv' := [(2, .int (iI ((cnt (FDn N) (N 1) key (p_ * 16 + v)) + 0))), (0, .ref q), (1, .int (iI key)), (3, .int (iI p_)), (4, .int (iI v))]) hx hb dX6_placesOf_37 rfl hl (by decide) rfl (fun ls hl => ?_)
                refine z_iinc (b := v + 1) (lv' := [(4, .int (iI (v + 1))), (2, .int (iI ((cnt (FDn N) (N 1) key (p_ * 16 + v)) + 0))), (0, .ref q), (1, .int (iI key)), (3, .int (iI p_))]) hx hb dX6_placesOf_38 hl (k := 4) rfl (rfl) (by decide) rfl (fun ls hl => ?_)
                refine lv_goto (tgt := 12) hx hb dX6_placesOf_41 (by decide) ?_
                have hl := lv_chg hl 1 (b := cnt (FDn N) (N 1) key (p_ * 16 + (v + 1))) rfl (by rw [show p_ * 16 + (v + 1) = p_ * 16 + v + 1 by omega, cnt_s _ _ _ i1 j1 (by omega), bI_f hc])
                have hl : lv_has ls 5 [(4, .int (iI (v + 1))), (2, .int (iI (cnt (FDn N) (N 1) key (p_ * 16 + (v + 1))))), (0, .ref q), (1, .int (iI key)), (3, .int (iI p_))] := hl
                exact ih12 (v + 1) (by omega) (by omega) (by omega) ls (lv_sub hl [2, 3, 1, 4, 0] rfl)
              · refine lv_iconst (v := iI 1) hx hb dX6_placesOf_31 rfl ?_
                refine lv_goto (tgt := 36) hx hb dX6_placesOf_32 (by decide) ?_
                refine z_iadd hx hb dX6_placesOf_36 ?_
                refine lv_istore_n (lv' := [(2, .int (iI ((cnt (FDn N) (N 1) key (p_ * 16 + v)) + 1))), (0, .ref q), (1, .int (iI key)), (3, .int (iI p_)), (4, .int (iI v))]) hx hb dX6_placesOf_37 rfl hl (by decide) rfl (fun ls hl => ?_)
                refine z_iinc (b := v + 1) (lv' := [(4, .int (iI (v + 1))), (2, .int (iI ((cnt (FDn N) (N 1) key (p_ * 16 + v)) + 1))), (0, .ref q), (1, .int (iI key)), (3, .int (iI p_))]) hx hb dX6_placesOf_38 hl (k := 4) rfl (rfl) (by decide) rfl (fun ls hl => ?_)
                refine lv_goto (tgt := 12) hx hb dX6_placesOf_41 (by decide) ?_
                have hl := lv_chg hl 1 (b := cnt (FDn N) (N 1) key (p_ * 16 + (v + 1))) rfl (by rw [show p_ * 16 + (v + 1) = p_ * 16 + v + 1 by omega, cnt_s _ _ _ i1 j1 (by omega), bI_t hc])
                have hl : lv_has ls 5 [(4, .int (iI (v + 1))), (2, .int (iI (cnt (FDn N) (N 1) key (p_ * 16 + (v + 1))))), (0, .ref q), (1, .int (iI key)), (3, .int (iI p_))] := hl
                exact ih12 (v + 1) (by omega) (by omega) (by omega) ls (lv_sub hl [2, 3, 1, 4, 0] rfl)
        have hl := lv_chg hl 3 (b := cnt (FDn N) (N 1) key (p_ * 16 + 0)) rfl (by rw [show p_ * 16 + 0 = p_ * 16 by omega])
        have hl : lv_has ls 5 [(4, .int (iI 0)), (0, .ref q), (1, .int (iI key)), (2, .int (iI (cnt (FDn N) (N 1) key (p_ * 16 + 0)))), (3, .int (iI p_))] := hl
        exact L12 (17) 0 (by omega) (by omega) (by omega) ls (lv_sub hl [1, 2, 3, 4, 0] rfl)
  have hl := lv_chg hl 1 (b := cnt (FDn N) (N 1) key (0 * 16)) rfl (by rw [show (0 : Int) * 16 = 0 by omega, cnt_0])
  have hl : lv_has ls 5 [(3, .int (iI 0)), (2, .int (iI (cnt (FDn N) (N 1) key (0 * 16)))), (0, .ref q), (1, .int (iI key))] := hl
  exact L4 (5) 0 (by omega) (by omega) (by omega) ls (lv_sub hl [2, 3, 1, 0] rfl)
set_option maxHeartbeats 4000000 in
set_option maxRecDepth 100000 in
theorem m_X6_keysOf (l : Launch) (g : zG) (q qn qp qi qk qt qw qv qr : Nat) (ac : Int) (N PK : Int → Int) (pi_ : Int) (zN : okN N) (hpk : pkM N PK) (h1 : 0 ≤ pi_) (h2 : pi_ < 5) : zS l yX6_keysOf wsX6_keysOf ({ frames := 3, cells := 0, slots := 0, locals := 68 }) g [.ref q, .int (iI pi_)] [(q, .inr (6, [.ref qn, .ref qp, .int (iI ac), .ref qi, .ref qk, .ref qt, .ref qw, .ref qv, .ref qr])), zI g qn 647 N, zI g qw 80 PK] (sumZ (fun x => hur (FDn N) (N 1) pi_ x) 16) := by
  refine z_entS (cc := cX6_keysOf) (nL := 5) (ret := (some .int)) (own := RX6) (by decide) rfl rfl (Nat.le_of_ble_eq_true rfl) ?_
  intro p e s m below meth c Q ls C hlk hr hQ hP hK hl
  have hx := C.1
  have hb := C.2.1
  have hl : lv_has ls 5 [(0, .ref q), (1, .int (iI pi_))] := hl
  refine lv_iconst (v := iI 0) hx hb dX6_keysOf_0 rfl ?_
  refine lv_istore_n (lv' := [(2, .int (iI 0)), (0, .ref q), (1, .int (iI pi_))]) hx hb dX6_keysOf_1 rfl hl (by decide) rfl (fun ls hl => ?_)
  refine lv_iconst (v := iI 0) hx hb dX6_keysOf_2 rfl ?_
  refine lv_istore_n (lv' := [(3, .int (iI 0)), (2, .int (iI 0)), (0, .ref q), (1, .int (iI pi_))]) hx hb dX6_keysOf_3 rfl hl (by decide) rfl (fun ls hl => ?_)
  have L4 : ∀ (n : Nat) (u : Int), (i1 : 0 ≤ u) → (i2 : u ≤ 16) → (hms : 16 - u < (n : Int)) → ∀ (ls : Array Slot), lv_has ls 5 [(0, .ref q), (1, .int (iI pi_)), (2, .int (iI (sumZ (fun x => hur (FDn N) (N 1) pi_ x) u))), (3, .int (iI u))] → W p l e ({ frames := 3, cells := 0, slots := 0, locals := 68 }) s m ([.ref q, .int (iI pi_)] : List Value).toArray below meth c s.heap [] 0 0 Q (F0 m 4 ls []) := by
    clear hl
    intro n
    induction n with
    | zero =>
      intro u i1 i2 hms ls hl
      exfalso; omega
    | succ n ih4 =>
      intro u i1 i2 hms ls hl
      refine lv_iload_n hx hb dX6_keysOf_4 rfl (lv_at hl 3 rfl) ?_
      refine lv_bipush (v := iI 16) hx hb dX6_keysOf_5 (by decide +kernel) ?_
      refine z_icmp_ge (tgt := 54) hx hb dX6_keysOf_7 (by decide) (by omega) (by omega) (fun c_1 => ?_) (fun c_1 => ?_)
      · obtain rfl : u = 16 := by omega
        refine lv_iload_n hx hb dX6_keysOf_54 rfl (lv_at hl 2 rfl) ?_
        exact z_retS hx hb hlk hr hQ dX6_keysOf_55 (rfl)
      · refine lv_iload_n hx hb dX6_keysOf_10 rfl (lv_at hl 3 rfl) ?_
        refine lv_iconst (v := iI 1) hx hb dX6_keysOf_11 rfl ?_
        refine z_iadd hx hb dX6_keysOf_12 ?_
        refine lv_istore (lv' := [(4, .int (iI (u + 1))), (0, .ref q), (1, .int (iI pi_)), (2, .int (iI (sumZ (fun x => hur (FDn N) (N 1) pi_ x) u))), (3, .int (iI u))]) hx hb dX6_keysOf_13 hl (by decide) rfl (fun ls hl => ?_)
        have L15 : ∀ (n : Nat) (w : Int), (j1 : u + 1 ≤ w) → (j2 : w ≤ 16) → (hms : 16 - w < (n : Int)) → ∀ (ls : Array Slot), lv_has ls 5 [(0, .ref q), (1, .int (iI pi_)), (2, .int (iI (sumZ (fun x => hur (FDn N) (N 1) pi_ x) u + sumZ (fun y => bI (kyf (FDn N) (N 1) pi_ u (u + (y + 1)) ≠ -1)) (w - u - 1)))), (3, .int (iI u)), (4, .int (iI w))] → W p l e ({ frames := 3, cells := 0, slots := 0, locals := 68 }) s m ([.ref q, .int (iI pi_)] : List Value).toArray below meth c s.heap [] 0 0 Q (F0 m 15 ls []) := by
          clear hl
          intro n
          induction n with
          | zero =>
            intro w j1 j2 hms ls hl
            exfalso; omega
          | succ n ih15 =>
            intro w j1 j2 hms ls hl
            refine lv_iload hx hb dX6_keysOf_15 (lv_at hl 4 rfl) ?_
            refine lv_bipush (v := iI 16) hx hb dX6_keysOf_17 (by decide +kernel) ?_
            refine z_icmp_ge (tgt := 48) hx hb dX6_keysOf_19 (by decide) (by omega) (by omega) (fun c_2 => ?_) (fun c_2 => ?_)
            · refine z_iinc (b := u + 1) (lv' := [(3, .int (iI (u + 1))), (0, .ref q), (1, .int (iI pi_)), (2, .int (iI (sumZ (fun x => hur (FDn N) (N 1) pi_ x) u + sumZ (fun y => bI (kyf (FDn N) (N 1) pi_ u (u + (y + 1)) ≠ -1)) (w - u - 1)))), (4, .int (iI w))]) hx hb dX6_keysOf_48 hl (k := 3) rfl (rfl) (by decide) rfl (fun ls hl => ?_)
              refine lv_goto (tgt := 4) hx hb dX6_keysOf_51 (by decide) ?_
              have hl := lv_chg hl 3 (b := sumZ (fun x => hur (FDn N) (N 1) pi_ x) (u + 1)) rfl (by rw [sumZ_s _ i1, hur_re (by omega) (by omega) (by omega)])
              have hl : lv_has ls 5 [(3, .int (iI (u + 1))), (0, .ref q), (1, .int (iI pi_)), (2, .int (iI (sumZ (fun x => hur (FDn N) (N 1) pi_ x) (u + 1)))), (4, .int (iI w))] := hl
              exact ih4 (u + 1) (by omega) (by omega) (by omega) ls (lv_sub hl [1, 2, 3, 0] rfl)
            · refine lv_iload_n hx hb dX6_keysOf_22 rfl (lv_at hl 2 rfl) ?_
              refine lv_aload_n hx hb dX6_keysOf_23 rfl (lv_at hl 0 rfl) ?_
              refine lv_iload_n hx hb dX6_keysOf_24 rfl (lv_at hl 1 rfl) ?_
              refine lv_iload_n hx hb dX6_keysOf_25 rfl (lv_at hl 3 rfl) ?_
              refine lv_iload hx hb dX6_keysOf_26 (lv_at hl 4 rfl) ?_
              refine z_cS (As := [.int (iI pi_), .int (iI u), .int (iI w)]) (rest := [.int (iI (sumZ (fun x => hur (FDn N) (N 1) pi_ x) u + sumZ (fun y => bI (kyf (FDn N) (N 1) pi_ u (u + (y + 1)) ≠ -1)) (w - u - 1)))]) C (m_X6_keyOf (l := l) (g := g) (q := q) (qn := qn) (qp := qp) (qi := qi) (qk := qk) (qt := qt) (qw := qw) (qv := qv) (qr := qr) (ac := ac) (N := N) (PK := PK) (pi_ := pi_) (v := u) (w := w) (zN := zN) (hpk := hpk) (h1 := by omega) (h2 := by omega) (v1 := by omega) (v2 := by omega)) (cwV 3 C.2.2.2.2 gX6_keysOf_X6_keyOf rfl rfl rfl (by decide +kernel) ⟨Nat.le_of_ble_eq_true rfl, Nat.le_of_ble_eq_true rfl⟩) hK hP [0, 1, 2] rfl 0 rfl rfl rfl hl.1 rfl (Nat.le_of_ble_eq_true rfl) dX6_keysOf_28 ⟨Nat.zero_le _, Nat.zero_le _⟩ ?_
              have hkr := kyf_rg (FDn_rg N) (N 1) pi_ u w (by have := zN.2.1; omega)
              refine lv_iconst (v := iI (-1)) hx hb dX6_keysOf_31 rfl ?_
              refine z_icmp_ne (tgt := 39) hx hb dX6_keysOf_32 (by decide) (by omega) (by omega) (fun hc => ?_) (fun hc => ?_)
              · refine lv_iconst (v := iI 1) hx hb dX6_keysOf_39 rfl ?_
                refine z_iadd hx hb dX6_keysOf_40 ?_
                refine lv_istore_n (lv' := [(2, .int (iI ((sumZ (fun x => hur (FDn N) (N 1) pi_ x) u + sumZ (fun y => bI (kyf (FDn N) (N 1) pi_ u (u + (y + 1)) ≠ -1)) (w - u - 1)) + 1))), (0, .ref q), (1, .int (iI pi_)), (3, .int (iI u)), (4, .int (iI w))]) hx hb dX6_keysOf_41 rfl hl (by decide) rfl (fun ls hl => ?_)
                refine z_iinc (b := w + 1) (lv' := [(4, .int (iI (w + 1))), (2, .int (iI ((sumZ (fun x => hur (FDn N) (N 1) pi_ x) u + sumZ (fun y => bI (kyf (FDn N) (N 1) pi_ u (u + (y + 1)) ≠ -1)) (w - u - 1)) + 1))), (0, .ref q), (1, .int (iI pi_)), (3, .int (iI u))]) hx hb dX6_keysOf_42 hl (k := 4) rfl (rfl) (by decide) rfl (fun ls hl => ?_)
                refine lv_goto (tgt := 15) hx hb dX6_keysOf_45 (by decide) ?_
                have hl := lv_chg hl 1 (b := sumZ (fun x => hur (FDn N) (N 1) pi_ x) u + sumZ (fun y => bI (kyf (FDn N) (N 1) pi_ u (u + (y + 1)) ≠ -1)) ((w + 1) - u - 1)) rfl (by rw [show w + 1 - u - 1 = (w - u - 1) + 1 by omega, sumZ_s _ (by omega), show u + (w - u - 1 + 1) = w by omega, bI_t hc]; omega)
                have hl : lv_has ls 5 [(4, .int (iI (w + 1))), (2, .int (iI (sumZ (fun x => hur (FDn N) (N 1) pi_ x) u + sumZ (fun y => bI (kyf (FDn N) (N 1) pi_ u (u + (y + 1)) ≠ -1)) ((w + 1) - u - 1)))), (0, .ref q), (1, .int (iI pi_)), (3, .int (iI u))] := hl
                exact ih15 (w + 1) (by omega) (by omega) (by omega) ls (lv_sub hl [2, 3, 1, 4, 0] rfl)
              · refine lv_iconst (v := iI 0) hx hb dX6_keysOf_35 rfl ?_
                refine lv_goto (tgt := 40) hx hb dX6_keysOf_36 (by decide) ?_
                refine z_iadd hx hb dX6_keysOf_40 ?_
                refine lv_istore_n (lv' := [(2, .int (iI ((sumZ (fun x => hur (FDn N) (N 1) pi_ x) u + sumZ (fun y => bI (kyf (FDn N) (N 1) pi_ u (u + (y + 1)) ≠ -1)) (w - u - 1)) + 0))), (0, .ref q), (1, .int (iI pi_)), (3, .int (iI u)), (4, .int (iI w))]) hx hb dX6_keysOf_41 rfl hl (by decide) rfl (fun ls hl => ?_)
                refine z_iinc (b := w + 1) (lv' := [(4, .int (iI (w + 1))), (2, .int (iI ((sumZ (fun x => hur (FDn N) (N 1) pi_ x) u + sumZ (fun y => bI (kyf (FDn N) (N 1) pi_ u (u + (y + 1)) ≠ -1)) (w - u - 1)) + 0))), (0, .ref q), (1, .int (iI pi_)), (3, .int (iI u))]) hx hb dX6_keysOf_42 hl (k := 4) rfl (rfl) (by decide) rfl (fun ls hl => ?_)
                refine lv_goto (tgt := 15) hx hb dX6_keysOf_45 (by decide) ?_
                have hl := lv_chg hl 1 (b := sumZ (fun x => hur (FDn N) (N 1) pi_ x) u + sumZ (fun y => bI (kyf (FDn N) (N 1) pi_ u (u + (y + 1)) ≠ -1)) ((w + 1) - u - 1)) rfl (by rw [show w + 1 - u - 1 = (w - u - 1) + 1 by omega, sumZ_s _ (by omega), show u + (w - u - 1 + 1) = w by omega, bI_f (fun z => z hc)]; omega)
                have hl : lv_has ls 5 [(4, .int (iI (w + 1))), (2, .int (iI (sumZ (fun x => hur (FDn N) (N 1) pi_ x) u + sumZ (fun y => bI (kyf (FDn N) (N 1) pi_ u (u + (y + 1)) ≠ -1)) ((w + 1) - u - 1)))), (0, .ref q), (1, .int (iI pi_)), (3, .int (iI u))] := hl
                exact ih15 (w + 1) (by omega) (by omega) (by omega) ls (lv_sub hl [2, 3, 1, 4, 0] rfl)
        have hl := lv_chg hl 3 (b := sumZ (fun x => hur (FDn N) (N 1) pi_ x) u + sumZ (fun y => bI (kyf (FDn N) (N 1) pi_ u (u + (y + 1)) ≠ -1)) ((u + 1) - u - 1)) rfl (by rw [show u + 1 - u - 1 = 0 by omega, sumZ_0]; omega)
        have hl : lv_has ls 5 [(4, .int (iI (u + 1))), (0, .ref q), (1, .int (iI pi_)), (2, .int (iI (sumZ (fun x => hur (FDn N) (N 1) pi_ x) u + sumZ (fun y => bI (kyf (FDn N) (N 1) pi_ u (u + (y + 1)) ≠ -1)) ((u + 1) - u - 1)))), (3, .int (iI u))] := hl
        exact L15 (17) (u + 1) (by omega) (by omega) (by omega) ls (lv_sub hl [1, 2, 3, 4, 0] rfl)
  have hl := lv_chg hl 1 (b := sumZ (fun x => hur (FDn N) (N 1) pi_ x) 0) rfl ((sumZ_0 _).symm)
  have hl : lv_has ls 5 [(3, .int (iI 0)), (2, .int (iI (sumZ (fun x => hur (FDn N) (N 1) pi_ x) 0))), (0, .ref q), (1, .int (iI pi_))] := hl
  exact L4 (17) 0 (by omega) (by omega) (by omega) ls (lv_sub hl [2, 3, 1, 0] rfl)
