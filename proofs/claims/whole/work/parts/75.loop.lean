/-! THE CLAIM OUT OF ONE WALK OF THE LAW'S BODY. Your part is whole_start (and what it stands on); all else here is the same for every law, but numbers. -/
def R_law : String := "SoundPicturesLaw"
def lw_P (b : Addr) (xs : List Int32) (args : Array Value) (s : State) : Prop := args = #[.ref b] ∧ s.IntsAt b xs ∧ xs.length ≤ 2048 ∧ (Jvm.Cond.and given_1 narrow_1).before args s = true
def lw_Q (_ : Array Value) (s : State) (o : Outcome) (t : State) : Prop := o = .returned (some (.int 1)) ∧ Framed s o t [] 600000 7302250
def lw_Z (below : List Frame) (a : Array Value) (s : State) : State → Prop := fun t => ∃ o, t.status = .running ∧ Ended t below o ∧ lw_Q a s o t
/-- the law's own end, with 1 on the stack, nothing written that was there before, its room as the claim has it -/
theorem lw_ret {p : Program} {l : Launch} {e : Env} {s : State} {m : MethodId} {below : List Frame} {meth : Method} {c : Code} {b : Nat} (hx : p.tables.exec = Jvm.exec) (hb : c.code = code) (hr : meth.sig.returnType = ret) (hlocks : meth.locks = false) {pc : Nat} {H : Heap} {ls : Array Slot} (hdg : decode code pc = .ok (.ireturn, 1)) : W p l e room_1 s m #[Value.ref b] below meth c H [] 600000 7302250 (lw_Z below #[Value.ref b] s) (F0 m pc ls [.int 1]) := by
  intro T hT X
  obtain ⟨fs, hret, hrun, hended, hW, hframe⟩ := X.leave (v := some (.int 1)) (hlocks := hlocks) (fun h => by rw [hr] at h; cases h)
  have hmeth' : T.vm.method? m = some meth := X.method'
  refine ⟨T.setFrames fs, ?_, .returned (some (.int 1)), hrun, hended, rfl, ⟨_, rfl⟩, hW, hframe⟩
  jvm_step X.here [X.here.top, hx, hb, hdg, hmeth', hr, ret, narrow_b1]
  (try refine ⟨rfl, ?_⟩); (try refine ⟨rfl, ?_⟩)
  first | (intro acts; rw [hret _ acts rfl rfl rfl]) | rw [hret _ _ rfl rfl rfl]
  exact Steps.refl _
/-- what holds at the law's entry: the machine, the code, the tables' words (any of lw_tbl by 'hts w (by decide +kernel)'), the script of L ints xs at the cell b, what the Statement gives of the start (any of its parts by flat_of_before) -/
def lw_At (p : Program) (s : State) (m : MethodId) (meth : Method) (c : Code) (b L : Nat) (xs : Nat → Int32) : Prop :=
  p.tables.exec = Jvm.exec ∧ c.code = code ∧ meth.sig.returnType = ret ∧ c.maxLocals = 4 ∧ s.vm.findClass R_law = some m.cls ∧ (∀ w ∈ lw_tbl, w.before #[Value.ref b] s = true) ∧ va_X b L xs s s.heap ∧ b < s.heap.size ∧ meth.locks = false ∧ (Jvm.Cond.and given_1 narrow_1).before #[Value.ref b] s = true
theorem law_inc {p : Program} {l : Launch} {e : Env} {s : State} {m : MethodId} {below : List Frame} {meth : Method} {c : Code} {Q : State → Prop} {A : Nat → Prop} {g : zG} {ad : Nat → Nat} {b0 L : Nat} {xs : Nat → Int32} {i_ : Int} (X : zX p s m c A g b0 L xs i_) (hgo : zL p l e s m below meth c Q A g ad b0 (i_ + 4) 18) : zL p l e s m below meth c Q A g ad b0 i_ 805 := by
  intro H locs cells slots bud ls hI hcs hss hl
  refine z_iinc (lv' := [(3, .int (iI (i_ + 4))), (0, .ref b0), (1, .ref (ad 0)), (2, .ref (ad 22))]) X.1.1 X.1.2.1 dL_law_805 hl (k := 3) rfl rfl (by decide) rfl (fun ls hl => ?_)
  refine lv_goto (tgt := 18) X.1.1 X.1.2.1 dL_law_808 (by decide) ?_
  exact hgo H locs cells slots bud ls hI hcs hss (lv_sub hl [1, 2, 3, 0] rfl)
theorem law_case {p : Program} {l : Launch} {e : Env} {s : State} {m : MethodId} {below : List Frame} {meth : Method} {c : Code} {Q : State → Prop} {A : Nat → Prop} {g : zG} {ad : Nat → Nat} {b0 L : Nat} {xs : Nat → Int32} {i_ : Int} (X : zX p s m c A g b0 L xs i_) (hgo : zL p l e s m below meth c Q A g ad b0 i_ 805) {H : Heap} {locs : List Loc} {cells slots bud : Nat} {ls : Array Slot} (hI : zInv g ad A s.heap H locs bud) (hcs : cells + 3 * bud ≤ 1000) (hss : slots + 649 * bud ≤ 100000) (hl : lv_has ls 4 [(0, .ref b0), (1, .ref (ad 0)), (2, .ref (ad 22)), (3, .int (iI i_))]) {t : Int} (ht : 0 ≤ t ∧ t ≤ 31) : W p l e room_1 s m #[Value.ref b0] below meth c H locs cells slots Q (F0 m 32 ls [.int (iI t)]) := by
  have hx := X.1.1
  have hb := X.1.2.1
  rcases (show t = 0 ∨ t = 1 ∨ t = 2 ∨ t = 3 ∨ t = 4 ∨ t = 5 ∨ t = 6 ∨ t = 7 ∨ t = 8 ∨ t = 9 ∨ t = 10 ∨ t = 11 ∨ t = 12 ∨ t = 13 ∨ t = 14 ∨ t = 15 ∨ t = 16 ∨ t = 17 ∨ t = 18 ∨ t = 19 ∨ t = 20 ∨ 21 ≤ t by omega) with h | h | h | h | h | h | h | h | h | h | h | h | h | h | h | h | h | h | h | h | h | h
  · subst h
    refine lv_tableIn (off := 100) (tgt := 132) hx hb dL_law_32 (by decide +kernel) (by decide +kernel) (by decide +kernel) (by decide) ?_
    exact op_add X hgo H locs cells slots bud ls hI hcs hss hl
  · subst h
    refine lv_tableIn (off := 133) (tgt := 165) hx hb dL_law_32 (by decide +kernel) (by decide +kernel) (by decide +kernel) (by decide) ?_
    exact op_wipe X hgo H locs cells slots bud ls hI hcs hss hl
  · subst h
    refine lv_tableIn (off := 156) (tgt := 188) hx hb dL_law_32 (by decide +kernel) (by decide +kernel) (by decide +kernel) (by decide) ?_
    exact op_lots X hgo H locs cells slots bud ls hI hcs hss hl
  · subst h
    refine lv_tableIn (off := 199) (tgt := 231) hx hb dL_law_32 (by decide +kernel) (by decide +kernel) (by decide +kernel) (by decide) ?_
    exact op_noise X hgo H locs cells slots bud ls hI hcs hss hl
  · subst h
    refine lv_tableIn (off := 242) (tgt := 274) hx hb dL_law_32 (by decide +kernel) (by decide +kernel) (by decide +kernel) (by decide) ?_
    exact op_louder X hgo H locs cells slots bud ls hI hcs hss hl
  · subst h
    refine lv_tableIn (off := 285) (tgt := 317) hx hb dL_law_32 (by decide +kernel) (by decide +kernel) (by decide +kernel) (by decide) ?_
    exact op_hear X hgo H locs cells slots bud ls hI hcs hss hl
  · subst h
    refine lv_tableIn (off := 328) (tgt := 360) hx hb dL_law_32 (by decide +kernel) (by decide +kernel) (by decide +kernel) (by decide) ?_
    exact op_bound X hgo H locs cells slots bud ls hI hcs hss hl
  · subst h
    refine lv_tableIn (off := 361) (tgt := 393) hx hb dL_law_32 (by decide +kernel) (by decide +kernel) (by decide +kernel) (by decide) ?_
    exact op_undo X hgo H locs cells slots bud ls hI hcs hss hl
  · subst h
    refine lv_tableIn (off := 374) (tgt := 406) hx hb dL_law_32 (by decide +kernel) (by decide +kernel) (by decide +kernel) (by decide) ?_
    exact op_told X hgo H locs cells slots bud ls hI hcs hss hl
  · subst h
    refine lv_tableIn (off := 397) (tgt := 429) hx hb dL_law_32 (by decide +kernel) (by decide +kernel) (by decide +kernel) (by decide) ?_
    exact op_row X hgo H locs cells slots bud ls hI hcs hss hl
  · subst h
    refine lv_tableIn (off := 430) (tgt := 462) hx hb dL_law_32 (by decide +kernel) (by decide +kernel) (by decide +kernel) (by decide) ?_
    exact op_at X hgo H locs cells slots bud ls hI hcs hss hl
  · subst h
    refine lv_tableIn (off := 463) (tgt := 495) hx hb dL_law_32 (by decide +kernel) (by decide +kernel) (by decide +kernel) (by decide) ?_
    exact op_share X hgo H locs cells slots bud ls hI hcs hss hl
  · subst h
    refine lv_tableIn (off := 506) (tgt := 538) hx hb dL_law_32 (by decide +kernel) (by decide +kernel) (by decide +kernel) (by decide) ?_
    exact op_peak X hgo H locs cells slots bud ls hI hcs hss hl
  · subst h
    refine lv_tableIn (off := 539) (tgt := 571) hx hb dL_law_32 (by decide +kernel) (by decide +kernel) (by decide +kernel) (by decide) ?_
    exact op_key X hgo H locs cells slots bud ls hI hcs hss hl
  · subst h
    refine lv_tableIn (off := 582) (tgt := 614) hx hb dL_law_32 (by decide +kernel) (by decide +kernel) (by decide +kernel) (by decide) ?_
    exact op_keyAt X hgo H locs cells slots bud ls hI hcs hss hl
  · subst h
    refine lv_tableIn (off := 605) (tgt := 637) hx hb dL_law_32 (by decide +kernel) (by decide +kernel) (by decide +kernel) (by decide) ?_
    exact op_places X hgo H locs cells slots bud ls hI hcs hss hl
  · subst h
    refine lv_tableIn (off := 628) (tgt := 660) hx hb dL_law_32 (by decide +kernel) (by decide +kernel) (by decide +kernel) (by decide) ?_
    exact op_place X hgo H locs cells slots bud ls hI hcs hss hl
  · subst h
    refine lv_tableIn (off := 661) (tgt := 693) hx hb dL_law_32 (by decide +kernel) (by decide +kernel) (by decide +kernel) (by decide) ?_
    exact op_votes X hgo H locs cells slots bud ls hI hcs hss hl
  · subst h
    refine lv_tableIn (off := 694) (tgt := 726) hx hb dL_law_32 (by decide +kernel) (by decide +kernel) (by decide +kernel) (by decide) ?_
    exact op_rank X hgo H locs cells slots bud ls hI hcs hss hl
  · subst h
    refine lv_tableIn (off := 727) (tgt := 759) hx hb dL_law_32 (by decide +kernel) (by decide +kernel) (by decide +kernel) (by decide) ?_
    exact op_keep X hgo H locs cells slots bud ls hI hcs hss hl
  · subst h
    refine lv_tableIn (off := 750) (tgt := 782) hx hb dL_law_32 (by decide +kernel) (by decide +kernel) (by decide +kernel) (by decide) ?_
    exact op_goBack X hgo H locs cells slots bud ls hI hcs hss hl
  · refine lv_tableOut (tgt := 805) hx hb dL_law_32 (Or.inr (by rw [iI_to (by omega) (by omega)]; omega)) (by decide) ?_
    exact hgo H locs cells slots bud ls hI hcs hss hl
theorem law_step {p : Program} {l : Launch} {e : Env} {s : State} {m : MethodId} {below : List Frame} {meth : Method} {c : Code} {g : zG} {ad : Nat → Nat} {b L : Nat} {xs : Nat → Int32} (hL : L ≤ 2048) (C0 : lw_At p s m meth c b L xs) (hK : zK g s) (hO : zAO s) {i_ : Int} (hi : 0 ≤ i_) (hi2 : i_ ≤ (L : Int) + 4) (hgo : i_ + 4 ≤ (L : Int) → zL p l e s m below meth c (lw_Z below #[Value.ref b] s) (fun q : Nat => s.heap.size ≤ q) g ad b (i_ + 4) 18) : zL p l e s m below meth c (lw_Z below #[Value.ref b] s) (fun q : Nat => s.heap.size ≤ q) g ad b i_ 18 := by
  obtain ⟨hx, hb, hr, hml, hown, hts, hX, hbl, hlocks, hgv⟩ := C0
  have hA : ∀ q : Nat, s.heap.size ≤ q → (fun q : Nat => s.heap.size ≤ q) q := fun _ h => h
  have hbA : ¬ (fun q : Nat => s.heap.size ≤ q) b := Nat.not_le.mpr hbl
  have C : CallFix p m c cL_law 4 s #[Value.ref b] wsL_law RL := ⟨hx, hb, hml, hown, fun w hw => hts w (wsL_law_in w hw)⟩
  intro H locs cells slots bud ls hI hcs hss hl
  have hS : va_S (fun q : Nat => s.heap.size ≤ q) s.heap H locs := by
    obtain ⟨N, P, IQ, KP, TU, PK, VO, RK, NB, RR, RS, RF, RE, WA, FD, OF, ST, FI, EN, CE, OR, ac, nx, fr, un, rk, he, kn, al, IM, IW, zN, hPR, hfr, hIM, hP, hD, hS⟩ := hI
    exact hS
  refine lv_iload_n hx hb dL_law_18 rfl (lv_at hl 3 rfl) ?_
  refine lv_aload_n hx hb dL_law_19 rfl (lv_at hl 0 rfl) ?_
  refine va_slen hx hb hX hbl hbA hS dL_law_20 ?_
  rw [show Int32.ofNat L = iI (L : Int) from (Int32.ofInt_eq_ofNat).symm]
  refine lv_iconst (v := iI 4) hx hb dL_law_21 rfl ?_
  refine z_isub hx hb dL_law_22 ?_
  refine z_icmp_gt (tgt := 811) hx hb dL_law_23 (by decide) (by omega) (by omega) (fun c_1 => ?_) (fun c_1 => ?_)
  · refine lv_iconst (v := 1) hx hb dL_law_811 (by decide) ?_
    refine va_forget (fun q hq => hS.2.2 q hq) ?_
    refine W.widen (k := 600000) (n := 7302250) (by omega) (by omega) ?_
    exact lw_ret hx hb hr hlocks dL_law_812
  · have X : zX p s m c (fun q : Nat => s.heap.size ≤ q) g b L xs i_ := ⟨C, hX, hbl, hK, hO, hA, hbA, hi, by omega, hL⟩
    refine lv_aload_n hx hb dL_law_26 rfl (lv_at hl 0 rfl) ?_
    refine lv_iload_n hx hb dL_law_27 rfl (lv_at hl 3 rfl) ?_
    refine z_sld hx hb hX hbl hbA hS (by omega) (by omega) hL rfl dL_law_28 ?_
    refine lv_bipush (v := iI 31) hx hb dL_law_29 (by decide +kernel) ?_
    refine z_iand hx hb dL_law_31 ?_
    exact law_case X (law_inc X (hgo (by omega))) hI hcs hss hl (zand_31 _)
theorem law_loop {p : Program} {l : Launch} {e : Env} {s : State} {m : MethodId} {below : List Frame} {meth : Method} {c : Code} {g : zG} {ad : Nat → Nat} {b L : Nat} {xs : Nat → Int32} (hL : L ≤ 2048) (C0 : lw_At p s m meth c b L xs) (hK : zK g s) (hO : zAO s) : ∀ (n : Nat) (i_ : Int), 0 ≤ i_ → i_ ≤ (L : Int) + 4 → (L : Int) + 1 ≤ i_ + n → zL p l e s m below meth c (lw_Z below #[Value.ref b] s) (fun q : Nat => s.heap.size ≤ q) g ad b i_ 18
  | 0, i_, h1, h2, h3 => law_step hL C0 hK hO h1 h2 (fun h => absurd h3 (by omega))
  | n + 1, i_, h1, h2, h3 => law_step hL C0 hK hO h1 h2 (fun h => law_loop hL C0 hK hO n (i_ + 4) (by omega) (by omega) (by omega))
