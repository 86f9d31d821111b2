section
-- ===== PART A: goes FIRST, ahead of the names: the tables' words, and 'selects' of the private methods out of them =====
/-- a private method of a class that the tables say can be made, by its rows of tables_1 -/
def lw_okq (q : MethodName × Nat) : Prop := (q.1.cls ≠ "java/lang/invoke/MethodHandle" ∧ q.1.cls ≠ "java/lang/invoke/VarHandle") ∧ Cond.instantiable q.1.cls q.2 ∈ tables_1 ∧ Cond.privateMethod q.1 ∈ tables_1 ∧ Cond.instanceMethod q.1 ∈ tables_1
theorem lw_p0 : lw_okq (⟨"SoundPictures", "beforeChange", "(I)V"⟩, 7) := ⟨⟨by decide +kernel, by decide +kernel⟩, List.mem_of_getElem? (i := 11) (by decide +kernel), List.mem_of_getElem? (i := 167) (by decide +kernel), List.mem_of_getElem? (i := 168) (by decide +kernel)⟩
theorem lw_p1 : lw_okq (⟨"SoundPictures", "changeFloor", "(I)I"⟩, 7) := ⟨⟨by decide +kernel, by decide +kernel⟩, List.mem_of_getElem? (i := 11) (by decide +kernel), List.mem_of_getElem? (i := 254) (by decide +kernel), List.mem_of_getElem? (i := 255) (by decide +kernel)⟩
theorem lw_p2 : lw_okq (⟨"SoundPictures", "changeReach", "(I)I"⟩, 7) := ⟨⟨by decide +kernel, by decide +kernel⟩, List.mem_of_getElem? (i := 11) (by decide +kernel), List.mem_of_getElem? (i := 263) (by decide +kernel), List.mem_of_getElem? (i := 264) (by decide +kernel)⟩
theorem lw_p3 : lw_okq (⟨"SoundPictures", "refresh", "()V"⟩, 7) := ⟨⟨by decide +kernel, by decide +kernel⟩, List.mem_of_getElem? (i := 11) (by decide +kernel), List.mem_of_getElem? (i := 294) (by decide +kernel), List.mem_of_getElem? (i := 295) (by decide +kernel)⟩
theorem lw_p4 : lw_okq (⟨"SoundPictures$Peaks", "findPeak", "(LSoundPictures$State;II)I"⟩, 3) := ⟨⟨by decide +kernel, by decide +kernel⟩, List.mem_of_getElem? (i := 68) (by decide +kernel), List.mem_of_getElem? (i := 303) (by decide +kernel), List.mem_of_getElem? (i := 304) (by decide +kernel)⟩
theorem lw_p5 : lw_okq (⟨"SoundPictures$Peaks", "turn", "(LSoundPictures$State;II)V"⟩, 3) := ⟨⟨by decide +kernel, by decide +kernel⟩, List.mem_of_getElem? (i := 68) (by decide +kernel), List.mem_of_getElem? (i := 307) (by decide +kernel), List.mem_of_getElem? (i := 308) (by decide +kernel)⟩
theorem lw_p6 : lw_okq (⟨"SoundPictures$Peaks", "turnPairs", "(I)V"⟩, 3) := ⟨⟨by decide +kernel, by decide +kernel⟩, List.mem_of_getElem? (i := 68) (by decide +kernel), List.mem_of_getElem? (i := 312) (by decide +kernel), List.mem_of_getElem? (i := 313) (by decide +kernel)⟩
theorem lw_p7 : lw_okq (⟨"SoundPictures$Peaks", "shareOf", "(I)I"⟩, 3) := ⟨⟨by decide +kernel, by decide +kernel⟩, List.mem_of_getElem? (i := 68) (by decide +kernel), List.mem_of_getElem? (i := 316) (by decide +kernel), List.mem_of_getElem? (i := 317) (by decide +kernel)⟩
theorem lw_p8 : lw_okq (⟨"SoundPictures$Ledger", "countKeys", "(LSoundPictures$Peaks;I)V"⟩, 4) := ⟨⟨by decide +kernel, by decide +kernel⟩, List.mem_of_getElem? (i := 84) (by decide +kernel), List.mem_of_getElem? (i := 325) (by decide +kernel), List.mem_of_getElem? (i := 326) (by decide +kernel)⟩
theorem lw_p9 : lw_okq (⟨"SoundPictures$Ledger", "setStarts", "()V"⟩, 4) := ⟨⟨by decide +kernel, by decide +kernel⟩, List.mem_of_getElem? (i := 84) (by decide +kernel), List.mem_of_getElem? (i := 337) (by decide +kernel), List.mem_of_getElem? (i := 338) (by decide +kernel)⟩
theorem lw_p10 : lw_okq (⟨"SoundPictures$Ledger", "fillEntries", "(LSoundPictures$Peaks;I)V"⟩, 4) := ⟨⟨by decide +kernel, by decide +kernel⟩, List.mem_of_getElem? (i := 84) (by decide +kernel), List.mem_of_getElem? (i := 341) (by decide +kernel), List.mem_of_getElem? (i := 342) (by decide +kernel)⟩
theorem lw_p11 : lw_okq (⟨"SoundPictures$Ballot", "clear", "()V"⟩, 6) := ⟨⟨by decide +kernel, by decide +kernel⟩, List.mem_of_getElem? (i := 103) (by decide +kernel), List.mem_of_getElem? (i := 349) (by decide +kernel), List.mem_of_getElem? (i := 350) (by decide +kernel)⟩
theorem lw_p12 : lw_okq (⟨"SoundPictures$Ballot", "castFor", "(LSoundPictures$Ledger;II)V"⟩, 6) := ⟨⟨by decide +kernel, by decide +kernel⟩, List.mem_of_getElem? (i := 103) (by decide +kernel), List.mem_of_getElem? (i := 354) (by decide +kernel), List.mem_of_getElem? (i := 355) (by decide +kernel)⟩
theorem lw_p13 : lw_okq (⟨"SoundPictures$Ballot", "rankCells", "()V"⟩, 6) := ⟨⟨by decide +kernel, by decide +kernel⟩, List.mem_of_getElem? (i := 103) (by decide +kernel), List.mem_of_getElem? (i := 367) (by decide +kernel), List.mem_of_getElem? (i := 368) (by decide +kernel)⟩
theorem lw_p14 : lw_okq (⟨"SoundPictures", "isWindow", "(II)Z"⟩, 7) := ⟨⟨by decide +kernel, by decide +kernel⟩, List.mem_of_getElem? (i := 11) (by decide +kernel), List.mem_of_getElem? (i := 442) (by decide +kernel), List.mem_of_getElem? (i := 443) (by decide +kernel)⟩
theorem lw_p15 : lw_okq (⟨"SoundPicturesModel", "notes", "()V"⟩, 9) := ⟨⟨by decide +kernel, by decide +kernel⟩, List.mem_of_getElem? (i := 506) (by decide +kernel), List.mem_of_getElem? (i := 554) (by decide +kernel), List.mem_of_getElem? (i := 555) (by decide +kernel)⟩
def lw_privs_1 : List (MethodName × Nat) := [(⟨"SoundPictures", "beforeChange", "(I)V"⟩, 7), (⟨"SoundPictures", "changeFloor", "(I)I"⟩, 7), (⟨"SoundPictures", "changeReach", "(I)I"⟩, 7), (⟨"SoundPictures", "refresh", "()V"⟩, 7), (⟨"SoundPictures$Peaks", "findPeak", "(LSoundPictures$State;II)I"⟩, 3), (⟨"SoundPictures$Peaks", "turn", "(LSoundPictures$State;II)V"⟩, 3), (⟨"SoundPictures$Peaks", "turnPairs", "(I)V"⟩, 3), (⟨"SoundPictures$Peaks", "shareOf", "(I)I"⟩, 3), (⟨"SoundPictures$Ledger", "countKeys", "(LSoundPictures$Peaks;I)V"⟩, 4), (⟨"SoundPictures$Ledger", "setStarts", "()V"⟩, 4), (⟨"SoundPictures$Ledger", "fillEntries", "(LSoundPictures$Peaks;I)V"⟩, 4), (⟨"SoundPictures$Ballot", "clear", "()V"⟩, 6), (⟨"SoundPictures$Ballot", "castFor", "(LSoundPictures$Ledger;II)V"⟩, 6), (⟨"SoundPictures$Ballot", "rankCells", "()V"⟩, 6), (⟨"SoundPictures", "isWindow", "(II)Z"⟩, 7), (⟨"SoundPicturesModel", "notes", "()V"⟩, 9)]
theorem lw_r1 : ∀ q ∈ lw_privs_1, lw_okq q := List.forall_mem_cons.mpr ⟨lw_p0, List.forall_mem_cons.mpr ⟨lw_p1, List.forall_mem_cons.mpr ⟨lw_p2, List.forall_mem_cons.mpr ⟨lw_p3, List.forall_mem_cons.mpr ⟨lw_p4, List.forall_mem_cons.mpr ⟨lw_p5, List.forall_mem_cons.mpr ⟨lw_p6, List.forall_mem_cons.mpr ⟨lw_p7, List.forall_mem_cons.mpr ⟨lw_p8, List.forall_mem_cons.mpr ⟨lw_p9, List.forall_mem_cons.mpr ⟨lw_p10, List.forall_mem_cons.mpr ⟨lw_p11, List.forall_mem_cons.mpr ⟨lw_p12, List.forall_mem_cons.mpr ⟨lw_p13, List.forall_mem_cons.mpr ⟨lw_p14, List.forall_mem_cons.mpr ⟨lw_p15, fun _ h => absurd h List.not_mem_nil⟩⟩⟩⟩⟩⟩⟩⟩⟩⟩⟩⟩⟩⟩⟩⟩
theorem lw_p16 : lw_okq (⟨"SoundPicturesModel", "put", "(III)V"⟩, 9) := ⟨⟨by decide +kernel, by decide +kernel⟩, List.mem_of_getElem? (i := 506) (by decide +kernel), List.mem_of_getElem? (i := 558) (by decide +kernel), List.mem_of_getElem? (i := 559) (by decide +kernel)⟩
theorem lw_p17 : lw_okq (⟨"SoundPicturesModel", "windows", "(I)I"⟩, 9) := ⟨⟨by decide +kernel, by decide +kernel⟩, List.mem_of_getElem? (i := 506) (by decide +kernel), List.mem_of_getElem? (i := 577) (by decide +kernel), List.mem_of_getElem? (i := 578) (by decide +kernel)⟩
theorem lw_p18 : lw_okq (⟨"SoundPicturesModel", "of", "(II)I"⟩, 9) := ⟨⟨by decide +kernel, by decide +kernel⟩, List.mem_of_getElem? (i := 506) (by decide +kernel), List.mem_of_getElem? (i := 585) (by decide +kernel), List.mem_of_getElem? (i := 586) (by decide +kernel)⟩
theorem lw_p19 : lw_okq (⟨"SoundPicturesModel", "becomes", "(III)I"⟩, 9) := ⟨⟨by decide +kernel, by decide +kernel⟩, List.mem_of_getElem? (i := 506) (by decide +kernel), List.mem_of_getElem? (i := 590) (by decide +kernel), List.mem_of_getElem? (i := 591) (by decide +kernel)⟩
theorem lw_p20 : lw_okq (⟨"SoundPicturesModel", "counts", "()V"⟩, 9) := ⟨⟨by decide +kernel, by decide +kernel⟩, List.mem_of_getElem? (i := 506) (by decide +kernel), List.mem_of_getElem? (i := 619) (by decide +kernel), List.mem_of_getElem? (i := 620) (by decide +kernel)⟩
theorem lw_p21 : lw_okq (⟨"SoundPicturesModel", "findsPeaks", "()V"⟩, 9) := ⟨⟨by decide +kernel, by decide +kernel⟩, List.mem_of_getElem? (i := 506) (by decide +kernel), List.mem_of_getElem? (i := 623) (by decide +kernel), List.mem_of_getElem? (i := 624) (by decide +kernel)⟩
theorem lw_p22 : lw_okq (⟨"SoundPicturesModel", "peakOf", "(II)I"⟩, 9) := ⟨⟨by decide +kernel, by decide +kernel⟩, List.mem_of_getElem? (i := 506) (by decide +kernel), List.mem_of_getElem? (i := 627) (by decide +kernel), List.mem_of_getElem? (i := 628) (by decide +kernel)⟩
theorem lw_p23 : lw_okq (⟨"SoundPicturesModel", "turns", "(II)V"⟩, 9) := ⟨⟨by decide +kernel, by decide +kernel⟩, List.mem_of_getElem? (i := 506) (by decide +kernel), List.mem_of_getElem? (i := 631) (by decide +kernel), List.mem_of_getElem? (i := 632) (by decide +kernel)⟩
theorem lw_p24 : lw_okq (⟨"SoundPicturesModel", "shareOf", "(I)I"⟩, 9) := ⟨⟨by decide +kernel, by decide +kernel⟩, List.mem_of_getElem? (i := 506) (by decide +kernel), List.mem_of_getElem? (i := 635) (by decide +kernel), List.mem_of_getElem? (i := 636) (by decide +kernel)⟩
theorem lw_p25 : lw_okq (⟨"SoundPicturesModel", "keyOf", "(III)I"⟩, 9) := ⟨⟨by decide +kernel, by decide +kernel⟩, List.mem_of_getElem? (i := 506) (by decide +kernel), List.mem_of_getElem? (i := 639) (by decide +kernel), List.mem_of_getElem? (i := 640) (by decide +kernel)⟩
theorem lw_p26 : lw_okq (⟨"SoundPicturesModel", "isWindow", "(II)Z"⟩, 9) := ⟨⟨by decide +kernel, by decide +kernel⟩, List.mem_of_getElem? (i := 506) (by decide +kernel), List.mem_of_getElem? (i := 643) (by decide +kernel), List.mem_of_getElem? (i := 644) (by decide +kernel)⟩
theorem lw_p27 : lw_okq (⟨"SoundPicturesModel", "stands", "(III)Z"⟩, 9) := ⟨⟨by decide +kernel, by decide +kernel⟩, List.mem_of_getElem? (i := 506) (by decide +kernel), List.mem_of_getElem? (i := 647) (by decide +kernel), List.mem_of_getElem? (i := 648) (by decide +kernel)⟩
theorem lw_p28 : lw_okq (⟨"SoundPicturesModel", "best", "(I)I"⟩, 9) := ⟨⟨by decide +kernel, by decide +kernel⟩, List.mem_of_getElem? (i := 506) (by decide +kernel), List.mem_of_getElem? (i := 651) (by decide +kernel), List.mem_of_getElem? (i := 652) (by decide +kernel)⟩
theorem lw_p29 : lw_okq (⟨"SoundPicturesModel", "ledger", "(Z)I"⟩, 9) := ⟨⟨by decide +kernel, by decide +kernel⟩, List.mem_of_getElem? (i := 506) (by decide +kernel), List.mem_of_getElem? (i := 655) (by decide +kernel), List.mem_of_getElem? (i := 656) (by decide +kernel)⟩
theorem lw_p30 : lw_okq (⟨"SoundPicturesModel", "placesOf", "(I)I"⟩, 9) := ⟨⟨by decide +kernel, by decide +kernel⟩, List.mem_of_getElem? (i := 506) (by decide +kernel), List.mem_of_getElem? (i := 659) (by decide +kernel), List.mem_of_getElem? (i := 660) (by decide +kernel)⟩
theorem lw_p31 : lw_okq (⟨"SoundPicturesModel", "keysOf", "(I)I"⟩, 9) := ⟨⟨by decide +kernel, by decide +kernel⟩, List.mem_of_getElem? (i := 506) (by decide +kernel), List.mem_of_getElem? (i := 663) (by decide +kernel), List.mem_of_getElem? (i := 664) (by decide +kernel)⟩
def lw_privs_2 : List (MethodName × Nat) := [(⟨"SoundPicturesModel", "put", "(III)V"⟩, 9), (⟨"SoundPicturesModel", "windows", "(I)I"⟩, 9), (⟨"SoundPicturesModel", "of", "(II)I"⟩, 9), (⟨"SoundPicturesModel", "becomes", "(III)I"⟩, 9), (⟨"SoundPicturesModel", "counts", "()V"⟩, 9), (⟨"SoundPicturesModel", "findsPeaks", "()V"⟩, 9), (⟨"SoundPicturesModel", "peakOf", "(II)I"⟩, 9), (⟨"SoundPicturesModel", "turns", "(II)V"⟩, 9), (⟨"SoundPicturesModel", "shareOf", "(I)I"⟩, 9), (⟨"SoundPicturesModel", "keyOf", "(III)I"⟩, 9), (⟨"SoundPicturesModel", "isWindow", "(II)Z"⟩, 9), (⟨"SoundPicturesModel", "stands", "(III)Z"⟩, 9), (⟨"SoundPicturesModel", "best", "(I)I"⟩, 9), (⟨"SoundPicturesModel", "ledger", "(Z)I"⟩, 9), (⟨"SoundPicturesModel", "placesOf", "(I)I"⟩, 9), (⟨"SoundPicturesModel", "keysOf", "(I)I"⟩, 9)]
theorem lw_r2 : ∀ q ∈ lw_privs_2, lw_okq q := List.forall_mem_cons.mpr ⟨lw_p16, List.forall_mem_cons.mpr ⟨lw_p17, List.forall_mem_cons.mpr ⟨lw_p18, List.forall_mem_cons.mpr ⟨lw_p19, List.forall_mem_cons.mpr ⟨lw_p20, List.forall_mem_cons.mpr ⟨lw_p21, List.forall_mem_cons.mpr ⟨lw_p22, List.forall_mem_cons.mpr ⟨lw_p23, List.forall_mem_cons.mpr ⟨lw_p24, List.forall_mem_cons.mpr ⟨lw_p25, List.forall_mem_cons.mpr ⟨lw_p26, List.forall_mem_cons.mpr ⟨lw_p27, List.forall_mem_cons.mpr ⟨lw_p28, List.forall_mem_cons.mpr ⟨lw_p29, List.forall_mem_cons.mpr ⟨lw_p30, List.forall_mem_cons.mpr ⟨lw_p31, fun _ h => absurd h List.not_mem_nil⟩⟩⟩⟩⟩⟩⟩⟩⟩⟩⟩⟩⟩⟩⟩⟩
theorem lw_p32 : lw_okq (⟨"SoundPicturesModel", "known", "()I"⟩, 9) := ⟨⟨by decide +kernel, by decide +kernel⟩, List.mem_of_getElem? (i := 506) (by decide +kernel), List.mem_of_getElem? (i := 667) (by decide +kernel), List.mem_of_getElem? (i := 668) (by decide +kernel)⟩
theorem lw_p33 : lw_okq (⟨"SoundPicturesModel", "doubt", "()I"⟩, 9) := ⟨⟨by decide +kernel, by decide +kernel⟩, List.mem_of_getElem? (i := 506) (by decide +kernel), List.mem_of_getElem? (i := 671) (by decide +kernel), List.mem_of_getElem? (i := 672) (by decide +kernel)⟩
theorem lw_p34 : lw_okq (⟨"SoundPicturesModel", "allVotes", "(Z)I"⟩, 9) := ⟨⟨by decide +kernel, by decide +kernel⟩, List.mem_of_getElem? (i := 506) (by decide +kernel), List.mem_of_getElem? (i := 675) (by decide +kernel), List.mem_of_getElem? (i := 676) (by decide +kernel)⟩
theorem lw_p35 : lw_okq (⟨"SoundPicturesModel", "mostOften", "(I)I"⟩, 9) := ⟨⟨by decide +kernel, by decide +kernel⟩, List.mem_of_getElem? (i := 506) (by decide +kernel), List.mem_of_getElem? (i := 683) (by decide +kernel), List.mem_of_getElem? (i := 684) (by decide +kernel)⟩
def lw_privs_3 : List (MethodName × Nat) := [(⟨"SoundPicturesModel", "known", "()I"⟩, 9), (⟨"SoundPicturesModel", "doubt", "()I"⟩, 9), (⟨"SoundPicturesModel", "allVotes", "(Z)I"⟩, 9), (⟨"SoundPicturesModel", "mostOften", "(I)I"⟩, 9)]
theorem lw_r3 : ∀ q ∈ lw_privs_3, lw_okq q := List.forall_mem_cons.mpr ⟨lw_p32, List.forall_mem_cons.mpr ⟨lw_p33, List.forall_mem_cons.mpr ⟨lw_p34, List.forall_mem_cons.mpr ⟨lw_p35, fun _ h => absurd h List.not_mem_nil⟩⟩⟩⟩
def lw_privs : List (MethodName × Nat) := lw_privs_1 ++ (lw_privs_2 ++ (lw_privs_3))
def lw_tbl : List Cond := k2_sels lw_privs ++ tables_1
theorem lw_privs_ok : ∀ q ∈ lw_privs, lw_okq q := by
  show ∀ q ∈ lw_privs_1 ++ (lw_privs_2 ++ (lw_privs_3)), lw_okq q
  exact List.forall_mem_append.mpr ⟨lw_r1, List.forall_mem_append.mpr ⟨lw_r2, lw_r3⟩⟩
end
section
/-! ===== BEGIN words of one list among another's, by their places ===== -/
theorem goodIn_r {big : List Cond} (ws : List Cond) (ps : List Nat) (hp : ws = ps.filterMap (fun i => big[i]?)) (h : ws.all goodWord = true) : GoodIn big ws := by
  intro w hw
  have h1 := List.all_eq_true.mp h w hw
  rw [hp] at hw
  obtain ⟨i, -, hi⟩ := List.mem_filterMap.mp hw
  have hm : w ∈ big := by first | exact List.mem_of_getElem? hi | exact List.getElem?_mem hi
  exact ⟨hm, good_of_word h1⟩
theorem goodIn_app {big a b : List Cond} (ha : GoodIn big a) (hb : GoodIn big b) : GoodIn big (a ++ b) := fun w h => (List.mem_append.mp h).elim (ha w) (hb w)
theorem goodIn_ca {big a b : List Cond} {c : Cond} (ha : GoodIn big (c :: a)) (hb : GoodIn big b) : GoodIn big (c :: (a ++ b)) := fun w h => (List.mem_cons.mp h).elim (fun e => ha w (List.mem_cons.mpr (Or.inl e))) (fun h => (List.mem_append.mp h).elim (fun h => ha w (List.mem_cons.mpr (Or.inr h))) (hb w))
theorem goodIn_sub {big ws : List Cond} (hm : ∀ w ∈ ws, w ∈ big) (h : ws.all goodWord = true) : GoodIn big ws := fun w hw => ⟨hm w hw, good_of_word (List.all_eq_true.mp h w hw)⟩
/-! ===== END ===== -/

/-! ===== BEGIN printed: names, fields, word lists, decode rows ===== -/
def RX0 : String := "SoundPictures$Ballot"
def TX0 : u_T := fun k => match k with
  | 0 => ("SoundPictures$Ballot", "cells", "[I", true)
  | 1 => ("SoundPictures$Ballot", "order", "[I", true)
  | 2 => ("SoundPictures$Ballot", "ranked", "I", false)
  | 3 => ("SoundPictures$Ballot", "heard", "I", false)
  | 4 => ("SoundPictures$Ballot", "known", "I", false)
  | _ => ("SoundPictures$Ballot", "all", "I", false)
def tyX0 : Nat → FieldType := fun k => match k with
  | 0 => .array .int
  | 1 => .array .int
  | 2 => .int
  | 3 => .int
  | 4 => .int
  | _ => .int
abbrev wsX00 : List Cond := u_ws RX0 TX0 6
theorem nmX0 : ∀ a, a < 6 → ∀ b, b < 6 → a ≠ b → (TX0 a).2.1 ≠ (TX0 b).2.1 := by decide +kernel
theorem tyX0_ok : ∀ k, k < 6 → parseFieldDescriptor (TX0 k).2.2.1 = some (tyX0 k) := by decide +kernel
abbrev cX0_init : ByteArray := prog_2_method_1_code
def yX0_init : MethodName := ⟨RX0, "<init>", "()V"⟩
abbrev cX0_keysHeard : ByteArray := prog_2_method_2_code
def yX0_keysHeard : MethodName := ⟨RX0, "keysHeard", "()I"⟩
abbrev cX0_keysKnown : ByteArray := prog_2_method_3_code
def yX0_keysKnown : MethodName := ⟨RX0, "keysKnown", "()I"⟩
abbrev cX0_allVotes : ByteArray := prog_2_method_4_code
def yX0_allVotes : MethodName := ⟨RX0, "allVotes", "()I"⟩
abbrev cX0_ranked : ByteArray := prog_2_method_5_code
def yX0_ranked : MethodName := ⟨RX0, "ranked", "()I"⟩
abbrev cX0_votesFor : ByteArray := prog_2_method_6_code
def yX0_votesFor : MethodName := ⟨RX0, "votesFor", "(II)I"⟩
abbrev cX0_pieceOf : ByteArray := prog_2_method_7_code
def yX0_pieceOf : MethodName := ⟨RX0, "pieceOf", "(I)I"⟩
abbrev cX0_offsetOf : ByteArray := prog_2_method_8_code
def yX0_offsetOf : MethodName := ⟨RX0, "offsetOf", "(I)I"⟩
abbrev cX0_countOf : ByteArray := prog_2_method_9_code
def yX0_countOf : MethodName := ⟨RX0, "countOf", "(I)I"⟩
abbrev cX0_doubt : ByteArray := prog_2_method_10_code
def yX0_doubt : MethodName := ⟨RX0, "doubt", "()I"⟩
abbrev cX0_cast : ByteArray := prog_2_method_11_code
def yX0_cast : MethodName := ⟨RX0, "cast", "(LSoundPictures$Peaks;LSoundPictures$Ledger;I)V"⟩
abbrev cX0_clear : ByteArray := prog_2_method_12_code
def yX0_clear : MethodName := ⟨RX0, "clear", "()V"⟩
abbrev cX0_castFor : ByteArray := prog_2_method_13_code
def yX0_castFor : MethodName := ⟨RX0, "castFor", "(LSoundPictures$Ledger;II)V"⟩
abbrev cX0_rankCells : ByteArray := prog_2_method_14_code
def yX0_rankCells : MethodName := ⟨RX0, "rankCells", "()V"⟩
def RX1 : String := "SoundPictures$Ledger"
def TX1 : u_T := fun k => match k with
  | 0 => ("SoundPictures$Ledger", "starts", "[I", true)
  | 1 => ("SoundPictures$Ledger", "filled", "[I", true)
  | 2 => ("SoundPictures$Ledger", "entries", "[I", true)
  | _ => ("SoundPictures$Ledger", "unlike", "I", false)
def tyX1 : Nat → FieldType := fun k => match k with
  | 0 => .array .int
  | 1 => .array .int
  | 2 => .array .int
  | _ => .int
abbrev wsX10 : List Cond := u_ws RX1 TX1 4
theorem nmX1 : ∀ a, a < 4 → ∀ b, b < 4 → a ≠ b → (TX1 a).2.1 ≠ (TX1 b).2.1 := by decide +kernel
theorem tyX1_ok : ∀ k, k < 4 → parseFieldDescriptor (TX1 k).2.2.1 = some (tyX1 k) := by decide +kernel
abbrev cX1_init : ByteArray := prog_3_method_1_code
def yX1_init : MethodName := ⟨RX1, "<init>", "()V"⟩
abbrev cX1_unlikeKeys : ByteArray := prog_3_method_2_code
def yX1_unlikeKeys : MethodName := ⟨RX1, "unlikeKeys", "()I"⟩
abbrev cX1_allPlaces : ByteArray := prog_3_method_3_code
def yX1_allPlaces : MethodName := ⟨RX1, "allPlaces", "()I"⟩
abbrev cX1_placesOf : ByteArray := prog_3_method_4_code
def yX1_placesOf : MethodName := ⟨RX1, "placesOf", "(I)I"⟩
abbrev cX1_placeOf : ByteArray := prog_3_method_5_code
def yX1_placeOf : MethodName := ⟨RX1, "placeOf", "(II)I"⟩
abbrev cX1_keyByRise : ByteArray := prog_3_method_6_code
def yX1_keyByRise : MethodName := ⟨RX1, "keyByRise", "(I)I"⟩
abbrev cX1_write : ByteArray := prog_3_method_7_code
def yX1_write : MethodName := ⟨RX1, "write", "(LSoundPictures$Peaks;I)V"⟩
abbrev cX1_countKeys : ByteArray := prog_3_method_8_code
def yX1_countKeys : MethodName := ⟨RX1, "countKeys", "(LSoundPictures$Peaks;I)V"⟩
abbrev cX1_setStarts : ByteArray := prog_3_method_9_code
def yX1_setStarts : MethodName := ⟨RX1, "setStarts", "()V"⟩
abbrev cX1_fillEntries : ByteArray := prog_3_method_10_code
def yX1_fillEntries : MethodName := ⟨RX1, "fillEntries", "(LSoundPictures$Peaks;I)V"⟩
def RX2 : String := "SoundPictures$Past"
def TX2 : u_T := fun k => match k with
  | 0 => ("SoundPictures$Past", "numbers", "[I", true)
  | 1 => ("SoundPictures$Past", "rows", "[I", true)
  | 2 => ("SoundPictures$Past", "sizes", "[I", true)
  | 3 => ("SoundPictures$Past", "floors", "[I", true)
  | 4 => ("SoundPictures$Past", "reaches", "[I", true)
  | 5 => ("SoundPictures$Past", "next", "I", false)
  | _ => ("SoundPictures$Past", "depth", "I", false)
def tyX2 : Nat → FieldType := fun k => match k with
  | 0 => .array .int
  | 1 => .array .int
  | 2 => .array .int
  | 3 => .array .int
  | 4 => .array .int
  | 5 => .int
  | _ => .int
abbrev wsX20 : List Cond := u_ws RX2 TX2 7
theorem nmX2 : ∀ a, a < 7 → ∀ b, b < 7 → a ≠ b → (TX2 a).2.1 ≠ (TX2 b).2.1 := by decide +kernel
theorem tyX2_ok : ∀ k, k < 7 → parseFieldDescriptor (TX2 k).2.2.1 = some (tyX2 k) := by decide +kernel
abbrev cX2_init : ByteArray := prog_4_method_1_code
def yX2_init : MethodName := ⟨RX2, "<init>", "()V"⟩
abbrev cX2_depth : ByteArray := prog_4_method_2_code
def yX2_depth : MethodName := ⟨RX2, "depth", "()I"⟩
abbrev cX2_forget : ByteArray := prog_4_method_3_code
def yX2_forget : MethodName := ⟨RX2, "forget", "()V"⟩
abbrev cX2_remember : ByteArray := prog_4_method_4_code
def yX2_remember : MethodName := ⟨RX2, "remember", "(LSoundPictures$State;I)V"⟩
abbrev cX2_restoreLatest : ByteArray := prog_4_method_5_code
def yX2_restoreLatest : MethodName := ⟨RX2, "restoreLatest", "(LSoundPictures$State;)V"⟩
def RX3 : String := "SoundPictures$Peaks"
def TX3 : u_T := fun k => match k with
  | 0 => ("SoundPictures$Peaks", "waves", "[I", true)
  | 1 => ("SoundPictures$Peaks", "found", "[I", true)
  | _ => ("SoundPictures$Peaks", "often", "[I", true)
def tyX3 : Nat → FieldType := fun k => match k with
  | 0 => .array .int
  | 1 => .array .int
  | _ => .array .int
abbrev wsX30 : List Cond := u_ws RX3 TX3 3
theorem nmX3 : ∀ a, a < 3 → ∀ b, b < 3 → a ≠ b → (TX3 a).2.1 ≠ (TX3 b).2.1 := by decide +kernel
theorem tyX3_ok : ∀ k, k < 3 → parseFieldDescriptor (TX3 k).2.2.1 = some (tyX3 k) := by decide +kernel
abbrev cX3_init : ByteArray := prog_5_method_1_code
def yX3_init : MethodName := ⟨RX3, "<init>", "()V"⟩
abbrev cX3_look : ByteArray := prog_5_method_2_code
def yX3_look : MethodName := ⟨RX3, "look", "(LSoundPictures$State;)V"⟩
abbrev cX3_shareIn : ByteArray := prog_5_method_3_code
def yX3_shareIn : MethodName := ⟨RX3, "shareIn", "(LSoundPictures$State;III)I"⟩
abbrev cX3_allSharesIn : ByteArray := prog_5_method_4_code
def yX3_allSharesIn : MethodName := ⟨RX3, "allSharesIn", "(LSoundPictures$State;I)I"⟩
abbrev cX3_peakOf : ByteArray := prog_5_method_5_code
def yX3_peakOf : MethodName := ⟨RX3, "peakOf", "(II)I"⟩
abbrev cX3_keyOf : ByteArray := prog_5_method_6_code
def yX3_keyOf : MethodName := ⟨RX3, "keyOf", "(IIII)I"⟩
abbrev cX3_countIn : ByteArray := prog_5_method_7_code
def yX3_countIn : MethodName := ⟨RX3, "countIn", "(I)I"⟩
abbrev cX3_countKeysIn : ByteArray := prog_5_method_8_code
def yX3_countKeysIn : MethodName := ⟨RX3, "countKeysIn", "(II)I"⟩
abbrev cX3_mostOftenIn : ByteArray := prog_5_method_9_code
def yX3_mostOftenIn : MethodName := ⟨RX3, "mostOftenIn", "(I)I"⟩
abbrev cX3_findPeak : ByteArray := prog_5_method_10_code
def yX3_findPeak : MethodName := ⟨RX3, "findPeak", "(LSoundPictures$State;II)I"⟩
abbrev cX3_shareOf : ByteArray := prog_5_method_11_code
def yX3_shareOf : MethodName := ⟨RX3, "shareOf", "(I)I"⟩
abbrev cX3_turn : ByteArray := prog_5_method_12_code
def yX3_turn : MethodName := ⟨RX3, "turn", "(LSoundPictures$State;II)V"⟩
abbrev cX3_turnPairs : ByteArray := prog_5_method_13_code
def yX3_turnPairs : MethodName := ⟨RX3, "turnPairs", "(I)V"⟩
def RX4 : String := "SoundPictures$State"
def TX4 : u_T := fun k => match k with
  | 0 => ("SoundPictures$State", "numbers", "[I", true)
  | 1 => ("SoundPictures$State", "sizes", "[I", true)
  | 2 => ("SoundPictures$State", "floor", "I", false)
  | _ => ("SoundPictures$State", "reach", "I", false)
def tyX4 : Nat → FieldType := fun k => match k with
  | 0 => .array .int
  | 1 => .array .int
  | 2 => .int
  | _ => .int
abbrev wsX40 : List Cond := u_ws RX4 TX4 4
theorem nmX4 : ∀ a, a < 4 → ∀ b, b < 4 → a ≠ b → (TX4 a).2.1 ≠ (TX4 b).2.1 := by decide +kernel
theorem tyX4_ok : ∀ k, k < 4 → parseFieldDescriptor (TX4 k).2.2.1 = some (tyX4 k) := by decide +kernel
abbrev cX4_init : ByteArray := prog_6_method_1_code
def yX4_init : MethodName := ⟨RX4, "<init>", "()V"⟩
abbrev cX4_floor : ByteArray := prog_6_method_2_code
def yX4_floor : MethodName := ⟨RX4, "floor", "()I"⟩
abbrev cX4_reach : ByteArray := prog_6_method_3_code
def yX4_reach : MethodName := ⟨RX4, "reach", "()I"⟩
abbrev cX4_setFloor : ByteArray := prog_6_method_4_code
def yX4_setFloor : MethodName := ⟨RX4, "setFloor", "(I)V"⟩
abbrev cX4_setReach : ByteArray := prog_6_method_5_code
def yX4_setReach : MethodName := ⟨RX4, "setReach", "(I)V"⟩
abbrev cX4_sizeOf : ByteArray := prog_6_method_6_code
def yX4_sizeOf : MethodName := ⟨RX4, "sizeOf", "(I)I"⟩
abbrev cX4_windowsOf : ByteArray := prog_6_method_7_code
def yX4_windowsOf : MethodName := ⟨RX4, "windowsOf", "(I)I"⟩
abbrev cX4_numberAt : ByteArray := prog_6_method_8_code
def yX4_numberAt : MethodName := ⟨RX4, "numberAt", "(II)I"⟩
abbrev cX4_empty : ByteArray := prog_6_method_9_code
def yX4_empty : MethodName := ⟨RX4, "empty", "(I)V"⟩
abbrev cX4_append : ByteArray := prog_6_method_10_code
def yX4_append : MethodName := ⟨RX4, "append", "(II)V"⟩
abbrev cX4_replace : ByteArray := prog_6_method_11_code
def yX4_replace : MethodName := ⟨RX4, "replace", "(III)Z"⟩
abbrev cX4_become : ByteArray := prog_6_method_12_code
def yX4_become : MethodName := ⟨RX4, "become", "(LSoundPictures$State;)V"⟩
abbrev cX4_copyRowTo : ByteArray := prog_6_method_13_code
def yX4_copyRowTo : MethodName := ⟨RX4, "copyRowTo", "(I[II)V"⟩
abbrev cX4_takeRow : ByteArray := prog_6_method_14_code
def yX4_takeRow : MethodName := ⟨RX4, "takeRow", "(I[III)V"⟩
def RX5 : String := "SoundPictures"
def TX5 : u_T := fun k => match k with
  | 0 => ("SoundPictures", "now", "LSoundPictures$State;", true)
  | 1 => ("SoundPictures", "past", "LSoundPictures$Past;", true)
  | 2 => ("SoundPictures", "images", "[LSoundPictures$State;", true)
  | 3 => ("SoundPictures", "peaks", "LSoundPictures$Peaks;", true)
  | 4 => ("SoundPictures", "ledger", "LSoundPictures$Ledger;", true)
  | 5 => ("SoundPictures", "ballot", "LSoundPictures$Ballot;", true)
  | _ => ("SoundPictures", "fresh", "Z", false)
def tyX5 : Nat → FieldType := fun k => match k with
  | 0 => .object "SoundPictures$State"
  | 1 => .object "SoundPictures$Past"
  | 2 => .array (.object "SoundPictures$State")
  | 3 => .object "SoundPictures$Peaks"
  | 4 => .object "SoundPictures$Ledger"
  | 5 => .object "SoundPictures$Ballot"
  | _ => .boolean
abbrev wsX50 : List Cond := u_ws RX5 TX5 7
theorem nmX5 : ∀ a, a < 7 → ∀ b, b < 7 → a ≠ b → (TX5 a).2.1 ≠ (TX5 b).2.1 := by decide +kernel
theorem tyX5_ok : ∀ k, k < 7 → parseFieldDescriptor (TX5 k).2.2.1 = some (tyX5 k) := by decide +kernel
abbrev cX5_init : ByteArray := prog_1_method_1_code
def yX5_init : MethodName := ⟨RX5, "<init>", "()V"⟩
abbrev cX5_add : ByteArray := prog_1_method_2_code
def yX5_add : MethodName := ⟨RX5, "add", "(II)I"⟩
abbrev cX5_wipe : ByteArray := prog_1_method_3_code
def yX5_wipe : MethodName := ⟨RX5, "wipe", "(I)I"⟩
abbrev cX5_lots : ByteArray := prog_1_method_4_code
def yX5_lots : MethodName := ⟨RX5, "lots", "(III)I"⟩
abbrev cX5_noise : ByteArray := prog_1_method_5_code
def yX5_noise : MethodName := ⟨RX5, "noise", "(III)I"⟩
abbrev cX5_louder : ByteArray := prog_1_method_6_code
def yX5_louder : MethodName := ⟨RX5, "louder", "(III)I"⟩
abbrev cX5_hear : ByteArray := prog_1_method_7_code
def yX5_hear : MethodName := ⟨RX5, "hear", "(III)I"⟩
abbrev cX5_bound : ByteArray := prog_1_method_8_code
def yX5_bound : MethodName := ⟨RX5, "bound", "(II)I"⟩
abbrev cX5_undo : ByteArray := prog_1_method_9_code
def yX5_undo : MethodName := ⟨RX5, "undo", "()I"⟩
abbrev cX5_told : ByteArray := prog_1_method_10_code
def yX5_told : MethodName := ⟨RX5, "told", "(I)I"⟩
abbrev cX5_row : ByteArray := prog_1_method_11_code
def yX5_row : MethodName := ⟨RX5, "row", "(II)I"⟩
abbrev cX5_at : ByteArray := prog_1_method_12_code
def yX5_at : MethodName := ⟨RX5, "at", "(II)I"⟩
abbrev cX5_share : ByteArray := prog_1_method_13_code
def yX5_share : MethodName := ⟨RX5, "share", "(III)I"⟩
abbrev cX5_peak : ByteArray := prog_1_method_14_code
def yX5_peak : MethodName := ⟨RX5, "peak", "(II)I"⟩
abbrev cX5_key : ByteArray := prog_1_method_15_code
def yX5_key : MethodName := ⟨RX5, "key", "(III)I"⟩
abbrev cX5_keyAt : ByteArray := prog_1_method_16_code
def yX5_keyAt : MethodName := ⟨RX5, "keyAt", "(I)I"⟩
abbrev cX5_places : ByteArray := prog_1_method_17_code
def yX5_places : MethodName := ⟨RX5, "places", "(I)I"⟩
abbrev cX5_place : ByteArray := prog_1_method_18_code
def yX5_place : MethodName := ⟨RX5, "place", "(II)I"⟩
abbrev cX5_votes : ByteArray := prog_1_method_19_code
def yX5_votes : MethodName := ⟨RX5, "votes", "(II)I"⟩
abbrev cX5_rank : ByteArray := prog_1_method_20_code
def yX5_rank : MethodName := ⟨RX5, "rank", "(II)I"⟩
abbrev cX5_keep : ByteArray := prog_1_method_21_code
def yX5_keep : MethodName := ⟨RX5, "keep", "(I)I"⟩
abbrev cX5_goBack : ByteArray := prog_1_method_22_code
def yX5_goBack : MethodName := ⟨RX5, "goBack", "(I)I"⟩
abbrev cX5_isWithin : ByteArray := prog_1_method_23_code
def yX5_isWithin : MethodName := ⟨RX5, "isWithin", "(III)Z"⟩
abbrev cX5_isPiece : ByteArray := prog_1_method_24_code
def yX5_isPiece : MethodName := ⟨RX5, "isPiece", "(I)Z"⟩
abbrev cX5_isRow : ByteArray := prog_1_method_25_code
def yX5_isRow : MethodName := ⟨RX5, "isRow", "(I)Z"⟩
abbrev cX5_isWindow : ByteArray := prog_1_method_26_code
def yX5_isWindow : MethodName := ⟨RX5, "isWindow", "(II)Z"⟩
abbrev cX5_lotAfter : ByteArray := prog_1_method_27_code
def yX5_lotAfter : MethodName := ⟨RX5, "lotAfter", "(I)I"⟩
abbrev cX5_beforeChange : ByteArray := prog_1_method_28_code
def yX5_beforeChange : MethodName := ⟨RX5, "beforeChange", "(I)V"⟩
abbrev cX5_changeFloor : ByteArray := prog_1_method_29_code
def yX5_changeFloor : MethodName := ⟨RX5, "changeFloor", "(I)I"⟩
abbrev cX5_changeReach : ByteArray := prog_1_method_30_code
def yX5_changeReach : MethodName := ⟨RX5, "changeReach", "(I)I"⟩
abbrev cX5_refresh : ByteArray := prog_1_method_31_code
def yX5_refresh : MethodName := ⟨RX5, "refresh", "()V"⟩
def RX6 : String := "SoundPicturesModel"
def TX6 : u_T := fun k => match k with
  | 0 => ("SoundPicturesModel", "now", "[I", true)
  | 1 => ("SoundPicturesModel", "past", "[I", true)
  | 2 => ("SoundPicturesModel", "acts", "I", false)
  | 3 => ("SoundPicturesModel", "images", "[I", true)
  | 4 => ("SoundPicturesModel", "kept", "[Z", true)
  | 5 => ("SoundPicturesModel", "turned", "[I", true)
  | 6 => ("SoundPicturesModel", "peaks", "[I", true)
  | 7 => ("SoundPicturesModel", "votes", "[I", true)
  | _ => ("SoundPicturesModel", "ranked", "[Z", true)
def tyX6 : Nat → FieldType := fun k => match k with
  | 0 => .array .int
  | 1 => .array .int
  | 2 => .int
  | 3 => .array .int
  | 4 => .array .boolean
  | 5 => .array .int
  | 6 => .array .int
  | 7 => .array .int
  | _ => .array .boolean
abbrev wsX60 : List Cond := u_ws RX6 TX6 9
theorem nmX6 : ∀ a, a < 9 → ∀ b, b < 9 → a ≠ b → (TX6 a).2.1 ≠ (TX6 b).2.1 := by decide +kernel
theorem tyX6_ok : ∀ k, k < 9 → parseFieldDescriptor (TX6 k).2.2.1 = some (tyX6 k) := by decide +kernel
abbrev cX6_init : ByteArray := prog_8_method_1_code
def yX6_init : MethodName := ⟨RX6, "<init>", "()V"⟩
abbrev cX6_in : ByteArray := prog_8_method_3_code
def yX6_in : MethodName := ⟨RX6, "in", "(III)Z"⟩
abbrev cX6_isRow : ByteArray := prog_8_method_4_code
def yX6_isRow : MethodName := ⟨RX6, "isRow", "(I)Z"⟩
abbrev cX6_windows : ByteArray := prog_8_method_5_code
def yX6_windows : MethodName := ⟨RX6, "windows", "(I)I"⟩
abbrev cX6_isWindow : ByteArray := prog_8_method_6_code
def yX6_isWindow : MethodName := ⟨RX6, "isWindow", "(II)Z"⟩
abbrev cX6_of : ByteArray := prog_8_method_7_code
def yX6_of : MethodName := ⟨RX6, "of", "(II)I"⟩
abbrev cX6_put : ByteArray := prog_8_method_8_code
def yX6_put : MethodName := ⟨RX6, "put", "(III)V"⟩
abbrev cX6_notes : ByteArray := prog_8_method_9_code
def yX6_notes : MethodName := ⟨RX6, "notes", "()V"⟩
abbrev cX6_drawn : ByteArray := prog_8_method_10_code
def yX6_drawn : MethodName := ⟨RX6, "drawn", "(J)J"⟩
abbrev cX6_bounded : ByteArray := prog_8_method_11_code
def yX6_bounded : MethodName := ⟨RX6, "bounded", "(I)I"⟩
abbrev cX6_add : ByteArray := prog_8_method_12_code
def yX6_add : MethodName := ⟨RX6, "add", "(II)I"⟩
abbrev cX6_wipe : ByteArray := prog_8_method_13_code
def yX6_wipe : MethodName := ⟨RX6, "wipe", "(I)I"⟩
abbrev cX6_lots : ByteArray := prog_8_method_14_code
def yX6_lots : MethodName := ⟨RX6, "lots", "(III)I"⟩
abbrev cX6_becomes : ByteArray := prog_8_method_15_code
def yX6_becomes : MethodName := ⟨RX6, "becomes", "(III)I"⟩
abbrev cX6_noise : ByteArray := prog_8_method_16_code
def yX6_noise : MethodName := ⟨RX6, "noise", "(III)I"⟩
abbrev cX6_louder : ByteArray := prog_8_method_17_code
def yX6_louder : MethodName := ⟨RX6, "louder", "(III)I"⟩
abbrev cX6_hear : ByteArray := prog_8_method_18_code
def yX6_hear : MethodName := ⟨RX6, "hear", "(III)I"⟩
abbrev cX6_bound : ByteArray := prog_8_method_19_code
def yX6_bound : MethodName := ⟨RX6, "bound", "(II)I"⟩
abbrev cX6_undo : ByteArray := prog_8_method_20_code
def yX6_undo : MethodName := ⟨RX6, "undo", "()I"⟩
abbrev cX6_turns : ByteArray := prog_8_method_21_code
def yX6_turns : MethodName := ⟨RX6, "turns", "(II)V"⟩
abbrev cX6_shareOf : ByteArray := prog_8_method_22_code
def yX6_shareOf : MethodName := ⟨RX6, "shareOf", "(I)I"⟩
abbrev cX6_peakOf : ByteArray := prog_8_method_23_code
def yX6_peakOf : MethodName := ⟨RX6, "peakOf", "(II)I"⟩
abbrev cX6_findsPeaks : ByteArray := prog_8_method_24_code
def yX6_findsPeaks : MethodName := ⟨RX6, "findsPeaks", "()V"⟩
abbrev cX6_keyOf : ByteArray := prog_8_method_25_code
def yX6_keyOf : MethodName := ⟨RX6, "keyOf", "(III)I"⟩
abbrev cX6_stands : ByteArray := prog_8_method_26_code
def yX6_stands : MethodName := ⟨RX6, "stands", "(III)Z"⟩
abbrev cX6_placesOf : ByteArray := prog_8_method_27_code
def yX6_placesOf : MethodName := ⟨RX6, "placesOf", "(I)I"⟩
abbrev cX6_keysOf : ByteArray := prog_8_method_28_code
def yX6_keysOf : MethodName := ⟨RX6, "keysOf", "(I)I"⟩
abbrev cX6_counts : ByteArray := prog_8_method_29_code
def yX6_counts : MethodName := ⟨RX6, "counts", "()V"⟩
abbrev cX6_best : ByteArray := prog_8_method_30_code
def yX6_best : MethodName := ⟨RX6, "best", "(I)I"⟩
abbrev cX6_doubt : ByteArray := prog_8_method_31_code
def yX6_doubt : MethodName := ⟨RX6, "doubt", "()I"⟩
abbrev cX6_ledger : ByteArray := prog_8_method_32_code
def yX6_ledger : MethodName := ⟨RX6, "ledger", "(Z)I"⟩
abbrev cX6_known : ByteArray := prog_8_method_33_code
def yX6_known : MethodName := ⟨RX6, "known", "()I"⟩
abbrev cX6_allVotes : ByteArray := prog_8_method_34_code
def yX6_allVotes : MethodName := ⟨RX6, "allVotes", "(Z)I"⟩
abbrev cX6_told : ByteArray := prog_8_method_35_code
def yX6_told : MethodName := ⟨RX6, "told", "(I)I"⟩
abbrev cX6_mostOften : ByteArray := prog_8_method_36_code
def yX6_mostOften : MethodName := ⟨RX6, "mostOften", "(I)I"⟩
abbrev cX6_row : ByteArray := prog_8_method_37_code
def yX6_row : MethodName := ⟨RX6, "row", "(II)I"⟩
abbrev cX6_at : ByteArray := prog_8_method_38_code
def yX6_at : MethodName := ⟨RX6, "at", "(II)I"⟩
abbrev cX6_share : ByteArray := prog_8_method_39_code
def yX6_share : MethodName := ⟨RX6, "share", "(III)I"⟩
abbrev cX6_peak : ByteArray := prog_8_method_40_code
def yX6_peak : MethodName := ⟨RX6, "peak", "(II)I"⟩
abbrev cX6_key : ByteArray := prog_8_method_41_code
def yX6_key : MethodName := ⟨RX6, "key", "(III)I"⟩
abbrev cX6_keyAt : ByteArray := prog_8_method_42_code
def yX6_keyAt : MethodName := ⟨RX6, "keyAt", "(I)I"⟩
abbrev cX6_places : ByteArray := prog_8_method_43_code
def yX6_places : MethodName := ⟨RX6, "places", "(I)I"⟩
abbrev cX6_place : ByteArray := prog_8_method_44_code
def yX6_place : MethodName := ⟨RX6, "place", "(II)I"⟩
abbrev cX6_votes : ByteArray := prog_8_method_45_code
def yX6_votes : MethodName := ⟨RX6, "votes", "(II)I"⟩
abbrev cX6_rank : ByteArray := prog_8_method_46_code
def yX6_rank : MethodName := ⟨RX6, "rank", "(II)I"⟩
abbrev cX6_keep : ByteArray := prog_8_method_47_code
def yX6_keep : MethodName := ⟨RX6, "keep", "(I)I"⟩
abbrev cX6_goBack : ByteArray := prog_8_method_48_code
def yX6_goBack : MethodName := ⟨RX6, "goBack", "(I)I"⟩
def RJ9 : String := "java/lang/Math"
def TJ9 : u_T := fun k => match k with
  | _ => ("", "", "", false)
def tyJ9 : Nat → FieldType := fun k => match k with
  | _ => .int
abbrev wsJ90 : List Cond := u_ws RJ9 TJ9 0
theorem nmJ9 : ∀ a, a < 0 → ∀ b, b < 0 → a ≠ b → (TJ9 a).2.1 ≠ (TJ9 b).2.1 := by decide +kernel
theorem tyJ9_ok : ∀ k, k < 0 → parseFieldDescriptor (TJ9 k).2.2.1 = some (tyJ9 k) := by decide +kernel
abbrev cJ9_max_7cf53 : ByteArray := prog_9_method_65_code
def yJ9_max_7cf53 : MethodName := ⟨RJ9, "max", "(II)I"⟩
abbrev cJ9_min_7cf53 : ByteArray := prog_9_method_69_code
def yJ9_min_7cf53 : MethodName := ⟨RJ9, "min", "(II)I"⟩
def RJ10 : String := "java/lang/System"
def TJ10 : u_T := fun k => match k with
  | _ => ("", "", "", false)
def tyJ10 : Nat → FieldType := fun k => match k with
  | _ => .int
abbrev wsJ100 : List Cond := u_ws RJ10 TJ10 0
theorem nmJ10 : ∀ a, a < 0 → ∀ b, b < 0 → a ≠ b → (TJ10 a).2.1 ≠ (TJ10 b).2.1 := by decide +kernel
theorem tyJ10_ok : ∀ k, k < 0 → parseFieldDescriptor (TJ10 k).2.2.1 = some (tyJ10 k) := by decide +kernel
def RL : String := "SoundPicturesLaw"
abbrev cL_law : ByteArray := code
def yL_law : MethodName := ⟨RL, "law", "([I)Z"⟩
def wsX0_init : List Cond := .code yX0_init cX0_init 1 none :: ([.methodLink RX0 3 objectInit, .instanceMethod objectInit, .code objectInit ⟨#[0xb1]⟩ 1 none, .arrayClass .int, .fieldLink RX0 9 "SoundPictures$Ballot" "cells" "[I", .fieldLink RX0 15 "SoundPictures$Ballot" "order" "[I"] ++ wsX00)
def wsX0_keysHeard : List Cond := .code yX0_keysHeard cX0_keysHeard 1 (some .int) :: ([.fieldLink RX0 18 "SoundPictures$Ballot" "heard" "I"] ++ wsX00)
def wsX0_keysKnown : List Cond := .code yX0_keysKnown cX0_keysKnown 1 (some .int) :: ([.fieldLink RX0 22 "SoundPictures$Ballot" "known" "I"] ++ wsX00)
def wsX0_allVotes : List Cond := .code yX0_allVotes cX0_allVotes 1 (some .int) :: ([.fieldLink RX0 25 "SoundPictures$Ballot" "all" "I"] ++ wsX00)
def wsX0_ranked : List Cond := .code yX0_ranked cX0_ranked 1 (some .int) :: ([.fieldLink RX0 28 "SoundPictures$Ballot" "ranked" "I"] ++ wsX00)
def wsX0_votesFor : List Cond := .code yX0_votesFor cX0_votesFor 3 (some .int) :: ([.fieldLink RX0 9 "SoundPictures$Ballot" "cells" "[I"] ++ wsX00)
def wsX0_pieceOf : List Cond := .code yX0_pieceOf cX0_pieceOf 2 (some .int) :: ([.fieldLink RX0 28 "SoundPictures$Ballot" "ranked" "I", .fieldLink RX0 15 "SoundPictures$Ballot" "order" "[I"] ++ wsX00)
def wsX0_offsetOf : List Cond := .code yX0_offsetOf cX0_offsetOf 2 (some .int) :: ([.fieldLink RX0 28 "SoundPictures$Ballot" "ranked" "I", .fieldLink RX0 15 "SoundPictures$Ballot" "order" "[I"] ++ wsX00)
def wsX0_countOf : List Cond := .code yX0_countOf cX0_countOf 2 (some .int) :: ([.fieldLink RX0 28 "SoundPictures$Ballot" "ranked" "I", .fieldLink RX0 9 "SoundPictures$Ballot" "cells" "[I", .fieldLink RX0 15 "SoundPictures$Ballot" "order" "[I"] ++ wsX00)
def wsX0_doubt : List Cond := .code yX0_doubt cX0_doubt 3 (some .int) :: ([.fieldLink RX0 28 "SoundPictures$Ballot" "ranked" "I", .methodLink RX0 31 yX0_countOf, .instanceMethod yX0_countOf, .selects RX0 yX0_countOf yX0_countOf, .initialized RX0, .code yX0_countOf cX0_countOf 2 (some .int), .fieldLink RX0 9 "SoundPictures$Ballot" "cells" "[I", .fieldLink RX0 15 "SoundPictures$Ballot" "order" "[I", .methodLink RX0 35 yX0_pieceOf, .instanceMethod yX0_pieceOf, .selects RX0 yX0_pieceOf yX0_pieceOf, .code yX0_pieceOf cX0_pieceOf 2 (some .int)] ++ wsX00)
def wsX0_clear : List Cond := .code yX0_clear cX0_clear 2 none :: ([.fieldLink RX0 9 "SoundPictures$Ballot" "cells" "[I", .fieldLink RX0 28 "SoundPictures$Ballot" "ranked" "I", .fieldLink RX0 18 "SoundPictures$Ballot" "heard" "I", .fieldLink RX0 22 "SoundPictures$Ballot" "known" "I", .fieldLink RX0 25 "SoundPictures$Ballot" "all" "I"] ++ wsX00)
def wsX3_peakOf : List Cond := .code yX3_peakOf cX3_peakOf 3 (some .int) :: ([.fieldLink RX3 15 "SoundPictures$Peaks" "found" "[I"] ++ wsX30)
def wsX3_keyOf : List Cond := .code yX3_keyOf cX3_keyOf 7 (some .int) :: ([.methodLink RX3 38 yX3_peakOf, .instanceMethod yX3_peakOf, .selects RX3 yX3_peakOf yX3_peakOf, .initialized RX3, .code yX3_peakOf cX3_peakOf 3 (some .int), .fieldLink RX3 15 "SoundPictures$Peaks" "found" "[I"] ++ wsX30)
def wsX1_placesOf : List Cond := .code yX1_placesOf cX1_placesOf 2 (some .int) :: ([.fieldLink RX1 9 "SoundPictures$Ledger" "starts" "[I"] ++ wsX10)
def wsX1_placeOf : List Cond := .code yX1_placeOf cX1_placeOf 3 (some .int) :: ([.fieldLink RX1 18 "SoundPictures$Ledger" "entries" "[I", .fieldLink RX1 9 "SoundPictures$Ledger" "starts" "[I", .methodLink RX1 25 yX1_placesOf, .instanceMethod yX1_placesOf, .selects RX1 yX1_placesOf yX1_placesOf, .initialized RX1, .code yX1_placesOf cX1_placesOf 2 (some .int)] ++ wsX10)
def wsX0_castFor : List Cond := .code yX0_castFor cX0_castFor 9 none :: ([.fieldLink RX0 22 "SoundPictures$Ballot" "known" "I", .fieldLink RX0 9 "SoundPictures$Ballot" "cells" "[I", .fieldLink RX0 25 "SoundPictures$Ballot" "all" "I", .methodLink RX0 54 yX1_placesOf, .instanceMethod yX1_placesOf, .selects RX1 yX1_placesOf yX1_placesOf, .initialized RX1, .code yX1_placesOf cX1_placesOf 2 (some .int), .fieldLink RX1 9 "SoundPictures$Ledger" "starts" "[I", .methodLink RX0 59 yX1_placeOf, .instanceMethod yX1_placeOf, .selects RX1 yX1_placeOf yX1_placeOf, .code yX1_placeOf cX1_placeOf 3 (some .int), .fieldLink RX1 18 "SoundPictures$Ledger" "entries" "[I", .methodLink RX1 25 yX1_placesOf] ++ wsX00 ++ wsX10)
def wsX0_rankCells : List Cond := .code yX0_rankCells cX0_rankCells 3 none :: ([.fieldLink RX0 9 "SoundPictures$Ballot" "cells" "[I", .fieldLink RX0 28 "SoundPictures$Ballot" "ranked" "I", .fieldLink RX0 15 "SoundPictures$Ballot" "order" "[I"] ++ wsX00)
def wsX0_cast_r1 : List Cond := [Cond.fieldLink RX0 18 "SoundPictures$Ballot" "heard" "I", Cond.methodLink RX0 38 yX0_clear, Cond.instanceMethod yX0_clear, Cond.selects RX0 yX0_clear yX0_clear, Cond.initialized RX0, Cond.code yX0_clear cX0_clear 2 none, Cond.fieldLink RX0 9 "SoundPictures$Ballot" "cells" "[I", Cond.fieldLink RX0 28 "SoundPictures$Ballot" "ranked" "I", Cond.fieldLink RX0 22 "SoundPictures$Ballot" "known" "I", Cond.fieldLink RX0 25 "SoundPictures$Ballot" "all" "I", Cond.methodLink RX0 41 yX3_keyOf, Cond.instanceMethod yX3_keyOf, Cond.selects RX3 yX3_keyOf yX3_keyOf, Cond.initialized RX3, Cond.code yX3_keyOf cX3_keyOf 7 (some .int), Cond.methodLink RX3 38 yX3_peakOf, Cond.instanceMethod yX3_peakOf, Cond.selects RX3 yX3_peakOf yX3_peakOf, Cond.code yX3_peakOf cX3_peakOf 3 (some .int), Cond.fieldLink RX3 15 "SoundPictures$Peaks" "found" "[I", Cond.methodLink RX0 47 yX0_castFor, Cond.instanceMethod yX0_castFor, Cond.selects RX0 yX0_castFor yX0_castFor, Cond.code yX0_castFor cX0_castFor 9 none]
def wsX0_cast_r2 : List Cond := [Cond.methodLink RX0 54 yX1_placesOf, Cond.instanceMethod yX1_placesOf, Cond.selects RX1 yX1_placesOf yX1_placesOf, Cond.initialized RX1, Cond.code yX1_placesOf cX1_placesOf 2 (some .int), Cond.fieldLink RX1 9 "SoundPictures$Ledger" "starts" "[I", Cond.methodLink RX0 59 yX1_placeOf, Cond.instanceMethod yX1_placeOf, Cond.selects RX1 yX1_placeOf yX1_placeOf, Cond.code yX1_placeOf cX1_placeOf 3 (some .int), Cond.fieldLink RX1 18 "SoundPictures$Ledger" "entries" "[I", Cond.methodLink RX1 25 yX1_placesOf, Cond.methodLink RX0 51 yX0_rankCells, Cond.instanceMethod yX0_rankCells, Cond.selects RX0 yX0_rankCells yX0_rankCells, Cond.code yX0_rankCells cX0_rankCells 3 none, Cond.fieldLink RX0 15 "SoundPictures$Ballot" "order" "[I"]
def wsX0_cast : List Cond := .code yX0_cast cX0_cast 7 none :: ((wsX0_cast_r1 ++ wsX0_cast_r2) ++ wsX00 ++ wsX30 ++ wsX10)
def wsX1_init : List Cond := .code yX1_init cX1_init 1 none :: ([.methodLink RX1 3 objectInit, .instanceMethod objectInit, .code objectInit ⟨#[0xb1]⟩ 1 none, .arrayClass .int, .fieldLink RX1 9 "SoundPictures$Ledger" "starts" "[I", .fieldLink RX1 15 "SoundPictures$Ledger" "filled" "[I", .fieldLink RX1 18 "SoundPictures$Ledger" "entries" "[I"] ++ wsX10)
def wsX1_unlikeKeys : List Cond := .code yX1_unlikeKeys cX1_unlikeKeys 1 (some .int) :: ([.fieldLink RX1 21 "SoundPictures$Ledger" "unlike" "I"] ++ wsX10)
def wsX1_allPlaces : List Cond := .code yX1_allPlaces cX1_allPlaces 1 (some .int) :: ([.fieldLink RX1 9 "SoundPictures$Ledger" "starts" "[I"] ++ wsX10)
def wsX1_keyByRise : List Cond := .code yX1_keyByRise cX1_keyByRise 4 (some .int) :: ([.methodLink RX1 25 yX1_placesOf, .instanceMethod yX1_placesOf, .selects RX1 yX1_placesOf yX1_placesOf, .initialized RX1, .code yX1_placesOf cX1_placesOf 2 (some .int), .fieldLink RX1 9 "SoundPictures$Ledger" "starts" "[I"] ++ wsX10)
def wsX1_countKeys : List Cond := .code yX1_countKeys cX1_countKeys 7 none :: ([.fieldLink RX1 15 "SoundPictures$Ledger" "filled" "[I", .methodLink RX1 39 yX3_keyOf, .instanceMethod yX3_keyOf, .selects RX3 yX3_keyOf yX3_keyOf, .initialized RX3, .code yX3_keyOf cX3_keyOf 7 (some .int), .methodLink RX3 38 yX3_peakOf, .instanceMethod yX3_peakOf, .selects RX3 yX3_peakOf yX3_peakOf, .code yX3_peakOf cX3_peakOf 3 (some .int), .fieldLink RX3 15 "SoundPictures$Peaks" "found" "[I"] ++ wsX10 ++ wsX30)
def wsX1_setStarts : List Cond := .code yX1_setStarts cX1_setStarts 2 none :: ([.fieldLink RX1 21 "SoundPictures$Ledger" "unlike" "I", .fieldLink RX1 9 "SoundPictures$Ledger" "starts" "[I", .fieldLink RX1 15 "SoundPictures$Ledger" "filled" "[I"] ++ wsX10)
def wsX1_fillEntries : List Cond := .code yX1_fillEntries cX1_fillEntries 7 none :: ([.fieldLink RX1 18 "SoundPictures$Ledger" "entries" "[I", .fieldLink RX1 9 "SoundPictures$Ledger" "starts" "[I", .fieldLink RX1 15 "SoundPictures$Ledger" "filled" "[I", .methodLink RX1 39 yX3_keyOf, .instanceMethod yX3_keyOf, .selects RX3 yX3_keyOf yX3_keyOf, .initialized RX3, .code yX3_keyOf cX3_keyOf 7 (some .int), .methodLink RX3 38 yX3_peakOf, .instanceMethod yX3_peakOf, .selects RX3 yX3_peakOf yX3_peakOf, .code yX3_peakOf cX3_peakOf 3 (some .int), .fieldLink RX3 15 "SoundPictures$Peaks" "found" "[I"] ++ wsX10 ++ wsX30)
def wsX1_write_r1 : List Cond := [Cond.methodLink RX1 29 yX1_countKeys, Cond.instanceMethod yX1_countKeys, Cond.selects RX1 yX1_countKeys yX1_countKeys, Cond.initialized RX1, Cond.code yX1_countKeys cX1_countKeys 7 none, Cond.fieldLink RX1 15 "SoundPictures$Ledger" "filled" "[I", Cond.methodLink RX1 39 yX3_keyOf, Cond.instanceMethod yX3_keyOf, Cond.selects RX3 yX3_keyOf yX3_keyOf, Cond.initialized RX3, Cond.code yX3_keyOf cX3_keyOf 7 (some .int), Cond.methodLink RX3 38 yX3_peakOf, Cond.instanceMethod yX3_peakOf, Cond.selects RX3 yX3_peakOf yX3_peakOf, Cond.code yX3_peakOf cX3_peakOf 3 (some .int), Cond.fieldLink RX3 15 "SoundPictures$Peaks" "found" "[I", Cond.methodLink RX1 33 yX1_setStarts, Cond.instanceMethod yX1_setStarts, Cond.selects RX1 yX1_setStarts yX1_setStarts, Cond.code yX1_setStarts cX1_setStarts 2 none, Cond.fieldLink RX1 21 "SoundPictures$Ledger" "unlike" "I", Cond.fieldLink RX1 9 "SoundPictures$Ledger" "starts" "[I", Cond.methodLink RX1 36 yX1_fillEntries, Cond.instanceMethod yX1_fillEntries]
def wsX1_write_r2 : List Cond := [Cond.selects RX1 yX1_fillEntries yX1_fillEntries, Cond.code yX1_fillEntries cX1_fillEntries 7 none, Cond.fieldLink RX1 18 "SoundPictures$Ledger" "entries" "[I"]
def wsX1_write : List Cond := .code yX1_write cX1_write 3 none :: ((wsX1_write_r1 ++ wsX1_write_r2) ++ wsX10 ++ wsX30)
def wsX2_init : List Cond := .code yX2_init cX2_init 1 none :: ([.methodLink RX2 3 objectInit, .instanceMethod objectInit, .code objectInit ⟨#[0xb1]⟩ 1 none, .arrayClass .int, .fieldLink RX2 9 "SoundPictures$Past" "numbers" "[I", .fieldLink RX2 15 "SoundPictures$Past" "rows" "[I", .fieldLink RX2 18 "SoundPictures$Past" "sizes" "[I", .fieldLink RX2 21 "SoundPictures$Past" "floors" "[I", .fieldLink RX2 24 "SoundPictures$Past" "reaches" "[I"] ++ wsX20)
def wsX2_depth : List Cond := .code yX2_depth cX2_depth 1 (some .int) :: ([.fieldLink RX2 27 "SoundPictures$Past" "depth" "I"] ++ wsX20)
def wsX2_forget : List Cond := .code yX2_forget cX2_forget 1 none :: ([.fieldLink RX2 27 "SoundPictures$Past" "depth" "I"] ++ wsX20)
def wsX4_copyRowTo : List Cond := .code yX4_copyRowTo cX4_copyRowTo 4 none :: ([.fieldLink RX4 9 "SoundPictures$State" "numbers" "[I", .methodLink RX4 34 arraycopyName, .native arraycopyName, .static arraycopyName, .initialized "java/lang/System"] ++ wsX40)
def wsX4_sizeOf : List Cond := .code yX4_sizeOf cX4_sizeOf 2 (some .int) :: ([.fieldLink RX4 15 "SoundPictures$State" "sizes" "[I"] ++ wsX40)
def wsX4_floor : List Cond := .code yX4_floor cX4_floor 1 (some .int) :: ([.fieldLink RX4 18 "SoundPictures$State" "floor" "I"] ++ wsX40)
def wsX4_reach : List Cond := .code yX4_reach cX4_reach 1 (some .int) :: ([.fieldLink RX4 22 "SoundPictures$State" "reach" "I"] ++ wsX40)
def wsX2_remember_r1 : List Cond := [Cond.fieldLink RX2 9 "SoundPictures$Past" "numbers" "[I", Cond.fieldLink RX2 31 "SoundPictures$Past" "next" "I", Cond.fieldLink RX2 15 "SoundPictures$Past" "rows" "[I", Cond.fieldLink RX2 18 "SoundPictures$Past" "sizes" "[I", Cond.fieldLink RX2 21 "SoundPictures$Past" "floors" "[I", Cond.fieldLink RX2 24 "SoundPictures$Past" "reaches" "[I", Cond.fieldLink RX2 27 "SoundPictures$Past" "depth" "I", Cond.methodLink RX2 51 Lib.Math.min.name, Cond.static Lib.Math.min.name, Cond.initialized "java/lang/Math", Cond.code Lib.Math.min.name Lib.Math.min.code 2 (some .int), Cond.methodLink RX2 34 yX4_copyRowTo, Cond.instanceMethod yX4_copyRowTo, Cond.selects RX4 yX4_copyRowTo yX4_copyRowTo, Cond.initialized RX4, Cond.code yX4_copyRowTo cX4_copyRowTo 4 none, Cond.fieldLink RX4 9 "SoundPictures$State" "numbers" "[I", Cond.methodLink RX4 34 arraycopyName, Cond.native arraycopyName, Cond.static arraycopyName, Cond.initialized "java/lang/System", Cond.methodLink RX2 40 yX4_sizeOf, Cond.instanceMethod yX4_sizeOf, Cond.selects RX4 yX4_sizeOf yX4_sizeOf]
def wsX2_remember_r2 : List Cond := [Cond.code yX4_sizeOf cX4_sizeOf 2 (some .int), Cond.fieldLink RX4 15 "SoundPictures$State" "sizes" "[I", Cond.methodLink RX2 44 yX4_floor, Cond.instanceMethod yX4_floor, Cond.selects RX4 yX4_floor yX4_floor, Cond.code yX4_floor cX4_floor 1 (some .int), Cond.fieldLink RX4 18 "SoundPictures$State" "floor" "I", Cond.methodLink RX2 48 yX4_reach, Cond.instanceMethod yX4_reach, Cond.selects RX4 yX4_reach yX4_reach, Cond.code yX4_reach cX4_reach 1 (some .int), Cond.fieldLink RX4 22 "SoundPictures$State" "reach" "I"]
def wsX2_remember : List Cond := .code yX2_remember cX2_remember 3 none :: ((wsX2_remember_r1 ++ wsX2_remember_r2) ++ wsX20 ++ wsX40)
def wsX4_takeRow : List Cond := .code yX4_takeRow cX4_takeRow 5 none :: ([.fieldLink RX4 9 "SoundPictures$State" "numbers" "[I", .methodLink RX4 34 arraycopyName, .native arraycopyName, .static arraycopyName, .initialized "java/lang/System", .fieldLink RX4 15 "SoundPictures$State" "sizes" "[I"] ++ wsX40)
def wsX4_setFloor : List Cond := .code yX4_setFloor cX4_setFloor 2 none :: ([.fieldLink RX4 18 "SoundPictures$State" "floor" "I"] ++ wsX40)
def wsX4_setReach : List Cond := .code yX4_setReach cX4_setReach 2 none :: ([.fieldLink RX4 22 "SoundPictures$State" "reach" "I"] ++ wsX40)
def wsX2_restoreLatest_r1 : List Cond := [Cond.fieldLink RX2 27 "SoundPictures$Past" "depth" "I", Cond.fieldLink RX2 31 "SoundPictures$Past" "next" "I", Cond.fieldLink RX2 15 "SoundPictures$Past" "rows" "[I", Cond.fieldLink RX2 9 "SoundPictures$Past" "numbers" "[I", Cond.fieldLink RX2 18 "SoundPictures$Past" "sizes" "[I", Cond.fieldLink RX2 21 "SoundPictures$Past" "floors" "[I", Cond.fieldLink RX2 24 "SoundPictures$Past" "reaches" "[I", Cond.methodLink RX2 57 yX4_takeRow, Cond.instanceMethod yX4_takeRow, Cond.selects RX4 yX4_takeRow yX4_takeRow, Cond.initialized RX4, Cond.code yX4_takeRow cX4_takeRow 5 none, Cond.fieldLink RX4 9 "SoundPictures$State" "numbers" "[I", Cond.methodLink RX4 34 arraycopyName, Cond.native arraycopyName, Cond.static arraycopyName, Cond.initialized "java/lang/System", Cond.fieldLink RX4 15 "SoundPictures$State" "sizes" "[I", Cond.methodLink RX2 61 yX4_setFloor, Cond.instanceMethod yX4_setFloor, Cond.selects RX4 yX4_setFloor yX4_setFloor, Cond.code yX4_setFloor cX4_setFloor 2 none, Cond.fieldLink RX4 18 "SoundPictures$State" "floor" "I", Cond.methodLink RX2 65 yX4_setReach]
def wsX2_restoreLatest_r2 : List Cond := [Cond.instanceMethod yX4_setReach, Cond.selects RX4 yX4_setReach yX4_setReach, Cond.code yX4_setReach cX4_setReach 2 none, Cond.fieldLink RX4 22 "SoundPictures$State" "reach" "I"]
def wsX2_restoreLatest : List Cond := .code yX2_restoreLatest cX2_restoreLatest 2 none :: ((wsX2_restoreLatest_r1 ++ wsX2_restoreLatest_r2) ++ wsX20 ++ wsX40)
def wsX3_init : List Cond := .code yX3_init cX3_init 1 none :: ([.methodLink RX3 3 objectInit, .instanceMethod objectInit, .code objectInit ⟨#[0xb1]⟩ 1 none, .arrayClass .int, .fieldLink RX3 9 "SoundPictures$Peaks" "waves" "[I", .fieldLink RX3 15 "SoundPictures$Peaks" "found" "[I", .fieldLink RX3 18 "SoundPictures$Peaks" "often" "[I"] ++ wsX30)
def wsX4_windowsOf : List Cond := .code yX4_windowsOf cX4_windowsOf 2 (some .int) :: ([.fieldLink RX4 15 "SoundPictures$State" "sizes" "[I"] ++ wsX40)
def wsX4_numberAt : List Cond := .code yX4_numberAt cX4_numberAt 3 (some .int) :: ([.fieldLink RX4 9 "SoundPictures$State" "numbers" "[I"] ++ wsX40)
def wsX3_turnPairs : List Cond := .code yX3_turnPairs cX3_turnPairs 5 none :: ([.fieldLink RX3 9 "SoundPictures$Peaks" "waves" "[I"] ++ wsX30)
def wsX3_turn : List Cond := .code yX3_turn cX3_turn 5 none :: ([.fieldLink RX3 9 "SoundPictures$Peaks" "waves" "[I", .methodLink RX3 50 yX4_numberAt, .instanceMethod yX4_numberAt, .selects RX4 yX4_numberAt yX4_numberAt, .initialized RX4, .code yX4_numberAt cX4_numberAt 3 (some .int), .fieldLink RX4 9 "SoundPictures$State" "numbers" "[I", .methodLink RX3 53 yX3_turnPairs, .instanceMethod yX3_turnPairs, .selects RX3 yX3_turnPairs yX3_turnPairs, .initialized RX3, .code yX3_turnPairs cX3_turnPairs 5 none] ++ wsX30 ++ wsX40)
def wsX3_shareOf : List Cond := .code yX3_shareOf cX3_shareOf 2 (some .int) :: ([.fieldLink RX3 9 "SoundPictures$Peaks" "waves" "[I"] ++ wsX30)
def wsX3_findPeak_r1 : List Cond := [Cond.methodLink RX3 31 yX3_turn, Cond.instanceMethod yX3_turn, Cond.selects RX3 yX3_turn yX3_turn, Cond.initialized RX3, Cond.code yX3_turn cX3_turn 5 none, Cond.fieldLink RX3 9 "SoundPictures$Peaks" "waves" "[I", Cond.methodLink RX3 50 yX4_numberAt, Cond.instanceMethod yX4_numberAt, Cond.selects RX4 yX4_numberAt yX4_numberAt, Cond.initialized RX4, Cond.code yX4_numberAt cX4_numberAt 3 (some .int), Cond.fieldLink RX4 9 "SoundPictures$State" "numbers" "[I", Cond.methodLink RX3 53 yX3_turnPairs, Cond.instanceMethod yX3_turnPairs, Cond.selects RX3 yX3_turnPairs yX3_turnPairs, Cond.code yX3_turnPairs cX3_turnPairs 5 none, Cond.methodLink RX3 35 yX3_shareOf, Cond.instanceMethod yX3_shareOf, Cond.selects RX3 yX3_shareOf yX3_shareOf, Cond.code yX3_shareOf cX3_shareOf 2 (some .int), Cond.methodLink RX3 46 yX4_floor, Cond.instanceMethod yX4_floor, Cond.selects RX4 yX4_floor yX4_floor, Cond.code yX4_floor cX4_floor 1 (some .int)]
def wsX3_findPeak_r2 : List Cond := [Cond.fieldLink RX4 18 "SoundPictures$State" "floor" "I"]
def wsX3_findPeak : List Cond := .code yX3_findPeak cX3_findPeak 6 (some .int) :: ((wsX3_findPeak_r1 ++ wsX3_findPeak_r2) ++ wsX30 ++ wsX40)
def wsX3_look_r1 : List Cond := [Cond.fieldLink RX3 15 "SoundPictures$Peaks" "found" "[I", Cond.methodLink RX3 21 yX4_windowsOf, Cond.instanceMethod yX4_windowsOf, Cond.selects RX4 yX4_windowsOf yX4_windowsOf, Cond.initialized RX4, Cond.code yX4_windowsOf cX4_windowsOf 2 (some .int), Cond.fieldLink RX4 15 "SoundPictures$State" "sizes" "[I", Cond.methodLink RX3 27 yX3_findPeak, Cond.instanceMethod yX3_findPeak, Cond.selects RX3 yX3_findPeak yX3_findPeak, Cond.initialized RX3, Cond.code yX3_findPeak cX3_findPeak 6 (some .int), Cond.methodLink RX3 31 yX3_turn, Cond.instanceMethod yX3_turn, Cond.selects RX3 yX3_turn yX3_turn, Cond.code yX3_turn cX3_turn 5 none, Cond.fieldLink RX3 9 "SoundPictures$Peaks" "waves" "[I", Cond.methodLink RX3 50 yX4_numberAt, Cond.instanceMethod yX4_numberAt, Cond.selects RX4 yX4_numberAt yX4_numberAt, Cond.code yX4_numberAt cX4_numberAt 3 (some .int), Cond.fieldLink RX4 9 "SoundPictures$State" "numbers" "[I", Cond.methodLink RX3 53 yX3_turnPairs, Cond.instanceMethod yX3_turnPairs]
def wsX3_look_r2 : List Cond := [Cond.selects RX3 yX3_turnPairs yX3_turnPairs, Cond.code yX3_turnPairs cX3_turnPairs 5 none, Cond.methodLink RX3 35 yX3_shareOf, Cond.instanceMethod yX3_shareOf, Cond.selects RX3 yX3_shareOf yX3_shareOf, Cond.code yX3_shareOf cX3_shareOf 2 (some .int), Cond.methodLink RX3 46 yX4_floor, Cond.instanceMethod yX4_floor, Cond.selects RX4 yX4_floor yX4_floor, Cond.code yX4_floor cX4_floor 1 (some .int), Cond.fieldLink RX4 18 "SoundPictures$State" "floor" "I"]
def wsX3_look : List Cond := .code yX3_look cX3_look 6 none :: ((wsX3_look_r1 ++ wsX3_look_r2) ++ wsX30 ++ wsX40)
def wsX3_shareIn : List Cond := .code yX3_shareIn cX3_shareIn 5 (some .int) :: ([.methodLink RX3 31 yX3_turn, .instanceMethod yX3_turn, .selects RX3 yX3_turn yX3_turn, .initialized RX3, .code yX3_turn cX3_turn 5 none, .fieldLink RX3 9 "SoundPictures$Peaks" "waves" "[I", .methodLink RX3 50 yX4_numberAt, .instanceMethod yX4_numberAt, .selects RX4 yX4_numberAt yX4_numberAt, .initialized RX4, .code yX4_numberAt cX4_numberAt 3 (some .int), .fieldLink RX4 9 "SoundPictures$State" "numbers" "[I", .methodLink RX3 53 yX3_turnPairs, .instanceMethod yX3_turnPairs, .selects RX3 yX3_turnPairs yX3_turnPairs, .code yX3_turnPairs cX3_turnPairs 5 none, .methodLink RX3 35 yX3_shareOf, .instanceMethod yX3_shareOf, .selects RX3 yX3_shareOf yX3_shareOf, .code yX3_shareOf cX3_shareOf 2 (some .int)] ++ wsX30 ++ wsX40)
def wsX3_allSharesIn_r1 : List Cond := [Cond.methodLink RX3 21 yX4_windowsOf, Cond.instanceMethod yX4_windowsOf, Cond.selects RX4 yX4_windowsOf yX4_windowsOf, Cond.initialized RX4, Cond.code yX4_windowsOf cX4_windowsOf 2 (some .int), Cond.fieldLink RX4 15 "SoundPictures$State" "sizes" "[I", Cond.methodLink RX3 31 yX3_turn, Cond.instanceMethod yX3_turn, Cond.selects RX3 yX3_turn yX3_turn, Cond.initialized RX3, Cond.code yX3_turn cX3_turn 5 none, Cond.fieldLink RX3 9 "SoundPictures$Peaks" "waves" "[I", Cond.methodLink RX3 50 yX4_numberAt, Cond.instanceMethod yX4_numberAt, Cond.selects RX4 yX4_numberAt yX4_numberAt, Cond.code yX4_numberAt cX4_numberAt 3 (some .int), Cond.fieldLink RX4 9 "SoundPictures$State" "numbers" "[I", Cond.methodLink RX3 53 yX3_turnPairs, Cond.instanceMethod yX3_turnPairs, Cond.selects RX3 yX3_turnPairs yX3_turnPairs, Cond.code yX3_turnPairs cX3_turnPairs 5 none, Cond.methodLink RX3 35 yX3_shareOf, Cond.instanceMethod yX3_shareOf, Cond.selects RX3 yX3_shareOf yX3_shareOf]
def wsX3_allSharesIn_r2 : List Cond := [Cond.code yX3_shareOf cX3_shareOf 2 (some .int)]
def wsX3_allSharesIn : List Cond := .code yX3_allSharesIn cX3_allSharesIn 7 (some .int) :: ((wsX3_allSharesIn_r1 ++ wsX3_allSharesIn_r2) ++ wsX40 ++ wsX30)
def wsX3_countIn : List Cond := .code yX3_countIn cX3_countIn 4 (some .int) :: ([.methodLink RX3 38 yX3_peakOf, .instanceMethod yX3_peakOf, .selects RX3 yX3_peakOf yX3_peakOf, .initialized RX3, .code yX3_peakOf cX3_peakOf 3 (some .int), .fieldLink RX3 15 "SoundPictures$Peaks" "found" "[I"] ++ wsX30)
def wsX3_countKeysIn : List Cond := .code yX3_countKeysIn cX3_countKeysIn 6 (some .int) :: ([.methodLink RX3 42 yX3_keyOf, .instanceMethod yX3_keyOf, .selects RX3 yX3_keyOf yX3_keyOf, .initialized RX3, .code yX3_keyOf cX3_keyOf 7 (some .int), .methodLink RX3 38 yX3_peakOf, .instanceMethod yX3_peakOf, .selects RX3 yX3_peakOf yX3_peakOf, .code yX3_peakOf cX3_peakOf 3 (some .int), .fieldLink RX3 15 "SoundPictures$Peaks" "found" "[I"] ++ wsX30)
def wsX3_mostOftenIn : List Cond := .code yX3_mostOftenIn cX3_mostOftenIn 5 (some .int) :: ([.fieldLink RX3 18 "SoundPictures$Peaks" "often" "[I", .methodLink RX3 38 yX3_peakOf, .instanceMethod yX3_peakOf, .selects RX3 yX3_peakOf yX3_peakOf, .initialized RX3, .code yX3_peakOf cX3_peakOf 3 (some .int), .fieldLink RX3 15 "SoundPictures$Peaks" "found" "[I"] ++ wsX30)
def wsX4_init : List Cond := .code yX4_init cX4_init 1 none :: ([.methodLink RX4 3 objectInit, .instanceMethod objectInit, .code objectInit ⟨#[0xb1]⟩ 1 none, .arrayClass .int, .fieldLink RX4 9 "SoundPictures$State" "numbers" "[I", .fieldLink RX4 15 "SoundPictures$State" "sizes" "[I", .fieldLink RX4 18 "SoundPictures$State" "floor" "I", .fieldLink RX4 22 "SoundPictures$State" "reach" "I"] ++ wsX40)
def wsX4_empty : List Cond := .code yX4_empty cX4_empty 2 none :: ([.fieldLink RX4 15 "SoundPictures$State" "sizes" "[I"] ++ wsX40)
def wsX4_append : List Cond := .code yX4_append cX4_append 4 none :: ([.fieldLink RX4 15 "SoundPictures$State" "sizes" "[I", .fieldLink RX4 9 "SoundPictures$State" "numbers" "[I"] ++ wsX40)
def wsX4_replace : List Cond := .code yX4_replace cX4_replace 7 (some .boolean) :: ([.fieldLink RX4 9 "SoundPictures$State" "numbers" "[I", .methodLink RX4 25 Lib.Math.min.name, .static Lib.Math.min.name, .initialized "java/lang/Math", .code Lib.Math.min.name Lib.Math.min.code 2 (some .int), .methodLink RX4 31 Lib.Math.max.name, .static Lib.Math.max.name, .code Lib.Math.max.name Lib.Math.max.code 2 (some .int)] ++ wsX40)
def wsX4_become : List Cond := .code yX4_become cX4_become 2 none :: ([.fieldLink RX4 9 "SoundPictures$State" "numbers" "[I", .methodLink RX4 34 arraycopyName, .native arraycopyName, .static arraycopyName, .initialized "java/lang/System", .fieldLink RX4 15 "SoundPictures$State" "sizes" "[I", .fieldLink RX4 18 "SoundPictures$State" "floor" "I", .fieldLink RX4 22 "SoundPictures$State" "reach" "I"] ++ wsX40)
def wsX5_init_r1 : List Cond := [Cond.methodLink RX5 1 objectInit, Cond.instanceMethod objectInit, Cond.code objectInit ⟨#[0xb1]⟩ 1 none, Cond.classLink RX5 7 RX4, Cond.instantiable RX4 4, Cond.initialized RX4, Cond.fieldLink RX5 10 "SoundPictures" "now" "LSoundPictures$State;", Cond.classLink RX5 16 RX2, Cond.instantiable RX2 7, Cond.initialized RX2, Cond.fieldLink RX5 19 "SoundPictures" "past" "LSoundPictures$Past;", Cond.fieldLink RX5 23 "SoundPictures" "images" "[LSoundPictures$State;", Cond.classLink RX5 27 RX3, Cond.instantiable RX3 3, Cond.initialized RX3, Cond.fieldLink RX5 30 "SoundPictures" "peaks" "LSoundPictures$Peaks;", Cond.classLink RX5 34 RX1, Cond.instantiable RX1 4, Cond.initialized RX1, Cond.fieldLink RX5 37 "SoundPictures" "ledger" "LSoundPictures$Ledger;", Cond.classLink RX5 41 RX0, Cond.instantiable RX0 6, Cond.initialized RX0, Cond.fieldLink RX5 44 "SoundPictures" "ballot" "LSoundPictures$Ballot;"]
def wsX5_init_r2 : List Cond := [Cond.fieldLink RX5 48 "SoundPictures" "fresh" "Z", Cond.methodLink RX5 9 yX4_init, Cond.instanceMethod yX4_init, Cond.code yX4_init cX4_init 1 none, Cond.methodLink RX4 3 objectInit, Cond.arrayClass .int, Cond.fieldLink RX4 9 "SoundPictures$State" "numbers" "[I", Cond.fieldLink RX4 15 "SoundPictures$State" "sizes" "[I", Cond.fieldLink RX4 18 "SoundPictures$State" "floor" "I", Cond.fieldLink RX4 22 "SoundPictures$State" "reach" "I", Cond.methodLink RX5 18 yX2_init, Cond.instanceMethod yX2_init, Cond.code yX2_init cX2_init 1 none, Cond.methodLink RX2 3 objectInit, Cond.fieldLink RX2 9 "SoundPictures$Past" "numbers" "[I", Cond.fieldLink RX2 15 "SoundPictures$Past" "rows" "[I", Cond.fieldLink RX2 18 "SoundPictures$Past" "sizes" "[I", Cond.fieldLink RX2 21 "SoundPictures$Past" "floors" "[I", Cond.fieldLink RX2 24 "SoundPictures$Past" "reaches" "[I", Cond.methodLink RX5 29 yX3_init, Cond.instanceMethod yX3_init, Cond.code yX3_init cX3_init 1 none, Cond.methodLink RX3 3 objectInit, Cond.fieldLink RX3 9 "SoundPictures$Peaks" "waves" "[I"]
def wsX5_init_r3 : List Cond := [Cond.fieldLink RX3 15 "SoundPictures$Peaks" "found" "[I", Cond.fieldLink RX3 18 "SoundPictures$Peaks" "often" "[I", Cond.methodLink RX5 36 yX1_init, Cond.instanceMethod yX1_init, Cond.code yX1_init cX1_init 1 none, Cond.methodLink RX1 3 objectInit, Cond.fieldLink RX1 9 "SoundPictures$Ledger" "starts" "[I", Cond.fieldLink RX1 15 "SoundPictures$Ledger" "filled" "[I", Cond.fieldLink RX1 18 "SoundPictures$Ledger" "entries" "[I", Cond.methodLink RX5 43 yX0_init, Cond.instanceMethod yX0_init, Cond.code yX0_init cX0_init 1 none, Cond.methodLink RX0 3 objectInit, Cond.fieldLink RX0 9 "SoundPictures$Ballot" "cells" "[I", Cond.fieldLink RX0 15 "SoundPictures$Ballot" "order" "[I"]
def wsX5_init : List Cond := .code yX5_init cX5_init 1 none :: ((wsX5_init_r1 ++ (wsX5_init_r2 ++ wsX5_init_r3)) ++ wsX40 ++ wsX50 ++ wsX20 ++ wsX30 ++ wsX10 ++ wsX00)
def wsX5_isWithin : List Cond := .code yX5_isWithin cX5_isWithin 3 (some .boolean) :: ([])
def wsX5_isRow : List Cond := .code yX5_isRow cX5_isRow 1 (some .boolean) :: ([.methodLink RX5 57 yX5_isWithin, .static yX5_isWithin, .initialized RX5, .code yX5_isWithin cX5_isWithin 3 (some .boolean)])
def wsX5_beforeChange_r1 : List Cond := [Cond.fieldLink RX5 19 "SoundPictures" "past" "LSoundPictures$Past;", Cond.fieldLink RX5 10 "SoundPictures" "now" "LSoundPictures$State;", Cond.fieldLink RX5 48 "SoundPictures" "fresh" "Z", Cond.methodLink RX5 205 yX2_remember, Cond.instanceMethod yX2_remember, Cond.selects RX2 yX2_remember yX2_remember, Cond.initialized RX2, Cond.code yX2_remember cX2_remember 3 none, Cond.fieldLink RX2 9 "SoundPictures$Past" "numbers" "[I", Cond.fieldLink RX2 31 "SoundPictures$Past" "next" "I", Cond.fieldLink RX2 15 "SoundPictures$Past" "rows" "[I", Cond.fieldLink RX2 18 "SoundPictures$Past" "sizes" "[I", Cond.fieldLink RX2 21 "SoundPictures$Past" "floors" "[I", Cond.fieldLink RX2 24 "SoundPictures$Past" "reaches" "[I", Cond.fieldLink RX2 27 "SoundPictures$Past" "depth" "I", Cond.methodLink RX2 51 Lib.Math.min.name, Cond.static Lib.Math.min.name, Cond.initialized "java/lang/Math", Cond.code Lib.Math.min.name Lib.Math.min.code 2 (some .int), Cond.methodLink RX2 34 yX4_copyRowTo, Cond.instanceMethod yX4_copyRowTo, Cond.selects RX4 yX4_copyRowTo yX4_copyRowTo, Cond.initialized RX4, Cond.code yX4_copyRowTo cX4_copyRowTo 4 none]
def wsX5_beforeChange_r2 : List Cond := [Cond.fieldLink RX4 9 "SoundPictures$State" "numbers" "[I", Cond.methodLink RX4 34 arraycopyName, Cond.native arraycopyName, Cond.static arraycopyName, Cond.initialized "java/lang/System", Cond.methodLink RX2 40 yX4_sizeOf, Cond.instanceMethod yX4_sizeOf, Cond.selects RX4 yX4_sizeOf yX4_sizeOf, Cond.code yX4_sizeOf cX4_sizeOf 2 (some .int), Cond.fieldLink RX4 15 "SoundPictures$State" "sizes" "[I", Cond.methodLink RX2 44 yX4_floor, Cond.instanceMethod yX4_floor, Cond.selects RX4 yX4_floor yX4_floor, Cond.code yX4_floor cX4_floor 1 (some .int), Cond.fieldLink RX4 18 "SoundPictures$State" "floor" "I", Cond.methodLink RX2 48 yX4_reach, Cond.instanceMethod yX4_reach, Cond.selects RX4 yX4_reach yX4_reach, Cond.code yX4_reach cX4_reach 1 (some .int), Cond.fieldLink RX4 22 "SoundPictures$State" "reach" "I"]
def wsX5_beforeChange : List Cond := .code yX5_beforeChange cX5_beforeChange 2 none :: ((wsX5_beforeChange_r1 ++ wsX5_beforeChange_r2) ++ wsX50 ++ wsX20 ++ wsX40)
def wsX5_add_r1 : List Cond := [Cond.constant RX5 56 (-1000000001), Cond.constant RX5 61 (-1000000002), Cond.fieldLink RX5 10 "SoundPictures" "now" "LSoundPictures$State;", Cond.constant RX5 66 (-1000000004), Cond.methodLink RX5 52 yX5_isRow, Cond.static yX5_isRow, Cond.initialized RX5, Cond.code yX5_isRow cX5_isRow 1 (some .boolean), Cond.methodLink RX5 57 yX5_isWithin, Cond.static yX5_isWithin, Cond.code yX5_isWithin cX5_isWithin 3 (some .boolean), Cond.methodLink RX5 62 yX4_sizeOf, Cond.instanceMethod yX4_sizeOf, Cond.selects RX4 yX4_sizeOf yX4_sizeOf, Cond.initialized RX4, Cond.code yX4_sizeOf cX4_sizeOf 2 (some .int), Cond.fieldLink RX4 15 "SoundPictures$State" "sizes" "[I", Cond.methodLink RX5 67 yX5_beforeChange, Cond.instanceMethod yX5_beforeChange, Cond.selects RX5 yX5_beforeChange yX5_beforeChange, Cond.code yX5_beforeChange cX5_beforeChange 2 none, Cond.fieldLink RX5 19 "SoundPictures" "past" "LSoundPictures$Past;", Cond.fieldLink RX5 48 "SoundPictures" "fresh" "Z", Cond.methodLink RX5 205 yX2_remember]
def wsX5_add_r2 : List Cond := [Cond.instanceMethod yX2_remember, Cond.selects RX2 yX2_remember yX2_remember, Cond.initialized RX2, Cond.code yX2_remember cX2_remember 3 none, Cond.fieldLink RX2 9 "SoundPictures$Past" "numbers" "[I", Cond.fieldLink RX2 31 "SoundPictures$Past" "next" "I", Cond.fieldLink RX2 15 "SoundPictures$Past" "rows" "[I", Cond.fieldLink RX2 18 "SoundPictures$Past" "sizes" "[I", Cond.fieldLink RX2 21 "SoundPictures$Past" "floors" "[I", Cond.fieldLink RX2 24 "SoundPictures$Past" "reaches" "[I", Cond.fieldLink RX2 27 "SoundPictures$Past" "depth" "I", Cond.methodLink RX2 51 Lib.Math.min.name, Cond.static Lib.Math.min.name, Cond.initialized "java/lang/Math", Cond.code Lib.Math.min.name Lib.Math.min.code 2 (some .int), Cond.methodLink RX2 34 yX4_copyRowTo, Cond.instanceMethod yX4_copyRowTo, Cond.selects RX4 yX4_copyRowTo yX4_copyRowTo, Cond.code yX4_copyRowTo cX4_copyRowTo 4 none, Cond.fieldLink RX4 9 "SoundPictures$State" "numbers" "[I", Cond.methodLink RX4 34 arraycopyName, Cond.native arraycopyName, Cond.static arraycopyName, Cond.initialized "java/lang/System"]
def wsX5_add_r3 : List Cond := [Cond.methodLink RX2 40 yX4_sizeOf, Cond.methodLink RX2 44 yX4_floor, Cond.instanceMethod yX4_floor, Cond.selects RX4 yX4_floor yX4_floor, Cond.code yX4_floor cX4_floor 1 (some .int), Cond.fieldLink RX4 18 "SoundPictures$State" "floor" "I", Cond.methodLink RX2 48 yX4_reach, Cond.instanceMethod yX4_reach, Cond.selects RX4 yX4_reach yX4_reach, Cond.code yX4_reach cX4_reach 1 (some .int), Cond.fieldLink RX4 22 "SoundPictures$State" "reach" "I", Cond.methodLink RX5 71 yX4_append, Cond.instanceMethod yX4_append, Cond.selects RX4 yX4_append yX4_append, Cond.code yX4_append cX4_append 4 none]
def wsX5_add : List Cond := .code yX5_add cX5_add 3 (some .int) :: ((wsX5_add_r1 ++ (wsX5_add_r2 ++ wsX5_add_r3)) ++ wsX50 ++ wsX40 ++ wsX20)
def wsX5_wipe_r1 : List Cond := [Cond.constant RX5 56 (-1000000001), Cond.fieldLink RX5 10 "SoundPictures" "now" "LSoundPictures$State;", Cond.methodLink RX5 52 yX5_isRow, Cond.static yX5_isRow, Cond.initialized RX5, Cond.code yX5_isRow cX5_isRow 1 (some .boolean), Cond.methodLink RX5 57 yX5_isWithin, Cond.static yX5_isWithin, Cond.code yX5_isWithin cX5_isWithin 3 (some .boolean), Cond.methodLink RX5 67 yX5_beforeChange, Cond.instanceMethod yX5_beforeChange, Cond.selects RX5 yX5_beforeChange yX5_beforeChange, Cond.code yX5_beforeChange cX5_beforeChange 2 none, Cond.fieldLink RX5 19 "SoundPictures" "past" "LSoundPictures$Past;", Cond.fieldLink RX5 48 "SoundPictures" "fresh" "Z", Cond.methodLink RX5 205 yX2_remember, Cond.instanceMethod yX2_remember, Cond.selects RX2 yX2_remember yX2_remember, Cond.initialized RX2, Cond.code yX2_remember cX2_remember 3 none, Cond.fieldLink RX2 9 "SoundPictures$Past" "numbers" "[I", Cond.fieldLink RX2 31 "SoundPictures$Past" "next" "I", Cond.fieldLink RX2 15 "SoundPictures$Past" "rows" "[I", Cond.fieldLink RX2 18 "SoundPictures$Past" "sizes" "[I"]
def wsX5_wipe_r2 : List Cond := [Cond.fieldLink RX2 21 "SoundPictures$Past" "floors" "[I", Cond.fieldLink RX2 24 "SoundPictures$Past" "reaches" "[I", Cond.fieldLink RX2 27 "SoundPictures$Past" "depth" "I", Cond.methodLink RX2 51 Lib.Math.min.name, Cond.static Lib.Math.min.name, Cond.initialized "java/lang/Math", Cond.code Lib.Math.min.name Lib.Math.min.code 2 (some .int), Cond.methodLink RX2 34 yX4_copyRowTo, Cond.instanceMethod yX4_copyRowTo, Cond.selects RX4 yX4_copyRowTo yX4_copyRowTo, Cond.initialized RX4, Cond.code yX4_copyRowTo cX4_copyRowTo 4 none, Cond.fieldLink RX4 9 "SoundPictures$State" "numbers" "[I", Cond.methodLink RX4 34 arraycopyName, Cond.native arraycopyName, Cond.static arraycopyName, Cond.initialized "java/lang/System", Cond.methodLink RX2 40 yX4_sizeOf, Cond.instanceMethod yX4_sizeOf, Cond.selects RX4 yX4_sizeOf yX4_sizeOf, Cond.code yX4_sizeOf cX4_sizeOf 2 (some .int), Cond.fieldLink RX4 15 "SoundPictures$State" "sizes" "[I", Cond.methodLink RX2 44 yX4_floor, Cond.instanceMethod yX4_floor]
def wsX5_wipe_r3 : List Cond := [Cond.selects RX4 yX4_floor yX4_floor, Cond.code yX4_floor cX4_floor 1 (some .int), Cond.fieldLink RX4 18 "SoundPictures$State" "floor" "I", Cond.methodLink RX2 48 yX4_reach, Cond.instanceMethod yX4_reach, Cond.selects RX4 yX4_reach yX4_reach, Cond.code yX4_reach cX4_reach 1 (some .int), Cond.fieldLink RX4 22 "SoundPictures$State" "reach" "I", Cond.methodLink RX5 62 yX4_sizeOf, Cond.methodLink RX5 75 yX4_empty, Cond.instanceMethod yX4_empty, Cond.selects RX4 yX4_empty yX4_empty, Cond.code yX4_empty cX4_empty 2 none]
def wsX5_wipe : List Cond := .code yX5_wipe cX5_wipe 3 (some .int) :: ((wsX5_wipe_r1 ++ (wsX5_wipe_r2 ++ wsX5_wipe_r3)) ++ wsX50 ++ wsX20 ++ wsX40)
def wsX5_lotAfter : List Cond := .code yX5_lotAfter cX5_lotAfter 1 (some .int) :: ([.constantLong RX5 201 (16807), .constantLong RX5 203 (2147483647)])
def wsX5_lots_r1 : List Cond := [Cond.constant RX5 56 (-1000000001), Cond.constant RX5 78 (999999), Cond.constant RX5 61 (-1000000002), Cond.fieldLink RX5 10 "SoundPictures" "now" "LSoundPictures$State;", Cond.methodLink RX5 52 yX5_isRow, Cond.static yX5_isRow, Cond.initialized RX5, Cond.code yX5_isRow cX5_isRow 1 (some .boolean), Cond.methodLink RX5 57 yX5_isWithin, Cond.static yX5_isWithin, Cond.code yX5_isWithin cX5_isWithin 3 (some .boolean), Cond.methodLink RX5 67 yX5_beforeChange, Cond.instanceMethod yX5_beforeChange, Cond.selects RX5 yX5_beforeChange yX5_beforeChange, Cond.code yX5_beforeChange cX5_beforeChange 2 none, Cond.fieldLink RX5 19 "SoundPictures" "past" "LSoundPictures$Past;", Cond.fieldLink RX5 48 "SoundPictures" "fresh" "Z", Cond.methodLink RX5 205 yX2_remember, Cond.instanceMethod yX2_remember, Cond.selects RX2 yX2_remember yX2_remember, Cond.initialized RX2, Cond.code yX2_remember cX2_remember 3 none, Cond.fieldLink RX2 9 "SoundPictures$Past" "numbers" "[I", Cond.fieldLink RX2 31 "SoundPictures$Past" "next" "I"]
def wsX5_lots_r2 : List Cond := [Cond.fieldLink RX2 15 "SoundPictures$Past" "rows" "[I", Cond.fieldLink RX2 18 "SoundPictures$Past" "sizes" "[I", Cond.fieldLink RX2 21 "SoundPictures$Past" "floors" "[I", Cond.fieldLink RX2 24 "SoundPictures$Past" "reaches" "[I", Cond.fieldLink RX2 27 "SoundPictures$Past" "depth" "I", Cond.methodLink RX2 51 Lib.Math.min.name, Cond.static Lib.Math.min.name, Cond.initialized "java/lang/Math", Cond.code Lib.Math.min.name Lib.Math.min.code 2 (some .int), Cond.methodLink RX2 34 yX4_copyRowTo, Cond.instanceMethod yX4_copyRowTo, Cond.selects RX4 yX4_copyRowTo yX4_copyRowTo, Cond.initialized RX4, Cond.code yX4_copyRowTo cX4_copyRowTo 4 none, Cond.fieldLink RX4 9 "SoundPictures$State" "numbers" "[I", Cond.methodLink RX4 34 arraycopyName, Cond.native arraycopyName, Cond.static arraycopyName, Cond.initialized "java/lang/System", Cond.methodLink RX2 40 yX4_sizeOf, Cond.instanceMethod yX4_sizeOf, Cond.selects RX4 yX4_sizeOf yX4_sizeOf, Cond.code yX4_sizeOf cX4_sizeOf 2 (some .int), Cond.fieldLink RX4 15 "SoundPictures$State" "sizes" "[I"]
def wsX5_lots_r3 : List Cond := [Cond.methodLink RX2 44 yX4_floor, Cond.instanceMethod yX4_floor, Cond.selects RX4 yX4_floor yX4_floor, Cond.code yX4_floor cX4_floor 1 (some .int), Cond.fieldLink RX4 18 "SoundPictures$State" "floor" "I", Cond.methodLink RX2 48 yX4_reach, Cond.instanceMethod yX4_reach, Cond.selects RX4 yX4_reach yX4_reach, Cond.code yX4_reach cX4_reach 1 (some .int), Cond.fieldLink RX4 22 "SoundPictures$State" "reach" "I", Cond.methodLink RX5 75 yX4_empty, Cond.instanceMethod yX4_empty, Cond.selects RX4 yX4_empty yX4_empty, Cond.code yX4_empty cX4_empty 2 none, Cond.methodLink RX5 79 yX5_lotAfter, Cond.static yX5_lotAfter, Cond.code yX5_lotAfter cX5_lotAfter 1 (some .int), Cond.constantLong RX5 201 (16807), Cond.constantLong RX5 203 (2147483647), Cond.methodLink RX5 71 yX4_append, Cond.instanceMethod yX4_append, Cond.selects RX4 yX4_append yX4_append, Cond.code yX4_append cX4_append 4 none, Cond.methodLink RX5 82 yX4_windowsOf]
def wsX5_lots_r4 : List Cond := [Cond.instanceMethod yX4_windowsOf, Cond.selects RX4 yX4_windowsOf yX4_windowsOf, Cond.code yX4_windowsOf cX4_windowsOf 2 (some .int)]
def wsX5_lots : List Cond := .code yX5_lots cX5_lots 6 (some .int) :: ((wsX5_lots_r1 ++ (wsX5_lots_r2 ++ (wsX5_lots_r3 ++ wsX5_lots_r4))) ++ wsX50 ++ wsX20 ++ wsX40)
def wsX5_noise_r1 : List Cond := [Cond.constant RX5 56 (-1000000001), Cond.constant RX5 78 (999999), Cond.constant RX5 61 (-1000000002), Cond.fieldLink RX5 10 "SoundPictures" "now" "LSoundPictures$State;", Cond.methodLink RX5 52 yX5_isRow, Cond.static yX5_isRow, Cond.initialized RX5, Cond.code yX5_isRow cX5_isRow 1 (some .boolean), Cond.methodLink RX5 57 yX5_isWithin, Cond.static yX5_isWithin, Cond.code yX5_isWithin cX5_isWithin 3 (some .boolean), Cond.methodLink RX5 67 yX5_beforeChange, Cond.instanceMethod yX5_beforeChange, Cond.selects RX5 yX5_beforeChange yX5_beforeChange, Cond.code yX5_beforeChange cX5_beforeChange 2 none, Cond.fieldLink RX5 19 "SoundPictures" "past" "LSoundPictures$Past;", Cond.fieldLink RX5 48 "SoundPictures" "fresh" "Z", Cond.methodLink RX5 205 yX2_remember, Cond.instanceMethod yX2_remember, Cond.selects RX2 yX2_remember yX2_remember, Cond.initialized RX2, Cond.code yX2_remember cX2_remember 3 none, Cond.fieldLink RX2 9 "SoundPictures$Past" "numbers" "[I", Cond.fieldLink RX2 31 "SoundPictures$Past" "next" "I"]
def wsX5_noise_r2 : List Cond := [Cond.fieldLink RX2 15 "SoundPictures$Past" "rows" "[I", Cond.fieldLink RX2 18 "SoundPictures$Past" "sizes" "[I", Cond.fieldLink RX2 21 "SoundPictures$Past" "floors" "[I", Cond.fieldLink RX2 24 "SoundPictures$Past" "reaches" "[I", Cond.fieldLink RX2 27 "SoundPictures$Past" "depth" "I", Cond.methodLink RX2 51 Lib.Math.min.name, Cond.static Lib.Math.min.name, Cond.initialized "java/lang/Math", Cond.code Lib.Math.min.name Lib.Math.min.code 2 (some .int), Cond.methodLink RX2 34 yX4_copyRowTo, Cond.instanceMethod yX4_copyRowTo, Cond.selects RX4 yX4_copyRowTo yX4_copyRowTo, Cond.initialized RX4, Cond.code yX4_copyRowTo cX4_copyRowTo 4 none, Cond.fieldLink RX4 9 "SoundPictures$State" "numbers" "[I", Cond.methodLink RX4 34 arraycopyName, Cond.native arraycopyName, Cond.static arraycopyName, Cond.initialized "java/lang/System", Cond.methodLink RX2 40 yX4_sizeOf, Cond.instanceMethod yX4_sizeOf, Cond.selects RX4 yX4_sizeOf yX4_sizeOf, Cond.code yX4_sizeOf cX4_sizeOf 2 (some .int), Cond.fieldLink RX4 15 "SoundPictures$State" "sizes" "[I"]
def wsX5_noise_r3 : List Cond := [Cond.methodLink RX2 44 yX4_floor, Cond.instanceMethod yX4_floor, Cond.selects RX4 yX4_floor yX4_floor, Cond.code yX4_floor cX4_floor 1 (some .int), Cond.fieldLink RX4 18 "SoundPictures$State" "floor" "I", Cond.methodLink RX2 48 yX4_reach, Cond.instanceMethod yX4_reach, Cond.selects RX4 yX4_reach yX4_reach, Cond.code yX4_reach cX4_reach 1 (some .int), Cond.fieldLink RX4 22 "SoundPictures$State" "reach" "I", Cond.methodLink RX5 62 yX4_sizeOf, Cond.methodLink RX5 79 yX5_lotAfter, Cond.static yX5_lotAfter, Cond.code yX5_lotAfter cX5_lotAfter 1 (some .int), Cond.constantLong RX5 201 (16807), Cond.constantLong RX5 203 (2147483647), Cond.methodLink RX5 85 yX4_numberAt, Cond.instanceMethod yX4_numberAt, Cond.selects RX4 yX4_numberAt yX4_numberAt, Cond.code yX4_numberAt cX4_numberAt 3 (some .int), Cond.methodLink RX5 89 yX4_replace, Cond.instanceMethod yX4_replace, Cond.selects RX4 yX4_replace yX4_replace, Cond.code yX4_replace cX4_replace 7 (some .boolean)]
def wsX5_noise_r4 : List Cond := [Cond.methodLink RX4 25 Lib.Math.min.name, Cond.methodLink RX4 31 Lib.Math.max.name, Cond.static Lib.Math.max.name, Cond.code Lib.Math.max.name Lib.Math.max.code 2 (some .int)]
def wsX5_noise : List Cond := .code yX5_noise cX5_noise 8 (some .int) :: ((wsX5_noise_r1 ++ (wsX5_noise_r2 ++ (wsX5_noise_r3 ++ wsX5_noise_r4))) ++ wsX50 ++ wsX20 ++ wsX40)
def wsX5_louder_r1 : List Cond := [Cond.constant RX5 56 (-1000000001), Cond.constant RX5 61 (-1000000002), Cond.fieldLink RX5 10 "SoundPictures" "now" "LSoundPictures$State;", Cond.methodLink RX5 52 yX5_isRow, Cond.static yX5_isRow, Cond.initialized RX5, Cond.code yX5_isRow cX5_isRow 1 (some .boolean), Cond.methodLink RX5 57 yX5_isWithin, Cond.static yX5_isWithin, Cond.code yX5_isWithin cX5_isWithin 3 (some .boolean), Cond.methodLink RX5 67 yX5_beforeChange, Cond.instanceMethod yX5_beforeChange, Cond.selects RX5 yX5_beforeChange yX5_beforeChange, Cond.code yX5_beforeChange cX5_beforeChange 2 none, Cond.fieldLink RX5 19 "SoundPictures" "past" "LSoundPictures$Past;", Cond.fieldLink RX5 48 "SoundPictures" "fresh" "Z", Cond.methodLink RX5 205 yX2_remember, Cond.instanceMethod yX2_remember, Cond.selects RX2 yX2_remember yX2_remember, Cond.initialized RX2, Cond.code yX2_remember cX2_remember 3 none, Cond.fieldLink RX2 9 "SoundPictures$Past" "numbers" "[I", Cond.fieldLink RX2 31 "SoundPictures$Past" "next" "I", Cond.fieldLink RX2 15 "SoundPictures$Past" "rows" "[I"]
def wsX5_louder_r2 : List Cond := [Cond.fieldLink RX2 18 "SoundPictures$Past" "sizes" "[I", Cond.fieldLink RX2 21 "SoundPictures$Past" "floors" "[I", Cond.fieldLink RX2 24 "SoundPictures$Past" "reaches" "[I", Cond.fieldLink RX2 27 "SoundPictures$Past" "depth" "I", Cond.methodLink RX2 51 Lib.Math.min.name, Cond.static Lib.Math.min.name, Cond.initialized "java/lang/Math", Cond.code Lib.Math.min.name Lib.Math.min.code 2 (some .int), Cond.methodLink RX2 34 yX4_copyRowTo, Cond.instanceMethod yX4_copyRowTo, Cond.selects RX4 yX4_copyRowTo yX4_copyRowTo, Cond.initialized RX4, Cond.code yX4_copyRowTo cX4_copyRowTo 4 none, Cond.fieldLink RX4 9 "SoundPictures$State" "numbers" "[I", Cond.methodLink RX4 34 arraycopyName, Cond.native arraycopyName, Cond.static arraycopyName, Cond.initialized "java/lang/System", Cond.methodLink RX2 40 yX4_sizeOf, Cond.instanceMethod yX4_sizeOf, Cond.selects RX4 yX4_sizeOf yX4_sizeOf, Cond.code yX4_sizeOf cX4_sizeOf 2 (some .int), Cond.fieldLink RX4 15 "SoundPictures$State" "sizes" "[I", Cond.methodLink RX2 44 yX4_floor]
def wsX5_louder_r3 : List Cond := [Cond.instanceMethod yX4_floor, Cond.selects RX4 yX4_floor yX4_floor, Cond.code yX4_floor cX4_floor 1 (some .int), Cond.fieldLink RX4 18 "SoundPictures$State" "floor" "I", Cond.methodLink RX2 48 yX4_reach, Cond.instanceMethod yX4_reach, Cond.selects RX4 yX4_reach yX4_reach, Cond.code yX4_reach cX4_reach 1 (some .int), Cond.fieldLink RX4 22 "SoundPictures$State" "reach" "I", Cond.methodLink RX5 62 yX4_sizeOf, Cond.methodLink RX5 85 yX4_numberAt, Cond.instanceMethod yX4_numberAt, Cond.selects RX4 yX4_numberAt yX4_numberAt, Cond.code yX4_numberAt cX4_numberAt 3 (some .int), Cond.methodLink RX5 89 yX4_replace, Cond.instanceMethod yX4_replace, Cond.selects RX4 yX4_replace yX4_replace, Cond.code yX4_replace cX4_replace 7 (some .boolean), Cond.methodLink RX4 25 Lib.Math.min.name, Cond.methodLink RX4 31 Lib.Math.max.name, Cond.static Lib.Math.max.name, Cond.code Lib.Math.max.name Lib.Math.max.code 2 (some .int)]
def wsX5_louder : List Cond := .code yX5_louder cX5_louder 7 (some .int) :: ((wsX5_louder_r1 ++ (wsX5_louder_r2 ++ wsX5_louder_r3)) ++ wsX50 ++ wsX20 ++ wsX40)
def wsX5_isPiece : List Cond := .code yX5_isPiece cX5_isPiece 1 (some .boolean) :: ([.methodLink RX5 57 yX5_isWithin, .static yX5_isWithin, .initialized RX5, .code yX5_isWithin cX5_isWithin 3 (some .boolean)])
def wsX5_hear_r1 : List Cond := [Cond.constant RX5 56 (-1000000001), Cond.constant RX5 61 (-1000000002), Cond.fieldLink RX5 10 "SoundPictures" "now" "LSoundPictures$State;", Cond.constant RX5 95 (-1000000003), Cond.methodLink RX5 96 Lib.Math.min.name, Cond.static Lib.Math.min.name, Cond.initialized "java/lang/Math", Cond.code Lib.Math.min.name Lib.Math.min.code 2 (some .int), Cond.methodLink RX5 92 yX5_isPiece, Cond.static yX5_isPiece, Cond.initialized RX5, Cond.code yX5_isPiece cX5_isPiece 1 (some .boolean), Cond.methodLink RX5 57 yX5_isWithin, Cond.static yX5_isWithin, Cond.code yX5_isWithin cX5_isWithin 3 (some .boolean), Cond.methodLink RX5 62 yX4_sizeOf, Cond.instanceMethod yX4_sizeOf, Cond.selects RX4 yX4_sizeOf yX4_sizeOf, Cond.initialized RX4, Cond.code yX4_sizeOf cX4_sizeOf 2 (some .int), Cond.fieldLink RX4 15 "SoundPictures$State" "sizes" "[I", Cond.methodLink RX5 67 yX5_beforeChange, Cond.instanceMethod yX5_beforeChange, Cond.selects RX5 yX5_beforeChange yX5_beforeChange]
def wsX5_hear_r2 : List Cond := [Cond.code yX5_beforeChange cX5_beforeChange 2 none, Cond.fieldLink RX5 19 "SoundPictures" "past" "LSoundPictures$Past;", Cond.fieldLink RX5 48 "SoundPictures" "fresh" "Z", Cond.methodLink RX5 205 yX2_remember, Cond.instanceMethod yX2_remember, Cond.selects RX2 yX2_remember yX2_remember, Cond.initialized RX2, Cond.code yX2_remember cX2_remember 3 none, Cond.fieldLink RX2 9 "SoundPictures$Past" "numbers" "[I", Cond.fieldLink RX2 31 "SoundPictures$Past" "next" "I", Cond.fieldLink RX2 15 "SoundPictures$Past" "rows" "[I", Cond.fieldLink RX2 18 "SoundPictures$Past" "sizes" "[I", Cond.fieldLink RX2 21 "SoundPictures$Past" "floors" "[I", Cond.fieldLink RX2 24 "SoundPictures$Past" "reaches" "[I", Cond.fieldLink RX2 27 "SoundPictures$Past" "depth" "I", Cond.methodLink RX2 51 Lib.Math.min.name, Cond.methodLink RX2 34 yX4_copyRowTo, Cond.instanceMethod yX4_copyRowTo, Cond.selects RX4 yX4_copyRowTo yX4_copyRowTo, Cond.code yX4_copyRowTo cX4_copyRowTo 4 none, Cond.fieldLink RX4 9 "SoundPictures$State" "numbers" "[I", Cond.methodLink RX4 34 arraycopyName, Cond.native arraycopyName, Cond.static arraycopyName]
def wsX5_hear_r3 : List Cond := [Cond.initialized "java/lang/System", Cond.methodLink RX2 40 yX4_sizeOf, Cond.methodLink RX2 44 yX4_floor, Cond.instanceMethod yX4_floor, Cond.selects RX4 yX4_floor yX4_floor, Cond.code yX4_floor cX4_floor 1 (some .int), Cond.fieldLink RX4 18 "SoundPictures$State" "floor" "I", Cond.methodLink RX2 48 yX4_reach, Cond.instanceMethod yX4_reach, Cond.selects RX4 yX4_reach yX4_reach, Cond.code yX4_reach cX4_reach 1 (some .int), Cond.fieldLink RX4 22 "SoundPictures$State" "reach" "I", Cond.methodLink RX5 75 yX4_empty, Cond.instanceMethod yX4_empty, Cond.selects RX4 yX4_empty yX4_empty, Cond.code yX4_empty cX4_empty 2 none, Cond.methodLink RX5 85 yX4_numberAt, Cond.instanceMethod yX4_numberAt, Cond.selects RX4 yX4_numberAt yX4_numberAt, Cond.code yX4_numberAt cX4_numberAt 3 (some .int), Cond.methodLink RX5 71 yX4_append, Cond.instanceMethod yX4_append, Cond.selects RX4 yX4_append yX4_append, Cond.code yX4_append cX4_append 4 none]
def wsX5_hear : List Cond := .code yX5_hear cX5_hear 7 (some .int) :: ((wsX5_hear_r1 ++ (wsX5_hear_r2 ++ wsX5_hear_r3)) ++ wsX50 ++ wsX40 ++ wsX20)
def wsX5_changeFloor_r1 : List Cond := [Cond.fieldLink RX5 10 "SoundPictures" "now" "LSoundPictures$State;", Cond.methodLink RX5 67 yX5_beforeChange, Cond.instanceMethod yX5_beforeChange, Cond.selects RX5 yX5_beforeChange yX5_beforeChange, Cond.initialized RX5, Cond.code yX5_beforeChange cX5_beforeChange 2 none, Cond.fieldLink RX5 19 "SoundPictures" "past" "LSoundPictures$Past;", Cond.fieldLink RX5 48 "SoundPictures" "fresh" "Z", Cond.methodLink RX5 205 yX2_remember, Cond.instanceMethod yX2_remember, Cond.selects RX2 yX2_remember yX2_remember, Cond.initialized RX2, Cond.code yX2_remember cX2_remember 3 none, Cond.fieldLink RX2 9 "SoundPictures$Past" "numbers" "[I", Cond.fieldLink RX2 31 "SoundPictures$Past" "next" "I", Cond.fieldLink RX2 15 "SoundPictures$Past" "rows" "[I", Cond.fieldLink RX2 18 "SoundPictures$Past" "sizes" "[I", Cond.fieldLink RX2 21 "SoundPictures$Past" "floors" "[I", Cond.fieldLink RX2 24 "SoundPictures$Past" "reaches" "[I", Cond.fieldLink RX2 27 "SoundPictures$Past" "depth" "I", Cond.methodLink RX2 51 Lib.Math.min.name, Cond.static Lib.Math.min.name, Cond.initialized "java/lang/Math", Cond.code Lib.Math.min.name Lib.Math.min.code 2 (some .int)]
def wsX5_changeFloor_r2 : List Cond := [Cond.methodLink RX2 34 yX4_copyRowTo, Cond.instanceMethod yX4_copyRowTo, Cond.selects RX4 yX4_copyRowTo yX4_copyRowTo, Cond.initialized RX4, Cond.code yX4_copyRowTo cX4_copyRowTo 4 none, Cond.fieldLink RX4 9 "SoundPictures$State" "numbers" "[I", Cond.methodLink RX4 34 arraycopyName, Cond.native arraycopyName, Cond.static arraycopyName, Cond.initialized "java/lang/System", Cond.methodLink RX2 40 yX4_sizeOf, Cond.instanceMethod yX4_sizeOf, Cond.selects RX4 yX4_sizeOf yX4_sizeOf, Cond.code yX4_sizeOf cX4_sizeOf 2 (some .int), Cond.fieldLink RX4 15 "SoundPictures$State" "sizes" "[I", Cond.methodLink RX2 44 yX4_floor, Cond.instanceMethod yX4_floor, Cond.selects RX4 yX4_floor yX4_floor, Cond.code yX4_floor cX4_floor 1 (some .int), Cond.fieldLink RX4 18 "SoundPictures$State" "floor" "I", Cond.methodLink RX2 48 yX4_reach, Cond.instanceMethod yX4_reach, Cond.selects RX4 yX4_reach yX4_reach, Cond.code yX4_reach cX4_reach 1 (some .int)]
def wsX5_changeFloor_r3 : List Cond := [Cond.fieldLink RX4 22 "SoundPictures$State" "reach" "I", Cond.methodLink RX5 119 yX4_floor, Cond.methodLink RX5 209 yX4_setFloor, Cond.instanceMethod yX4_setFloor, Cond.selects RX4 yX4_setFloor yX4_setFloor, Cond.code yX4_setFloor cX4_setFloor 2 none]
def wsX5_changeFloor : List Cond := .code yX5_changeFloor cX5_changeFloor 3 (some .int) :: ((wsX5_changeFloor_r1 ++ (wsX5_changeFloor_r2 ++ wsX5_changeFloor_r3)) ++ wsX50 ++ wsX20 ++ wsX40)
def wsX5_changeReach_r1 : List Cond := [Cond.fieldLink RX5 10 "SoundPictures" "now" "LSoundPictures$State;", Cond.methodLink RX5 67 yX5_beforeChange, Cond.instanceMethod yX5_beforeChange, Cond.selects RX5 yX5_beforeChange yX5_beforeChange, Cond.initialized RX5, Cond.code yX5_beforeChange cX5_beforeChange 2 none, Cond.fieldLink RX5 19 "SoundPictures" "past" "LSoundPictures$Past;", Cond.fieldLink RX5 48 "SoundPictures" "fresh" "Z", Cond.methodLink RX5 205 yX2_remember, Cond.instanceMethod yX2_remember, Cond.selects RX2 yX2_remember yX2_remember, Cond.initialized RX2, Cond.code yX2_remember cX2_remember 3 none, Cond.fieldLink RX2 9 "SoundPictures$Past" "numbers" "[I", Cond.fieldLink RX2 31 "SoundPictures$Past" "next" "I", Cond.fieldLink RX2 15 "SoundPictures$Past" "rows" "[I", Cond.fieldLink RX2 18 "SoundPictures$Past" "sizes" "[I", Cond.fieldLink RX2 21 "SoundPictures$Past" "floors" "[I", Cond.fieldLink RX2 24 "SoundPictures$Past" "reaches" "[I", Cond.fieldLink RX2 27 "SoundPictures$Past" "depth" "I", Cond.methodLink RX2 51 Lib.Math.min.name, Cond.static Lib.Math.min.name, Cond.initialized "java/lang/Math", Cond.code Lib.Math.min.name Lib.Math.min.code 2 (some .int)]
def wsX5_changeReach_r2 : List Cond := [Cond.methodLink RX2 34 yX4_copyRowTo, Cond.instanceMethod yX4_copyRowTo, Cond.selects RX4 yX4_copyRowTo yX4_copyRowTo, Cond.initialized RX4, Cond.code yX4_copyRowTo cX4_copyRowTo 4 none, Cond.fieldLink RX4 9 "SoundPictures$State" "numbers" "[I", Cond.methodLink RX4 34 arraycopyName, Cond.native arraycopyName, Cond.static arraycopyName, Cond.initialized "java/lang/System", Cond.methodLink RX2 40 yX4_sizeOf, Cond.instanceMethod yX4_sizeOf, Cond.selects RX4 yX4_sizeOf yX4_sizeOf, Cond.code yX4_sizeOf cX4_sizeOf 2 (some .int), Cond.fieldLink RX4 15 "SoundPictures$State" "sizes" "[I", Cond.methodLink RX2 44 yX4_floor, Cond.instanceMethod yX4_floor, Cond.selects RX4 yX4_floor yX4_floor, Cond.code yX4_floor cX4_floor 1 (some .int), Cond.fieldLink RX4 18 "SoundPictures$State" "floor" "I", Cond.methodLink RX2 48 yX4_reach, Cond.instanceMethod yX4_reach, Cond.selects RX4 yX4_reach yX4_reach, Cond.code yX4_reach cX4_reach 1 (some .int)]
def wsX5_changeReach_r3 : List Cond := [Cond.fieldLink RX4 22 "SoundPictures$State" "reach" "I", Cond.methodLink RX5 122 yX4_reach, Cond.methodLink RX5 212 yX4_setReach, Cond.instanceMethod yX4_setReach, Cond.selects RX4 yX4_setReach yX4_setReach, Cond.code yX4_setReach cX4_setReach 2 none]
def wsX5_changeReach : List Cond := .code yX5_changeReach cX5_changeReach 3 (some .int) :: ((wsX5_changeReach_r1 ++ (wsX5_changeReach_r2 ++ wsX5_changeReach_r3)) ++ wsX50 ++ wsX20 ++ wsX40)
def wsX5_bound_r1 : List Cond := [Cond.constant RX5 101 (99999), Cond.constant RX5 61 (-1000000002), Cond.methodLink RX5 57 yX5_isWithin, Cond.static yX5_isWithin, Cond.initialized RX5, Cond.code yX5_isWithin cX5_isWithin 3 (some .boolean), Cond.methodLink RX5 102 yX5_changeFloor, Cond.instanceMethod yX5_changeFloor, Cond.selects RX5 yX5_changeFloor yX5_changeFloor, Cond.code yX5_changeFloor cX5_changeFloor 3 (some .int), Cond.fieldLink RX5 10 "SoundPictures" "now" "LSoundPictures$State;", Cond.methodLink RX5 67 yX5_beforeChange, Cond.instanceMethod yX5_beforeChange, Cond.selects RX5 yX5_beforeChange yX5_beforeChange, Cond.code yX5_beforeChange cX5_beforeChange 2 none, Cond.fieldLink RX5 19 "SoundPictures" "past" "LSoundPictures$Past;", Cond.fieldLink RX5 48 "SoundPictures" "fresh" "Z", Cond.methodLink RX5 205 yX2_remember, Cond.instanceMethod yX2_remember, Cond.selects RX2 yX2_remember yX2_remember, Cond.initialized RX2, Cond.code yX2_remember cX2_remember 3 none, Cond.fieldLink RX2 9 "SoundPictures$Past" "numbers" "[I", Cond.fieldLink RX2 31 "SoundPictures$Past" "next" "I"]
def wsX5_bound_r2 : List Cond := [Cond.fieldLink RX2 15 "SoundPictures$Past" "rows" "[I", Cond.fieldLink RX2 18 "SoundPictures$Past" "sizes" "[I", Cond.fieldLink RX2 21 "SoundPictures$Past" "floors" "[I", Cond.fieldLink RX2 24 "SoundPictures$Past" "reaches" "[I", Cond.fieldLink RX2 27 "SoundPictures$Past" "depth" "I", Cond.methodLink RX2 51 Lib.Math.min.name, Cond.static Lib.Math.min.name, Cond.initialized "java/lang/Math", Cond.code Lib.Math.min.name Lib.Math.min.code 2 (some .int), Cond.methodLink RX2 34 yX4_copyRowTo, Cond.instanceMethod yX4_copyRowTo, Cond.selects RX4 yX4_copyRowTo yX4_copyRowTo, Cond.initialized RX4, Cond.code yX4_copyRowTo cX4_copyRowTo 4 none, Cond.fieldLink RX4 9 "SoundPictures$State" "numbers" "[I", Cond.methodLink RX4 34 arraycopyName, Cond.native arraycopyName, Cond.static arraycopyName, Cond.initialized "java/lang/System", Cond.methodLink RX2 40 yX4_sizeOf, Cond.instanceMethod yX4_sizeOf, Cond.selects RX4 yX4_sizeOf yX4_sizeOf, Cond.code yX4_sizeOf cX4_sizeOf 2 (some .int), Cond.fieldLink RX4 15 "SoundPictures$State" "sizes" "[I"]
def wsX5_bound_r3 : List Cond := [Cond.methodLink RX2 44 yX4_floor, Cond.instanceMethod yX4_floor, Cond.selects RX4 yX4_floor yX4_floor, Cond.code yX4_floor cX4_floor 1 (some .int), Cond.fieldLink RX4 18 "SoundPictures$State" "floor" "I", Cond.methodLink RX2 48 yX4_reach, Cond.instanceMethod yX4_reach, Cond.selects RX4 yX4_reach yX4_reach, Cond.code yX4_reach cX4_reach 1 (some .int), Cond.fieldLink RX4 22 "SoundPictures$State" "reach" "I", Cond.methodLink RX5 119 yX4_floor, Cond.methodLink RX5 209 yX4_setFloor, Cond.instanceMethod yX4_setFloor, Cond.selects RX4 yX4_setFloor yX4_setFloor, Cond.code yX4_setFloor cX4_setFloor 2 none, Cond.methodLink RX5 105 yX5_changeReach, Cond.instanceMethod yX5_changeReach, Cond.selects RX5 yX5_changeReach yX5_changeReach, Cond.code yX5_changeReach cX5_changeReach 3 (some .int), Cond.methodLink RX5 122 yX4_reach, Cond.methodLink RX5 212 yX4_setReach, Cond.instanceMethod yX4_setReach, Cond.selects RX4 yX4_setReach yX4_setReach, Cond.code yX4_setReach cX4_setReach 2 none]
def wsX5_bound : List Cond := .code yX5_bound cX5_bound 3 (some .int) :: ((wsX5_bound_r1 ++ (wsX5_bound_r2 ++ wsX5_bound_r3)) ++ wsX50 ++ wsX20 ++ wsX40)
def wsX5_undo_r1 : List Cond := [Cond.fieldLink RX5 19 "SoundPictures" "past" "LSoundPictures$Past;", Cond.constant RX5 95 (-1000000003), Cond.fieldLink RX5 10 "SoundPictures" "now" "LSoundPictures$State;", Cond.fieldLink RX5 48 "SoundPictures" "fresh" "Z", Cond.methodLink RX5 108 yX2_depth, Cond.instanceMethod yX2_depth, Cond.selects RX2 yX2_depth yX2_depth, Cond.initialized RX2, Cond.code yX2_depth cX2_depth 1 (some .int), Cond.fieldLink RX2 27 "SoundPictures$Past" "depth" "I", Cond.methodLink RX5 112 yX2_restoreLatest, Cond.instanceMethod yX2_restoreLatest, Cond.selects RX2 yX2_restoreLatest yX2_restoreLatest, Cond.code yX2_restoreLatest cX2_restoreLatest 2 none, Cond.fieldLink RX2 31 "SoundPictures$Past" "next" "I", Cond.fieldLink RX2 15 "SoundPictures$Past" "rows" "[I", Cond.fieldLink RX2 9 "SoundPictures$Past" "numbers" "[I", Cond.fieldLink RX2 18 "SoundPictures$Past" "sizes" "[I", Cond.fieldLink RX2 21 "SoundPictures$Past" "floors" "[I", Cond.fieldLink RX2 24 "SoundPictures$Past" "reaches" "[I", Cond.methodLink RX2 57 yX4_takeRow, Cond.instanceMethod yX4_takeRow, Cond.selects RX4 yX4_takeRow yX4_takeRow, Cond.initialized RX4]
def wsX5_undo_r2 : List Cond := [Cond.code yX4_takeRow cX4_takeRow 5 none, Cond.fieldLink RX4 9 "SoundPictures$State" "numbers" "[I", Cond.methodLink RX4 34 arraycopyName, Cond.native arraycopyName, Cond.static arraycopyName, Cond.initialized "java/lang/System", Cond.fieldLink RX4 15 "SoundPictures$State" "sizes" "[I", Cond.methodLink RX2 61 yX4_setFloor, Cond.instanceMethod yX4_setFloor, Cond.selects RX4 yX4_setFloor yX4_setFloor, Cond.code yX4_setFloor cX4_setFloor 2 none, Cond.fieldLink RX4 18 "SoundPictures$State" "floor" "I", Cond.methodLink RX2 65 yX4_setReach, Cond.instanceMethod yX4_setReach, Cond.selects RX4 yX4_setReach yX4_setReach, Cond.code yX4_setReach cX4_setReach 2 none, Cond.fieldLink RX4 22 "SoundPictures$State" "reach" "I"]
def wsX5_undo : List Cond := .code yX5_undo cX5_undo 1 (some .int) :: ((wsX5_undo_r1 ++ wsX5_undo_r2) ++ wsX50 ++ wsX20 ++ wsX40)
def wsX5_refresh_r1 : List Cond := [Cond.fieldLink RX5 48 "SoundPictures" "fresh" "Z", Cond.fieldLink RX5 30 "SoundPictures" "peaks" "LSoundPictures$Peaks;", Cond.fieldLink RX5 10 "SoundPictures" "now" "LSoundPictures$State;", Cond.fieldLink RX5 37 "SoundPictures" "ledger" "LSoundPictures$Ledger;", Cond.fieldLink RX5 44 "SoundPictures" "ballot" "LSoundPictures$Ballot;", Cond.methodLink RX5 215 yX3_look, Cond.instanceMethod yX3_look, Cond.selects RX3 yX3_look yX3_look, Cond.initialized RX3, Cond.code yX3_look cX3_look 6 none, Cond.fieldLink RX3 15 "SoundPictures$Peaks" "found" "[I", Cond.methodLink RX3 21 yX4_windowsOf, Cond.instanceMethod yX4_windowsOf, Cond.selects RX4 yX4_windowsOf yX4_windowsOf, Cond.initialized RX4, Cond.code yX4_windowsOf cX4_windowsOf 2 (some .int), Cond.fieldLink RX4 15 "SoundPictures$State" "sizes" "[I", Cond.methodLink RX3 27 yX3_findPeak, Cond.instanceMethod yX3_findPeak, Cond.selects RX3 yX3_findPeak yX3_findPeak, Cond.code yX3_findPeak cX3_findPeak 6 (some .int), Cond.methodLink RX3 31 yX3_turn, Cond.instanceMethod yX3_turn, Cond.selects RX3 yX3_turn yX3_turn]
def wsX5_refresh_r2 : List Cond := [Cond.code yX3_turn cX3_turn 5 none, Cond.fieldLink RX3 9 "SoundPictures$Peaks" "waves" "[I", Cond.methodLink RX3 50 yX4_numberAt, Cond.instanceMethod yX4_numberAt, Cond.selects RX4 yX4_numberAt yX4_numberAt, Cond.code yX4_numberAt cX4_numberAt 3 (some .int), Cond.fieldLink RX4 9 "SoundPictures$State" "numbers" "[I", Cond.methodLink RX3 53 yX3_turnPairs, Cond.instanceMethod yX3_turnPairs, Cond.selects RX3 yX3_turnPairs yX3_turnPairs, Cond.code yX3_turnPairs cX3_turnPairs 5 none, Cond.methodLink RX3 35 yX3_shareOf, Cond.instanceMethod yX3_shareOf, Cond.selects RX3 yX3_shareOf yX3_shareOf, Cond.code yX3_shareOf cX3_shareOf 2 (some .int), Cond.methodLink RX3 46 yX4_floor, Cond.instanceMethod yX4_floor, Cond.selects RX4 yX4_floor yX4_floor, Cond.code yX4_floor cX4_floor 1 (some .int), Cond.fieldLink RX4 18 "SoundPictures$State" "floor" "I", Cond.methodLink RX5 122 yX4_reach, Cond.instanceMethod yX4_reach, Cond.selects RX4 yX4_reach yX4_reach, Cond.code yX4_reach cX4_reach 1 (some .int)]
def wsX5_refresh_r3 : List Cond := [Cond.fieldLink RX4 22 "SoundPictures$State" "reach" "I", Cond.methodLink RX5 218 yX1_write, Cond.instanceMethod yX1_write, Cond.selects RX1 yX1_write yX1_write, Cond.initialized RX1, Cond.code yX1_write cX1_write 3 none, Cond.methodLink RX1 29 yX1_countKeys, Cond.instanceMethod yX1_countKeys, Cond.selects RX1 yX1_countKeys yX1_countKeys, Cond.code yX1_countKeys cX1_countKeys 7 none, Cond.fieldLink RX1 15 "SoundPictures$Ledger" "filled" "[I", Cond.methodLink RX1 39 yX3_keyOf, Cond.instanceMethod yX3_keyOf, Cond.selects RX3 yX3_keyOf yX3_keyOf, Cond.code yX3_keyOf cX3_keyOf 7 (some .int), Cond.methodLink RX3 38 yX3_peakOf, Cond.instanceMethod yX3_peakOf, Cond.selects RX3 yX3_peakOf yX3_peakOf, Cond.code yX3_peakOf cX3_peakOf 3 (some .int), Cond.methodLink RX1 33 yX1_setStarts, Cond.instanceMethod yX1_setStarts, Cond.selects RX1 yX1_setStarts yX1_setStarts, Cond.code yX1_setStarts cX1_setStarts 2 none, Cond.fieldLink RX1 21 "SoundPictures$Ledger" "unlike" "I"]
def wsX5_refresh_r4 : List Cond := [Cond.fieldLink RX1 9 "SoundPictures$Ledger" "starts" "[I", Cond.methodLink RX1 36 yX1_fillEntries, Cond.instanceMethod yX1_fillEntries, Cond.selects RX1 yX1_fillEntries yX1_fillEntries, Cond.code yX1_fillEntries cX1_fillEntries 7 none, Cond.fieldLink RX1 18 "SoundPictures$Ledger" "entries" "[I", Cond.methodLink RX5 222 yX0_cast, Cond.instanceMethod yX0_cast, Cond.selects RX0 yX0_cast yX0_cast, Cond.initialized RX0, Cond.code yX0_cast cX0_cast 7 none, Cond.fieldLink RX0 18 "SoundPictures$Ballot" "heard" "I", Cond.methodLink RX0 38 yX0_clear, Cond.instanceMethod yX0_clear, Cond.selects RX0 yX0_clear yX0_clear, Cond.code yX0_clear cX0_clear 2 none, Cond.fieldLink RX0 9 "SoundPictures$Ballot" "cells" "[I", Cond.fieldLink RX0 28 "SoundPictures$Ballot" "ranked" "I", Cond.fieldLink RX0 22 "SoundPictures$Ballot" "known" "I", Cond.fieldLink RX0 25 "SoundPictures$Ballot" "all" "I", Cond.methodLink RX0 41 yX3_keyOf, Cond.methodLink RX0 47 yX0_castFor, Cond.instanceMethod yX0_castFor, Cond.selects RX0 yX0_castFor yX0_castFor]
def wsX5_refresh_r5 : List Cond := [Cond.code yX0_castFor cX0_castFor 9 none, Cond.methodLink RX0 54 yX1_placesOf, Cond.instanceMethod yX1_placesOf, Cond.selects RX1 yX1_placesOf yX1_placesOf, Cond.code yX1_placesOf cX1_placesOf 2 (some .int), Cond.methodLink RX0 59 yX1_placeOf, Cond.instanceMethod yX1_placeOf, Cond.selects RX1 yX1_placeOf yX1_placeOf, Cond.code yX1_placeOf cX1_placeOf 3 (some .int), Cond.methodLink RX1 25 yX1_placesOf, Cond.methodLink RX0 51 yX0_rankCells, Cond.instanceMethod yX0_rankCells, Cond.selects RX0 yX0_rankCells yX0_rankCells, Cond.code yX0_rankCells cX0_rankCells 3 none, Cond.fieldLink RX0 15 "SoundPictures$Ballot" "order" "[I"]
def wsX5_refresh : List Cond := .code yX5_refresh cX5_refresh 1 none :: ((wsX5_refresh_r1 ++ (wsX5_refresh_r2 ++ (wsX5_refresh_r3 ++ (wsX5_refresh_r4 ++ wsX5_refresh_r5)))) ++ wsX50 ++ wsX30 ++ wsX40 ++ wsX10 ++ wsX00)
def wsX5_told_r1 : List Cond := [Cond.fieldLink RX5 10 "SoundPictures" "now" "LSoundPictures$State;", Cond.fieldLink RX5 37 "SoundPictures" "ledger" "LSoundPictures$Ledger;", Cond.fieldLink RX5 44 "SoundPictures" "ballot" "LSoundPictures$Ballot;", Cond.fieldLink RX5 19 "SoundPictures" "past" "LSoundPictures$Past;", Cond.constant RX5 61 (-1000000002), Cond.methodLink RX5 116 yX5_refresh, Cond.instanceMethod yX5_refresh, Cond.selects RX5 yX5_refresh yX5_refresh, Cond.initialized RX5, Cond.code yX5_refresh cX5_refresh 1 none, Cond.fieldLink RX5 48 "SoundPictures" "fresh" "Z", Cond.fieldLink RX5 30 "SoundPictures" "peaks" "LSoundPictures$Peaks;", Cond.methodLink RX5 215 yX3_look, Cond.instanceMethod yX3_look, Cond.selects RX3 yX3_look yX3_look, Cond.initialized RX3, Cond.code yX3_look cX3_look 6 none, Cond.fieldLink RX3 15 "SoundPictures$Peaks" "found" "[I", Cond.methodLink RX3 21 yX4_windowsOf, Cond.instanceMethod yX4_windowsOf, Cond.selects RX4 yX4_windowsOf yX4_windowsOf, Cond.initialized RX4, Cond.code yX4_windowsOf cX4_windowsOf 2 (some .int), Cond.fieldLink RX4 15 "SoundPictures$State" "sizes" "[I"]
def wsX5_told_r2 : List Cond := [Cond.methodLink RX3 27 yX3_findPeak, Cond.instanceMethod yX3_findPeak, Cond.selects RX3 yX3_findPeak yX3_findPeak, Cond.code yX3_findPeak cX3_findPeak 6 (some .int), Cond.methodLink RX3 31 yX3_turn, Cond.instanceMethod yX3_turn, Cond.selects RX3 yX3_turn yX3_turn, Cond.code yX3_turn cX3_turn 5 none, Cond.fieldLink RX3 9 "SoundPictures$Peaks" "waves" "[I", Cond.methodLink RX3 50 yX4_numberAt, Cond.instanceMethod yX4_numberAt, Cond.selects RX4 yX4_numberAt yX4_numberAt, Cond.code yX4_numberAt cX4_numberAt 3 (some .int), Cond.fieldLink RX4 9 "SoundPictures$State" "numbers" "[I", Cond.methodLink RX3 53 yX3_turnPairs, Cond.instanceMethod yX3_turnPairs, Cond.selects RX3 yX3_turnPairs yX3_turnPairs, Cond.code yX3_turnPairs cX3_turnPairs 5 none, Cond.methodLink RX3 35 yX3_shareOf, Cond.instanceMethod yX3_shareOf, Cond.selects RX3 yX3_shareOf yX3_shareOf, Cond.code yX3_shareOf cX3_shareOf 2 (some .int), Cond.methodLink RX3 46 yX4_floor, Cond.instanceMethod yX4_floor]
def wsX5_told_r3 : List Cond := [Cond.selects RX4 yX4_floor yX4_floor, Cond.code yX4_floor cX4_floor 1 (some .int), Cond.fieldLink RX4 18 "SoundPictures$State" "floor" "I", Cond.methodLink RX5 122 yX4_reach, Cond.instanceMethod yX4_reach, Cond.selects RX4 yX4_reach yX4_reach, Cond.code yX4_reach cX4_reach 1 (some .int), Cond.fieldLink RX4 22 "SoundPictures$State" "reach" "I", Cond.methodLink RX5 218 yX1_write, Cond.instanceMethod yX1_write, Cond.selects RX1 yX1_write yX1_write, Cond.initialized RX1, Cond.code yX1_write cX1_write 3 none, Cond.methodLink RX1 29 yX1_countKeys, Cond.instanceMethod yX1_countKeys, Cond.selects RX1 yX1_countKeys yX1_countKeys, Cond.code yX1_countKeys cX1_countKeys 7 none, Cond.fieldLink RX1 15 "SoundPictures$Ledger" "filled" "[I", Cond.methodLink RX1 39 yX3_keyOf, Cond.instanceMethod yX3_keyOf, Cond.selects RX3 yX3_keyOf yX3_keyOf, Cond.code yX3_keyOf cX3_keyOf 7 (some .int), Cond.methodLink RX3 38 yX3_peakOf, Cond.instanceMethod yX3_peakOf]
def wsX5_told_r4 : List Cond := [Cond.selects RX3 yX3_peakOf yX3_peakOf, Cond.code yX3_peakOf cX3_peakOf 3 (some .int), Cond.methodLink RX1 33 yX1_setStarts, Cond.instanceMethod yX1_setStarts, Cond.selects RX1 yX1_setStarts yX1_setStarts, Cond.code yX1_setStarts cX1_setStarts 2 none, Cond.fieldLink RX1 21 "SoundPictures$Ledger" "unlike" "I", Cond.fieldLink RX1 9 "SoundPictures$Ledger" "starts" "[I", Cond.methodLink RX1 36 yX1_fillEntries, Cond.instanceMethod yX1_fillEntries, Cond.selects RX1 yX1_fillEntries yX1_fillEntries, Cond.code yX1_fillEntries cX1_fillEntries 7 none, Cond.fieldLink RX1 18 "SoundPictures$Ledger" "entries" "[I", Cond.methodLink RX5 222 yX0_cast, Cond.instanceMethod yX0_cast, Cond.selects RX0 yX0_cast yX0_cast, Cond.initialized RX0, Cond.code yX0_cast cX0_cast 7 none, Cond.fieldLink RX0 18 "SoundPictures$Ballot" "heard" "I", Cond.methodLink RX0 38 yX0_clear, Cond.instanceMethod yX0_clear, Cond.selects RX0 yX0_clear yX0_clear, Cond.code yX0_clear cX0_clear 2 none, Cond.fieldLink RX0 9 "SoundPictures$Ballot" "cells" "[I"]
def wsX5_told_r5 : List Cond := [Cond.fieldLink RX0 28 "SoundPictures$Ballot" "ranked" "I", Cond.fieldLink RX0 22 "SoundPictures$Ballot" "known" "I", Cond.fieldLink RX0 25 "SoundPictures$Ballot" "all" "I", Cond.methodLink RX0 41 yX3_keyOf, Cond.methodLink RX0 47 yX0_castFor, Cond.instanceMethod yX0_castFor, Cond.selects RX0 yX0_castFor yX0_castFor, Cond.code yX0_castFor cX0_castFor 9 none, Cond.methodLink RX0 54 yX1_placesOf, Cond.instanceMethod yX1_placesOf, Cond.selects RX1 yX1_placesOf yX1_placesOf, Cond.code yX1_placesOf cX1_placesOf 2 (some .int), Cond.methodLink RX0 59 yX1_placeOf, Cond.instanceMethod yX1_placeOf, Cond.selects RX1 yX1_placeOf yX1_placeOf, Cond.code yX1_placeOf cX1_placeOf 3 (some .int), Cond.methodLink RX1 25 yX1_placesOf, Cond.methodLink RX0 51 yX0_rankCells, Cond.instanceMethod yX0_rankCells, Cond.selects RX0 yX0_rankCells yX0_rankCells, Cond.code yX0_rankCells cX0_rankCells 3 none, Cond.fieldLink RX0 15 "SoundPictures$Ballot" "order" "[I", Cond.methodLink RX5 119 yX4_floor, Cond.methodLink RX5 125 yX1_unlikeKeys]
def wsX5_told_r6 : List Cond := [Cond.instanceMethod yX1_unlikeKeys, Cond.selects RX1 yX1_unlikeKeys yX1_unlikeKeys, Cond.code yX1_unlikeKeys cX1_unlikeKeys 1 (some .int), Cond.methodLink RX5 128 yX1_allPlaces, Cond.instanceMethod yX1_allPlaces, Cond.selects RX1 yX1_allPlaces yX1_allPlaces, Cond.code yX1_allPlaces cX1_allPlaces 1 (some .int), Cond.methodLink RX5 131 yX0_keysHeard, Cond.instanceMethod yX0_keysHeard, Cond.selects RX0 yX0_keysHeard yX0_keysHeard, Cond.code yX0_keysHeard cX0_keysHeard 1 (some .int), Cond.methodLink RX5 134 yX0_keysKnown, Cond.instanceMethod yX0_keysKnown, Cond.selects RX0 yX0_keysKnown yX0_keysKnown, Cond.code yX0_keysKnown cX0_keysKnown 1 (some .int), Cond.methodLink RX5 137 yX0_pieceOf, Cond.instanceMethod yX0_pieceOf, Cond.selects RX0 yX0_pieceOf yX0_pieceOf, Cond.code yX0_pieceOf cX0_pieceOf 2 (some .int), Cond.methodLink RX5 140 yX0_offsetOf, Cond.instanceMethod yX0_offsetOf, Cond.selects RX0 yX0_offsetOf yX0_offsetOf, Cond.code yX0_offsetOf cX0_offsetOf 2 (some .int), Cond.methodLink RX5 143 yX0_countOf]
def wsX5_told_r7 : List Cond := [Cond.instanceMethod yX0_countOf, Cond.selects RX0 yX0_countOf yX0_countOf, Cond.code yX0_countOf cX0_countOf 2 (some .int), Cond.methodLink RX5 146 yX0_doubt, Cond.instanceMethod yX0_doubt, Cond.selects RX0 yX0_doubt yX0_doubt, Cond.code yX0_doubt cX0_doubt 3 (some .int), Cond.methodLink RX0 31 yX0_countOf, Cond.methodLink RX0 35 yX0_pieceOf, Cond.methodLink RX5 149 yX0_ranked, Cond.instanceMethod yX0_ranked, Cond.selects RX0 yX0_ranked yX0_ranked, Cond.code yX0_ranked cX0_ranked 1 (some .int), Cond.methodLink RX5 152 yX0_allVotes, Cond.instanceMethod yX0_allVotes, Cond.selects RX0 yX0_allVotes yX0_allVotes, Cond.code yX0_allVotes cX0_allVotes 1 (some .int), Cond.methodLink RX5 108 yX2_depth, Cond.instanceMethod yX2_depth, Cond.selects RX2 yX2_depth yX2_depth, Cond.initialized RX2, Cond.code yX2_depth cX2_depth 1 (some .int), Cond.fieldLink RX2 27 "SoundPictures$Past" "depth" "I"]
def wsX5_told : List Cond := .code yX5_told cX5_told 2 (some .int) :: ((wsX5_told_r1 ++ (wsX5_told_r2 ++ (wsX5_told_r3 ++ (wsX5_told_r4 ++ (wsX5_told_r5 ++ (wsX5_told_r6 ++ wsX5_told_r7)))))) ++ wsX50 ++ wsX30 ++ wsX40 ++ wsX10 ++ wsX00 ++ wsX20)
def wsX5_row_r1 : List Cond := [Cond.constant RX5 56 (-1000000001), Cond.fieldLink RX5 10 "SoundPictures" "now" "LSoundPictures$State;", Cond.fieldLink RX5 30 "SoundPictures" "peaks" "LSoundPictures$Peaks;", Cond.constant RX5 61 (-1000000002), Cond.methodLink RX5 52 yX5_isRow, Cond.static yX5_isRow, Cond.initialized RX5, Cond.code yX5_isRow cX5_isRow 1 (some .boolean), Cond.methodLink RX5 57 yX5_isWithin, Cond.static yX5_isWithin, Cond.code yX5_isWithin cX5_isWithin 3 (some .boolean), Cond.methodLink RX5 116 yX5_refresh, Cond.instanceMethod yX5_refresh, Cond.selects RX5 yX5_refresh yX5_refresh, Cond.code yX5_refresh cX5_refresh 1 none, Cond.fieldLink RX5 48 "SoundPictures" "fresh" "Z", Cond.fieldLink RX5 37 "SoundPictures" "ledger" "LSoundPictures$Ledger;", Cond.fieldLink RX5 44 "SoundPictures" "ballot" "LSoundPictures$Ballot;", Cond.methodLink RX5 215 yX3_look, Cond.instanceMethod yX3_look, Cond.selects RX3 yX3_look yX3_look, Cond.initialized RX3, Cond.code yX3_look cX3_look 6 none, Cond.fieldLink RX3 15 "SoundPictures$Peaks" "found" "[I"]
def wsX5_row_r2 : List Cond := [Cond.methodLink RX3 21 yX4_windowsOf, Cond.instanceMethod yX4_windowsOf, Cond.selects RX4 yX4_windowsOf yX4_windowsOf, Cond.initialized RX4, Cond.code yX4_windowsOf cX4_windowsOf 2 (some .int), Cond.fieldLink RX4 15 "SoundPictures$State" "sizes" "[I", Cond.methodLink RX3 27 yX3_findPeak, Cond.instanceMethod yX3_findPeak, Cond.selects RX3 yX3_findPeak yX3_findPeak, Cond.code yX3_findPeak cX3_findPeak 6 (some .int), Cond.methodLink RX3 31 yX3_turn, Cond.instanceMethod yX3_turn, Cond.selects RX3 yX3_turn yX3_turn, Cond.code yX3_turn cX3_turn 5 none, Cond.fieldLink RX3 9 "SoundPictures$Peaks" "waves" "[I", Cond.methodLink RX3 50 yX4_numberAt, Cond.instanceMethod yX4_numberAt, Cond.selects RX4 yX4_numberAt yX4_numberAt, Cond.code yX4_numberAt cX4_numberAt 3 (some .int), Cond.fieldLink RX4 9 "SoundPictures$State" "numbers" "[I", Cond.methodLink RX3 53 yX3_turnPairs, Cond.instanceMethod yX3_turnPairs, Cond.selects RX3 yX3_turnPairs yX3_turnPairs, Cond.code yX3_turnPairs cX3_turnPairs 5 none]
def wsX5_row_r3 : List Cond := [Cond.methodLink RX3 35 yX3_shareOf, Cond.instanceMethod yX3_shareOf, Cond.selects RX3 yX3_shareOf yX3_shareOf, Cond.code yX3_shareOf cX3_shareOf 2 (some .int), Cond.methodLink RX3 46 yX4_floor, Cond.instanceMethod yX4_floor, Cond.selects RX4 yX4_floor yX4_floor, Cond.code yX4_floor cX4_floor 1 (some .int), Cond.fieldLink RX4 18 "SoundPictures$State" "floor" "I", Cond.methodLink RX5 122 yX4_reach, Cond.instanceMethod yX4_reach, Cond.selects RX4 yX4_reach yX4_reach, Cond.code yX4_reach cX4_reach 1 (some .int), Cond.fieldLink RX4 22 "SoundPictures$State" "reach" "I", Cond.methodLink RX5 218 yX1_write, Cond.instanceMethod yX1_write, Cond.selects RX1 yX1_write yX1_write, Cond.initialized RX1, Cond.code yX1_write cX1_write 3 none, Cond.methodLink RX1 29 yX1_countKeys, Cond.instanceMethod yX1_countKeys, Cond.selects RX1 yX1_countKeys yX1_countKeys, Cond.code yX1_countKeys cX1_countKeys 7 none, Cond.fieldLink RX1 15 "SoundPictures$Ledger" "filled" "[I"]
def wsX5_row_r4 : List Cond := [Cond.methodLink RX1 39 yX3_keyOf, Cond.instanceMethod yX3_keyOf, Cond.selects RX3 yX3_keyOf yX3_keyOf, Cond.code yX3_keyOf cX3_keyOf 7 (some .int), Cond.methodLink RX3 38 yX3_peakOf, Cond.instanceMethod yX3_peakOf, Cond.selects RX3 yX3_peakOf yX3_peakOf, Cond.code yX3_peakOf cX3_peakOf 3 (some .int), Cond.methodLink RX1 33 yX1_setStarts, Cond.instanceMethod yX1_setStarts, Cond.selects RX1 yX1_setStarts yX1_setStarts, Cond.code yX1_setStarts cX1_setStarts 2 none, Cond.fieldLink RX1 21 "SoundPictures$Ledger" "unlike" "I", Cond.fieldLink RX1 9 "SoundPictures$Ledger" "starts" "[I", Cond.methodLink RX1 36 yX1_fillEntries, Cond.instanceMethod yX1_fillEntries, Cond.selects RX1 yX1_fillEntries yX1_fillEntries, Cond.code yX1_fillEntries cX1_fillEntries 7 none, Cond.fieldLink RX1 18 "SoundPictures$Ledger" "entries" "[I", Cond.methodLink RX5 222 yX0_cast, Cond.instanceMethod yX0_cast, Cond.selects RX0 yX0_cast yX0_cast, Cond.initialized RX0, Cond.code yX0_cast cX0_cast 7 none]
def wsX5_row_r5 : List Cond := [Cond.fieldLink RX0 18 "SoundPictures$Ballot" "heard" "I", Cond.methodLink RX0 38 yX0_clear, Cond.instanceMethod yX0_clear, Cond.selects RX0 yX0_clear yX0_clear, Cond.code yX0_clear cX0_clear 2 none, Cond.fieldLink RX0 9 "SoundPictures$Ballot" "cells" "[I", Cond.fieldLink RX0 28 "SoundPictures$Ballot" "ranked" "I", Cond.fieldLink RX0 22 "SoundPictures$Ballot" "known" "I", Cond.fieldLink RX0 25 "SoundPictures$Ballot" "all" "I", Cond.methodLink RX0 41 yX3_keyOf, Cond.methodLink RX0 47 yX0_castFor, Cond.instanceMethod yX0_castFor, Cond.selects RX0 yX0_castFor yX0_castFor, Cond.code yX0_castFor cX0_castFor 9 none, Cond.methodLink RX0 54 yX1_placesOf, Cond.instanceMethod yX1_placesOf, Cond.selects RX1 yX1_placesOf yX1_placesOf, Cond.code yX1_placesOf cX1_placesOf 2 (some .int), Cond.methodLink RX0 59 yX1_placeOf, Cond.instanceMethod yX1_placeOf, Cond.selects RX1 yX1_placeOf yX1_placeOf, Cond.code yX1_placeOf cX1_placeOf 3 (some .int), Cond.methodLink RX1 25 yX1_placesOf, Cond.methodLink RX0 51 yX0_rankCells]
def wsX5_row_r6 : List Cond := [Cond.instanceMethod yX0_rankCells, Cond.selects RX0 yX0_rankCells yX0_rankCells, Cond.code yX0_rankCells cX0_rankCells 3 none, Cond.fieldLink RX0 15 "SoundPictures$Ballot" "order" "[I", Cond.methodLink RX5 62 yX4_sizeOf, Cond.instanceMethod yX4_sizeOf, Cond.selects RX4 yX4_sizeOf yX4_sizeOf, Cond.code yX4_sizeOf cX4_sizeOf 2 (some .int), Cond.methodLink RX5 82 yX4_windowsOf, Cond.methodLink RX5 155 yX3_countIn, Cond.instanceMethod yX3_countIn, Cond.selects RX3 yX3_countIn yX3_countIn, Cond.code yX3_countIn cX3_countIn 4 (some .int), Cond.methodLink RX5 158 yX3_countKeysIn, Cond.instanceMethod yX3_countKeysIn, Cond.selects RX3 yX3_countKeysIn yX3_countKeysIn, Cond.code yX3_countKeysIn cX3_countKeysIn 6 (some .int), Cond.methodLink RX3 42 yX3_keyOf, Cond.methodLink RX5 161 yX3_allSharesIn, Cond.instanceMethod yX3_allSharesIn, Cond.selects RX3 yX3_allSharesIn yX3_allSharesIn, Cond.code yX3_allSharesIn cX3_allSharesIn 7 (some .int), Cond.methodLink RX5 165 yX3_mostOftenIn, Cond.instanceMethod yX3_mostOftenIn]
def wsX5_row_r7 : List Cond := [Cond.selects RX3 yX3_mostOftenIn yX3_mostOftenIn, Cond.code yX3_mostOftenIn cX3_mostOftenIn 5 (some .int), Cond.fieldLink RX3 18 "SoundPictures$Peaks" "often" "[I"]
def wsX5_row : List Cond := .code yX5_row cX5_row 3 (some .int) :: ((wsX5_row_r1 ++ (wsX5_row_r2 ++ (wsX5_row_r3 ++ (wsX5_row_r4 ++ (wsX5_row_r5 ++ (wsX5_row_r6 ++ wsX5_row_r7)))))) ++ wsX50 ++ wsX30 ++ wsX40 ++ wsX10 ++ wsX00)
def wsX5_at : List Cond := .code yX5_at cX5_at 3 (some .int) :: ([.constant RX5 56 (-1000000001), .fieldLink RX5 10 "SoundPictures" "now" "LSoundPictures$State;", .constant RX5 61 (-1000000002), .methodLink RX5 52 yX5_isRow, .static yX5_isRow, .initialized RX5, .code yX5_isRow cX5_isRow 1 (some .boolean), .methodLink RX5 57 yX5_isWithin, .static yX5_isWithin, .code yX5_isWithin cX5_isWithin 3 (some .boolean), .methodLink RX5 62 yX4_sizeOf, .instanceMethod yX4_sizeOf, .selects RX4 yX4_sizeOf yX4_sizeOf, .initialized RX4, .code yX4_sizeOf cX4_sizeOf 2 (some .int), .fieldLink RX4 15 "SoundPictures$State" "sizes" "[I", .methodLink RX5 85 yX4_numberAt, .instanceMethod yX4_numberAt, .selects RX4 yX4_numberAt yX4_numberAt, .code yX4_numberAt cX4_numberAt 3 (some .int), .fieldLink RX4 9 "SoundPictures$State" "numbers" "[I"] ++ wsX50 ++ wsX40)
def wsX5_isWindow : List Cond := .code yX5_isWindow cX5_isWindow 3 (some .boolean) :: ([.fieldLink RX5 10 "SoundPictures" "now" "LSoundPictures$State;", .methodLink RX5 52 yX5_isRow, .static yX5_isRow, .initialized RX5, .code yX5_isRow cX5_isRow 1 (some .boolean), .methodLink RX5 57 yX5_isWithin, .static yX5_isWithin, .code yX5_isWithin cX5_isWithin 3 (some .boolean), .methodLink RX5 82 yX4_windowsOf, .instanceMethod yX4_windowsOf, .selects RX4 yX4_windowsOf yX4_windowsOf, .initialized RX4, .code yX4_windowsOf cX4_windowsOf 2 (some .int), .fieldLink RX4 15 "SoundPictures$State" "sizes" "[I"] ++ wsX50 ++ wsX40)
def wsX5_share_r1 : List Cond := [Cond.constant RX5 56 (-1000000001), Cond.constant RX5 61 (-1000000002), Cond.fieldLink RX5 30 "SoundPictures" "peaks" "LSoundPictures$Peaks;", Cond.fieldLink RX5 10 "SoundPictures" "now" "LSoundPictures$State;", Cond.methodLink RX5 168 yX5_isWindow, Cond.instanceMethod yX5_isWindow, Cond.selects RX5 yX5_isWindow yX5_isWindow, Cond.initialized RX5, Cond.code yX5_isWindow cX5_isWindow 3 (some .boolean), Cond.methodLink RX5 52 yX5_isRow, Cond.static yX5_isRow, Cond.code yX5_isRow cX5_isRow 1 (some .boolean), Cond.methodLink RX5 57 yX5_isWithin, Cond.static yX5_isWithin, Cond.code yX5_isWithin cX5_isWithin 3 (some .boolean), Cond.methodLink RX5 82 yX4_windowsOf, Cond.instanceMethod yX4_windowsOf, Cond.selects RX4 yX4_windowsOf yX4_windowsOf, Cond.initialized RX4, Cond.code yX4_windowsOf cX4_windowsOf 2 (some .int), Cond.fieldLink RX4 15 "SoundPictures$State" "sizes" "[I", Cond.methodLink RX5 172 yX3_shareIn, Cond.instanceMethod yX3_shareIn, Cond.selects RX3 yX3_shareIn yX3_shareIn]
def wsX5_share_r2 : List Cond := [Cond.initialized RX3, Cond.code yX3_shareIn cX3_shareIn 5 (some .int), Cond.methodLink RX3 31 yX3_turn, Cond.instanceMethod yX3_turn, Cond.selects RX3 yX3_turn yX3_turn, Cond.code yX3_turn cX3_turn 5 none, Cond.fieldLink RX3 9 "SoundPictures$Peaks" "waves" "[I", Cond.methodLink RX3 50 yX4_numberAt, Cond.instanceMethod yX4_numberAt, Cond.selects RX4 yX4_numberAt yX4_numberAt, Cond.code yX4_numberAt cX4_numberAt 3 (some .int), Cond.fieldLink RX4 9 "SoundPictures$State" "numbers" "[I", Cond.methodLink RX3 53 yX3_turnPairs, Cond.instanceMethod yX3_turnPairs, Cond.selects RX3 yX3_turnPairs yX3_turnPairs, Cond.code yX3_turnPairs cX3_turnPairs 5 none, Cond.methodLink RX3 35 yX3_shareOf, Cond.instanceMethod yX3_shareOf, Cond.selects RX3 yX3_shareOf yX3_shareOf, Cond.code yX3_shareOf cX3_shareOf 2 (some .int)]
def wsX5_share : List Cond := .code yX5_share cX5_share 4 (some .int) :: ((wsX5_share_r1 ++ wsX5_share_r2) ++ wsX50 ++ wsX40 ++ wsX30)
def wsX5_peak_r1 : List Cond := [Cond.constant RX5 56 (-1000000001), Cond.fieldLink RX5 30 "SoundPictures" "peaks" "LSoundPictures$Peaks;", Cond.methodLink RX5 168 yX5_isWindow, Cond.instanceMethod yX5_isWindow, Cond.selects RX5 yX5_isWindow yX5_isWindow, Cond.initialized RX5, Cond.code yX5_isWindow cX5_isWindow 3 (some .boolean), Cond.fieldLink RX5 10 "SoundPictures" "now" "LSoundPictures$State;", Cond.methodLink RX5 52 yX5_isRow, Cond.static yX5_isRow, Cond.code yX5_isRow cX5_isRow 1 (some .boolean), Cond.methodLink RX5 57 yX5_isWithin, Cond.static yX5_isWithin, Cond.code yX5_isWithin cX5_isWithin 3 (some .boolean), Cond.methodLink RX5 82 yX4_windowsOf, Cond.instanceMethod yX4_windowsOf, Cond.selects RX4 yX4_windowsOf yX4_windowsOf, Cond.initialized RX4, Cond.code yX4_windowsOf cX4_windowsOf 2 (some .int), Cond.fieldLink RX4 15 "SoundPictures$State" "sizes" "[I", Cond.methodLink RX5 116 yX5_refresh, Cond.instanceMethod yX5_refresh, Cond.selects RX5 yX5_refresh yX5_refresh, Cond.code yX5_refresh cX5_refresh 1 none]
def wsX5_peak_r2 : List Cond := [Cond.fieldLink RX5 48 "SoundPictures" "fresh" "Z", Cond.fieldLink RX5 37 "SoundPictures" "ledger" "LSoundPictures$Ledger;", Cond.fieldLink RX5 44 "SoundPictures" "ballot" "LSoundPictures$Ballot;", Cond.methodLink RX5 215 yX3_look, Cond.instanceMethod yX3_look, Cond.selects RX3 yX3_look yX3_look, Cond.initialized RX3, Cond.code yX3_look cX3_look 6 none, Cond.fieldLink RX3 15 "SoundPictures$Peaks" "found" "[I", Cond.methodLink RX3 21 yX4_windowsOf, Cond.methodLink RX3 27 yX3_findPeak, Cond.instanceMethod yX3_findPeak, Cond.selects RX3 yX3_findPeak yX3_findPeak, Cond.code yX3_findPeak cX3_findPeak 6 (some .int), Cond.methodLink RX3 31 yX3_turn, Cond.instanceMethod yX3_turn, Cond.selects RX3 yX3_turn yX3_turn, Cond.code yX3_turn cX3_turn 5 none, Cond.fieldLink RX3 9 "SoundPictures$Peaks" "waves" "[I", Cond.methodLink RX3 50 yX4_numberAt, Cond.instanceMethod yX4_numberAt, Cond.selects RX4 yX4_numberAt yX4_numberAt, Cond.code yX4_numberAt cX4_numberAt 3 (some .int), Cond.fieldLink RX4 9 "SoundPictures$State" "numbers" "[I"]
def wsX5_peak_r3 : List Cond := [Cond.methodLink RX3 53 yX3_turnPairs, Cond.instanceMethod yX3_turnPairs, Cond.selects RX3 yX3_turnPairs yX3_turnPairs, Cond.code yX3_turnPairs cX3_turnPairs 5 none, Cond.methodLink RX3 35 yX3_shareOf, Cond.instanceMethod yX3_shareOf, Cond.selects RX3 yX3_shareOf yX3_shareOf, Cond.code yX3_shareOf cX3_shareOf 2 (some .int), Cond.methodLink RX3 46 yX4_floor, Cond.instanceMethod yX4_floor, Cond.selects RX4 yX4_floor yX4_floor, Cond.code yX4_floor cX4_floor 1 (some .int), Cond.fieldLink RX4 18 "SoundPictures$State" "floor" "I", Cond.methodLink RX5 122 yX4_reach, Cond.instanceMethod yX4_reach, Cond.selects RX4 yX4_reach yX4_reach, Cond.code yX4_reach cX4_reach 1 (some .int), Cond.fieldLink RX4 22 "SoundPictures$State" "reach" "I", Cond.methodLink RX5 218 yX1_write, Cond.instanceMethod yX1_write, Cond.selects RX1 yX1_write yX1_write, Cond.initialized RX1, Cond.code yX1_write cX1_write 3 none, Cond.methodLink RX1 29 yX1_countKeys]
def wsX5_peak_r4 : List Cond := [Cond.instanceMethod yX1_countKeys, Cond.selects RX1 yX1_countKeys yX1_countKeys, Cond.code yX1_countKeys cX1_countKeys 7 none, Cond.fieldLink RX1 15 "SoundPictures$Ledger" "filled" "[I", Cond.methodLink RX1 39 yX3_keyOf, Cond.instanceMethod yX3_keyOf, Cond.selects RX3 yX3_keyOf yX3_keyOf, Cond.code yX3_keyOf cX3_keyOf 7 (some .int), Cond.methodLink RX3 38 yX3_peakOf, Cond.instanceMethod yX3_peakOf, Cond.selects RX3 yX3_peakOf yX3_peakOf, Cond.code yX3_peakOf cX3_peakOf 3 (some .int), Cond.methodLink RX1 33 yX1_setStarts, Cond.instanceMethod yX1_setStarts, Cond.selects RX1 yX1_setStarts yX1_setStarts, Cond.code yX1_setStarts cX1_setStarts 2 none, Cond.fieldLink RX1 21 "SoundPictures$Ledger" "unlike" "I", Cond.fieldLink RX1 9 "SoundPictures$Ledger" "starts" "[I", Cond.methodLink RX1 36 yX1_fillEntries, Cond.instanceMethod yX1_fillEntries, Cond.selects RX1 yX1_fillEntries yX1_fillEntries, Cond.code yX1_fillEntries cX1_fillEntries 7 none, Cond.fieldLink RX1 18 "SoundPictures$Ledger" "entries" "[I", Cond.methodLink RX5 222 yX0_cast]
def wsX5_peak_r5 : List Cond := [Cond.instanceMethod yX0_cast, Cond.selects RX0 yX0_cast yX0_cast, Cond.initialized RX0, Cond.code yX0_cast cX0_cast 7 none, Cond.fieldLink RX0 18 "SoundPictures$Ballot" "heard" "I", Cond.methodLink RX0 38 yX0_clear, Cond.instanceMethod yX0_clear, Cond.selects RX0 yX0_clear yX0_clear, Cond.code yX0_clear cX0_clear 2 none, Cond.fieldLink RX0 9 "SoundPictures$Ballot" "cells" "[I", Cond.fieldLink RX0 28 "SoundPictures$Ballot" "ranked" "I", Cond.fieldLink RX0 22 "SoundPictures$Ballot" "known" "I", Cond.fieldLink RX0 25 "SoundPictures$Ballot" "all" "I", Cond.methodLink RX0 41 yX3_keyOf, Cond.methodLink RX0 47 yX0_castFor, Cond.instanceMethod yX0_castFor, Cond.selects RX0 yX0_castFor yX0_castFor, Cond.code yX0_castFor cX0_castFor 9 none, Cond.methodLink RX0 54 yX1_placesOf, Cond.instanceMethod yX1_placesOf, Cond.selects RX1 yX1_placesOf yX1_placesOf, Cond.code yX1_placesOf cX1_placesOf 2 (some .int), Cond.methodLink RX0 59 yX1_placeOf, Cond.instanceMethod yX1_placeOf]
def wsX5_peak_r6 : List Cond := [Cond.selects RX1 yX1_placeOf yX1_placeOf, Cond.code yX1_placeOf cX1_placeOf 3 (some .int), Cond.methodLink RX1 25 yX1_placesOf, Cond.methodLink RX0 51 yX0_rankCells, Cond.instanceMethod yX0_rankCells, Cond.selects RX0 yX0_rankCells yX0_rankCells, Cond.code yX0_rankCells cX0_rankCells 3 none, Cond.fieldLink RX0 15 "SoundPictures$Ballot" "order" "[I", Cond.methodLink RX5 176 yX3_peakOf]
def wsX5_peak : List Cond := .code yX5_peak cX5_peak 3 (some .int) :: ((wsX5_peak_r1 ++ (wsX5_peak_r2 ++ (wsX5_peak_r3 ++ (wsX5_peak_r4 ++ (wsX5_peak_r5 ++ wsX5_peak_r6))))) ++ wsX50 ++ wsX40 ++ wsX30 ++ wsX10 ++ wsX00)
def wsX5_key_r1 : List Cond := [Cond.constant RX5 56 (-1000000001), Cond.fieldLink RX5 30 "SoundPictures" "peaks" "LSoundPictures$Peaks;", Cond.fieldLink RX5 10 "SoundPictures" "now" "LSoundPictures$State;", Cond.methodLink RX5 168 yX5_isWindow, Cond.instanceMethod yX5_isWindow, Cond.selects RX5 yX5_isWindow yX5_isWindow, Cond.initialized RX5, Cond.code yX5_isWindow cX5_isWindow 3 (some .boolean), Cond.methodLink RX5 52 yX5_isRow, Cond.static yX5_isRow, Cond.code yX5_isRow cX5_isRow 1 (some .boolean), Cond.methodLink RX5 57 yX5_isWithin, Cond.static yX5_isWithin, Cond.code yX5_isWithin cX5_isWithin 3 (some .boolean), Cond.methodLink RX5 82 yX4_windowsOf, Cond.instanceMethod yX4_windowsOf, Cond.selects RX4 yX4_windowsOf yX4_windowsOf, Cond.initialized RX4, Cond.code yX4_windowsOf cX4_windowsOf 2 (some .int), Cond.fieldLink RX4 15 "SoundPictures$State" "sizes" "[I", Cond.methodLink RX5 116 yX5_refresh, Cond.instanceMethod yX5_refresh, Cond.selects RX5 yX5_refresh yX5_refresh, Cond.code yX5_refresh cX5_refresh 1 none]
def wsX5_key_r2 : List Cond := [Cond.fieldLink RX5 48 "SoundPictures" "fresh" "Z", Cond.fieldLink RX5 37 "SoundPictures" "ledger" "LSoundPictures$Ledger;", Cond.fieldLink RX5 44 "SoundPictures" "ballot" "LSoundPictures$Ballot;", Cond.methodLink RX5 215 yX3_look, Cond.instanceMethod yX3_look, Cond.selects RX3 yX3_look yX3_look, Cond.initialized RX3, Cond.code yX3_look cX3_look 6 none, Cond.fieldLink RX3 15 "SoundPictures$Peaks" "found" "[I", Cond.methodLink RX3 21 yX4_windowsOf, Cond.methodLink RX3 27 yX3_findPeak, Cond.instanceMethod yX3_findPeak, Cond.selects RX3 yX3_findPeak yX3_findPeak, Cond.code yX3_findPeak cX3_findPeak 6 (some .int), Cond.methodLink RX3 31 yX3_turn, Cond.instanceMethod yX3_turn, Cond.selects RX3 yX3_turn yX3_turn, Cond.code yX3_turn cX3_turn 5 none, Cond.fieldLink RX3 9 "SoundPictures$Peaks" "waves" "[I", Cond.methodLink RX3 50 yX4_numberAt, Cond.instanceMethod yX4_numberAt, Cond.selects RX4 yX4_numberAt yX4_numberAt, Cond.code yX4_numberAt cX4_numberAt 3 (some .int), Cond.fieldLink RX4 9 "SoundPictures$State" "numbers" "[I"]
def wsX5_key_r3 : List Cond := [Cond.methodLink RX3 53 yX3_turnPairs, Cond.instanceMethod yX3_turnPairs, Cond.selects RX3 yX3_turnPairs yX3_turnPairs, Cond.code yX3_turnPairs cX3_turnPairs 5 none, Cond.methodLink RX3 35 yX3_shareOf, Cond.instanceMethod yX3_shareOf, Cond.selects RX3 yX3_shareOf yX3_shareOf, Cond.code yX3_shareOf cX3_shareOf 2 (some .int), Cond.methodLink RX3 46 yX4_floor, Cond.instanceMethod yX4_floor, Cond.selects RX4 yX4_floor yX4_floor, Cond.code yX4_floor cX4_floor 1 (some .int), Cond.fieldLink RX4 18 "SoundPictures$State" "floor" "I", Cond.methodLink RX5 122 yX4_reach, Cond.instanceMethod yX4_reach, Cond.selects RX4 yX4_reach yX4_reach, Cond.code yX4_reach cX4_reach 1 (some .int), Cond.fieldLink RX4 22 "SoundPictures$State" "reach" "I", Cond.methodLink RX5 218 yX1_write, Cond.instanceMethod yX1_write, Cond.selects RX1 yX1_write yX1_write, Cond.initialized RX1, Cond.code yX1_write cX1_write 3 none, Cond.methodLink RX1 29 yX1_countKeys]
def wsX5_key_r4 : List Cond := [Cond.instanceMethod yX1_countKeys, Cond.selects RX1 yX1_countKeys yX1_countKeys, Cond.code yX1_countKeys cX1_countKeys 7 none, Cond.fieldLink RX1 15 "SoundPictures$Ledger" "filled" "[I", Cond.methodLink RX1 39 yX3_keyOf, Cond.instanceMethod yX3_keyOf, Cond.selects RX3 yX3_keyOf yX3_keyOf, Cond.code yX3_keyOf cX3_keyOf 7 (some .int), Cond.methodLink RX3 38 yX3_peakOf, Cond.instanceMethod yX3_peakOf, Cond.selects RX3 yX3_peakOf yX3_peakOf, Cond.code yX3_peakOf cX3_peakOf 3 (some .int), Cond.methodLink RX1 33 yX1_setStarts, Cond.instanceMethod yX1_setStarts, Cond.selects RX1 yX1_setStarts yX1_setStarts, Cond.code yX1_setStarts cX1_setStarts 2 none, Cond.fieldLink RX1 21 "SoundPictures$Ledger" "unlike" "I", Cond.fieldLink RX1 9 "SoundPictures$Ledger" "starts" "[I", Cond.methodLink RX1 36 yX1_fillEntries, Cond.instanceMethod yX1_fillEntries, Cond.selects RX1 yX1_fillEntries yX1_fillEntries, Cond.code yX1_fillEntries cX1_fillEntries 7 none, Cond.fieldLink RX1 18 "SoundPictures$Ledger" "entries" "[I", Cond.methodLink RX5 222 yX0_cast]
def wsX5_key_r5 : List Cond := [Cond.instanceMethod yX0_cast, Cond.selects RX0 yX0_cast yX0_cast, Cond.initialized RX0, Cond.code yX0_cast cX0_cast 7 none, Cond.fieldLink RX0 18 "SoundPictures$Ballot" "heard" "I", Cond.methodLink RX0 38 yX0_clear, Cond.instanceMethod yX0_clear, Cond.selects RX0 yX0_clear yX0_clear, Cond.code yX0_clear cX0_clear 2 none, Cond.fieldLink RX0 9 "SoundPictures$Ballot" "cells" "[I", Cond.fieldLink RX0 28 "SoundPictures$Ballot" "ranked" "I", Cond.fieldLink RX0 22 "SoundPictures$Ballot" "known" "I", Cond.fieldLink RX0 25 "SoundPictures$Ballot" "all" "I", Cond.methodLink RX0 41 yX3_keyOf, Cond.methodLink RX0 47 yX0_castFor, Cond.instanceMethod yX0_castFor, Cond.selects RX0 yX0_castFor yX0_castFor, Cond.code yX0_castFor cX0_castFor 9 none, Cond.methodLink RX0 54 yX1_placesOf, Cond.instanceMethod yX1_placesOf, Cond.selects RX1 yX1_placesOf yX1_placesOf, Cond.code yX1_placesOf cX1_placesOf 2 (some .int), Cond.methodLink RX0 59 yX1_placeOf, Cond.instanceMethod yX1_placeOf]
def wsX5_key_r6 : List Cond := [Cond.selects RX1 yX1_placeOf yX1_placeOf, Cond.code yX1_placeOf cX1_placeOf 3 (some .int), Cond.methodLink RX1 25 yX1_placesOf, Cond.methodLink RX0 51 yX0_rankCells, Cond.instanceMethod yX0_rankCells, Cond.selects RX0 yX0_rankCells yX0_rankCells, Cond.code yX0_rankCells cX0_rankCells 3 none, Cond.fieldLink RX0 15 "SoundPictures$Ballot" "order" "[I", Cond.methodLink RX5 179 yX3_keyOf]
def wsX5_key : List Cond := .code yX5_key cX5_key 4 (some .int) :: ((wsX5_key_r1 ++ (wsX5_key_r2 ++ (wsX5_key_r3 ++ (wsX5_key_r4 ++ (wsX5_key_r5 ++ wsX5_key_r6))))) ++ wsX50 ++ wsX40 ++ wsX30 ++ wsX10 ++ wsX00)
def wsX5_keyAt_r1 : List Cond := [Cond.constant RX5 61 (-1000000002), Cond.fieldLink RX5 37 "SoundPictures" "ledger" "LSoundPictures$Ledger;", Cond.methodLink RX5 116 yX5_refresh, Cond.instanceMethod yX5_refresh, Cond.selects RX5 yX5_refresh yX5_refresh, Cond.initialized RX5, Cond.code yX5_refresh cX5_refresh 1 none, Cond.fieldLink RX5 48 "SoundPictures" "fresh" "Z", Cond.fieldLink RX5 30 "SoundPictures" "peaks" "LSoundPictures$Peaks;", Cond.fieldLink RX5 10 "SoundPictures" "now" "LSoundPictures$State;", Cond.fieldLink RX5 44 "SoundPictures" "ballot" "LSoundPictures$Ballot;", Cond.methodLink RX5 215 yX3_look, Cond.instanceMethod yX3_look, Cond.selects RX3 yX3_look yX3_look, Cond.initialized RX3, Cond.code yX3_look cX3_look 6 none, Cond.fieldLink RX3 15 "SoundPictures$Peaks" "found" "[I", Cond.methodLink RX3 21 yX4_windowsOf, Cond.instanceMethod yX4_windowsOf, Cond.selects RX4 yX4_windowsOf yX4_windowsOf, Cond.initialized RX4, Cond.code yX4_windowsOf cX4_windowsOf 2 (some .int), Cond.fieldLink RX4 15 "SoundPictures$State" "sizes" "[I", Cond.methodLink RX3 27 yX3_findPeak]
def wsX5_keyAt_r2 : List Cond := [Cond.instanceMethod yX3_findPeak, Cond.selects RX3 yX3_findPeak yX3_findPeak, Cond.code yX3_findPeak cX3_findPeak 6 (some .int), Cond.methodLink RX3 31 yX3_turn, Cond.instanceMethod yX3_turn, Cond.selects RX3 yX3_turn yX3_turn, Cond.code yX3_turn cX3_turn 5 none, Cond.fieldLink RX3 9 "SoundPictures$Peaks" "waves" "[I", Cond.methodLink RX3 50 yX4_numberAt, Cond.instanceMethod yX4_numberAt, Cond.selects RX4 yX4_numberAt yX4_numberAt, Cond.code yX4_numberAt cX4_numberAt 3 (some .int), Cond.fieldLink RX4 9 "SoundPictures$State" "numbers" "[I", Cond.methodLink RX3 53 yX3_turnPairs, Cond.instanceMethod yX3_turnPairs, Cond.selects RX3 yX3_turnPairs yX3_turnPairs, Cond.code yX3_turnPairs cX3_turnPairs 5 none, Cond.methodLink RX3 35 yX3_shareOf, Cond.instanceMethod yX3_shareOf, Cond.selects RX3 yX3_shareOf yX3_shareOf, Cond.code yX3_shareOf cX3_shareOf 2 (some .int), Cond.methodLink RX3 46 yX4_floor, Cond.instanceMethod yX4_floor, Cond.selects RX4 yX4_floor yX4_floor]
def wsX5_keyAt_r3 : List Cond := [Cond.code yX4_floor cX4_floor 1 (some .int), Cond.fieldLink RX4 18 "SoundPictures$State" "floor" "I", Cond.methodLink RX5 122 yX4_reach, Cond.instanceMethod yX4_reach, Cond.selects RX4 yX4_reach yX4_reach, Cond.code yX4_reach cX4_reach 1 (some .int), Cond.fieldLink RX4 22 "SoundPictures$State" "reach" "I", Cond.methodLink RX5 218 yX1_write, Cond.instanceMethod yX1_write, Cond.selects RX1 yX1_write yX1_write, Cond.initialized RX1, Cond.code yX1_write cX1_write 3 none, Cond.methodLink RX1 29 yX1_countKeys, Cond.instanceMethod yX1_countKeys, Cond.selects RX1 yX1_countKeys yX1_countKeys, Cond.code yX1_countKeys cX1_countKeys 7 none, Cond.fieldLink RX1 15 "SoundPictures$Ledger" "filled" "[I", Cond.methodLink RX1 39 yX3_keyOf, Cond.instanceMethod yX3_keyOf, Cond.selects RX3 yX3_keyOf yX3_keyOf, Cond.code yX3_keyOf cX3_keyOf 7 (some .int), Cond.methodLink RX3 38 yX3_peakOf, Cond.instanceMethod yX3_peakOf, Cond.selects RX3 yX3_peakOf yX3_peakOf]
def wsX5_keyAt_r4 : List Cond := [Cond.code yX3_peakOf cX3_peakOf 3 (some .int), Cond.methodLink RX1 33 yX1_setStarts, Cond.instanceMethod yX1_setStarts, Cond.selects RX1 yX1_setStarts yX1_setStarts, Cond.code yX1_setStarts cX1_setStarts 2 none, Cond.fieldLink RX1 21 "SoundPictures$Ledger" "unlike" "I", Cond.fieldLink RX1 9 "SoundPictures$Ledger" "starts" "[I", Cond.methodLink RX1 36 yX1_fillEntries, Cond.instanceMethod yX1_fillEntries, Cond.selects RX1 yX1_fillEntries yX1_fillEntries, Cond.code yX1_fillEntries cX1_fillEntries 7 none, Cond.fieldLink RX1 18 "SoundPictures$Ledger" "entries" "[I", Cond.methodLink RX5 222 yX0_cast, Cond.instanceMethod yX0_cast, Cond.selects RX0 yX0_cast yX0_cast, Cond.initialized RX0, Cond.code yX0_cast cX0_cast 7 none, Cond.fieldLink RX0 18 "SoundPictures$Ballot" "heard" "I", Cond.methodLink RX0 38 yX0_clear, Cond.instanceMethod yX0_clear, Cond.selects RX0 yX0_clear yX0_clear, Cond.code yX0_clear cX0_clear 2 none, Cond.fieldLink RX0 9 "SoundPictures$Ballot" "cells" "[I", Cond.fieldLink RX0 28 "SoundPictures$Ballot" "ranked" "I"]
def wsX5_keyAt_r5 : List Cond := [Cond.fieldLink RX0 22 "SoundPictures$Ballot" "known" "I", Cond.fieldLink RX0 25 "SoundPictures$Ballot" "all" "I", Cond.methodLink RX0 41 yX3_keyOf, Cond.methodLink RX0 47 yX0_castFor, Cond.instanceMethod yX0_castFor, Cond.selects RX0 yX0_castFor yX0_castFor, Cond.code yX0_castFor cX0_castFor 9 none, Cond.methodLink RX0 54 yX1_placesOf, Cond.instanceMethod yX1_placesOf, Cond.selects RX1 yX1_placesOf yX1_placesOf, Cond.code yX1_placesOf cX1_placesOf 2 (some .int), Cond.methodLink RX0 59 yX1_placeOf, Cond.instanceMethod yX1_placeOf, Cond.selects RX1 yX1_placeOf yX1_placeOf, Cond.code yX1_placeOf cX1_placeOf 3 (some .int), Cond.methodLink RX1 25 yX1_placesOf, Cond.methodLink RX0 51 yX0_rankCells, Cond.instanceMethod yX0_rankCells, Cond.selects RX0 yX0_rankCells yX0_rankCells, Cond.code yX0_rankCells cX0_rankCells 3 none, Cond.fieldLink RX0 15 "SoundPictures$Ballot" "order" "[I", Cond.methodLink RX5 183 yX1_keyByRise, Cond.instanceMethod yX1_keyByRise, Cond.selects RX1 yX1_keyByRise yX1_keyByRise]
def wsX5_keyAt_r6 : List Cond := [Cond.code yX1_keyByRise cX1_keyByRise 4 (some .int)]
def wsX5_keyAt : List Cond := .code yX5_keyAt cX5_keyAt 2 (some .int) :: ((wsX5_keyAt_r1 ++ (wsX5_keyAt_r2 ++ (wsX5_keyAt_r3 ++ (wsX5_keyAt_r4 ++ (wsX5_keyAt_r5 ++ wsX5_keyAt_r6))))) ++ wsX50 ++ wsX30 ++ wsX40 ++ wsX10 ++ wsX00)
def wsX5_places_r1 : List Cond := [Cond.constant RX5 61 (-1000000002), Cond.fieldLink RX5 37 "SoundPictures" "ledger" "LSoundPictures$Ledger;", Cond.methodLink RX5 57 yX5_isWithin, Cond.static yX5_isWithin, Cond.initialized RX5, Cond.code yX5_isWithin cX5_isWithin 3 (some .boolean), Cond.methodLink RX5 116 yX5_refresh, Cond.instanceMethod yX5_refresh, Cond.selects RX5 yX5_refresh yX5_refresh, Cond.code yX5_refresh cX5_refresh 1 none, Cond.fieldLink RX5 48 "SoundPictures" "fresh" "Z", Cond.fieldLink RX5 30 "SoundPictures" "peaks" "LSoundPictures$Peaks;", Cond.fieldLink RX5 10 "SoundPictures" "now" "LSoundPictures$State;", Cond.fieldLink RX5 44 "SoundPictures" "ballot" "LSoundPictures$Ballot;", Cond.methodLink RX5 215 yX3_look, Cond.instanceMethod yX3_look, Cond.selects RX3 yX3_look yX3_look, Cond.initialized RX3, Cond.code yX3_look cX3_look 6 none, Cond.fieldLink RX3 15 "SoundPictures$Peaks" "found" "[I", Cond.methodLink RX3 21 yX4_windowsOf, Cond.instanceMethod yX4_windowsOf, Cond.selects RX4 yX4_windowsOf yX4_windowsOf, Cond.initialized RX4]
def wsX5_places_r2 : List Cond := [Cond.code yX4_windowsOf cX4_windowsOf 2 (some .int), Cond.fieldLink RX4 15 "SoundPictures$State" "sizes" "[I", Cond.methodLink RX3 27 yX3_findPeak, Cond.instanceMethod yX3_findPeak, Cond.selects RX3 yX3_findPeak yX3_findPeak, Cond.code yX3_findPeak cX3_findPeak 6 (some .int), Cond.methodLink RX3 31 yX3_turn, Cond.instanceMethod yX3_turn, Cond.selects RX3 yX3_turn yX3_turn, Cond.code yX3_turn cX3_turn 5 none, Cond.fieldLink RX3 9 "SoundPictures$Peaks" "waves" "[I", Cond.methodLink RX3 50 yX4_numberAt, Cond.instanceMethod yX4_numberAt, Cond.selects RX4 yX4_numberAt yX4_numberAt, Cond.code yX4_numberAt cX4_numberAt 3 (some .int), Cond.fieldLink RX4 9 "SoundPictures$State" "numbers" "[I", Cond.methodLink RX3 53 yX3_turnPairs, Cond.instanceMethod yX3_turnPairs, Cond.selects RX3 yX3_turnPairs yX3_turnPairs, Cond.code yX3_turnPairs cX3_turnPairs 5 none, Cond.methodLink RX3 35 yX3_shareOf, Cond.instanceMethod yX3_shareOf, Cond.selects RX3 yX3_shareOf yX3_shareOf, Cond.code yX3_shareOf cX3_shareOf 2 (some .int)]
def wsX5_places_r3 : List Cond := [Cond.methodLink RX3 46 yX4_floor, Cond.instanceMethod yX4_floor, Cond.selects RX4 yX4_floor yX4_floor, Cond.code yX4_floor cX4_floor 1 (some .int), Cond.fieldLink RX4 18 "SoundPictures$State" "floor" "I", Cond.methodLink RX5 122 yX4_reach, Cond.instanceMethod yX4_reach, Cond.selects RX4 yX4_reach yX4_reach, Cond.code yX4_reach cX4_reach 1 (some .int), Cond.fieldLink RX4 22 "SoundPictures$State" "reach" "I", Cond.methodLink RX5 218 yX1_write, Cond.instanceMethod yX1_write, Cond.selects RX1 yX1_write yX1_write, Cond.initialized RX1, Cond.code yX1_write cX1_write 3 none, Cond.methodLink RX1 29 yX1_countKeys, Cond.instanceMethod yX1_countKeys, Cond.selects RX1 yX1_countKeys yX1_countKeys, Cond.code yX1_countKeys cX1_countKeys 7 none, Cond.fieldLink RX1 15 "SoundPictures$Ledger" "filled" "[I", Cond.methodLink RX1 39 yX3_keyOf, Cond.instanceMethod yX3_keyOf, Cond.selects RX3 yX3_keyOf yX3_keyOf, Cond.code yX3_keyOf cX3_keyOf 7 (some .int)]
def wsX5_places_r4 : List Cond := [Cond.methodLink RX3 38 yX3_peakOf, Cond.instanceMethod yX3_peakOf, Cond.selects RX3 yX3_peakOf yX3_peakOf, Cond.code yX3_peakOf cX3_peakOf 3 (some .int), Cond.methodLink RX1 33 yX1_setStarts, Cond.instanceMethod yX1_setStarts, Cond.selects RX1 yX1_setStarts yX1_setStarts, Cond.code yX1_setStarts cX1_setStarts 2 none, Cond.fieldLink RX1 21 "SoundPictures$Ledger" "unlike" "I", Cond.fieldLink RX1 9 "SoundPictures$Ledger" "starts" "[I", Cond.methodLink RX1 36 yX1_fillEntries, Cond.instanceMethod yX1_fillEntries, Cond.selects RX1 yX1_fillEntries yX1_fillEntries, Cond.code yX1_fillEntries cX1_fillEntries 7 none, Cond.fieldLink RX1 18 "SoundPictures$Ledger" "entries" "[I", Cond.methodLink RX5 222 yX0_cast, Cond.instanceMethod yX0_cast, Cond.selects RX0 yX0_cast yX0_cast, Cond.initialized RX0, Cond.code yX0_cast cX0_cast 7 none, Cond.fieldLink RX0 18 "SoundPictures$Ballot" "heard" "I", Cond.methodLink RX0 38 yX0_clear, Cond.instanceMethod yX0_clear, Cond.selects RX0 yX0_clear yX0_clear]
def wsX5_places_r5 : List Cond := [Cond.code yX0_clear cX0_clear 2 none, Cond.fieldLink RX0 9 "SoundPictures$Ballot" "cells" "[I", Cond.fieldLink RX0 28 "SoundPictures$Ballot" "ranked" "I", Cond.fieldLink RX0 22 "SoundPictures$Ballot" "known" "I", Cond.fieldLink RX0 25 "SoundPictures$Ballot" "all" "I", Cond.methodLink RX0 41 yX3_keyOf, Cond.methodLink RX0 47 yX0_castFor, Cond.instanceMethod yX0_castFor, Cond.selects RX0 yX0_castFor yX0_castFor, Cond.code yX0_castFor cX0_castFor 9 none, Cond.methodLink RX0 54 yX1_placesOf, Cond.instanceMethod yX1_placesOf, Cond.selects RX1 yX1_placesOf yX1_placesOf, Cond.code yX1_placesOf cX1_placesOf 2 (some .int), Cond.methodLink RX0 59 yX1_placeOf, Cond.instanceMethod yX1_placeOf, Cond.selects RX1 yX1_placeOf yX1_placeOf, Cond.code yX1_placeOf cX1_placeOf 3 (some .int), Cond.methodLink RX1 25 yX1_placesOf, Cond.methodLink RX0 51 yX0_rankCells, Cond.instanceMethod yX0_rankCells, Cond.selects RX0 yX0_rankCells yX0_rankCells, Cond.code yX0_rankCells cX0_rankCells 3 none, Cond.fieldLink RX0 15 "SoundPictures$Ballot" "order" "[I"]
def wsX5_places_r6 : List Cond := [Cond.methodLink RX5 186 yX1_placesOf]
def wsX5_places : List Cond := .code yX5_places cX5_places 2 (some .int) :: ((wsX5_places_r1 ++ (wsX5_places_r2 ++ (wsX5_places_r3 ++ (wsX5_places_r4 ++ (wsX5_places_r5 ++ wsX5_places_r6))))) ++ wsX50 ++ wsX30 ++ wsX40 ++ wsX10 ++ wsX00)
def wsX5_place_r1 : List Cond := [Cond.constant RX5 61 (-1000000002), Cond.fieldLink RX5 37 "SoundPictures" "ledger" "LSoundPictures$Ledger;", Cond.methodLink RX5 57 yX5_isWithin, Cond.static yX5_isWithin, Cond.initialized RX5, Cond.code yX5_isWithin cX5_isWithin 3 (some .boolean), Cond.methodLink RX5 116 yX5_refresh, Cond.instanceMethod yX5_refresh, Cond.selects RX5 yX5_refresh yX5_refresh, Cond.code yX5_refresh cX5_refresh 1 none, Cond.fieldLink RX5 48 "SoundPictures" "fresh" "Z", Cond.fieldLink RX5 30 "SoundPictures" "peaks" "LSoundPictures$Peaks;", Cond.fieldLink RX5 10 "SoundPictures" "now" "LSoundPictures$State;", Cond.fieldLink RX5 44 "SoundPictures" "ballot" "LSoundPictures$Ballot;", Cond.methodLink RX5 215 yX3_look, Cond.instanceMethod yX3_look, Cond.selects RX3 yX3_look yX3_look, Cond.initialized RX3, Cond.code yX3_look cX3_look 6 none, Cond.fieldLink RX3 15 "SoundPictures$Peaks" "found" "[I", Cond.methodLink RX3 21 yX4_windowsOf, Cond.instanceMethod yX4_windowsOf, Cond.selects RX4 yX4_windowsOf yX4_windowsOf, Cond.initialized RX4]
def wsX5_place_r2 : List Cond := [Cond.code yX4_windowsOf cX4_windowsOf 2 (some .int), Cond.fieldLink RX4 15 "SoundPictures$State" "sizes" "[I", Cond.methodLink RX3 27 yX3_findPeak, Cond.instanceMethod yX3_findPeak, Cond.selects RX3 yX3_findPeak yX3_findPeak, Cond.code yX3_findPeak cX3_findPeak 6 (some .int), Cond.methodLink RX3 31 yX3_turn, Cond.instanceMethod yX3_turn, Cond.selects RX3 yX3_turn yX3_turn, Cond.code yX3_turn cX3_turn 5 none, Cond.fieldLink RX3 9 "SoundPictures$Peaks" "waves" "[I", Cond.methodLink RX3 50 yX4_numberAt, Cond.instanceMethod yX4_numberAt, Cond.selects RX4 yX4_numberAt yX4_numberAt, Cond.code yX4_numberAt cX4_numberAt 3 (some .int), Cond.fieldLink RX4 9 "SoundPictures$State" "numbers" "[I", Cond.methodLink RX3 53 yX3_turnPairs, Cond.instanceMethod yX3_turnPairs, Cond.selects RX3 yX3_turnPairs yX3_turnPairs, Cond.code yX3_turnPairs cX3_turnPairs 5 none, Cond.methodLink RX3 35 yX3_shareOf, Cond.instanceMethod yX3_shareOf, Cond.selects RX3 yX3_shareOf yX3_shareOf, Cond.code yX3_shareOf cX3_shareOf 2 (some .int)]
def wsX5_place_r3 : List Cond := [Cond.methodLink RX3 46 yX4_floor, Cond.instanceMethod yX4_floor, Cond.selects RX4 yX4_floor yX4_floor, Cond.code yX4_floor cX4_floor 1 (some .int), Cond.fieldLink RX4 18 "SoundPictures$State" "floor" "I", Cond.methodLink RX5 122 yX4_reach, Cond.instanceMethod yX4_reach, Cond.selects RX4 yX4_reach yX4_reach, Cond.code yX4_reach cX4_reach 1 (some .int), Cond.fieldLink RX4 22 "SoundPictures$State" "reach" "I", Cond.methodLink RX5 218 yX1_write, Cond.instanceMethod yX1_write, Cond.selects RX1 yX1_write yX1_write, Cond.initialized RX1, Cond.code yX1_write cX1_write 3 none, Cond.methodLink RX1 29 yX1_countKeys, Cond.instanceMethod yX1_countKeys, Cond.selects RX1 yX1_countKeys yX1_countKeys, Cond.code yX1_countKeys cX1_countKeys 7 none, Cond.fieldLink RX1 15 "SoundPictures$Ledger" "filled" "[I", Cond.methodLink RX1 39 yX3_keyOf, Cond.instanceMethod yX3_keyOf, Cond.selects RX3 yX3_keyOf yX3_keyOf, Cond.code yX3_keyOf cX3_keyOf 7 (some .int)]
def wsX5_place_r4 : List Cond := [Cond.methodLink RX3 38 yX3_peakOf, Cond.instanceMethod yX3_peakOf, Cond.selects RX3 yX3_peakOf yX3_peakOf, Cond.code yX3_peakOf cX3_peakOf 3 (some .int), Cond.methodLink RX1 33 yX1_setStarts, Cond.instanceMethod yX1_setStarts, Cond.selects RX1 yX1_setStarts yX1_setStarts, Cond.code yX1_setStarts cX1_setStarts 2 none, Cond.fieldLink RX1 21 "SoundPictures$Ledger" "unlike" "I", Cond.fieldLink RX1 9 "SoundPictures$Ledger" "starts" "[I", Cond.methodLink RX1 36 yX1_fillEntries, Cond.instanceMethod yX1_fillEntries, Cond.selects RX1 yX1_fillEntries yX1_fillEntries, Cond.code yX1_fillEntries cX1_fillEntries 7 none, Cond.fieldLink RX1 18 "SoundPictures$Ledger" "entries" "[I", Cond.methodLink RX5 222 yX0_cast, Cond.instanceMethod yX0_cast, Cond.selects RX0 yX0_cast yX0_cast, Cond.initialized RX0, Cond.code yX0_cast cX0_cast 7 none, Cond.fieldLink RX0 18 "SoundPictures$Ballot" "heard" "I", Cond.methodLink RX0 38 yX0_clear, Cond.instanceMethod yX0_clear, Cond.selects RX0 yX0_clear yX0_clear]
def wsX5_place_r5 : List Cond := [Cond.code yX0_clear cX0_clear 2 none, Cond.fieldLink RX0 9 "SoundPictures$Ballot" "cells" "[I", Cond.fieldLink RX0 28 "SoundPictures$Ballot" "ranked" "I", Cond.fieldLink RX0 22 "SoundPictures$Ballot" "known" "I", Cond.fieldLink RX0 25 "SoundPictures$Ballot" "all" "I", Cond.methodLink RX0 41 yX3_keyOf, Cond.methodLink RX0 47 yX0_castFor, Cond.instanceMethod yX0_castFor, Cond.selects RX0 yX0_castFor yX0_castFor, Cond.code yX0_castFor cX0_castFor 9 none, Cond.methodLink RX0 54 yX1_placesOf, Cond.instanceMethod yX1_placesOf, Cond.selects RX1 yX1_placesOf yX1_placesOf, Cond.code yX1_placesOf cX1_placesOf 2 (some .int), Cond.methodLink RX0 59 yX1_placeOf, Cond.instanceMethod yX1_placeOf, Cond.selects RX1 yX1_placeOf yX1_placeOf, Cond.code yX1_placeOf cX1_placeOf 3 (some .int), Cond.methodLink RX1 25 yX1_placesOf, Cond.methodLink RX0 51 yX0_rankCells, Cond.instanceMethod yX0_rankCells, Cond.selects RX0 yX0_rankCells yX0_rankCells, Cond.code yX0_rankCells cX0_rankCells 3 none, Cond.fieldLink RX0 15 "SoundPictures$Ballot" "order" "[I"]
def wsX5_place_r6 : List Cond := [Cond.methodLink RX5 189 yX1_placeOf]
def wsX5_place : List Cond := .code yX5_place cX5_place 3 (some .int) :: ((wsX5_place_r1 ++ (wsX5_place_r2 ++ (wsX5_place_r3 ++ (wsX5_place_r4 ++ (wsX5_place_r5 ++ wsX5_place_r6))))) ++ wsX50 ++ wsX30 ++ wsX40 ++ wsX10 ++ wsX00)
def wsX5_votes_r1 : List Cond := [Cond.constant RX5 56 (-1000000001), Cond.constant RX5 61 (-1000000002), Cond.fieldLink RX5 44 "SoundPictures" "ballot" "LSoundPictures$Ballot;", Cond.methodLink RX5 92 yX5_isPiece, Cond.static yX5_isPiece, Cond.initialized RX5, Cond.code yX5_isPiece cX5_isPiece 1 (some .boolean), Cond.methodLink RX5 57 yX5_isWithin, Cond.static yX5_isWithin, Cond.code yX5_isWithin cX5_isWithin 3 (some .boolean), Cond.methodLink RX5 116 yX5_refresh, Cond.instanceMethod yX5_refresh, Cond.selects RX5 yX5_refresh yX5_refresh, Cond.code yX5_refresh cX5_refresh 1 none, Cond.fieldLink RX5 48 "SoundPictures" "fresh" "Z", Cond.fieldLink RX5 30 "SoundPictures" "peaks" "LSoundPictures$Peaks;", Cond.fieldLink RX5 10 "SoundPictures" "now" "LSoundPictures$State;", Cond.fieldLink RX5 37 "SoundPictures" "ledger" "LSoundPictures$Ledger;", Cond.methodLink RX5 215 yX3_look, Cond.instanceMethod yX3_look, Cond.selects RX3 yX3_look yX3_look, Cond.initialized RX3, Cond.code yX3_look cX3_look 6 none, Cond.fieldLink RX3 15 "SoundPictures$Peaks" "found" "[I"]
def wsX5_votes_r2 : List Cond := [Cond.methodLink RX3 21 yX4_windowsOf, Cond.instanceMethod yX4_windowsOf, Cond.selects RX4 yX4_windowsOf yX4_windowsOf, Cond.initialized RX4, Cond.code yX4_windowsOf cX4_windowsOf 2 (some .int), Cond.fieldLink RX4 15 "SoundPictures$State" "sizes" "[I", Cond.methodLink RX3 27 yX3_findPeak, Cond.instanceMethod yX3_findPeak, Cond.selects RX3 yX3_findPeak yX3_findPeak, Cond.code yX3_findPeak cX3_findPeak 6 (some .int), Cond.methodLink RX3 31 yX3_turn, Cond.instanceMethod yX3_turn, Cond.selects RX3 yX3_turn yX3_turn, Cond.code yX3_turn cX3_turn 5 none, Cond.fieldLink RX3 9 "SoundPictures$Peaks" "waves" "[I", Cond.methodLink RX3 50 yX4_numberAt, Cond.instanceMethod yX4_numberAt, Cond.selects RX4 yX4_numberAt yX4_numberAt, Cond.code yX4_numberAt cX4_numberAt 3 (some .int), Cond.fieldLink RX4 9 "SoundPictures$State" "numbers" "[I", Cond.methodLink RX3 53 yX3_turnPairs, Cond.instanceMethod yX3_turnPairs, Cond.selects RX3 yX3_turnPairs yX3_turnPairs, Cond.code yX3_turnPairs cX3_turnPairs 5 none]
def wsX5_votes_r3 : List Cond := [Cond.methodLink RX3 35 yX3_shareOf, Cond.instanceMethod yX3_shareOf, Cond.selects RX3 yX3_shareOf yX3_shareOf, Cond.code yX3_shareOf cX3_shareOf 2 (some .int), Cond.methodLink RX3 46 yX4_floor, Cond.instanceMethod yX4_floor, Cond.selects RX4 yX4_floor yX4_floor, Cond.code yX4_floor cX4_floor 1 (some .int), Cond.fieldLink RX4 18 "SoundPictures$State" "floor" "I", Cond.methodLink RX5 122 yX4_reach, Cond.instanceMethod yX4_reach, Cond.selects RX4 yX4_reach yX4_reach, Cond.code yX4_reach cX4_reach 1 (some .int), Cond.fieldLink RX4 22 "SoundPictures$State" "reach" "I", Cond.methodLink RX5 218 yX1_write, Cond.instanceMethod yX1_write, Cond.selects RX1 yX1_write yX1_write, Cond.initialized RX1, Cond.code yX1_write cX1_write 3 none, Cond.methodLink RX1 29 yX1_countKeys, Cond.instanceMethod yX1_countKeys, Cond.selects RX1 yX1_countKeys yX1_countKeys, Cond.code yX1_countKeys cX1_countKeys 7 none, Cond.fieldLink RX1 15 "SoundPictures$Ledger" "filled" "[I"]
def wsX5_votes_r4 : List Cond := [Cond.methodLink RX1 39 yX3_keyOf, Cond.instanceMethod yX3_keyOf, Cond.selects RX3 yX3_keyOf yX3_keyOf, Cond.code yX3_keyOf cX3_keyOf 7 (some .int), Cond.methodLink RX3 38 yX3_peakOf, Cond.instanceMethod yX3_peakOf, Cond.selects RX3 yX3_peakOf yX3_peakOf, Cond.code yX3_peakOf cX3_peakOf 3 (some .int), Cond.methodLink RX1 33 yX1_setStarts, Cond.instanceMethod yX1_setStarts, Cond.selects RX1 yX1_setStarts yX1_setStarts, Cond.code yX1_setStarts cX1_setStarts 2 none, Cond.fieldLink RX1 21 "SoundPictures$Ledger" "unlike" "I", Cond.fieldLink RX1 9 "SoundPictures$Ledger" "starts" "[I", Cond.methodLink RX1 36 yX1_fillEntries, Cond.instanceMethod yX1_fillEntries, Cond.selects RX1 yX1_fillEntries yX1_fillEntries, Cond.code yX1_fillEntries cX1_fillEntries 7 none, Cond.fieldLink RX1 18 "SoundPictures$Ledger" "entries" "[I", Cond.methodLink RX5 222 yX0_cast, Cond.instanceMethod yX0_cast, Cond.selects RX0 yX0_cast yX0_cast, Cond.initialized RX0, Cond.code yX0_cast cX0_cast 7 none]
def wsX5_votes_r5 : List Cond := [Cond.fieldLink RX0 18 "SoundPictures$Ballot" "heard" "I", Cond.methodLink RX0 38 yX0_clear, Cond.instanceMethod yX0_clear, Cond.selects RX0 yX0_clear yX0_clear, Cond.code yX0_clear cX0_clear 2 none, Cond.fieldLink RX0 9 "SoundPictures$Ballot" "cells" "[I", Cond.fieldLink RX0 28 "SoundPictures$Ballot" "ranked" "I", Cond.fieldLink RX0 22 "SoundPictures$Ballot" "known" "I", Cond.fieldLink RX0 25 "SoundPictures$Ballot" "all" "I", Cond.methodLink RX0 41 yX3_keyOf, Cond.methodLink RX0 47 yX0_castFor, Cond.instanceMethod yX0_castFor, Cond.selects RX0 yX0_castFor yX0_castFor, Cond.code yX0_castFor cX0_castFor 9 none, Cond.methodLink RX0 54 yX1_placesOf, Cond.instanceMethod yX1_placesOf, Cond.selects RX1 yX1_placesOf yX1_placesOf, Cond.code yX1_placesOf cX1_placesOf 2 (some .int), Cond.methodLink RX0 59 yX1_placeOf, Cond.instanceMethod yX1_placeOf, Cond.selects RX1 yX1_placeOf yX1_placeOf, Cond.code yX1_placeOf cX1_placeOf 3 (some .int), Cond.methodLink RX1 25 yX1_placesOf, Cond.methodLink RX0 51 yX0_rankCells]
def wsX5_votes_r6 : List Cond := [Cond.instanceMethod yX0_rankCells, Cond.selects RX0 yX0_rankCells yX0_rankCells, Cond.code yX0_rankCells cX0_rankCells 3 none, Cond.fieldLink RX0 15 "SoundPictures$Ballot" "order" "[I", Cond.methodLink RX5 192 yX0_votesFor, Cond.instanceMethod yX0_votesFor, Cond.selects RX0 yX0_votesFor yX0_votesFor, Cond.code yX0_votesFor cX0_votesFor 3 (some .int)]
def wsX5_votes : List Cond := .code yX5_votes cX5_votes 3 (some .int) :: ((wsX5_votes_r1 ++ (wsX5_votes_r2 ++ (wsX5_votes_r3 ++ (wsX5_votes_r4 ++ (wsX5_votes_r5 ++ wsX5_votes_r6))))) ++ wsX50 ++ wsX30 ++ wsX40 ++ wsX10 ++ wsX00)
def wsX5_rank_r1 : List Cond := [Cond.constant RX5 61 (-1000000002), Cond.fieldLink RX5 44 "SoundPictures" "ballot" "LSoundPictures$Ballot;", Cond.methodLink RX5 57 yX5_isWithin, Cond.static yX5_isWithin, Cond.initialized RX5, Cond.code yX5_isWithin cX5_isWithin 3 (some .boolean), Cond.methodLink RX5 116 yX5_refresh, Cond.instanceMethod yX5_refresh, Cond.selects RX5 yX5_refresh yX5_refresh, Cond.code yX5_refresh cX5_refresh 1 none, Cond.fieldLink RX5 48 "SoundPictures" "fresh" "Z", Cond.fieldLink RX5 30 "SoundPictures" "peaks" "LSoundPictures$Peaks;", Cond.fieldLink RX5 10 "SoundPictures" "now" "LSoundPictures$State;", Cond.fieldLink RX5 37 "SoundPictures" "ledger" "LSoundPictures$Ledger;", Cond.methodLink RX5 215 yX3_look, Cond.instanceMethod yX3_look, Cond.selects RX3 yX3_look yX3_look, Cond.initialized RX3, Cond.code yX3_look cX3_look 6 none, Cond.fieldLink RX3 15 "SoundPictures$Peaks" "found" "[I", Cond.methodLink RX3 21 yX4_windowsOf, Cond.instanceMethod yX4_windowsOf, Cond.selects RX4 yX4_windowsOf yX4_windowsOf, Cond.initialized RX4]
def wsX5_rank_r2 : List Cond := [Cond.code yX4_windowsOf cX4_windowsOf 2 (some .int), Cond.fieldLink RX4 15 "SoundPictures$State" "sizes" "[I", Cond.methodLink RX3 27 yX3_findPeak, Cond.instanceMethod yX3_findPeak, Cond.selects RX3 yX3_findPeak yX3_findPeak, Cond.code yX3_findPeak cX3_findPeak 6 (some .int), Cond.methodLink RX3 31 yX3_turn, Cond.instanceMethod yX3_turn, Cond.selects RX3 yX3_turn yX3_turn, Cond.code yX3_turn cX3_turn 5 none, Cond.fieldLink RX3 9 "SoundPictures$Peaks" "waves" "[I", Cond.methodLink RX3 50 yX4_numberAt, Cond.instanceMethod yX4_numberAt, Cond.selects RX4 yX4_numberAt yX4_numberAt, Cond.code yX4_numberAt cX4_numberAt 3 (some .int), Cond.fieldLink RX4 9 "SoundPictures$State" "numbers" "[I", Cond.methodLink RX3 53 yX3_turnPairs, Cond.instanceMethod yX3_turnPairs, Cond.selects RX3 yX3_turnPairs yX3_turnPairs, Cond.code yX3_turnPairs cX3_turnPairs 5 none, Cond.methodLink RX3 35 yX3_shareOf, Cond.instanceMethod yX3_shareOf, Cond.selects RX3 yX3_shareOf yX3_shareOf, Cond.code yX3_shareOf cX3_shareOf 2 (some .int)]
def wsX5_rank_r3 : List Cond := [Cond.methodLink RX3 46 yX4_floor, Cond.instanceMethod yX4_floor, Cond.selects RX4 yX4_floor yX4_floor, Cond.code yX4_floor cX4_floor 1 (some .int), Cond.fieldLink RX4 18 "SoundPictures$State" "floor" "I", Cond.methodLink RX5 122 yX4_reach, Cond.instanceMethod yX4_reach, Cond.selects RX4 yX4_reach yX4_reach, Cond.code yX4_reach cX4_reach 1 (some .int), Cond.fieldLink RX4 22 "SoundPictures$State" "reach" "I", Cond.methodLink RX5 218 yX1_write, Cond.instanceMethod yX1_write, Cond.selects RX1 yX1_write yX1_write, Cond.initialized RX1, Cond.code yX1_write cX1_write 3 none, Cond.methodLink RX1 29 yX1_countKeys, Cond.instanceMethod yX1_countKeys, Cond.selects RX1 yX1_countKeys yX1_countKeys, Cond.code yX1_countKeys cX1_countKeys 7 none, Cond.fieldLink RX1 15 "SoundPictures$Ledger" "filled" "[I", Cond.methodLink RX1 39 yX3_keyOf, Cond.instanceMethod yX3_keyOf, Cond.selects RX3 yX3_keyOf yX3_keyOf, Cond.code yX3_keyOf cX3_keyOf 7 (some .int)]
def wsX5_rank_r4 : List Cond := [Cond.methodLink RX3 38 yX3_peakOf, Cond.instanceMethod yX3_peakOf, Cond.selects RX3 yX3_peakOf yX3_peakOf, Cond.code yX3_peakOf cX3_peakOf 3 (some .int), Cond.methodLink RX1 33 yX1_setStarts, Cond.instanceMethod yX1_setStarts, Cond.selects RX1 yX1_setStarts yX1_setStarts, Cond.code yX1_setStarts cX1_setStarts 2 none, Cond.fieldLink RX1 21 "SoundPictures$Ledger" "unlike" "I", Cond.fieldLink RX1 9 "SoundPictures$Ledger" "starts" "[I", Cond.methodLink RX1 36 yX1_fillEntries, Cond.instanceMethod yX1_fillEntries, Cond.selects RX1 yX1_fillEntries yX1_fillEntries, Cond.code yX1_fillEntries cX1_fillEntries 7 none, Cond.fieldLink RX1 18 "SoundPictures$Ledger" "entries" "[I", Cond.methodLink RX5 222 yX0_cast, Cond.instanceMethod yX0_cast, Cond.selects RX0 yX0_cast yX0_cast, Cond.initialized RX0, Cond.code yX0_cast cX0_cast 7 none, Cond.fieldLink RX0 18 "SoundPictures$Ballot" "heard" "I", Cond.methodLink RX0 38 yX0_clear, Cond.instanceMethod yX0_clear, Cond.selects RX0 yX0_clear yX0_clear]
def wsX5_rank_r5 : List Cond := [Cond.code yX0_clear cX0_clear 2 none, Cond.fieldLink RX0 9 "SoundPictures$Ballot" "cells" "[I", Cond.fieldLink RX0 28 "SoundPictures$Ballot" "ranked" "I", Cond.fieldLink RX0 22 "SoundPictures$Ballot" "known" "I", Cond.fieldLink RX0 25 "SoundPictures$Ballot" "all" "I", Cond.methodLink RX0 41 yX3_keyOf, Cond.methodLink RX0 47 yX0_castFor, Cond.instanceMethod yX0_castFor, Cond.selects RX0 yX0_castFor yX0_castFor, Cond.code yX0_castFor cX0_castFor 9 none, Cond.methodLink RX0 54 yX1_placesOf, Cond.instanceMethod yX1_placesOf, Cond.selects RX1 yX1_placesOf yX1_placesOf, Cond.code yX1_placesOf cX1_placesOf 2 (some .int), Cond.methodLink RX0 59 yX1_placeOf, Cond.instanceMethod yX1_placeOf, Cond.selects RX1 yX1_placeOf yX1_placeOf, Cond.code yX1_placeOf cX1_placeOf 3 (some .int), Cond.methodLink RX1 25 yX1_placesOf, Cond.methodLink RX0 51 yX0_rankCells, Cond.instanceMethod yX0_rankCells, Cond.selects RX0 yX0_rankCells yX0_rankCells, Cond.code yX0_rankCells cX0_rankCells 3 none, Cond.fieldLink RX0 15 "SoundPictures$Ballot" "order" "[I"]
def wsX5_rank_r6 : List Cond := [Cond.methodLink RX5 149 yX0_ranked, Cond.instanceMethod yX0_ranked, Cond.selects RX0 yX0_ranked yX0_ranked, Cond.code yX0_ranked cX0_ranked 1 (some .int), Cond.methodLink RX5 137 yX0_pieceOf, Cond.instanceMethod yX0_pieceOf, Cond.selects RX0 yX0_pieceOf yX0_pieceOf, Cond.code yX0_pieceOf cX0_pieceOf 2 (some .int), Cond.methodLink RX5 140 yX0_offsetOf, Cond.instanceMethod yX0_offsetOf, Cond.selects RX0 yX0_offsetOf yX0_offsetOf, Cond.code yX0_offsetOf cX0_offsetOf 2 (some .int), Cond.methodLink RX5 143 yX0_countOf, Cond.instanceMethod yX0_countOf, Cond.selects RX0 yX0_countOf yX0_countOf, Cond.code yX0_countOf cX0_countOf 2 (some .int)]
def wsX5_rank : List Cond := .code yX5_rank cX5_rank 3 (some .int) :: ((wsX5_rank_r1 ++ (wsX5_rank_r2 ++ (wsX5_rank_r3 ++ (wsX5_rank_r4 ++ (wsX5_rank_r5 ++ wsX5_rank_r6))))) ++ wsX50 ++ wsX30 ++ wsX40 ++ wsX10 ++ wsX00)
def wsX5_keep_r1 : List Cond := [Cond.constant RX5 56 (-1000000001), Cond.fieldLink RX5 23 "SoundPictures" "images" "[LSoundPictures$State;", Cond.classLink RX5 7 RX4, Cond.instantiable RX4 4, Cond.initialized RX4, Cond.fieldLink RX5 10 "SoundPictures" "now" "LSoundPictures$State;", Cond.fieldLink RX5 19 "SoundPictures" "past" "LSoundPictures$Past;", Cond.methodLink RX5 57 yX5_isWithin, Cond.static yX5_isWithin, Cond.initialized RX5, Cond.code yX5_isWithin cX5_isWithin 3 (some .boolean), Cond.methodLink RX5 9 yX4_init, Cond.instanceMethod yX4_init, Cond.code yX4_init cX4_init 1 none, Cond.methodLink RX4 3 objectInit, Cond.instanceMethod objectInit, Cond.code objectInit ⟨#[0xb1]⟩ 1 none, Cond.arrayClass .int, Cond.fieldLink RX4 9 "SoundPictures$State" "numbers" "[I", Cond.fieldLink RX4 15 "SoundPictures$State" "sizes" "[I", Cond.fieldLink RX4 18 "SoundPictures$State" "floor" "I", Cond.fieldLink RX4 22 "SoundPictures$State" "reach" "I", Cond.methodLink RX5 195 yX4_become, Cond.instanceMethod yX4_become]
def wsX5_keep_r2 : List Cond := [Cond.selects RX4 yX4_become yX4_become, Cond.code yX4_become cX4_become 2 none, Cond.methodLink RX4 34 arraycopyName, Cond.native arraycopyName, Cond.static arraycopyName, Cond.initialized "java/lang/System", Cond.methodLink RX5 198 yX2_forget, Cond.instanceMethod yX2_forget, Cond.selects RX2 yX2_forget yX2_forget, Cond.initialized RX2, Cond.code yX2_forget cX2_forget 1 none, Cond.fieldLink RX2 27 "SoundPictures$Past" "depth" "I"]
def wsX5_keep : List Cond := .code yX5_keep cX5_keep 3 (some .int) :: ((wsX5_keep_r1 ++ wsX5_keep_r2) ++ wsX50 ++ wsX40 ++ wsX20)
def wsX5_goBack_r1 : List Cond := [Cond.constant RX5 56 (-1000000001), Cond.fieldLink RX5 23 "SoundPictures" "images" "[LSoundPictures$State;", Cond.constant RX5 95 (-1000000003), Cond.fieldLink RX5 10 "SoundPictures" "now" "LSoundPictures$State;", Cond.fieldLink RX5 19 "SoundPictures" "past" "LSoundPictures$Past;", Cond.fieldLink RX5 48 "SoundPictures" "fresh" "Z", Cond.methodLink RX5 57 yX5_isWithin, Cond.static yX5_isWithin, Cond.initialized RX5, Cond.code yX5_isWithin cX5_isWithin 3 (some .boolean), Cond.methodLink RX5 195 yX4_become, Cond.instanceMethod yX4_become, Cond.selects RX4 yX4_become yX4_become, Cond.initialized RX4, Cond.code yX4_become cX4_become 2 none, Cond.fieldLink RX4 9 "SoundPictures$State" "numbers" "[I", Cond.methodLink RX4 34 arraycopyName, Cond.native arraycopyName, Cond.static arraycopyName, Cond.initialized "java/lang/System", Cond.fieldLink RX4 15 "SoundPictures$State" "sizes" "[I", Cond.fieldLink RX4 18 "SoundPictures$State" "floor" "I", Cond.fieldLink RX4 22 "SoundPictures$State" "reach" "I", Cond.methodLink RX5 198 yX2_forget]
def wsX5_goBack_r2 : List Cond := [Cond.instanceMethod yX2_forget, Cond.selects RX2 yX2_forget yX2_forget, Cond.initialized RX2, Cond.code yX2_forget cX2_forget 1 none, Cond.fieldLink RX2 27 "SoundPictures$Past" "depth" "I"]
def wsX5_goBack : List Cond := .code yX5_goBack cX5_goBack 3 (some .int) :: ((wsX5_goBack_r1 ++ wsX5_goBack_r2) ++ wsX50 ++ wsX40 ++ wsX20)
def wsX6_init : List Cond := .code yX6_init cX6_init 1 none :: ([.methodLink RX6 1 objectInit, .instanceMethod objectInit, .code objectInit ⟨#[0xb1]⟩ 1 none, .arrayClass .int, .fieldLink RX6 7 "SoundPicturesModel" "now" "[I", .fieldLink RX6 13 "SoundPicturesModel" "past" "[I", .fieldLink RX6 16 "SoundPicturesModel" "images" "[I", .arrayClass .boolean, .fieldLink RX6 19 "SoundPicturesModel" "kept" "[Z", .fieldLink RX6 23 "SoundPicturesModel" "turned" "[I", .fieldLink RX6 26 "SoundPicturesModel" "peaks" "[I", .fieldLink RX6 29 "SoundPicturesModel" "votes" "[I", .fieldLink RX6 32 "SoundPicturesModel" "ranked" "[Z"] ++ wsX60)
def wsX6_in : List Cond := .code yX6_in cX6_in 3 (some .boolean) :: ([])
def wsX6_isRow : List Cond := .code yX6_isRow cX6_isRow 1 (some .boolean) :: ([.methodLink RX6 35 yX6_in, .static yX6_in, .initialized RX6, .code yX6_in cX6_in 3 (some .boolean)])
def wsX6_windows : List Cond := .code yX6_windows cX6_windows 2 (some .int) :: ([.fieldLink RX6 7 "SoundPicturesModel" "now" "[I"] ++ wsX60)
def wsX6_isWindow : List Cond := .code yX6_isWindow cX6_isWindow 3 (some .boolean) :: ([.methodLink RX6 39 yX6_windows, .instanceMethod yX6_windows, .selects RX6 yX6_windows yX6_windows, .initialized RX6, .code yX6_windows cX6_windows 2 (some .int), .fieldLink RX6 7 "SoundPicturesModel" "now" "[I", .methodLink RX6 35 yX6_in, .static yX6_in, .code yX6_in cX6_in 3 (some .boolean)] ++ wsX60)
def wsX6_of : List Cond := .code yX6_of cX6_of 3 (some .int) :: ([.fieldLink RX6 7 "SoundPicturesModel" "now" "[I"] ++ wsX60)
def wsX6_put : List Cond := .code yX6_put cX6_put 4 none :: ([.fieldLink RX6 7 "SoundPicturesModel" "now" "[I"] ++ wsX60)
def wsX6_notes : List Cond := .code yX6_notes cX6_notes 2 none :: ([.fieldLink RX6 43 "SoundPicturesModel" "acts" "I", .fieldLink RX6 13 "SoundPicturesModel" "past" "[I", .fieldLink RX6 7 "SoundPicturesModel" "now" "[I"] ++ wsX60)
def wsX6_drawn : List Cond := .code yX6_drawn cX6_drawn 2 (some .long) :: ([.constantLong RX6 47 (16807), .constantLong RX6 49 (2147483647)])
def wsX6_bounded : List Cond := .code yX6_bounded cX6_bounded 1 (some .int) :: ([])
def wsX6_add : List Cond := .code yX6_add cX6_add 3 (some .int) :: ([.constant RX6 55 (-1000000001), .constant RX6 56 (-1000000002), .fieldLink RX6 7 "SoundPicturesModel" "now" "[I", .constant RX6 57 (-1000000004), .methodLink RX6 51 yX6_isRow, .static yX6_isRow, .initialized RX6, .code yX6_isRow cX6_isRow 1 (some .boolean), .methodLink RX6 35 yX6_in, .static yX6_in, .code yX6_in cX6_in 3 (some .boolean), .methodLink RX6 58 yX6_notes, .instanceMethod yX6_notes, .selects RX6 yX6_notes yX6_notes, .code yX6_notes cX6_notes 2 none, .fieldLink RX6 43 "SoundPicturesModel" "acts" "I", .fieldLink RX6 13 "SoundPicturesModel" "past" "[I", .methodLink RX6 61 yX6_put, .instanceMethod yX6_put, .selects RX6 yX6_put yX6_put, .code yX6_put cX6_put 4 none] ++ wsX60)
def wsX6_wipe : List Cond := .code yX6_wipe cX6_wipe 3 (some .int) :: ([.constant RX6 55 (-1000000001), .fieldLink RX6 7 "SoundPicturesModel" "now" "[I", .methodLink RX6 51 yX6_isRow, .static yX6_isRow, .initialized RX6, .code yX6_isRow cX6_isRow 1 (some .boolean), .methodLink RX6 35 yX6_in, .static yX6_in, .code yX6_in cX6_in 3 (some .boolean), .methodLink RX6 58 yX6_notes, .instanceMethod yX6_notes, .selects RX6 yX6_notes yX6_notes, .code yX6_notes cX6_notes 2 none, .fieldLink RX6 43 "SoundPicturesModel" "acts" "I", .fieldLink RX6 13 "SoundPicturesModel" "past" "[I"] ++ wsX60)
def wsX6_lots_r1 : List Cond := [Cond.constant RX6 55 (-1000000001), Cond.constant RX6 65 (999999), Cond.constant RX6 56 (-1000000002), Cond.constantLong RX6 70 (201), Cond.fieldLink RX6 7 "SoundPicturesModel" "now" "[I", Cond.methodLink RX6 51 yX6_isRow, Cond.static yX6_isRow, Cond.initialized RX6, Cond.code yX6_isRow cX6_isRow 1 (some .boolean), Cond.methodLink RX6 35 yX6_in, Cond.static yX6_in, Cond.code yX6_in cX6_in 3 (some .boolean), Cond.methodLink RX6 58 yX6_notes, Cond.instanceMethod yX6_notes, Cond.selects RX6 yX6_notes yX6_notes, Cond.code yX6_notes cX6_notes 2 none, Cond.fieldLink RX6 43 "SoundPicturesModel" "acts" "I", Cond.fieldLink RX6 13 "SoundPicturesModel" "past" "[I", Cond.methodLink RX6 66 yX6_drawn, Cond.static yX6_drawn, Cond.code yX6_drawn cX6_drawn 2 (some .long), Cond.constantLong RX6 47 (16807), Cond.constantLong RX6 49 (2147483647), Cond.methodLink RX6 61 yX6_put]
def wsX6_lots_r2 : List Cond := [Cond.instanceMethod yX6_put, Cond.selects RX6 yX6_put yX6_put, Cond.code yX6_put cX6_put 4 none, Cond.methodLink RX6 39 yX6_windows, Cond.instanceMethod yX6_windows, Cond.selects RX6 yX6_windows yX6_windows, Cond.code yX6_windows cX6_windows 2 (some .int)]
def wsX6_lots : List Cond := .code yX6_lots cX6_lots 7 (some .int) :: ((wsX6_lots_r1 ++ wsX6_lots_r2) ++ wsX60)
def wsX6_becomes : List Cond := .code yX6_becomes cX6_becomes 5 (some .int) :: ([.methodLink RX6 72 yX6_of, .instanceMethod yX6_of, .selects RX6 yX6_of yX6_of, .initialized RX6, .code yX6_of cX6_of 3 (some .int), .fieldLink RX6 7 "SoundPicturesModel" "now" "[I", .methodLink RX6 76 yX6_bounded, .static yX6_bounded, .code yX6_bounded cX6_bounded 1 (some .int), .methodLink RX6 61 yX6_put, .instanceMethod yX6_put, .selects RX6 yX6_put yX6_put, .code yX6_put cX6_put 4 none] ++ wsX60)
def wsX6_noise_r1 : List Cond := [Cond.constant RX6 55 (-1000000001), Cond.constant RX6 65 (999999), Cond.constant RX6 56 (-1000000002), Cond.fieldLink RX6 7 "SoundPicturesModel" "now" "[I", Cond.constantLong RX6 79 (2), Cond.methodLink RX6 51 yX6_isRow, Cond.static yX6_isRow, Cond.initialized RX6, Cond.code yX6_isRow cX6_isRow 1 (some .boolean), Cond.methodLink RX6 35 yX6_in, Cond.static yX6_in, Cond.code yX6_in cX6_in 3 (some .boolean), Cond.methodLink RX6 58 yX6_notes, Cond.instanceMethod yX6_notes, Cond.selects RX6 yX6_notes yX6_notes, Cond.code yX6_notes cX6_notes 2 none, Cond.fieldLink RX6 43 "SoundPicturesModel" "acts" "I", Cond.fieldLink RX6 13 "SoundPicturesModel" "past" "[I", Cond.methodLink RX6 66 yX6_drawn, Cond.static yX6_drawn, Cond.code yX6_drawn cX6_drawn 2 (some .long), Cond.constantLong RX6 47 (16807), Cond.constantLong RX6 49 (2147483647), Cond.methodLink RX6 72 yX6_of]
def wsX6_noise_r2 : List Cond := [Cond.instanceMethod yX6_of, Cond.selects RX6 yX6_of yX6_of, Cond.code yX6_of cX6_of 3 (some .int), Cond.methodLink RX6 81 yX6_becomes, Cond.instanceMethod yX6_becomes, Cond.selects RX6 yX6_becomes yX6_becomes, Cond.code yX6_becomes cX6_becomes 5 (some .int), Cond.methodLink RX6 76 yX6_bounded, Cond.static yX6_bounded, Cond.code yX6_bounded cX6_bounded 1 (some .int), Cond.methodLink RX6 61 yX6_put, Cond.instanceMethod yX6_put, Cond.selects RX6 yX6_put yX6_put, Cond.code yX6_put cX6_put 4 none]
def wsX6_noise : List Cond := .code yX6_noise cX6_noise 8 (some .int) :: ((wsX6_noise_r1 ++ wsX6_noise_r2) ++ wsX60)
def wsX6_louder_r1 : List Cond := [Cond.constant RX6 55 (-1000000001), Cond.constant RX6 56 (-1000000002), Cond.fieldLink RX6 7 "SoundPicturesModel" "now" "[I", Cond.methodLink RX6 51 yX6_isRow, Cond.static yX6_isRow, Cond.initialized RX6, Cond.code yX6_isRow cX6_isRow 1 (some .boolean), Cond.methodLink RX6 35 yX6_in, Cond.static yX6_in, Cond.code yX6_in cX6_in 3 (some .boolean), Cond.methodLink RX6 58 yX6_notes, Cond.instanceMethod yX6_notes, Cond.selects RX6 yX6_notes yX6_notes, Cond.code yX6_notes cX6_notes 2 none, Cond.fieldLink RX6 43 "SoundPicturesModel" "acts" "I", Cond.fieldLink RX6 13 "SoundPicturesModel" "past" "[I", Cond.methodLink RX6 72 yX6_of, Cond.instanceMethod yX6_of, Cond.selects RX6 yX6_of yX6_of, Cond.code yX6_of cX6_of 3 (some .int), Cond.methodLink RX6 81 yX6_becomes, Cond.instanceMethod yX6_becomes, Cond.selects RX6 yX6_becomes yX6_becomes, Cond.code yX6_becomes cX6_becomes 5 (some .int)]
def wsX6_louder_r2 : List Cond := [Cond.methodLink RX6 76 yX6_bounded, Cond.static yX6_bounded, Cond.code yX6_bounded cX6_bounded 1 (some .int), Cond.methodLink RX6 61 yX6_put, Cond.instanceMethod yX6_put, Cond.selects RX6 yX6_put yX6_put, Cond.code yX6_put cX6_put 4 none]
def wsX6_louder : List Cond := .code yX6_louder cX6_louder 6 (some .int) :: ((wsX6_louder_r1 ++ wsX6_louder_r2) ++ wsX60)
def wsX6_hear : List Cond := .code yX6_hear cX6_hear 7 (some .int) :: ([.constant RX6 55 (-1000000001), .constant RX6 56 (-1000000002), .fieldLink RX6 7 "SoundPicturesModel" "now" "[I", .constant RX6 85 (-1000000003), .methodLink RX6 35 yX6_in, .static yX6_in, .initialized RX6, .code yX6_in cX6_in 3 (some .boolean), .methodLink RX6 58 yX6_notes, .instanceMethod yX6_notes, .selects RX6 yX6_notes yX6_notes, .code yX6_notes cX6_notes 2 none, .fieldLink RX6 43 "SoundPicturesModel" "acts" "I", .fieldLink RX6 13 "SoundPicturesModel" "past" "[I", .methodLink RX6 72 yX6_of, .instanceMethod yX6_of, .selects RX6 yX6_of yX6_of, .code yX6_of cX6_of 3 (some .int), .methodLink RX6 61 yX6_put, .instanceMethod yX6_put, .selects RX6 yX6_put yX6_put, .code yX6_put cX6_put 4 none] ++ wsX60)
def wsX6_bound : List Cond := .code yX6_bound cX6_bound 5 (some .int) :: ([.constant RX6 86 (99999), .constant RX6 56 (-1000000002), .fieldLink RX6 7 "SoundPicturesModel" "now" "[I", .methodLink RX6 35 yX6_in, .static yX6_in, .initialized RX6, .code yX6_in cX6_in 3 (some .boolean), .methodLink RX6 58 yX6_notes, .instanceMethod yX6_notes, .selects RX6 yX6_notes yX6_notes, .code yX6_notes cX6_notes 2 none, .fieldLink RX6 43 "SoundPicturesModel" "acts" "I", .fieldLink RX6 13 "SoundPicturesModel" "past" "[I"] ++ wsX60)
def wsX6_undo : List Cond := .code yX6_undo cX6_undo 2 (some .int) :: ([.fieldLink RX6 43 "SoundPicturesModel" "acts" "I", .constant RX6 85 (-1000000003), .fieldLink RX6 7 "SoundPicturesModel" "now" "[I", .fieldLink RX6 13 "SoundPicturesModel" "past" "[I"] ++ wsX60)
def wsX6_turns : List Cond := .code yX6_turns cX6_turns 7 none :: ([.fieldLink RX6 23 "SoundPicturesModel" "turned" "[I", .methodLink RX6 72 yX6_of, .instanceMethod yX6_of, .selects RX6 yX6_of yX6_of, .initialized RX6, .code yX6_of cX6_of 3 (some .int), .fieldLink RX6 7 "SoundPicturesModel" "now" "[I"] ++ wsX60)
def wsX6_shareOf : List Cond := .code yX6_shareOf cX6_shareOf 2 (some .int) :: ([.fieldLink RX6 23 "SoundPicturesModel" "turned" "[I"] ++ wsX60)
def wsX6_peakOf : List Cond := .code yX6_peakOf cX6_peakOf 5 (some .int) :: ([.fieldLink RX6 7 "SoundPicturesModel" "now" "[I", .methodLink RX6 87 yX6_turns, .instanceMethod yX6_turns, .selects RX6 yX6_turns yX6_turns, .initialized RX6, .code yX6_turns cX6_turns 7 none, .fieldLink RX6 23 "SoundPicturesModel" "turned" "[I", .methodLink RX6 72 yX6_of, .instanceMethod yX6_of, .selects RX6 yX6_of yX6_of, .code yX6_of cX6_of 3 (some .int), .methodLink RX6 91 yX6_shareOf, .instanceMethod yX6_shareOf, .selects RX6 yX6_shareOf yX6_shareOf, .code yX6_shareOf cX6_shareOf 2 (some .int)] ++ wsX60)
def wsX6_findsPeaks : List Cond := .code yX6_findsPeaks cX6_findsPeaks 3 none :: ([.fieldLink RX6 26 "SoundPicturesModel" "peaks" "[I", .methodLink RX6 39 yX6_windows, .instanceMethod yX6_windows, .selects RX6 yX6_windows yX6_windows, .initialized RX6, .code yX6_windows cX6_windows 2 (some .int), .fieldLink RX6 7 "SoundPicturesModel" "now" "[I", .methodLink RX6 94 yX6_peakOf, .instanceMethod yX6_peakOf, .selects RX6 yX6_peakOf yX6_peakOf, .code yX6_peakOf cX6_peakOf 5 (some .int), .methodLink RX6 87 yX6_turns, .instanceMethod yX6_turns, .selects RX6 yX6_turns yX6_turns, .code yX6_turns cX6_turns 7 none, .fieldLink RX6 23 "SoundPicturesModel" "turned" "[I", .methodLink RX6 72 yX6_of, .instanceMethod yX6_of, .selects RX6 yX6_of yX6_of, .code yX6_of cX6_of 3 (some .int), .methodLink RX6 91 yX6_shareOf, .instanceMethod yX6_shareOf, .selects RX6 yX6_shareOf yX6_shareOf, .code yX6_shareOf cX6_shareOf 2 (some .int)] ++ wsX60)
def wsX6_keyOf : List Cond := .code yX6_keyOf cX6_keyOf 5 (some .int) :: ([.fieldLink RX6 7 "SoundPicturesModel" "now" "[I", .fieldLink RX6 26 "SoundPicturesModel" "peaks" "[I", .methodLink RX6 97 yX6_isWindow, .instanceMethod yX6_isWindow, .selects RX6 yX6_isWindow yX6_isWindow, .initialized RX6, .code yX6_isWindow cX6_isWindow 3 (some .boolean), .methodLink RX6 39 yX6_windows, .instanceMethod yX6_windows, .selects RX6 yX6_windows yX6_windows, .code yX6_windows cX6_windows 2 (some .int), .methodLink RX6 35 yX6_in, .static yX6_in, .code yX6_in cX6_in 3 (some .boolean)] ++ wsX60)
def wsX6_stands : List Cond := .code yX6_stands cX6_stands 4 (some .boolean) :: ([.methodLink RX6 101 yX6_keyOf, .instanceMethod yX6_keyOf, .selects RX6 yX6_keyOf yX6_keyOf, .initialized RX6, .code yX6_keyOf cX6_keyOf 5 (some .int), .fieldLink RX6 7 "SoundPicturesModel" "now" "[I", .fieldLink RX6 26 "SoundPicturesModel" "peaks" "[I", .methodLink RX6 97 yX6_isWindow, .instanceMethod yX6_isWindow, .selects RX6 yX6_isWindow yX6_isWindow, .code yX6_isWindow cX6_isWindow 3 (some .boolean), .methodLink RX6 39 yX6_windows, .instanceMethod yX6_windows, .selects RX6 yX6_windows yX6_windows, .code yX6_windows cX6_windows 2 (some .int), .methodLink RX6 35 yX6_in, .static yX6_in, .code yX6_in cX6_in 3 (some .boolean)] ++ wsX60)
def wsX6_placesOf : List Cond := .code yX6_placesOf cX6_placesOf 5 (some .int) :: ([.methodLink RX6 104 yX6_stands, .instanceMethod yX6_stands, .selects RX6 yX6_stands yX6_stands, .initialized RX6, .code yX6_stands cX6_stands 4 (some .boolean), .methodLink RX6 101 yX6_keyOf, .instanceMethod yX6_keyOf, .selects RX6 yX6_keyOf yX6_keyOf, .code yX6_keyOf cX6_keyOf 5 (some .int), .fieldLink RX6 7 "SoundPicturesModel" "now" "[I", .fieldLink RX6 26 "SoundPicturesModel" "peaks" "[I", .methodLink RX6 97 yX6_isWindow, .instanceMethod yX6_isWindow, .selects RX6 yX6_isWindow yX6_isWindow, .code yX6_isWindow cX6_isWindow 3 (some .boolean), .methodLink RX6 39 yX6_windows, .instanceMethod yX6_windows, .selects RX6 yX6_windows yX6_windows, .code yX6_windows cX6_windows 2 (some .int), .methodLink RX6 35 yX6_in, .static yX6_in, .code yX6_in cX6_in 3 (some .boolean)] ++ wsX60)
def wsX6_keysOf : List Cond := .code yX6_keysOf cX6_keysOf 5 (some .int) :: ([.methodLink RX6 101 yX6_keyOf, .instanceMethod yX6_keyOf, .selects RX6 yX6_keyOf yX6_keyOf, .initialized RX6, .code yX6_keyOf cX6_keyOf 5 (some .int), .fieldLink RX6 7 "SoundPicturesModel" "now" "[I", .fieldLink RX6 26 "SoundPicturesModel" "peaks" "[I", .methodLink RX6 97 yX6_isWindow, .instanceMethod yX6_isWindow, .selects RX6 yX6_isWindow yX6_isWindow, .code yX6_isWindow cX6_isWindow 3 (some .boolean), .methodLink RX6 39 yX6_windows, .instanceMethod yX6_windows, .selects RX6 yX6_windows yX6_windows, .code yX6_windows cX6_windows 2 (some .int), .methodLink RX6 35 yX6_in, .static yX6_in, .code yX6_in cX6_in 3 (some .boolean)] ++ wsX60)
def wsX6_counts_r1 : List Cond := [Cond.fieldLink RX6 29 "SoundPicturesModel" "votes" "[I", Cond.fieldLink RX6 32 "SoundPicturesModel" "ranked" "[Z", Cond.methodLink RX6 107 yX6_findsPeaks, Cond.instanceMethod yX6_findsPeaks, Cond.selects RX6 yX6_findsPeaks yX6_findsPeaks, Cond.initialized RX6, Cond.code yX6_findsPeaks cX6_findsPeaks 3 none, Cond.fieldLink RX6 26 "SoundPicturesModel" "peaks" "[I", Cond.methodLink RX6 39 yX6_windows, Cond.instanceMethod yX6_windows, Cond.selects RX6 yX6_windows yX6_windows, Cond.code yX6_windows cX6_windows 2 (some .int), Cond.fieldLink RX6 7 "SoundPicturesModel" "now" "[I", Cond.methodLink RX6 94 yX6_peakOf, Cond.instanceMethod yX6_peakOf, Cond.selects RX6 yX6_peakOf yX6_peakOf, Cond.code yX6_peakOf cX6_peakOf 5 (some .int), Cond.methodLink RX6 87 yX6_turns, Cond.instanceMethod yX6_turns, Cond.selects RX6 yX6_turns yX6_turns, Cond.code yX6_turns cX6_turns 7 none, Cond.fieldLink RX6 23 "SoundPicturesModel" "turned" "[I", Cond.methodLink RX6 72 yX6_of, Cond.instanceMethod yX6_of]
def wsX6_counts_r2 : List Cond := [Cond.selects RX6 yX6_of yX6_of, Cond.code yX6_of cX6_of 3 (some .int), Cond.methodLink RX6 91 yX6_shareOf, Cond.instanceMethod yX6_shareOf, Cond.selects RX6 yX6_shareOf yX6_shareOf, Cond.code yX6_shareOf cX6_shareOf 2 (some .int), Cond.methodLink RX6 101 yX6_keyOf, Cond.instanceMethod yX6_keyOf, Cond.selects RX6 yX6_keyOf yX6_keyOf, Cond.code yX6_keyOf cX6_keyOf 5 (some .int), Cond.methodLink RX6 97 yX6_isWindow, Cond.instanceMethod yX6_isWindow, Cond.selects RX6 yX6_isWindow yX6_isWindow, Cond.code yX6_isWindow cX6_isWindow 3 (some .boolean), Cond.methodLink RX6 35 yX6_in, Cond.static yX6_in, Cond.code yX6_in cX6_in 3 (some .boolean), Cond.methodLink RX6 104 yX6_stands, Cond.instanceMethod yX6_stands, Cond.selects RX6 yX6_stands yX6_stands, Cond.code yX6_stands cX6_stands 4 (some .boolean)]
def wsX6_counts : List Cond := .code yX6_counts cX6_counts 7 none :: ((wsX6_counts_r1 ++ wsX6_counts_r2) ++ wsX60)
def wsX6_best : List Cond := .code yX6_best cX6_best 5 (some .int) :: ([.fieldLink RX6 29 "SoundPicturesModel" "votes" "[I", .fieldLink RX6 32 "SoundPicturesModel" "ranked" "[Z"] ++ wsX60)
def wsX6_doubt : List Cond := .code yX6_doubt cX6_doubt 3 (some .int) :: ([.fieldLink RX6 29 "SoundPicturesModel" "votes" "[I", .methodLink RX6 110 yX6_best, .instanceMethod yX6_best, .selects RX6 yX6_best yX6_best, .initialized RX6, .code yX6_best cX6_best 5 (some .int), .fieldLink RX6 32 "SoundPicturesModel" "ranked" "[Z"] ++ wsX60)
def wsX6_ledger_r1 : List Cond := [Cond.methodLink RX6 113 yX6_placesOf, Cond.instanceMethod yX6_placesOf, Cond.selects RX6 yX6_placesOf yX6_placesOf, Cond.initialized RX6, Cond.code yX6_placesOf cX6_placesOf 5 (some .int), Cond.methodLink RX6 104 yX6_stands, Cond.instanceMethod yX6_stands, Cond.selects RX6 yX6_stands yX6_stands, Cond.code yX6_stands cX6_stands 4 (some .boolean), Cond.methodLink RX6 101 yX6_keyOf, Cond.instanceMethod yX6_keyOf, Cond.selects RX6 yX6_keyOf yX6_keyOf, Cond.code yX6_keyOf cX6_keyOf 5 (some .int), Cond.fieldLink RX6 7 "SoundPicturesModel" "now" "[I", Cond.fieldLink RX6 26 "SoundPicturesModel" "peaks" "[I", Cond.methodLink RX6 97 yX6_isWindow, Cond.instanceMethod yX6_isWindow, Cond.selects RX6 yX6_isWindow yX6_isWindow, Cond.code yX6_isWindow cX6_isWindow 3 (some .boolean), Cond.methodLink RX6 39 yX6_windows, Cond.instanceMethod yX6_windows, Cond.selects RX6 yX6_windows yX6_windows, Cond.code yX6_windows cX6_windows 2 (some .int), Cond.methodLink RX6 35 yX6_in]
def wsX6_ledger_r2 : List Cond := [Cond.static yX6_in, Cond.code yX6_in cX6_in 3 (some .boolean)]
def wsX6_ledger : List Cond := .code yX6_ledger cX6_ledger 5 (some .int) :: ((wsX6_ledger_r1 ++ wsX6_ledger_r2) ++ wsX60)
def wsX6_known_r1 : List Cond := [Cond.methodLink RX6 101 yX6_keyOf, Cond.instanceMethod yX6_keyOf, Cond.selects RX6 yX6_keyOf yX6_keyOf, Cond.initialized RX6, Cond.code yX6_keyOf cX6_keyOf 5 (some .int), Cond.fieldLink RX6 7 "SoundPicturesModel" "now" "[I", Cond.fieldLink RX6 26 "SoundPicturesModel" "peaks" "[I", Cond.methodLink RX6 97 yX6_isWindow, Cond.instanceMethod yX6_isWindow, Cond.selects RX6 yX6_isWindow yX6_isWindow, Cond.code yX6_isWindow cX6_isWindow 3 (some .boolean), Cond.methodLink RX6 39 yX6_windows, Cond.instanceMethod yX6_windows, Cond.selects RX6 yX6_windows yX6_windows, Cond.code yX6_windows cX6_windows 2 (some .int), Cond.methodLink RX6 35 yX6_in, Cond.static yX6_in, Cond.code yX6_in cX6_in 3 (some .boolean), Cond.methodLink RX6 113 yX6_placesOf, Cond.instanceMethod yX6_placesOf, Cond.selects RX6 yX6_placesOf yX6_placesOf, Cond.code yX6_placesOf cX6_placesOf 5 (some .int), Cond.methodLink RX6 104 yX6_stands, Cond.instanceMethod yX6_stands]
def wsX6_known_r2 : List Cond := [Cond.selects RX6 yX6_stands yX6_stands, Cond.code yX6_stands cX6_stands 4 (some .boolean)]
def wsX6_known : List Cond := .code yX6_known cX6_known 5 (some .int) :: ((wsX6_known_r1 ++ wsX6_known_r2) ++ wsX60)
def wsX6_allVotes : List Cond := .code yX6_allVotes cX6_allVotes 4 (some .int) :: ([.fieldLink RX6 29 "SoundPicturesModel" "votes" "[I"] ++ wsX60)
def wsX6_told_r1 : List Cond := [Cond.fieldLink RX6 7 "SoundPicturesModel" "now" "[I", Cond.fieldLink RX6 29 "SoundPicturesModel" "votes" "[I", Cond.fieldLink RX6 43 "SoundPicturesModel" "acts" "I", Cond.constant RX6 56 (-1000000002), Cond.methodLink RX6 116 yX6_counts, Cond.instanceMethod yX6_counts, Cond.selects RX6 yX6_counts yX6_counts, Cond.initialized RX6, Cond.code yX6_counts cX6_counts 7 none, Cond.fieldLink RX6 32 "SoundPicturesModel" "ranked" "[Z", Cond.methodLink RX6 107 yX6_findsPeaks, Cond.instanceMethod yX6_findsPeaks, Cond.selects RX6 yX6_findsPeaks yX6_findsPeaks, Cond.code yX6_findsPeaks cX6_findsPeaks 3 none, Cond.fieldLink RX6 26 "SoundPicturesModel" "peaks" "[I", Cond.methodLink RX6 39 yX6_windows, Cond.instanceMethod yX6_windows, Cond.selects RX6 yX6_windows yX6_windows, Cond.code yX6_windows cX6_windows 2 (some .int), Cond.methodLink RX6 94 yX6_peakOf, Cond.instanceMethod yX6_peakOf, Cond.selects RX6 yX6_peakOf yX6_peakOf, Cond.code yX6_peakOf cX6_peakOf 5 (some .int), Cond.methodLink RX6 87 yX6_turns]
def wsX6_told_r2 : List Cond := [Cond.instanceMethod yX6_turns, Cond.selects RX6 yX6_turns yX6_turns, Cond.code yX6_turns cX6_turns 7 none, Cond.fieldLink RX6 23 "SoundPicturesModel" "turned" "[I", Cond.methodLink RX6 72 yX6_of, Cond.instanceMethod yX6_of, Cond.selects RX6 yX6_of yX6_of, Cond.code yX6_of cX6_of 3 (some .int), Cond.methodLink RX6 91 yX6_shareOf, Cond.instanceMethod yX6_shareOf, Cond.selects RX6 yX6_shareOf yX6_shareOf, Cond.code yX6_shareOf cX6_shareOf 2 (some .int), Cond.methodLink RX6 101 yX6_keyOf, Cond.instanceMethod yX6_keyOf, Cond.selects RX6 yX6_keyOf yX6_keyOf, Cond.code yX6_keyOf cX6_keyOf 5 (some .int), Cond.methodLink RX6 97 yX6_isWindow, Cond.instanceMethod yX6_isWindow, Cond.selects RX6 yX6_isWindow yX6_isWindow, Cond.code yX6_isWindow cX6_isWindow 3 (some .boolean), Cond.methodLink RX6 35 yX6_in, Cond.static yX6_in, Cond.code yX6_in cX6_in 3 (some .boolean), Cond.methodLink RX6 104 yX6_stands]
def wsX6_told_r3 : List Cond := [Cond.instanceMethod yX6_stands, Cond.selects RX6 yX6_stands yX6_stands, Cond.code yX6_stands cX6_stands 4 (some .boolean), Cond.methodLink RX6 110 yX6_best, Cond.instanceMethod yX6_best, Cond.selects RX6 yX6_best yX6_best, Cond.code yX6_best cX6_best 5 (some .int), Cond.methodLink RX6 119 yX6_ledger, Cond.instanceMethod yX6_ledger, Cond.selects RX6 yX6_ledger yX6_ledger, Cond.code yX6_ledger cX6_ledger 5 (some .int), Cond.methodLink RX6 113 yX6_placesOf, Cond.instanceMethod yX6_placesOf, Cond.selects RX6 yX6_placesOf yX6_placesOf, Cond.code yX6_placesOf cX6_placesOf 5 (some .int), Cond.methodLink RX6 123 yX6_keysOf, Cond.instanceMethod yX6_keysOf, Cond.selects RX6 yX6_keysOf yX6_keysOf, Cond.code yX6_keysOf cX6_keysOf 5 (some .int), Cond.methodLink RX6 126 yX6_known, Cond.instanceMethod yX6_known, Cond.selects RX6 yX6_known yX6_known, Cond.code yX6_known cX6_known 5 (some .int), Cond.methodLink RX6 130 yX6_doubt]
def wsX6_told_r4 : List Cond := [Cond.instanceMethod yX6_doubt, Cond.selects RX6 yX6_doubt yX6_doubt, Cond.code yX6_doubt cX6_doubt 3 (some .int), Cond.methodLink RX6 133 yX6_allVotes, Cond.instanceMethod yX6_allVotes, Cond.selects RX6 yX6_allVotes yX6_allVotes, Cond.code yX6_allVotes cX6_allVotes 4 (some .int)]
def wsX6_told : List Cond := .code yX6_told cX6_told 3 (some .int) :: ((wsX6_told_r1 ++ (wsX6_told_r2 ++ (wsX6_told_r3 ++ wsX6_told_r4))) ++ wsX60)
def wsX6_mostOften : List Cond := .code yX6_mostOften cX6_mostOften 7 (some .int) :: ([.fieldLink RX6 26 "SoundPicturesModel" "peaks" "[I", .methodLink RX6 39 yX6_windows, .instanceMethod yX6_windows, .selects RX6 yX6_windows yX6_windows, .initialized RX6, .code yX6_windows cX6_windows 2 (some .int), .fieldLink RX6 7 "SoundPicturesModel" "now" "[I"] ++ wsX60)
def wsX6_row_r1 : List Cond := [Cond.constant RX6 55 (-1000000001), Cond.fieldLink RX6 7 "SoundPicturesModel" "now" "[I", Cond.fieldLink RX6 26 "SoundPicturesModel" "peaks" "[I", Cond.constant RX6 56 (-1000000002), Cond.methodLink RX6 51 yX6_isRow, Cond.static yX6_isRow, Cond.initialized RX6, Cond.code yX6_isRow cX6_isRow 1 (some .boolean), Cond.methodLink RX6 35 yX6_in, Cond.static yX6_in, Cond.code yX6_in cX6_in 3 (some .boolean), Cond.methodLink RX6 107 yX6_findsPeaks, Cond.instanceMethod yX6_findsPeaks, Cond.selects RX6 yX6_findsPeaks yX6_findsPeaks, Cond.code yX6_findsPeaks cX6_findsPeaks 3 none, Cond.methodLink RX6 39 yX6_windows, Cond.instanceMethod yX6_windows, Cond.selects RX6 yX6_windows yX6_windows, Cond.code yX6_windows cX6_windows 2 (some .int), Cond.methodLink RX6 94 yX6_peakOf, Cond.instanceMethod yX6_peakOf, Cond.selects RX6 yX6_peakOf yX6_peakOf, Cond.code yX6_peakOf cX6_peakOf 5 (some .int), Cond.methodLink RX6 87 yX6_turns]
def wsX6_row_r2 : List Cond := [Cond.instanceMethod yX6_turns, Cond.selects RX6 yX6_turns yX6_turns, Cond.code yX6_turns cX6_turns 7 none, Cond.fieldLink RX6 23 "SoundPicturesModel" "turned" "[I", Cond.methodLink RX6 72 yX6_of, Cond.instanceMethod yX6_of, Cond.selects RX6 yX6_of yX6_of, Cond.code yX6_of cX6_of 3 (some .int), Cond.methodLink RX6 91 yX6_shareOf, Cond.instanceMethod yX6_shareOf, Cond.selects RX6 yX6_shareOf yX6_shareOf, Cond.code yX6_shareOf cX6_shareOf 2 (some .int), Cond.methodLink RX6 123 yX6_keysOf, Cond.instanceMethod yX6_keysOf, Cond.selects RX6 yX6_keysOf yX6_keysOf, Cond.code yX6_keysOf cX6_keysOf 5 (some .int), Cond.methodLink RX6 101 yX6_keyOf, Cond.instanceMethod yX6_keyOf, Cond.selects RX6 yX6_keyOf yX6_keyOf, Cond.code yX6_keyOf cX6_keyOf 5 (some .int), Cond.methodLink RX6 97 yX6_isWindow, Cond.instanceMethod yX6_isWindow, Cond.selects RX6 yX6_isWindow yX6_isWindow, Cond.code yX6_isWindow cX6_isWindow 3 (some .boolean)]
def wsX6_row_r3 : List Cond := [Cond.methodLink RX6 136 yX6_mostOften, Cond.instanceMethod yX6_mostOften, Cond.selects RX6 yX6_mostOften yX6_mostOften, Cond.code yX6_mostOften cX6_mostOften 7 (some .int)]
def wsX6_row : List Cond := .code yX6_row cX6_row 6 (some .int) :: ((wsX6_row_r1 ++ (wsX6_row_r2 ++ wsX6_row_r3)) ++ wsX60)
def wsX6_at : List Cond := .code yX6_at cX6_at 3 (some .int) :: ([.constant RX6 55 (-1000000001), .fieldLink RX6 7 "SoundPicturesModel" "now" "[I", .constant RX6 56 (-1000000002), .methodLink RX6 51 yX6_isRow, .static yX6_isRow, .initialized RX6, .code yX6_isRow cX6_isRow 1 (some .boolean), .methodLink RX6 35 yX6_in, .static yX6_in, .code yX6_in cX6_in 3 (some .boolean), .methodLink RX6 72 yX6_of, .instanceMethod yX6_of, .selects RX6 yX6_of yX6_of, .code yX6_of cX6_of 3 (some .int)] ++ wsX60)
def wsX6_share_r1 : List Cond := [Cond.constant RX6 55 (-1000000001), Cond.constant RX6 56 (-1000000002), Cond.methodLink RX6 51 yX6_isRow, Cond.static yX6_isRow, Cond.initialized RX6, Cond.code yX6_isRow cX6_isRow 1 (some .boolean), Cond.methodLink RX6 35 yX6_in, Cond.static yX6_in, Cond.code yX6_in cX6_in 3 (some .boolean), Cond.methodLink RX6 97 yX6_isWindow, Cond.instanceMethod yX6_isWindow, Cond.selects RX6 yX6_isWindow yX6_isWindow, Cond.code yX6_isWindow cX6_isWindow 3 (some .boolean), Cond.methodLink RX6 39 yX6_windows, Cond.instanceMethod yX6_windows, Cond.selects RX6 yX6_windows yX6_windows, Cond.code yX6_windows cX6_windows 2 (some .int), Cond.fieldLink RX6 7 "SoundPicturesModel" "now" "[I", Cond.methodLink RX6 87 yX6_turns, Cond.instanceMethod yX6_turns, Cond.selects RX6 yX6_turns yX6_turns, Cond.code yX6_turns cX6_turns 7 none, Cond.fieldLink RX6 23 "SoundPicturesModel" "turned" "[I", Cond.methodLink RX6 72 yX6_of]
def wsX6_share_r2 : List Cond := [Cond.instanceMethod yX6_of, Cond.selects RX6 yX6_of yX6_of, Cond.code yX6_of cX6_of 3 (some .int), Cond.methodLink RX6 91 yX6_shareOf, Cond.instanceMethod yX6_shareOf, Cond.selects RX6 yX6_shareOf yX6_shareOf, Cond.code yX6_shareOf cX6_shareOf 2 (some .int)]
def wsX6_share : List Cond := .code yX6_share cX6_share 4 (some .int) :: ((wsX6_share_r1 ++ wsX6_share_r2) ++ wsX60)
def wsX6_peak_r1 : List Cond := [Cond.constant RX6 55 (-1000000001), Cond.methodLink RX6 51 yX6_isRow, Cond.static yX6_isRow, Cond.initialized RX6, Cond.code yX6_isRow cX6_isRow 1 (some .boolean), Cond.methodLink RX6 35 yX6_in, Cond.static yX6_in, Cond.code yX6_in cX6_in 3 (some .boolean), Cond.methodLink RX6 97 yX6_isWindow, Cond.instanceMethod yX6_isWindow, Cond.selects RX6 yX6_isWindow yX6_isWindow, Cond.code yX6_isWindow cX6_isWindow 3 (some .boolean), Cond.methodLink RX6 39 yX6_windows, Cond.instanceMethod yX6_windows, Cond.selects RX6 yX6_windows yX6_windows, Cond.code yX6_windows cX6_windows 2 (some .int), Cond.fieldLink RX6 7 "SoundPicturesModel" "now" "[I", Cond.methodLink RX6 94 yX6_peakOf, Cond.instanceMethod yX6_peakOf, Cond.selects RX6 yX6_peakOf yX6_peakOf, Cond.code yX6_peakOf cX6_peakOf 5 (some .int), Cond.methodLink RX6 87 yX6_turns, Cond.instanceMethod yX6_turns, Cond.selects RX6 yX6_turns yX6_turns]
def wsX6_peak_r2 : List Cond := [Cond.code yX6_turns cX6_turns 7 none, Cond.fieldLink RX6 23 "SoundPicturesModel" "turned" "[I", Cond.methodLink RX6 72 yX6_of, Cond.instanceMethod yX6_of, Cond.selects RX6 yX6_of yX6_of, Cond.code yX6_of cX6_of 3 (some .int), Cond.methodLink RX6 91 yX6_shareOf, Cond.instanceMethod yX6_shareOf, Cond.selects RX6 yX6_shareOf yX6_shareOf, Cond.code yX6_shareOf cX6_shareOf 2 (some .int)]
def wsX6_peak : List Cond := .code yX6_peak cX6_peak 3 (some .int) :: ((wsX6_peak_r1 ++ wsX6_peak_r2) ++ wsX60)
def wsX6_key_r1 : List Cond := [Cond.constant RX6 55 (-1000000001), Cond.methodLink RX6 51 yX6_isRow, Cond.static yX6_isRow, Cond.initialized RX6, Cond.code yX6_isRow cX6_isRow 1 (some .boolean), Cond.methodLink RX6 35 yX6_in, Cond.static yX6_in, Cond.code yX6_in cX6_in 3 (some .boolean), Cond.methodLink RX6 97 yX6_isWindow, Cond.instanceMethod yX6_isWindow, Cond.selects RX6 yX6_isWindow yX6_isWindow, Cond.code yX6_isWindow cX6_isWindow 3 (some .boolean), Cond.methodLink RX6 39 yX6_windows, Cond.instanceMethod yX6_windows, Cond.selects RX6 yX6_windows yX6_windows, Cond.code yX6_windows cX6_windows 2 (some .int), Cond.fieldLink RX6 7 "SoundPicturesModel" "now" "[I", Cond.methodLink RX6 107 yX6_findsPeaks, Cond.instanceMethod yX6_findsPeaks, Cond.selects RX6 yX6_findsPeaks yX6_findsPeaks, Cond.code yX6_findsPeaks cX6_findsPeaks 3 none, Cond.fieldLink RX6 26 "SoundPicturesModel" "peaks" "[I", Cond.methodLink RX6 94 yX6_peakOf, Cond.instanceMethod yX6_peakOf]
def wsX6_key_r2 : List Cond := [Cond.selects RX6 yX6_peakOf yX6_peakOf, Cond.code yX6_peakOf cX6_peakOf 5 (some .int), Cond.methodLink RX6 87 yX6_turns, Cond.instanceMethod yX6_turns, Cond.selects RX6 yX6_turns yX6_turns, Cond.code yX6_turns cX6_turns 7 none, Cond.fieldLink RX6 23 "SoundPicturesModel" "turned" "[I", Cond.methodLink RX6 72 yX6_of, Cond.instanceMethod yX6_of, Cond.selects RX6 yX6_of yX6_of, Cond.code yX6_of cX6_of 3 (some .int), Cond.methodLink RX6 91 yX6_shareOf, Cond.instanceMethod yX6_shareOf, Cond.selects RX6 yX6_shareOf yX6_shareOf, Cond.code yX6_shareOf cX6_shareOf 2 (some .int), Cond.methodLink RX6 101 yX6_keyOf, Cond.instanceMethod yX6_keyOf, Cond.selects RX6 yX6_keyOf yX6_keyOf, Cond.code yX6_keyOf cX6_keyOf 5 (some .int)]
def wsX6_key : List Cond := .code yX6_key cX6_key 4 (some .int) :: ((wsX6_key_r1 ++ wsX6_key_r2) ++ wsX60)
def wsX6_keyAt_r1 : List Cond := [Cond.constant RX6 56 (-1000000002), Cond.methodLink RX6 107 yX6_findsPeaks, Cond.instanceMethod yX6_findsPeaks, Cond.selects RX6 yX6_findsPeaks yX6_findsPeaks, Cond.initialized RX6, Cond.code yX6_findsPeaks cX6_findsPeaks 3 none, Cond.fieldLink RX6 26 "SoundPicturesModel" "peaks" "[I", Cond.methodLink RX6 39 yX6_windows, Cond.instanceMethod yX6_windows, Cond.selects RX6 yX6_windows yX6_windows, Cond.code yX6_windows cX6_windows 2 (some .int), Cond.fieldLink RX6 7 "SoundPicturesModel" "now" "[I", Cond.methodLink RX6 94 yX6_peakOf, Cond.instanceMethod yX6_peakOf, Cond.selects RX6 yX6_peakOf yX6_peakOf, Cond.code yX6_peakOf cX6_peakOf 5 (some .int), Cond.methodLink RX6 87 yX6_turns, Cond.instanceMethod yX6_turns, Cond.selects RX6 yX6_turns yX6_turns, Cond.code yX6_turns cX6_turns 7 none, Cond.fieldLink RX6 23 "SoundPicturesModel" "turned" "[I", Cond.methodLink RX6 72 yX6_of, Cond.instanceMethod yX6_of, Cond.selects RX6 yX6_of yX6_of]
def wsX6_keyAt_r2 : List Cond := [Cond.code yX6_of cX6_of 3 (some .int), Cond.methodLink RX6 91 yX6_shareOf, Cond.instanceMethod yX6_shareOf, Cond.selects RX6 yX6_shareOf yX6_shareOf, Cond.code yX6_shareOf cX6_shareOf 2 (some .int), Cond.methodLink RX6 113 yX6_placesOf, Cond.instanceMethod yX6_placesOf, Cond.selects RX6 yX6_placesOf yX6_placesOf, Cond.code yX6_placesOf cX6_placesOf 5 (some .int), Cond.methodLink RX6 104 yX6_stands, Cond.instanceMethod yX6_stands, Cond.selects RX6 yX6_stands yX6_stands, Cond.code yX6_stands cX6_stands 4 (some .boolean), Cond.methodLink RX6 101 yX6_keyOf, Cond.instanceMethod yX6_keyOf, Cond.selects RX6 yX6_keyOf yX6_keyOf, Cond.code yX6_keyOf cX6_keyOf 5 (some .int), Cond.methodLink RX6 97 yX6_isWindow, Cond.instanceMethod yX6_isWindow, Cond.selects RX6 yX6_isWindow yX6_isWindow, Cond.code yX6_isWindow cX6_isWindow 3 (some .boolean), Cond.methodLink RX6 35 yX6_in, Cond.static yX6_in, Cond.code yX6_in cX6_in 3 (some .boolean)]
def wsX6_keyAt : List Cond := .code yX6_keyAt cX6_keyAt 4 (some .int) :: ((wsX6_keyAt_r1 ++ wsX6_keyAt_r2) ++ wsX60)
def wsX6_places_r1 : List Cond := [Cond.constant RX6 56 (-1000000002), Cond.methodLink RX6 35 yX6_in, Cond.static yX6_in, Cond.initialized RX6, Cond.code yX6_in cX6_in 3 (some .boolean), Cond.methodLink RX6 107 yX6_findsPeaks, Cond.instanceMethod yX6_findsPeaks, Cond.selects RX6 yX6_findsPeaks yX6_findsPeaks, Cond.code yX6_findsPeaks cX6_findsPeaks 3 none, Cond.fieldLink RX6 26 "SoundPicturesModel" "peaks" "[I", Cond.methodLink RX6 39 yX6_windows, Cond.instanceMethod yX6_windows, Cond.selects RX6 yX6_windows yX6_windows, Cond.code yX6_windows cX6_windows 2 (some .int), Cond.fieldLink RX6 7 "SoundPicturesModel" "now" "[I", Cond.methodLink RX6 94 yX6_peakOf, Cond.instanceMethod yX6_peakOf, Cond.selects RX6 yX6_peakOf yX6_peakOf, Cond.code yX6_peakOf cX6_peakOf 5 (some .int), Cond.methodLink RX6 87 yX6_turns, Cond.instanceMethod yX6_turns, Cond.selects RX6 yX6_turns yX6_turns, Cond.code yX6_turns cX6_turns 7 none, Cond.fieldLink RX6 23 "SoundPicturesModel" "turned" "[I"]
def wsX6_places_r2 : List Cond := [Cond.methodLink RX6 72 yX6_of, Cond.instanceMethod yX6_of, Cond.selects RX6 yX6_of yX6_of, Cond.code yX6_of cX6_of 3 (some .int), Cond.methodLink RX6 91 yX6_shareOf, Cond.instanceMethod yX6_shareOf, Cond.selects RX6 yX6_shareOf yX6_shareOf, Cond.code yX6_shareOf cX6_shareOf 2 (some .int), Cond.methodLink RX6 113 yX6_placesOf, Cond.instanceMethod yX6_placesOf, Cond.selects RX6 yX6_placesOf yX6_placesOf, Cond.code yX6_placesOf cX6_placesOf 5 (some .int), Cond.methodLink RX6 104 yX6_stands, Cond.instanceMethod yX6_stands, Cond.selects RX6 yX6_stands yX6_stands, Cond.code yX6_stands cX6_stands 4 (some .boolean), Cond.methodLink RX6 101 yX6_keyOf, Cond.instanceMethod yX6_keyOf, Cond.selects RX6 yX6_keyOf yX6_keyOf, Cond.code yX6_keyOf cX6_keyOf 5 (some .int), Cond.methodLink RX6 97 yX6_isWindow, Cond.instanceMethod yX6_isWindow, Cond.selects RX6 yX6_isWindow yX6_isWindow, Cond.code yX6_isWindow cX6_isWindow 3 (some .boolean)]
def wsX6_places : List Cond := .code yX6_places cX6_places 2 (some .int) :: ((wsX6_places_r1 ++ wsX6_places_r2) ++ wsX60)
def wsX6_place_r1 : List Cond := [Cond.constant RX6 56 (-1000000002), Cond.methodLink RX6 35 yX6_in, Cond.static yX6_in, Cond.initialized RX6, Cond.code yX6_in cX6_in 3 (some .boolean), Cond.methodLink RX6 107 yX6_findsPeaks, Cond.instanceMethod yX6_findsPeaks, Cond.selects RX6 yX6_findsPeaks yX6_findsPeaks, Cond.code yX6_findsPeaks cX6_findsPeaks 3 none, Cond.fieldLink RX6 26 "SoundPicturesModel" "peaks" "[I", Cond.methodLink RX6 39 yX6_windows, Cond.instanceMethod yX6_windows, Cond.selects RX6 yX6_windows yX6_windows, Cond.code yX6_windows cX6_windows 2 (some .int), Cond.fieldLink RX6 7 "SoundPicturesModel" "now" "[I", Cond.methodLink RX6 94 yX6_peakOf, Cond.instanceMethod yX6_peakOf, Cond.selects RX6 yX6_peakOf yX6_peakOf, Cond.code yX6_peakOf cX6_peakOf 5 (some .int), Cond.methodLink RX6 87 yX6_turns, Cond.instanceMethod yX6_turns, Cond.selects RX6 yX6_turns yX6_turns, Cond.code yX6_turns cX6_turns 7 none, Cond.fieldLink RX6 23 "SoundPicturesModel" "turned" "[I"]
def wsX6_place_r2 : List Cond := [Cond.methodLink RX6 72 yX6_of, Cond.instanceMethod yX6_of, Cond.selects RX6 yX6_of yX6_of, Cond.code yX6_of cX6_of 3 (some .int), Cond.methodLink RX6 91 yX6_shareOf, Cond.instanceMethod yX6_shareOf, Cond.selects RX6 yX6_shareOf yX6_shareOf, Cond.code yX6_shareOf cX6_shareOf 2 (some .int), Cond.methodLink RX6 104 yX6_stands, Cond.instanceMethod yX6_stands, Cond.selects RX6 yX6_stands yX6_stands, Cond.code yX6_stands cX6_stands 4 (some .boolean), Cond.methodLink RX6 101 yX6_keyOf, Cond.instanceMethod yX6_keyOf, Cond.selects RX6 yX6_keyOf yX6_keyOf, Cond.code yX6_keyOf cX6_keyOf 5 (some .int), Cond.methodLink RX6 97 yX6_isWindow, Cond.instanceMethod yX6_isWindow, Cond.selects RX6 yX6_isWindow yX6_isWindow, Cond.code yX6_isWindow cX6_isWindow 3 (some .boolean)]
def wsX6_place : List Cond := .code yX6_place cX6_place 5 (some .int) :: ((wsX6_place_r1 ++ wsX6_place_r2) ++ wsX60)
def wsX6_votes_r1 : List Cond := [Cond.constant RX6 55 (-1000000001), Cond.constant RX6 56 (-1000000002), Cond.fieldLink RX6 29 "SoundPicturesModel" "votes" "[I", Cond.methodLink RX6 35 yX6_in, Cond.static yX6_in, Cond.initialized RX6, Cond.code yX6_in cX6_in 3 (some .boolean), Cond.methodLink RX6 116 yX6_counts, Cond.instanceMethod yX6_counts, Cond.selects RX6 yX6_counts yX6_counts, Cond.code yX6_counts cX6_counts 7 none, Cond.fieldLink RX6 32 "SoundPicturesModel" "ranked" "[Z", Cond.methodLink RX6 107 yX6_findsPeaks, Cond.instanceMethod yX6_findsPeaks, Cond.selects RX6 yX6_findsPeaks yX6_findsPeaks, Cond.code yX6_findsPeaks cX6_findsPeaks 3 none, Cond.fieldLink RX6 26 "SoundPicturesModel" "peaks" "[I", Cond.methodLink RX6 39 yX6_windows, Cond.instanceMethod yX6_windows, Cond.selects RX6 yX6_windows yX6_windows, Cond.code yX6_windows cX6_windows 2 (some .int), Cond.fieldLink RX6 7 "SoundPicturesModel" "now" "[I", Cond.methodLink RX6 94 yX6_peakOf, Cond.instanceMethod yX6_peakOf]
def wsX6_votes_r2 : List Cond := [Cond.selects RX6 yX6_peakOf yX6_peakOf, Cond.code yX6_peakOf cX6_peakOf 5 (some .int), Cond.methodLink RX6 87 yX6_turns, Cond.instanceMethod yX6_turns, Cond.selects RX6 yX6_turns yX6_turns, Cond.code yX6_turns cX6_turns 7 none, Cond.fieldLink RX6 23 "SoundPicturesModel" "turned" "[I", Cond.methodLink RX6 72 yX6_of, Cond.instanceMethod yX6_of, Cond.selects RX6 yX6_of yX6_of, Cond.code yX6_of cX6_of 3 (some .int), Cond.methodLink RX6 91 yX6_shareOf, Cond.instanceMethod yX6_shareOf, Cond.selects RX6 yX6_shareOf yX6_shareOf, Cond.code yX6_shareOf cX6_shareOf 2 (some .int), Cond.methodLink RX6 101 yX6_keyOf, Cond.instanceMethod yX6_keyOf, Cond.selects RX6 yX6_keyOf yX6_keyOf, Cond.code yX6_keyOf cX6_keyOf 5 (some .int), Cond.methodLink RX6 97 yX6_isWindow, Cond.instanceMethod yX6_isWindow, Cond.selects RX6 yX6_isWindow yX6_isWindow, Cond.code yX6_isWindow cX6_isWindow 3 (some .boolean), Cond.methodLink RX6 104 yX6_stands]
def wsX6_votes_r3 : List Cond := [Cond.instanceMethod yX6_stands, Cond.selects RX6 yX6_stands yX6_stands, Cond.code yX6_stands cX6_stands 4 (some .boolean)]
def wsX6_votes : List Cond := .code yX6_votes cX6_votes 3 (some .int) :: ((wsX6_votes_r1 ++ (wsX6_votes_r2 ++ wsX6_votes_r3)) ++ wsX60)
def wsX6_rank_r1 : List Cond := [Cond.constant RX6 56 (-1000000002), Cond.fieldLink RX6 32 "SoundPicturesModel" "ranked" "[Z", Cond.fieldLink RX6 29 "SoundPicturesModel" "votes" "[I", Cond.methodLink RX6 35 yX6_in, Cond.static yX6_in, Cond.initialized RX6, Cond.code yX6_in cX6_in 3 (some .boolean), Cond.methodLink RX6 116 yX6_counts, Cond.instanceMethod yX6_counts, Cond.selects RX6 yX6_counts yX6_counts, Cond.code yX6_counts cX6_counts 7 none, Cond.methodLink RX6 107 yX6_findsPeaks, Cond.instanceMethod yX6_findsPeaks, Cond.selects RX6 yX6_findsPeaks yX6_findsPeaks, Cond.code yX6_findsPeaks cX6_findsPeaks 3 none, Cond.fieldLink RX6 26 "SoundPicturesModel" "peaks" "[I", Cond.methodLink RX6 39 yX6_windows, Cond.instanceMethod yX6_windows, Cond.selects RX6 yX6_windows yX6_windows, Cond.code yX6_windows cX6_windows 2 (some .int), Cond.fieldLink RX6 7 "SoundPicturesModel" "now" "[I", Cond.methodLink RX6 94 yX6_peakOf, Cond.instanceMethod yX6_peakOf, Cond.selects RX6 yX6_peakOf yX6_peakOf]
def wsX6_rank_r2 : List Cond := [Cond.code yX6_peakOf cX6_peakOf 5 (some .int), Cond.methodLink RX6 87 yX6_turns, Cond.instanceMethod yX6_turns, Cond.selects RX6 yX6_turns yX6_turns, Cond.code yX6_turns cX6_turns 7 none, Cond.fieldLink RX6 23 "SoundPicturesModel" "turned" "[I", Cond.methodLink RX6 72 yX6_of, Cond.instanceMethod yX6_of, Cond.selects RX6 yX6_of yX6_of, Cond.code yX6_of cX6_of 3 (some .int), Cond.methodLink RX6 91 yX6_shareOf, Cond.instanceMethod yX6_shareOf, Cond.selects RX6 yX6_shareOf yX6_shareOf, Cond.code yX6_shareOf cX6_shareOf 2 (some .int), Cond.methodLink RX6 101 yX6_keyOf, Cond.instanceMethod yX6_keyOf, Cond.selects RX6 yX6_keyOf yX6_keyOf, Cond.code yX6_keyOf cX6_keyOf 5 (some .int), Cond.methodLink RX6 97 yX6_isWindow, Cond.instanceMethod yX6_isWindow, Cond.selects RX6 yX6_isWindow yX6_isWindow, Cond.code yX6_isWindow cX6_isWindow 3 (some .boolean), Cond.methodLink RX6 104 yX6_stands, Cond.instanceMethod yX6_stands]
def wsX6_rank_r3 : List Cond := [Cond.selects RX6 yX6_stands yX6_stands, Cond.code yX6_stands cX6_stands 4 (some .boolean), Cond.methodLink RX6 110 yX6_best, Cond.instanceMethod yX6_best, Cond.selects RX6 yX6_best yX6_best, Cond.code yX6_best cX6_best 5 (some .int)]
def wsX6_rank : List Cond := .code yX6_rank cX6_rank 5 (some .int) :: ((wsX6_rank_r1 ++ (wsX6_rank_r2 ++ wsX6_rank_r3)) ++ wsX60)
def wsX6_keep : List Cond := .code yX6_keep cX6_keep 3 (some .int) :: ([.constant RX6 55 (-1000000001), .fieldLink RX6 16 "SoundPicturesModel" "images" "[I", .fieldLink RX6 7 "SoundPicturesModel" "now" "[I", .fieldLink RX6 19 "SoundPicturesModel" "kept" "[Z", .fieldLink RX6 43 "SoundPicturesModel" "acts" "I", .methodLink RX6 35 yX6_in, .static yX6_in, .initialized RX6, .code yX6_in cX6_in 3 (some .boolean)] ++ wsX60)
def wsX6_goBack : List Cond := .code yX6_goBack cX6_goBack 3 (some .int) :: ([.constant RX6 55 (-1000000001), .fieldLink RX6 19 "SoundPicturesModel" "kept" "[Z", .constant RX6 85 (-1000000003), .fieldLink RX6 7 "SoundPicturesModel" "now" "[I", .fieldLink RX6 16 "SoundPicturesModel" "images" "[I", .fieldLink RX6 43 "SoundPicturesModel" "acts" "I", .methodLink RX6 35 yX6_in, .static yX6_in, .initialized RX6, .code yX6_in cX6_in 3 (some .boolean)] ++ wsX60)
def wsJ9_max_7cf53 : List Cond := .code yJ9_max_7cf53 cJ9_max_7cf53 2 (some .int) :: ([])
def wsJ9_min_7cf53 : List Cond := .code yJ9_min_7cf53 cJ9_min_7cf53 2 (some .int) :: ([])
def wsL_law_r1 : List Cond := [Cond.classLink RL 7 RX5, Cond.instantiable RX5 7, Cond.initialized RX5, Cond.classLink RL 10 RX6, Cond.instantiable RX6 9, Cond.initialized RX6, Cond.methodLink RL 9 yX5_init, Cond.instanceMethod yX5_init, Cond.code yX5_init cX5_init 1 none, Cond.methodLink RX5 1 objectInit, Cond.instanceMethod objectInit, Cond.code objectInit ⟨#[0xb1]⟩ 1 none, Cond.classLink RX5 7 RX4, Cond.instantiable RX4 4, Cond.initialized RX4, Cond.fieldLink RX5 10 "SoundPictures" "now" "LSoundPictures$State;", Cond.classLink RX5 16 RX2, Cond.instantiable RX2 7, Cond.initialized RX2, Cond.fieldLink RX5 19 "SoundPictures" "past" "LSoundPictures$Past;", Cond.fieldLink RX5 23 "SoundPictures" "images" "[LSoundPictures$State;", Cond.classLink RX5 27 RX3, Cond.instantiable RX3 3, Cond.initialized RX3]
def wsL_law_r2 : List Cond := [Cond.fieldLink RX5 30 "SoundPictures" "peaks" "LSoundPictures$Peaks;", Cond.classLink RX5 34 RX1, Cond.instantiable RX1 4, Cond.initialized RX1, Cond.fieldLink RX5 37 "SoundPictures" "ledger" "LSoundPictures$Ledger;", Cond.classLink RX5 41 RX0, Cond.instantiable RX0 6, Cond.initialized RX0, Cond.fieldLink RX5 44 "SoundPictures" "ballot" "LSoundPictures$Ballot;", Cond.fieldLink RX5 48 "SoundPictures" "fresh" "Z", Cond.methodLink RX5 9 yX4_init, Cond.instanceMethod yX4_init, Cond.code yX4_init cX4_init 1 none, Cond.methodLink RX4 3 objectInit, Cond.arrayClass .int, Cond.fieldLink RX4 9 "SoundPictures$State" "numbers" "[I", Cond.fieldLink RX4 15 "SoundPictures$State" "sizes" "[I", Cond.fieldLink RX4 18 "SoundPictures$State" "floor" "I", Cond.fieldLink RX4 22 "SoundPictures$State" "reach" "I", Cond.methodLink RX5 18 yX2_init, Cond.instanceMethod yX2_init, Cond.code yX2_init cX2_init 1 none, Cond.methodLink RX2 3 objectInit, Cond.fieldLink RX2 9 "SoundPictures$Past" "numbers" "[I"]
def wsL_law_r3 : List Cond := [Cond.fieldLink RX2 15 "SoundPictures$Past" "rows" "[I", Cond.fieldLink RX2 18 "SoundPictures$Past" "sizes" "[I", Cond.fieldLink RX2 21 "SoundPictures$Past" "floors" "[I", Cond.fieldLink RX2 24 "SoundPictures$Past" "reaches" "[I", Cond.methodLink RX5 29 yX3_init, Cond.instanceMethod yX3_init, Cond.code yX3_init cX3_init 1 none, Cond.methodLink RX3 3 objectInit, Cond.fieldLink RX3 9 "SoundPictures$Peaks" "waves" "[I", Cond.fieldLink RX3 15 "SoundPictures$Peaks" "found" "[I", Cond.fieldLink RX3 18 "SoundPictures$Peaks" "often" "[I", Cond.methodLink RX5 36 yX1_init, Cond.instanceMethod yX1_init, Cond.code yX1_init cX1_init 1 none, Cond.methodLink RX1 3 objectInit, Cond.fieldLink RX1 9 "SoundPictures$Ledger" "starts" "[I", Cond.fieldLink RX1 15 "SoundPictures$Ledger" "filled" "[I", Cond.fieldLink RX1 18 "SoundPictures$Ledger" "entries" "[I", Cond.methodLink RX5 43 yX0_init, Cond.instanceMethod yX0_init, Cond.code yX0_init cX0_init 1 none, Cond.methodLink RX0 3 objectInit, Cond.fieldLink RX0 9 "SoundPictures$Ballot" "cells" "[I", Cond.fieldLink RX0 15 "SoundPictures$Ballot" "order" "[I"]
def wsL_law_r4 : List Cond := [Cond.methodLink RL 12 yX6_init, Cond.instanceMethod yX6_init, Cond.code yX6_init cX6_init 1 none, Cond.methodLink RX6 1 objectInit, Cond.fieldLink RX6 7 "SoundPicturesModel" "now" "[I", Cond.fieldLink RX6 13 "SoundPicturesModel" "past" "[I", Cond.fieldLink RX6 16 "SoundPicturesModel" "images" "[I", Cond.arrayClass .boolean, Cond.fieldLink RX6 19 "SoundPicturesModel" "kept" "[Z", Cond.fieldLink RX6 23 "SoundPicturesModel" "turned" "[I", Cond.fieldLink RX6 26 "SoundPicturesModel" "peaks" "[I", Cond.fieldLink RX6 29 "SoundPicturesModel" "votes" "[I", Cond.fieldLink RX6 32 "SoundPicturesModel" "ranked" "[Z", Cond.methodLink RL 13 yX5_add, Cond.instanceMethod yX5_add, Cond.selects RX5 yX5_add yX5_add, Cond.code yX5_add cX5_add 3 (some .int), Cond.constant RX5 56 (-1000000001), Cond.constant RX5 61 (-1000000002), Cond.constant RX5 66 (-1000000004), Cond.methodLink RX5 52 yX5_isRow, Cond.static yX5_isRow, Cond.code yX5_isRow cX5_isRow 1 (some .boolean), Cond.methodLink RX5 57 yX5_isWithin]
def wsL_law_r5 : List Cond := [Cond.static yX5_isWithin, Cond.code yX5_isWithin cX5_isWithin 3 (some .boolean), Cond.methodLink RX5 62 yX4_sizeOf, Cond.instanceMethod yX4_sizeOf, Cond.selects RX4 yX4_sizeOf yX4_sizeOf, Cond.code yX4_sizeOf cX4_sizeOf 2 (some .int), Cond.methodLink RX5 67 yX5_beforeChange, Cond.instanceMethod yX5_beforeChange, Cond.selects RX5 yX5_beforeChange yX5_beforeChange, Cond.code yX5_beforeChange cX5_beforeChange 2 none, Cond.methodLink RX5 205 yX2_remember, Cond.instanceMethod yX2_remember, Cond.selects RX2 yX2_remember yX2_remember, Cond.code yX2_remember cX2_remember 3 none, Cond.fieldLink RX2 31 "SoundPictures$Past" "next" "I", Cond.fieldLink RX2 27 "SoundPictures$Past" "depth" "I", Cond.methodLink RX2 51 Lib.Math.min.name, Cond.static Lib.Math.min.name, Cond.initialized "java/lang/Math", Cond.code Lib.Math.min.name Lib.Math.min.code 2 (some .int), Cond.methodLink RX2 34 yX4_copyRowTo, Cond.instanceMethod yX4_copyRowTo, Cond.selects RX4 yX4_copyRowTo yX4_copyRowTo, Cond.code yX4_copyRowTo cX4_copyRowTo 4 none]
def wsL_law_r6 : List Cond := [Cond.methodLink RX4 34 arraycopyName, Cond.native arraycopyName, Cond.static arraycopyName, Cond.initialized "java/lang/System", Cond.methodLink RX2 40 yX4_sizeOf, Cond.methodLink RX2 44 yX4_floor, Cond.instanceMethod yX4_floor, Cond.selects RX4 yX4_floor yX4_floor, Cond.code yX4_floor cX4_floor 1 (some .int), Cond.methodLink RX2 48 yX4_reach, Cond.instanceMethod yX4_reach, Cond.selects RX4 yX4_reach yX4_reach, Cond.code yX4_reach cX4_reach 1 (some .int), Cond.methodLink RX5 71 yX4_append, Cond.instanceMethod yX4_append, Cond.selects RX4 yX4_append yX4_append, Cond.code yX4_append cX4_append 4 none, Cond.methodLink RL 17 yX6_add, Cond.instanceMethod yX6_add, Cond.selects RX6 yX6_add yX6_add, Cond.code yX6_add cX6_add 3 (some .int), Cond.constant RX6 55 (-1000000001), Cond.constant RX6 56 (-1000000002), Cond.constant RX6 57 (-1000000004)]
def wsL_law_r7 : List Cond := [Cond.methodLink RX6 51 yX6_isRow, Cond.static yX6_isRow, Cond.code yX6_isRow cX6_isRow 1 (some .boolean), Cond.methodLink RX6 35 yX6_in, Cond.static yX6_in, Cond.code yX6_in cX6_in 3 (some .boolean), Cond.methodLink RX6 58 yX6_notes, Cond.instanceMethod yX6_notes, Cond.selects RX6 yX6_notes yX6_notes, Cond.code yX6_notes cX6_notes 2 none, Cond.fieldLink RX6 43 "SoundPicturesModel" "acts" "I", Cond.methodLink RX6 61 yX6_put, Cond.instanceMethod yX6_put, Cond.selects RX6 yX6_put yX6_put, Cond.code yX6_put cX6_put 4 none, Cond.methodLink RL 18 yX5_wipe, Cond.instanceMethod yX5_wipe, Cond.selects RX5 yX5_wipe yX5_wipe, Cond.code yX5_wipe cX5_wipe 3 (some .int), Cond.methodLink RX5 75 yX4_empty, Cond.instanceMethod yX4_empty, Cond.selects RX4 yX4_empty yX4_empty, Cond.code yX4_empty cX4_empty 2 none, Cond.methodLink RL 22 yX6_wipe]
def wsL_law_r8 : List Cond := [Cond.instanceMethod yX6_wipe, Cond.selects RX6 yX6_wipe yX6_wipe, Cond.code yX6_wipe cX6_wipe 3 (some .int), Cond.methodLink RL 23 yX5_lots, Cond.instanceMethod yX5_lots, Cond.selects RX5 yX5_lots yX5_lots, Cond.code yX5_lots cX5_lots 6 (some .int), Cond.constant RX5 78 (999999), Cond.methodLink RX5 79 yX5_lotAfter, Cond.static yX5_lotAfter, Cond.code yX5_lotAfter cX5_lotAfter 1 (some .int), Cond.constantLong RX5 201 (16807), Cond.constantLong RX5 203 (2147483647), Cond.methodLink RX5 82 yX4_windowsOf, Cond.instanceMethod yX4_windowsOf, Cond.selects RX4 yX4_windowsOf yX4_windowsOf, Cond.code yX4_windowsOf cX4_windowsOf 2 (some .int), Cond.methodLink RL 27 yX6_lots, Cond.instanceMethod yX6_lots, Cond.selects RX6 yX6_lots yX6_lots, Cond.code yX6_lots cX6_lots 7 (some .int), Cond.constant RX6 65 (999999), Cond.constantLong RX6 70 (201), Cond.methodLink RX6 66 yX6_drawn]
def wsL_law_r9 : List Cond := [Cond.static yX6_drawn, Cond.code yX6_drawn cX6_drawn 2 (some .long), Cond.constantLong RX6 47 (16807), Cond.constantLong RX6 49 (2147483647), Cond.methodLink RX6 39 yX6_windows, Cond.instanceMethod yX6_windows, Cond.selects RX6 yX6_windows yX6_windows, Cond.code yX6_windows cX6_windows 2 (some .int), Cond.methodLink RL 28 yX5_noise, Cond.instanceMethod yX5_noise, Cond.selects RX5 yX5_noise yX5_noise, Cond.code yX5_noise cX5_noise 8 (some .int), Cond.methodLink RX5 85 yX4_numberAt, Cond.instanceMethod yX4_numberAt, Cond.selects RX4 yX4_numberAt yX4_numberAt, Cond.code yX4_numberAt cX4_numberAt 3 (some .int), Cond.methodLink RX5 89 yX4_replace, Cond.instanceMethod yX4_replace, Cond.selects RX4 yX4_replace yX4_replace, Cond.code yX4_replace cX4_replace 7 (some .boolean), Cond.methodLink RX4 25 Lib.Math.min.name, Cond.methodLink RX4 31 Lib.Math.max.name, Cond.static Lib.Math.max.name, Cond.code Lib.Math.max.name Lib.Math.max.code 2 (some .int)]
def wsL_law_r10 : List Cond := [Cond.methodLink RL 31 yX6_noise, Cond.instanceMethod yX6_noise, Cond.selects RX6 yX6_noise yX6_noise, Cond.code yX6_noise cX6_noise 8 (some .int), Cond.constantLong RX6 79 (2), Cond.methodLink RX6 72 yX6_of, Cond.instanceMethod yX6_of, Cond.selects RX6 yX6_of yX6_of, Cond.code yX6_of cX6_of 3 (some .int), Cond.methodLink RX6 81 yX6_becomes, Cond.instanceMethod yX6_becomes, Cond.selects RX6 yX6_becomes yX6_becomes, Cond.code yX6_becomes cX6_becomes 5 (some .int), Cond.methodLink RX6 76 yX6_bounded, Cond.static yX6_bounded, Cond.code yX6_bounded cX6_bounded 1 (some .int), Cond.methodLink RL 32 yX5_louder, Cond.instanceMethod yX5_louder, Cond.selects RX5 yX5_louder yX5_louder, Cond.code yX5_louder cX5_louder 7 (some .int), Cond.methodLink RL 35 yX6_louder, Cond.instanceMethod yX6_louder, Cond.selects RX6 yX6_louder yX6_louder, Cond.code yX6_louder cX6_louder 6 (some .int)]
def wsL_law_r11 : List Cond := [Cond.methodLink RL 36 yX5_hear, Cond.instanceMethod yX5_hear, Cond.selects RX5 yX5_hear yX5_hear, Cond.code yX5_hear cX5_hear 7 (some .int), Cond.constant RX5 95 (-1000000003), Cond.methodLink RX5 96 Lib.Math.min.name, Cond.methodLink RX5 92 yX5_isPiece, Cond.static yX5_isPiece, Cond.code yX5_isPiece cX5_isPiece 1 (some .boolean), Cond.methodLink RL 39 yX6_hear, Cond.instanceMethod yX6_hear, Cond.selects RX6 yX6_hear yX6_hear, Cond.code yX6_hear cX6_hear 7 (some .int), Cond.constant RX6 85 (-1000000003), Cond.methodLink RL 40 yX5_bound, Cond.instanceMethod yX5_bound, Cond.selects RX5 yX5_bound yX5_bound, Cond.code yX5_bound cX5_bound 3 (some .int), Cond.constant RX5 101 (99999), Cond.methodLink RX5 102 yX5_changeFloor, Cond.instanceMethod yX5_changeFloor, Cond.selects RX5 yX5_changeFloor yX5_changeFloor, Cond.code yX5_changeFloor cX5_changeFloor 3 (some .int), Cond.methodLink RX5 119 yX4_floor]
def wsL_law_r12 : List Cond := [Cond.methodLink RX5 209 yX4_setFloor, Cond.instanceMethod yX4_setFloor, Cond.selects RX4 yX4_setFloor yX4_setFloor, Cond.code yX4_setFloor cX4_setFloor 2 none, Cond.methodLink RX5 105 yX5_changeReach, Cond.instanceMethod yX5_changeReach, Cond.selects RX5 yX5_changeReach yX5_changeReach, Cond.code yX5_changeReach cX5_changeReach 3 (some .int), Cond.methodLink RX5 122 yX4_reach, Cond.methodLink RX5 212 yX4_setReach, Cond.instanceMethod yX4_setReach, Cond.selects RX4 yX4_setReach yX4_setReach, Cond.code yX4_setReach cX4_setReach 2 none, Cond.methodLink RL 43 yX6_bound, Cond.instanceMethod yX6_bound, Cond.selects RX6 yX6_bound yX6_bound, Cond.code yX6_bound cX6_bound 5 (some .int), Cond.constant RX6 86 (99999), Cond.methodLink RL 44 yX5_undo, Cond.instanceMethod yX5_undo, Cond.selects RX5 yX5_undo yX5_undo, Cond.code yX5_undo cX5_undo 1 (some .int), Cond.methodLink RX5 108 yX2_depth, Cond.instanceMethod yX2_depth]
def wsL_law_r13 : List Cond := [Cond.selects RX2 yX2_depth yX2_depth, Cond.code yX2_depth cX2_depth 1 (some .int), Cond.methodLink RX5 112 yX2_restoreLatest, Cond.instanceMethod yX2_restoreLatest, Cond.selects RX2 yX2_restoreLatest yX2_restoreLatest, Cond.code yX2_restoreLatest cX2_restoreLatest 2 none, Cond.methodLink RX2 57 yX4_takeRow, Cond.instanceMethod yX4_takeRow, Cond.selects RX4 yX4_takeRow yX4_takeRow, Cond.code yX4_takeRow cX4_takeRow 5 none, Cond.methodLink RX2 61 yX4_setFloor, Cond.methodLink RX2 65 yX4_setReach, Cond.methodLink RL 48 yX6_undo, Cond.instanceMethod yX6_undo, Cond.selects RX6 yX6_undo yX6_undo, Cond.code yX6_undo cX6_undo 2 (some .int), Cond.methodLink RL 49 yX5_told, Cond.instanceMethod yX5_told, Cond.selects RX5 yX5_told yX5_told, Cond.code yX5_told cX5_told 2 (some .int), Cond.methodLink RX5 116 yX5_refresh, Cond.instanceMethod yX5_refresh, Cond.selects RX5 yX5_refresh yX5_refresh, Cond.code yX5_refresh cX5_refresh 1 none]
def wsL_law_r14 : List Cond := [Cond.methodLink RX5 215 yX3_look, Cond.instanceMethod yX3_look, Cond.selects RX3 yX3_look yX3_look, Cond.code yX3_look cX3_look 6 none, Cond.methodLink RX3 21 yX4_windowsOf, Cond.methodLink RX3 27 yX3_findPeak, Cond.instanceMethod yX3_findPeak, Cond.selects RX3 yX3_findPeak yX3_findPeak, Cond.code yX3_findPeak cX3_findPeak 6 (some .int), Cond.methodLink RX3 31 yX3_turn, Cond.instanceMethod yX3_turn, Cond.selects RX3 yX3_turn yX3_turn, Cond.code yX3_turn cX3_turn 5 none, Cond.methodLink RX3 50 yX4_numberAt, Cond.methodLink RX3 53 yX3_turnPairs, Cond.instanceMethod yX3_turnPairs, Cond.selects RX3 yX3_turnPairs yX3_turnPairs, Cond.code yX3_turnPairs cX3_turnPairs 5 none, Cond.methodLink RX3 35 yX3_shareOf, Cond.instanceMethod yX3_shareOf, Cond.selects RX3 yX3_shareOf yX3_shareOf, Cond.code yX3_shareOf cX3_shareOf 2 (some .int), Cond.methodLink RX3 46 yX4_floor, Cond.methodLink RX5 218 yX1_write]
def wsL_law_r15 : List Cond := [Cond.instanceMethod yX1_write, Cond.selects RX1 yX1_write yX1_write, Cond.code yX1_write cX1_write 3 none, Cond.methodLink RX1 29 yX1_countKeys, Cond.instanceMethod yX1_countKeys, Cond.selects RX1 yX1_countKeys yX1_countKeys, Cond.code yX1_countKeys cX1_countKeys 7 none, Cond.methodLink RX1 39 yX3_keyOf, Cond.instanceMethod yX3_keyOf, Cond.selects RX3 yX3_keyOf yX3_keyOf, Cond.code yX3_keyOf cX3_keyOf 7 (some .int), Cond.methodLink RX3 38 yX3_peakOf, Cond.instanceMethod yX3_peakOf, Cond.selects RX3 yX3_peakOf yX3_peakOf, Cond.code yX3_peakOf cX3_peakOf 3 (some .int), Cond.methodLink RX1 33 yX1_setStarts, Cond.instanceMethod yX1_setStarts, Cond.selects RX1 yX1_setStarts yX1_setStarts, Cond.code yX1_setStarts cX1_setStarts 2 none, Cond.fieldLink RX1 21 "SoundPictures$Ledger" "unlike" "I", Cond.methodLink RX1 36 yX1_fillEntries, Cond.instanceMethod yX1_fillEntries, Cond.selects RX1 yX1_fillEntries yX1_fillEntries, Cond.code yX1_fillEntries cX1_fillEntries 7 none]
def wsL_law_r16 : List Cond := [Cond.methodLink RX5 222 yX0_cast, Cond.instanceMethod yX0_cast, Cond.selects RX0 yX0_cast yX0_cast, Cond.code yX0_cast cX0_cast 7 none, Cond.fieldLink RX0 18 "SoundPictures$Ballot" "heard" "I", Cond.methodLink RX0 38 yX0_clear, Cond.instanceMethod yX0_clear, Cond.selects RX0 yX0_clear yX0_clear, Cond.code yX0_clear cX0_clear 2 none, Cond.fieldLink RX0 28 "SoundPictures$Ballot" "ranked" "I", Cond.fieldLink RX0 22 "SoundPictures$Ballot" "known" "I", Cond.fieldLink RX0 25 "SoundPictures$Ballot" "all" "I", Cond.methodLink RX0 41 yX3_keyOf, Cond.methodLink RX0 47 yX0_castFor, Cond.instanceMethod yX0_castFor, Cond.selects RX0 yX0_castFor yX0_castFor, Cond.code yX0_castFor cX0_castFor 9 none, Cond.methodLink RX0 54 yX1_placesOf, Cond.instanceMethod yX1_placesOf, Cond.selects RX1 yX1_placesOf yX1_placesOf, Cond.code yX1_placesOf cX1_placesOf 2 (some .int), Cond.methodLink RX0 59 yX1_placeOf, Cond.instanceMethod yX1_placeOf, Cond.selects RX1 yX1_placeOf yX1_placeOf]
def wsL_law_r17 : List Cond := [Cond.code yX1_placeOf cX1_placeOf 3 (some .int), Cond.methodLink RX1 25 yX1_placesOf, Cond.methodLink RX0 51 yX0_rankCells, Cond.instanceMethod yX0_rankCells, Cond.selects RX0 yX0_rankCells yX0_rankCells, Cond.code yX0_rankCells cX0_rankCells 3 none, Cond.methodLink RX5 125 yX1_unlikeKeys, Cond.instanceMethod yX1_unlikeKeys, Cond.selects RX1 yX1_unlikeKeys yX1_unlikeKeys, Cond.code yX1_unlikeKeys cX1_unlikeKeys 1 (some .int), Cond.methodLink RX5 128 yX1_allPlaces, Cond.instanceMethod yX1_allPlaces, Cond.selects RX1 yX1_allPlaces yX1_allPlaces, Cond.code yX1_allPlaces cX1_allPlaces 1 (some .int), Cond.methodLink RX5 131 yX0_keysHeard, Cond.instanceMethod yX0_keysHeard, Cond.selects RX0 yX0_keysHeard yX0_keysHeard, Cond.code yX0_keysHeard cX0_keysHeard 1 (some .int), Cond.methodLink RX5 134 yX0_keysKnown, Cond.instanceMethod yX0_keysKnown, Cond.selects RX0 yX0_keysKnown yX0_keysKnown, Cond.code yX0_keysKnown cX0_keysKnown 1 (some .int), Cond.methodLink RX5 137 yX0_pieceOf, Cond.instanceMethod yX0_pieceOf]
def wsL_law_r18 : List Cond := [Cond.selects RX0 yX0_pieceOf yX0_pieceOf, Cond.code yX0_pieceOf cX0_pieceOf 2 (some .int), Cond.methodLink RX5 140 yX0_offsetOf, Cond.instanceMethod yX0_offsetOf, Cond.selects RX0 yX0_offsetOf yX0_offsetOf, Cond.code yX0_offsetOf cX0_offsetOf 2 (some .int), Cond.methodLink RX5 143 yX0_countOf, Cond.instanceMethod yX0_countOf, Cond.selects RX0 yX0_countOf yX0_countOf, Cond.code yX0_countOf cX0_countOf 2 (some .int), Cond.methodLink RX5 146 yX0_doubt, Cond.instanceMethod yX0_doubt, Cond.selects RX0 yX0_doubt yX0_doubt, Cond.code yX0_doubt cX0_doubt 3 (some .int), Cond.methodLink RX0 31 yX0_countOf, Cond.methodLink RX0 35 yX0_pieceOf, Cond.methodLink RX5 149 yX0_ranked, Cond.instanceMethod yX0_ranked, Cond.selects RX0 yX0_ranked yX0_ranked, Cond.code yX0_ranked cX0_ranked 1 (some .int), Cond.methodLink RX5 152 yX0_allVotes, Cond.instanceMethod yX0_allVotes, Cond.selects RX0 yX0_allVotes yX0_allVotes, Cond.code yX0_allVotes cX0_allVotes 1 (some .int)]
def wsL_law_r19 : List Cond := [Cond.methodLink RL 52 yX6_told, Cond.instanceMethod yX6_told, Cond.selects RX6 yX6_told yX6_told, Cond.code yX6_told cX6_told 3 (some .int), Cond.methodLink RX6 116 yX6_counts, Cond.instanceMethod yX6_counts, Cond.selects RX6 yX6_counts yX6_counts, Cond.code yX6_counts cX6_counts 7 none, Cond.methodLink RX6 107 yX6_findsPeaks, Cond.instanceMethod yX6_findsPeaks, Cond.selects RX6 yX6_findsPeaks yX6_findsPeaks, Cond.code yX6_findsPeaks cX6_findsPeaks 3 none, Cond.methodLink RX6 94 yX6_peakOf, Cond.instanceMethod yX6_peakOf, Cond.selects RX6 yX6_peakOf yX6_peakOf, Cond.code yX6_peakOf cX6_peakOf 5 (some .int), Cond.methodLink RX6 87 yX6_turns, Cond.instanceMethod yX6_turns, Cond.selects RX6 yX6_turns yX6_turns, Cond.code yX6_turns cX6_turns 7 none, Cond.methodLink RX6 91 yX6_shareOf, Cond.instanceMethod yX6_shareOf, Cond.selects RX6 yX6_shareOf yX6_shareOf, Cond.code yX6_shareOf cX6_shareOf 2 (some .int)]
def wsL_law_r20 : List Cond := [Cond.methodLink RX6 101 yX6_keyOf, Cond.instanceMethod yX6_keyOf, Cond.selects RX6 yX6_keyOf yX6_keyOf, Cond.code yX6_keyOf cX6_keyOf 5 (some .int), Cond.methodLink RX6 97 yX6_isWindow, Cond.instanceMethod yX6_isWindow, Cond.selects RX6 yX6_isWindow yX6_isWindow, Cond.code yX6_isWindow cX6_isWindow 3 (some .boolean), Cond.methodLink RX6 104 yX6_stands, Cond.instanceMethod yX6_stands, Cond.selects RX6 yX6_stands yX6_stands, Cond.code yX6_stands cX6_stands 4 (some .boolean), Cond.methodLink RX6 110 yX6_best, Cond.instanceMethod yX6_best, Cond.selects RX6 yX6_best yX6_best, Cond.code yX6_best cX6_best 5 (some .int), Cond.methodLink RX6 119 yX6_ledger, Cond.instanceMethod yX6_ledger, Cond.selects RX6 yX6_ledger yX6_ledger, Cond.code yX6_ledger cX6_ledger 5 (some .int), Cond.methodLink RX6 113 yX6_placesOf, Cond.instanceMethod yX6_placesOf, Cond.selects RX6 yX6_placesOf yX6_placesOf, Cond.code yX6_placesOf cX6_placesOf 5 (some .int)]
def wsL_law_r21 : List Cond := [Cond.methodLink RX6 123 yX6_keysOf, Cond.instanceMethod yX6_keysOf, Cond.selects RX6 yX6_keysOf yX6_keysOf, Cond.code yX6_keysOf cX6_keysOf 5 (some .int), Cond.methodLink RX6 126 yX6_known, Cond.instanceMethod yX6_known, Cond.selects RX6 yX6_known yX6_known, Cond.code yX6_known cX6_known 5 (some .int), Cond.methodLink RX6 130 yX6_doubt, Cond.instanceMethod yX6_doubt, Cond.selects RX6 yX6_doubt yX6_doubt, Cond.code yX6_doubt cX6_doubt 3 (some .int), Cond.methodLink RX6 133 yX6_allVotes, Cond.instanceMethod yX6_allVotes, Cond.selects RX6 yX6_allVotes yX6_allVotes, Cond.code yX6_allVotes cX6_allVotes 4 (some .int), Cond.methodLink RL 53 yX5_row, Cond.instanceMethod yX5_row, Cond.selects RX5 yX5_row yX5_row, Cond.code yX5_row cX5_row 3 (some .int), Cond.methodLink RX5 155 yX3_countIn, Cond.instanceMethod yX3_countIn, Cond.selects RX3 yX3_countIn yX3_countIn, Cond.code yX3_countIn cX3_countIn 4 (some .int)]
def wsL_law_r22 : List Cond := [Cond.methodLink RX5 158 yX3_countKeysIn, Cond.instanceMethod yX3_countKeysIn, Cond.selects RX3 yX3_countKeysIn yX3_countKeysIn, Cond.code yX3_countKeysIn cX3_countKeysIn 6 (some .int), Cond.methodLink RX3 42 yX3_keyOf, Cond.methodLink RX5 161 yX3_allSharesIn, Cond.instanceMethod yX3_allSharesIn, Cond.selects RX3 yX3_allSharesIn yX3_allSharesIn, Cond.code yX3_allSharesIn cX3_allSharesIn 7 (some .int), Cond.methodLink RX5 165 yX3_mostOftenIn, Cond.instanceMethod yX3_mostOftenIn, Cond.selects RX3 yX3_mostOftenIn yX3_mostOftenIn, Cond.code yX3_mostOftenIn cX3_mostOftenIn 5 (some .int), Cond.methodLink RL 56 yX6_row, Cond.instanceMethod yX6_row, Cond.selects RX6 yX6_row yX6_row, Cond.code yX6_row cX6_row 6 (some .int), Cond.methodLink RX6 136 yX6_mostOften, Cond.instanceMethod yX6_mostOften, Cond.selects RX6 yX6_mostOften yX6_mostOften, Cond.code yX6_mostOften cX6_mostOften 7 (some .int), Cond.methodLink RL 57 yX5_at, Cond.instanceMethod yX5_at, Cond.selects RX5 yX5_at yX5_at]
def wsL_law_r23 : List Cond := [Cond.code yX5_at cX5_at 3 (some .int), Cond.methodLink RL 60 yX6_at, Cond.instanceMethod yX6_at, Cond.selects RX6 yX6_at yX6_at, Cond.code yX6_at cX6_at 3 (some .int), Cond.methodLink RL 61 yX5_share, Cond.instanceMethod yX5_share, Cond.selects RX5 yX5_share yX5_share, Cond.code yX5_share cX5_share 4 (some .int), Cond.methodLink RX5 168 yX5_isWindow, Cond.instanceMethod yX5_isWindow, Cond.selects RX5 yX5_isWindow yX5_isWindow, Cond.code yX5_isWindow cX5_isWindow 3 (some .boolean), Cond.methodLink RX5 172 yX3_shareIn, Cond.instanceMethod yX3_shareIn, Cond.selects RX3 yX3_shareIn yX3_shareIn, Cond.code yX3_shareIn cX3_shareIn 5 (some .int), Cond.methodLink RL 64 yX6_share, Cond.instanceMethod yX6_share, Cond.selects RX6 yX6_share yX6_share, Cond.code yX6_share cX6_share 4 (some .int), Cond.methodLink RL 65 yX5_peak, Cond.instanceMethod yX5_peak, Cond.selects RX5 yX5_peak yX5_peak]
def wsL_law_r24 : List Cond := [Cond.code yX5_peak cX5_peak 3 (some .int), Cond.methodLink RX5 176 yX3_peakOf, Cond.methodLink RL 68 yX6_peak, Cond.instanceMethod yX6_peak, Cond.selects RX6 yX6_peak yX6_peak, Cond.code yX6_peak cX6_peak 3 (some .int), Cond.methodLink RL 69 yX5_key, Cond.instanceMethod yX5_key, Cond.selects RX5 yX5_key yX5_key, Cond.code yX5_key cX5_key 4 (some .int), Cond.methodLink RX5 179 yX3_keyOf, Cond.methodLink RL 72 yX6_key, Cond.instanceMethod yX6_key, Cond.selects RX6 yX6_key yX6_key, Cond.code yX6_key cX6_key 4 (some .int), Cond.methodLink RL 73 yX5_keyAt, Cond.instanceMethod yX5_keyAt, Cond.selects RX5 yX5_keyAt yX5_keyAt, Cond.code yX5_keyAt cX5_keyAt 2 (some .int), Cond.methodLink RX5 183 yX1_keyByRise, Cond.instanceMethod yX1_keyByRise, Cond.selects RX1 yX1_keyByRise yX1_keyByRise, Cond.code yX1_keyByRise cX1_keyByRise 4 (some .int), Cond.methodLink RL 76 yX6_keyAt]
def wsL_law_r25 : List Cond := [Cond.instanceMethod yX6_keyAt, Cond.selects RX6 yX6_keyAt yX6_keyAt, Cond.code yX6_keyAt cX6_keyAt 4 (some .int), Cond.methodLink RL 77 yX5_places, Cond.instanceMethod yX5_places, Cond.selects RX5 yX5_places yX5_places, Cond.code yX5_places cX5_places 2 (some .int), Cond.methodLink RX5 186 yX1_placesOf, Cond.methodLink RL 80 yX6_places, Cond.instanceMethod yX6_places, Cond.selects RX6 yX6_places yX6_places, Cond.code yX6_places cX6_places 2 (some .int), Cond.methodLink RL 81 yX5_place, Cond.instanceMethod yX5_place, Cond.selects RX5 yX5_place yX5_place, Cond.code yX5_place cX5_place 3 (some .int), Cond.methodLink RX5 189 yX1_placeOf, Cond.methodLink RL 84 yX6_place, Cond.instanceMethod yX6_place, Cond.selects RX6 yX6_place yX6_place, Cond.code yX6_place cX6_place 5 (some .int), Cond.methodLink RL 85 yX5_votes, Cond.instanceMethod yX5_votes, Cond.selects RX5 yX5_votes yX5_votes]
def wsL_law_r26 : List Cond := [Cond.code yX5_votes cX5_votes 3 (some .int), Cond.methodLink RX5 192 yX0_votesFor, Cond.instanceMethod yX0_votesFor, Cond.selects RX0 yX0_votesFor yX0_votesFor, Cond.code yX0_votesFor cX0_votesFor 3 (some .int), Cond.methodLink RL 88 yX6_votes, Cond.instanceMethod yX6_votes, Cond.selects RX6 yX6_votes yX6_votes, Cond.code yX6_votes cX6_votes 3 (some .int), Cond.methodLink RL 89 yX5_rank, Cond.instanceMethod yX5_rank, Cond.selects RX5 yX5_rank yX5_rank, Cond.code yX5_rank cX5_rank 3 (some .int), Cond.methodLink RL 92 yX6_rank, Cond.instanceMethod yX6_rank, Cond.selects RX6 yX6_rank yX6_rank, Cond.code yX6_rank cX6_rank 5 (some .int), Cond.methodLink RL 93 yX5_keep, Cond.instanceMethod yX5_keep, Cond.selects RX5 yX5_keep yX5_keep, Cond.code yX5_keep cX5_keep 3 (some .int), Cond.methodLink RX5 195 yX4_become, Cond.instanceMethod yX4_become, Cond.selects RX4 yX4_become yX4_become]
def wsL_law_r27 : List Cond := [Cond.code yX4_become cX4_become 2 none, Cond.methodLink RX5 198 yX2_forget, Cond.instanceMethod yX2_forget, Cond.selects RX2 yX2_forget yX2_forget, Cond.code yX2_forget cX2_forget 1 none, Cond.methodLink RL 96 yX6_keep, Cond.instanceMethod yX6_keep, Cond.selects RX6 yX6_keep yX6_keep, Cond.code yX6_keep cX6_keep 3 (some .int), Cond.methodLink RL 97 yX5_goBack, Cond.instanceMethod yX5_goBack, Cond.selects RX5 yX5_goBack yX5_goBack, Cond.code yX5_goBack cX5_goBack 3 (some .int), Cond.methodLink RL 100 yX6_goBack, Cond.instanceMethod yX6_goBack, Cond.selects RX6 yX6_goBack yX6_goBack, Cond.code yX6_goBack cX6_goBack 3 (some .int)]
def wsL_law : List Cond := (wsL_law_r1 ++ (wsL_law_r2 ++ (wsL_law_r3 ++ (wsL_law_r4 ++ (wsL_law_r5 ++ (wsL_law_r6 ++ (wsL_law_r7 ++ (wsL_law_r8 ++ (wsL_law_r9 ++ (wsL_law_r10 ++ (wsL_law_r11 ++ (wsL_law_r12 ++ (wsL_law_r13 ++ (wsL_law_r14 ++ (wsL_law_r15 ++ (wsL_law_r16 ++ (wsL_law_r17 ++ (wsL_law_r18 ++ (wsL_law_r19 ++ (wsL_law_r20 ++ (wsL_law_r21 ++ (wsL_law_r22 ++ (wsL_law_r23 ++ (wsL_law_r24 ++ (wsL_law_r25 ++ (wsL_law_r26 ++ wsL_law_r27)))))))))))))))))))))))))) ++ wsX50 ++ wsX60 ++ wsX40 ++ wsX20 ++ wsX30 ++ wsX10 ++ wsX00 ++ ([] : List Cond)
end
section
theorem zmem_of {big : List Cond} (ws : List Cond) (ps : List Nat) (hp : ws = ps.filterMap (fun i => big[i]?)) : ∀ w ∈ ws, w ∈ big := by
  intro w hw
  rw [hp] at hw
  obtain ⟨i, -, hi⟩ := List.mem_filterMap.mp hw
  exact List.mem_of_getElem? hi
set_option maxRecDepth 20000 in
theorem wsL_law_r1_in : ∀ w ∈ wsL_law_r1, w ∈ lw_tbl := zmem_of _ [46, 47, 37, 541, 542, 43, 48, 49, 50, 51, 52, 53, 54, 55, 38, 163, 74, 75, 39, 164, 165, 103, 104, 40] (by decide +kernel)
set_option maxRecDepth 20000 in
theorem wsL_law_r2_in : ∀ w ∈ wsL_law_r2, w ∈ lw_tbl := zmem_of _ [166, 119, 120, 41, 167, 138, 139, 42, 168, 169, 56, 57, 58, 59, 73, 60, 61, 62, 63, 76, 77, 78, 79, 80] (by decide +kernel)
set_option maxRecDepth 20000 in
theorem wsL_law_r3_in : ∀ w ∈ wsL_law_r3, w ∈ lw_tbl := zmem_of _ [81, 82, 83, 84, 105, 106, 107, 108, 109, 110, 111, 121, 122, 123, 124, 125, 126, 127, 140, 141, 142, 143, 144, 145] (by decide +kernel)
set_option maxRecDepth 20000 in
theorem wsL_law_r4_in : ∀ w ∈ wsL_law_r4, w ∈ lw_tbl := zmem_of _ [543, 544, 545, 546, 547, 548, 550, 575, 551, 552, 553, 554, 555, 185, 186, 187, 188, 195, 196, 201, 189, 190, 191, 192] (by decide +kernel)
set_option maxRecDepth 20000 in
theorem wsL_law_r5_in : ∀ w ∈ wsL_law_r5, w ∈ lw_tbl := zmem_of _ [193, 194, 197, 198, 199, 200, 202, 204, 0, 205, 206, 207, 208, 209, 85, 86, 226, 227, 45, 228, 210, 211, 212, 213] (by decide +kernel)
set_option maxRecDepth 20000 in
theorem wsL_law_r6_in : ∀ w ∈ wsL_law_r6, w ∈ lw_tbl := zmem_of _ [214, 216, 215, 44, 217, 218, 219, 220, 221, 222, 223, 224, 225, 229, 230, 231, 232, 576, 577, 578, 579, 586, 587, 588] (by decide +kernel)
set_option maxRecDepth 20000 in
theorem wsL_law_r7_in : ∀ w ∈ wsL_law_r7, w ∈ lw_tbl := zmem_of _ [580, 581, 582, 583, 584, 585, 589, 591, 15, 592, 549, 593, 595, 16, 596, 233, 234, 235, 236, 237, 238, 239, 240, 597] (by decide +kernel)
set_option maxRecDepth 20000 in
theorem wsL_law_r8_in : ∀ w ∈ wsL_law_r8, w ∈ lw_tbl := zmem_of _ [598, 599, 600, 241, 242, 243, 244, 245, 246, 247, 248, 249, 250, 251, 252, 253, 254, 601, 602, 603, 604, 605, 611, 606] (by decide +kernel)
set_option maxRecDepth 20000 in
theorem wsL_law_r9_in : ∀ w ∈ wsL_law_r9, w ∈ lw_tbl := zmem_of _ [607, 608, 609, 610, 612, 614, 17, 615, 255, 256, 257, 258, 259, 260, 261, 262, 263, 264, 265, 266, 267, 268, 269, 270] (by decide +kernel)
set_option maxRecDepth 20000 in
theorem wsL_law_r10_in : ∀ w ∈ wsL_law_r10, w ∈ lw_tbl := zmem_of _ [616, 617, 618, 619, 624, 620, 622, 18, 623, 625, 627, 19, 628, 629, 630, 631, 271, 272, 273, 274, 632, 633, 634, 635] (by decide +kernel)
set_option maxRecDepth 20000 in
theorem wsL_law_r11_in : ∀ w ∈ wsL_law_r11, w ∈ lw_tbl := zmem_of _ [275, 276, 277, 278, 282, 283, 279, 280, 281, 636, 637, 638, 639, 640, 284, 285, 286, 287, 288, 289, 291, 1, 292, 293] (by decide +kernel)
set_option maxRecDepth 20000 in
theorem wsL_law_r12_in : ∀ w ∈ wsL_law_r12, w ∈ lw_tbl := zmem_of _ [294, 295, 296, 297, 298, 300, 2, 301, 302, 303, 304, 305, 306, 641, 642, 643, 644, 645, 307, 308, 309, 310, 311, 312] (by decide +kernel)
set_option maxRecDepth 20000 in
theorem wsL_law_r13_in : ∀ w ∈ wsL_law_r13, w ∈ lw_tbl := zmem_of _ [313, 314, 315, 316, 317, 318, 319, 320, 321, 322, 323, 324, 646, 647, 648, 649, 325, 326, 327, 328, 329, 331, 3, 332] (by decide +kernel)
set_option maxRecDepth 20000 in
theorem wsL_law_r14_in : ∀ w ∈ wsL_law_r14, w ∈ lw_tbl := zmem_of _ [333, 334, 335, 336, 337, 338, 340, 4, 341, 342, 344, 5, 345, 346, 347, 349, 6, 350, 351, 353, 7, 354, 355, 356] (by decide +kernel)
set_option maxRecDepth 20000 in
theorem wsL_law_r15_in : ∀ w ∈ wsL_law_r15, w ∈ lw_tbl := zmem_of _ [357, 358, 359, 360, 362, 8, 363, 364, 365, 366, 367, 368, 369, 370, 371, 372, 374, 9, 375, 128, 376, 378, 10, 379] (by decide +kernel)
set_option maxRecDepth 20000 in
theorem wsL_law_r16_in : ∀ w ∈ wsL_law_r16, w ∈ lw_tbl := zmem_of _ [380, 381, 382, 383, 147, 384, 386, 11, 387, 146, 148, 149, 388, 389, 391, 12, 392, 393, 394, 395, 396, 397, 398, 399] (by decide +kernel)
set_option maxRecDepth 20000 in
theorem wsL_law_r17_in : ∀ w ∈ wsL_law_r17, w ∈ lw_tbl := zmem_of _ [400, 401, 402, 404, 13, 405, 406, 407, 408, 409, 410, 411, 412, 413, 414, 415, 416, 417, 418, 419, 420, 421, 422, 423] (by decide +kernel)
set_option maxRecDepth 20000 in
theorem wsL_law_r18_in : ∀ w ∈ wsL_law_r18, w ∈ lw_tbl := zmem_of _ [424, 425, 426, 427, 428, 429, 430, 431, 432, 433, 434, 435, 436, 437, 438, 439, 440, 441, 442, 443, 444, 445, 446, 447] (by decide +kernel)
set_option maxRecDepth 20000 in
theorem wsL_law_r19_in : ∀ w ∈ wsL_law_r19, w ∈ lw_tbl := zmem_of _ [650, 651, 652, 653, 654, 656, 20, 657, 658, 660, 21, 661, 662, 664, 22, 665, 666, 668, 23, 669, 670, 672, 24, 673] (by decide +kernel)
set_option maxRecDepth 20000 in
theorem wsL_law_r20_in : ∀ w ∈ wsL_law_r20, w ∈ lw_tbl := zmem_of _ [674, 676, 25, 677, 678, 680, 26, 681, 682, 684, 27, 685, 686, 688, 28, 689, 690, 692, 29, 693, 694, 696, 30, 697] (by decide +kernel)
set_option maxRecDepth 20000 in
theorem wsL_law_r21_in : ∀ w ∈ wsL_law_r21, w ∈ lw_tbl := zmem_of _ [698, 700, 31, 701, 702, 704, 32, 705, 706, 708, 33, 709, 710, 712, 34, 713, 448, 449, 450, 451, 452, 453, 454, 455] (by decide +kernel)
set_option maxRecDepth 20000 in
theorem wsL_law_r22_in : ∀ w ∈ wsL_law_r22, w ∈ lw_tbl := zmem_of _ [456, 457, 458, 459, 460, 461, 462, 463, 464, 465, 466, 467, 468, 714, 715, 716, 717, 718, 720, 35, 721, 469, 470, 471] (by decide +kernel)
set_option maxRecDepth 20000 in
theorem wsL_law_r23_in : ∀ w ∈ wsL_law_r23, w ∈ lw_tbl := zmem_of _ [472, 722, 723, 724, 725, 473, 474, 475, 476, 477, 479, 14, 480, 481, 482, 483, 484, 726, 727, 728, 729, 485, 486, 487] (by decide +kernel)
set_option maxRecDepth 20000 in
theorem wsL_law_r24_in : ∀ w ∈ wsL_law_r24, w ∈ lw_tbl := zmem_of _ [488, 489, 730, 731, 732, 733, 490, 491, 492, 493, 494, 734, 735, 736, 737, 495, 496, 497, 498, 499, 500, 501, 502, 738] (by decide +kernel)
set_option maxRecDepth 20000 in
theorem wsL_law_r25_in : ∀ w ∈ wsL_law_r25, w ∈ lw_tbl := zmem_of _ [739, 740, 741, 503, 504, 505, 506, 507, 742, 743, 744, 745, 508, 509, 510, 511, 512, 746, 747, 748, 749, 513, 514, 515] (by decide +kernel)
set_option maxRecDepth 20000 in
theorem wsL_law_r26_in : ∀ w ∈ wsL_law_r26, w ∈ lw_tbl := zmem_of _ [516, 517, 518, 519, 520, 750, 751, 752, 753, 521, 522, 523, 524, 754, 755, 756, 757, 525, 526, 527, 528, 529, 530, 531] (by decide +kernel)
set_option maxRecDepth 20000 in
theorem wsL_law_r27_in : ∀ w ∈ wsL_law_r27, w ∈ lw_tbl := zmem_of _ [532, 533, 534, 535, 536, 758, 759, 760, 761, 537, 538, 539, 540, 762, 763, 764, 765] (by decide +kernel)
set_option maxRecDepth 20000 in
theorem wsX50_in9 : ∀ w ∈ wsX50, w ∈ lw_tbl := zmem_of _ [170, 172, 174, 176, 178, 180, 182] (by decide +kernel)
set_option maxRecDepth 20000 in
theorem wsX60_in9 : ∀ w ∈ wsX60, w ∈ lw_tbl := zmem_of _ [556, 558, 560, 562, 564, 566, 568, 570, 572] (by decide +kernel)
set_option maxRecDepth 20000 in
theorem wsX40_in9 : ∀ w ∈ wsX40, w ∈ lw_tbl := zmem_of _ [64, 66, 68, 70] (by decide +kernel)
set_option maxRecDepth 20000 in
theorem wsX20_in9 : ∀ w ∈ wsX20, w ∈ lw_tbl := zmem_of _ [87, 89, 91, 93, 95, 97, 99] (by decide +kernel)
set_option maxRecDepth 20000 in
theorem wsX30_in9 : ∀ w ∈ wsX30, w ∈ lw_tbl := zmem_of _ [112, 114, 116] (by decide +kernel)
set_option maxRecDepth 20000 in
theorem wsX10_in9 : ∀ w ∈ wsX10, w ∈ lw_tbl := zmem_of _ [129, 131, 133, 135] (by decide +kernel)
set_option maxRecDepth 20000 in
theorem wsX00_in9 : ∀ w ∈ wsX00, w ∈ lw_tbl := zmem_of _ [150, 152, 154, 156, 158, 160] (by decide +kernel)
theorem zmem_app {big a b : List Cond} (h1 : ∀ w ∈ a, w ∈ big) (h2 : ∀ w ∈ b, w ∈ big) : ∀ w ∈ a ++ b, w ∈ big := fun w h => (List.mem_append.mp h).elim (h1 w) (h2 w)
theorem wsL_law_in : ∀ w ∈ wsL_law, w ∈ lw_tbl := zmem_app (zmem_app (zmem_app (zmem_app (zmem_app (zmem_app (zmem_app (zmem_app (zmem_app wsL_law_r1_in (zmem_app wsL_law_r2_in (zmem_app wsL_law_r3_in (zmem_app wsL_law_r4_in (zmem_app wsL_law_r5_in (zmem_app wsL_law_r6_in (zmem_app wsL_law_r7_in (zmem_app wsL_law_r8_in (zmem_app wsL_law_r9_in (zmem_app wsL_law_r10_in (zmem_app wsL_law_r11_in (zmem_app wsL_law_r12_in (zmem_app wsL_law_r13_in (zmem_app wsL_law_r14_in (zmem_app wsL_law_r15_in (zmem_app wsL_law_r16_in (zmem_app wsL_law_r17_in (zmem_app wsL_law_r18_in (zmem_app wsL_law_r19_in (zmem_app wsL_law_r20_in (zmem_app wsL_law_r21_in (zmem_app wsL_law_r22_in (zmem_app wsL_law_r23_in (zmem_app wsL_law_r24_in (zmem_app wsL_law_r25_in (zmem_app wsL_law_r26_in wsL_law_r27_in)))))))))))))))))))))))))) wsX50_in9) wsX60_in9) wsX40_in9) wsX20_in9) wsX30_in9) wsX10_in9) wsX00_in9) (fun _ h => absurd h List.not_mem_nil)
theorem inlX0 : ∀ w ∈ wsX00, w ∈ wsL_law := fun _ h => List.mem_append_left _ (List.mem_append_right _ h)
theorem inX0 : ∀ w ∈ wsX00, w ∈ lw_tbl := fun w h => wsL_law_in w (inlX0 w h)
theorem inlX1 : ∀ w ∈ wsX10, w ∈ wsL_law := fun _ h => List.mem_append_left _ (List.mem_append_left _ (List.mem_append_right _ h))
theorem inX1 : ∀ w ∈ wsX10, w ∈ lw_tbl := fun w h => wsL_law_in w (inlX1 w h)
theorem inlX2 : ∀ w ∈ wsX20, w ∈ wsL_law := fun _ h => List.mem_append_left _ (List.mem_append_left _ (List.mem_append_left _ (List.mem_append_left _ (List.mem_append_right _ h))))
theorem inX2 : ∀ w ∈ wsX20, w ∈ lw_tbl := fun w h => wsL_law_in w (inlX2 w h)
theorem inlX3 : ∀ w ∈ wsX30, w ∈ wsL_law := fun _ h => List.mem_append_left _ (List.mem_append_left _ (List.mem_append_left _ (List.mem_append_right _ h)))
theorem inX3 : ∀ w ∈ wsX30, w ∈ lw_tbl := fun w h => wsL_law_in w (inlX3 w h)
theorem inlX4 : ∀ w ∈ wsX40, w ∈ wsL_law := fun _ h => List.mem_append_left _ (List.mem_append_left _ (List.mem_append_left _ (List.mem_append_left _ (List.mem_append_left _ (List.mem_append_right _ h)))))
theorem inX4 : ∀ w ∈ wsX40, w ∈ lw_tbl := fun w h => wsL_law_in w (inlX4 w h)
theorem inlX5 : ∀ w ∈ wsX50, w ∈ wsL_law := fun _ h => List.mem_append_left _ (List.mem_append_left _ (List.mem_append_left _ (List.mem_append_left _ (List.mem_append_left _ (List.mem_append_left _ (List.mem_append_left _ (List.mem_append_right _ h)))))))
theorem inX5 : ∀ w ∈ wsX50, w ∈ lw_tbl := fun w h => wsL_law_in w (inlX5 w h)
theorem inlX6 : ∀ w ∈ wsX60, w ∈ wsL_law := fun _ h => List.mem_append_left _ (List.mem_append_left _ (List.mem_append_left _ (List.mem_append_left _ (List.mem_append_left _ (List.mem_append_left _ (List.mem_append_right _ h))))))
theorem inX6 : ∀ w ∈ wsX60, w ∈ lw_tbl := fun w h => wsL_law_in w (inlX6 w h)
theorem inJ9 : ∀ w ∈ wsJ90, w ∈ lw_tbl := by decide +kernel
theorem inJ10 : ∀ w ∈ wsJ100, w ∈ lw_tbl := by decide +kernel
theorem dX0_init_0 : decode cX0_init 0 = .ok (.aload_n 0, 1) := by decide +kernel
theorem dX0_init_1 : decode cX0_init 1 = .ok (.invokespecial 3, 3) := by decide +kernel
theorem dX0_init_4 : decode cX0_init 4 = .ok (.aload_n 0, 1) := by decide +kernel
theorem dX0_init_5 : decode cX0_init 5 = .ok (.bipush 124, 2) := by decide +kernel
theorem dX0_init_7 : decode cX0_init 7 = .ok (.newarray .int, 2) := by decide +kernel
theorem dX0_init_9 : decode cX0_init 9 = .ok (.putfield 9, 3) := by decide +kernel
theorem dX0_init_12 : decode cX0_init 12 = .ok (.aload_n 0, 1) := by decide +kernel
theorem dX0_init_13 : decode cX0_init 13 = .ok (.bipush 124, 2) := by decide +kernel
theorem dX0_init_15 : decode cX0_init 15 = .ok (.newarray .int, 2) := by decide +kernel
theorem dX0_init_17 : decode cX0_init 17 = .ok (.putfield 15, 3) := by decide +kernel
theorem dX0_init_20 : decode cX0_init 20 = .ok (.return_, 1) := by decide +kernel
theorem dX0_keysHeard_0 : decode cX0_keysHeard 0 = .ok (.aload_n 0, 1) := by decide +kernel
theorem dX0_keysHeard_1 : decode cX0_keysHeard 1 = .ok (.getfield 18, 3) := by decide +kernel
theorem dX0_keysHeard_4 : decode cX0_keysHeard 4 = .ok (.ireturn, 1) := by decide +kernel
theorem dX0_keysKnown_0 : decode cX0_keysKnown 0 = .ok (.aload_n 0, 1) := by decide +kernel
theorem dX0_keysKnown_1 : decode cX0_keysKnown 1 = .ok (.getfield 22, 3) := by decide +kernel
theorem dX0_keysKnown_4 : decode cX0_keysKnown 4 = .ok (.ireturn, 1) := by decide +kernel
theorem dX0_allVotes_0 : decode cX0_allVotes 0 = .ok (.aload_n 0, 1) := by decide +kernel
theorem dX0_allVotes_1 : decode cX0_allVotes 1 = .ok (.getfield 25, 3) := by decide +kernel
theorem dX0_allVotes_4 : decode cX0_allVotes 4 = .ok (.ireturn, 1) := by decide +kernel
theorem dX0_ranked_0 : decode cX0_ranked 0 = .ok (.aload_n 0, 1) := by decide +kernel
theorem dX0_ranked_1 : decode cX0_ranked 1 = .ok (.getfield 28, 3) := by decide +kernel
theorem dX0_ranked_4 : decode cX0_ranked 4 = .ok (.ireturn, 1) := by decide +kernel
theorem dX0_votesFor_0 : decode cX0_votesFor 0 = .ok (.aload_n 0, 1) := by decide +kernel
theorem dX0_votesFor_1 : decode cX0_votesFor 1 = .ok (.getfield 9, 3) := by decide +kernel
theorem dX0_votesFor_4 : decode cX0_votesFor 4 = .ok (.iload_n 1, 1) := by decide +kernel
theorem dX0_votesFor_5 : decode cX0_votesFor 5 = .ok (.bipush 31, 2) := by decide +kernel
theorem dX0_votesFor_7 : decode cX0_votesFor 7 = .ok (.imul, 1) := by decide +kernel
theorem dX0_votesFor_8 : decode cX0_votesFor 8 = .ok (.iload_n 2, 1) := by decide +kernel
theorem dX0_votesFor_9 : decode cX0_votesFor 9 = .ok (.iadd, 1) := by decide +kernel
theorem dX0_votesFor_10 : decode cX0_votesFor 10 = .ok (.bipush 15, 2) := by decide +kernel
theorem dX0_votesFor_12 : decode cX0_votesFor 12 = .ok (.iadd, 1) := by decide +kernel
theorem dX0_votesFor_13 : decode cX0_votesFor 13 = .ok (.iaload, 1) := by decide +kernel
theorem dX0_votesFor_14 : decode cX0_votesFor 14 = .ok (.ireturn, 1) := by decide +kernel
theorem dX0_pieceOf_0 : decode cX0_pieceOf 0 = .ok (.iload_n 1, 1) := by decide +kernel
theorem dX0_pieceOf_1 : decode cX0_pieceOf 1 = .ok (.aload_n 0, 1) := by decide +kernel
theorem dX0_pieceOf_2 : decode cX0_pieceOf 2 = .ok (.getfield 28, 3) := by decide +kernel
theorem dX0_pieceOf_5 : decode cX0_pieceOf 5 = .ok (.if_icmp .ge 15, 3) := by decide +kernel
theorem dX0_pieceOf_8 : decode cX0_pieceOf 8 = .ok (.aload_n 0, 1) := by decide +kernel
theorem dX0_pieceOf_9 : decode cX0_pieceOf 9 = .ok (.getfield 15, 3) := by decide +kernel
theorem dX0_pieceOf_12 : decode cX0_pieceOf 12 = .ok (.iload_n 1, 1) := by decide +kernel
theorem dX0_pieceOf_13 : decode cX0_pieceOf 13 = .ok (.iaload, 1) := by decide +kernel
theorem dX0_pieceOf_14 : decode cX0_pieceOf 14 = .ok (.bipush 31, 2) := by decide +kernel
theorem dX0_pieceOf_16 : decode cX0_pieceOf 16 = .ok (.idiv, 1) := by decide +kernel
theorem dX0_pieceOf_17 : decode cX0_pieceOf 17 = .ok (.goto 4, 3) := by decide +kernel
theorem dX0_pieceOf_20 : decode cX0_pieceOf 20 = .ok (.iconst (-1), 1) := by decide +kernel
theorem dX0_pieceOf_21 : decode cX0_pieceOf 21 = .ok (.ireturn, 1) := by decide +kernel
theorem dX0_offsetOf_0 : decode cX0_offsetOf 0 = .ok (.iload_n 1, 1) := by decide +kernel
theorem dX0_offsetOf_1 : decode cX0_offsetOf 1 = .ok (.aload_n 0, 1) := by decide +kernel
theorem dX0_offsetOf_2 : decode cX0_offsetOf 2 = .ok (.getfield 28, 3) := by decide +kernel
theorem dX0_offsetOf_5 : decode cX0_offsetOf 5 = .ok (.if_icmp .ge 18, 3) := by decide +kernel
theorem dX0_offsetOf_8 : decode cX0_offsetOf 8 = .ok (.aload_n 0, 1) := by decide +kernel
theorem dX0_offsetOf_9 : decode cX0_offsetOf 9 = .ok (.getfield 15, 3) := by decide +kernel
theorem dX0_offsetOf_12 : decode cX0_offsetOf 12 = .ok (.iload_n 1, 1) := by decide +kernel
theorem dX0_offsetOf_13 : decode cX0_offsetOf 13 = .ok (.iaload, 1) := by decide +kernel
theorem dX0_offsetOf_14 : decode cX0_offsetOf 14 = .ok (.bipush 31, 2) := by decide +kernel
theorem dX0_offsetOf_16 : decode cX0_offsetOf 16 = .ok (.irem, 1) := by decide +kernel
theorem dX0_offsetOf_17 : decode cX0_offsetOf 17 = .ok (.bipush 15, 2) := by decide +kernel
theorem dX0_offsetOf_19 : decode cX0_offsetOf 19 = .ok (.isub, 1) := by decide +kernel
theorem dX0_offsetOf_20 : decode cX0_offsetOf 20 = .ok (.goto 4, 3) := by decide +kernel
theorem dX0_offsetOf_23 : decode cX0_offsetOf 23 = .ok (.iconst 0, 1) := by decide +kernel
theorem dX0_offsetOf_24 : decode cX0_offsetOf 24 = .ok (.ireturn, 1) := by decide +kernel
theorem dX0_countOf_0 : decode cX0_countOf 0 = .ok (.iload_n 1, 1) := by decide +kernel
theorem dX0_countOf_1 : decode cX0_countOf 1 = .ok (.aload_n 0, 1) := by decide +kernel
theorem dX0_countOf_2 : decode cX0_countOf 2 = .ok (.getfield 28, 3) := by decide +kernel
theorem dX0_countOf_5 : decode cX0_countOf 5 = .ok (.if_icmp .ge 17, 3) := by decide +kernel
theorem dX0_countOf_8 : decode cX0_countOf 8 = .ok (.aload_n 0, 1) := by decide +kernel
theorem dX0_countOf_9 : decode cX0_countOf 9 = .ok (.getfield 9, 3) := by decide +kernel
theorem dX0_countOf_12 : decode cX0_countOf 12 = .ok (.aload_n 0, 1) := by decide +kernel
theorem dX0_countOf_13 : decode cX0_countOf 13 = .ok (.getfield 15, 3) := by decide +kernel
theorem dX0_countOf_16 : decode cX0_countOf 16 = .ok (.iload_n 1, 1) := by decide +kernel
theorem dX0_countOf_17 : decode cX0_countOf 17 = .ok (.iaload, 1) := by decide +kernel
theorem dX0_countOf_18 : decode cX0_countOf 18 = .ok (.iaload, 1) := by decide +kernel
theorem dX0_countOf_19 : decode cX0_countOf 19 = .ok (.goto 4, 3) := by decide +kernel
theorem dX0_countOf_22 : decode cX0_countOf 22 = .ok (.iconst 0, 1) := by decide +kernel
theorem dX0_countOf_23 : decode cX0_countOf 23 = .ok (.ireturn, 1) := by decide +kernel
set_option maxRecDepth 20000 in
theorem ggX0_doubt_X0_countOf : GoodIn wsX0_doubt wsX0_countOf := goodIn_r _ [6, 1, 7, 8, 13, 14, 15, 16, 17, 18] (by decide +kernel) (by decide +kernel)
set_option maxRecDepth 20000 in
theorem gX0_doubt_X0_countOf : GoodIn wsX0_doubt (wsV RX0 31 RX0 yX0_countOf wsX0_countOf) := goodIn_app (goodIn_of _ (by decide +kernel)) ggX0_doubt_X0_countOf
set_option maxRecDepth 20000 in
theorem ggX0_doubt_X0_pieceOf : GoodIn wsX0_doubt wsX0_pieceOf := goodIn_r _ [12, 1, 8, 13, 14, 15, 16, 17, 18] (by decide +kernel) (by decide +kernel)
set_option maxRecDepth 20000 in
theorem gX0_doubt_X0_pieceOf : GoodIn wsX0_doubt (wsV RX0 35 RX0 yX0_pieceOf wsX0_pieceOf) := goodIn_app (goodIn_of _ (by decide +kernel)) ggX0_doubt_X0_pieceOf
theorem dX0_doubt_0 : decode cX0_doubt 0 = .ok (.aload_n 0, 1) := by decide +kernel
theorem dX0_doubt_1 : decode cX0_doubt 1 = .ok (.iconst 0, 1) := by decide +kernel
theorem dX0_doubt_2 : decode cX0_doubt 2 = .ok (.invokevirtual 31, 3) := by decide +kernel
theorem dX0_doubt_5 : decode cX0_doubt 5 = .ok (.istore_n 1, 1) := by decide +kernel
theorem dX0_doubt_6 : decode cX0_doubt 6 = .ok (.iload_n 1, 1) := by decide +kernel
theorem dX0_doubt_7 : decode cX0_doubt 7 = .ok (.ifCond .gt 6, 3) := by decide +kernel
theorem dX0_doubt_10 : decode cX0_doubt 10 = .ok (.bipush 100, 2) := by decide +kernel
theorem dX0_doubt_12 : decode cX0_doubt 12 = .ok (.ireturn, 1) := by decide +kernel
theorem dX0_doubt_13 : decode cX0_doubt 13 = .ok (.iconst 1, 1) := by decide +kernel
theorem dX0_doubt_14 : decode cX0_doubt 14 = .ok (.istore_n 2, 1) := by decide +kernel
theorem dX0_doubt_15 : decode cX0_doubt 15 = .ok (.iload_n 2, 1) := by decide +kernel
theorem dX0_doubt_16 : decode cX0_doubt 16 = .ok (.aload_n 0, 1) := by decide +kernel
theorem dX0_doubt_17 : decode cX0_doubt 17 = .ok (.getfield 28, 3) := by decide +kernel
theorem dX0_doubt_20 : decode cX0_doubt 20 = .ok (.if_icmp .ge 33, 3) := by decide +kernel
theorem dX0_doubt_23 : decode cX0_doubt 23 = .ok (.aload_n 0, 1) := by decide +kernel
theorem dX0_doubt_24 : decode cX0_doubt 24 = .ok (.iload_n 2, 1) := by decide +kernel
theorem dX0_doubt_25 : decode cX0_doubt 25 = .ok (.invokevirtual 35, 3) := by decide +kernel
theorem dX0_doubt_28 : decode cX0_doubt 28 = .ok (.aload_n 0, 1) := by decide +kernel
theorem dX0_doubt_29 : decode cX0_doubt 29 = .ok (.iconst 0, 1) := by decide +kernel
theorem dX0_doubt_30 : decode cX0_doubt 30 = .ok (.invokevirtual 35, 3) := by decide +kernel
theorem dX0_doubt_33 : decode cX0_doubt 33 = .ok (.if_icmp .eq 14, 3) := by decide +kernel
theorem dX0_doubt_36 : decode cX0_doubt 36 = .ok (.aload_n 0, 1) := by decide +kernel
theorem dX0_doubt_37 : decode cX0_doubt 37 = .ok (.iload_n 2, 1) := by decide +kernel
theorem dX0_doubt_38 : decode cX0_doubt 38 = .ok (.invokevirtual 31, 3) := by decide +kernel
theorem dX0_doubt_41 : decode cX0_doubt 41 = .ok (.bipush 100, 2) := by decide +kernel
theorem dX0_doubt_43 : decode cX0_doubt 43 = .ok (.imul, 1) := by decide +kernel
theorem dX0_doubt_44 : decode cX0_doubt 44 = .ok (.iload_n 1, 1) := by decide +kernel
theorem dX0_doubt_45 : decode cX0_doubt 45 = .ok (.idiv, 1) := by decide +kernel
theorem dX0_doubt_46 : decode cX0_doubt 46 = .ok (.ireturn, 1) := by decide +kernel
theorem dX0_doubt_47 : decode cX0_doubt 47 = .ok (.iinc 2 1, 3) := by decide +kernel
theorem dX0_doubt_50 : decode cX0_doubt 50 = .ok (.goto (-35), 3) := by decide +kernel
theorem dX0_doubt_53 : decode cX0_doubt 53 = .ok (.iconst 0, 1) := by decide +kernel
theorem dX0_doubt_54 : decode cX0_doubt 54 = .ok (.ireturn, 1) := by decide +kernel
set_option maxRecDepth 20000 in
theorem ggX0_cast_X0_clear : GoodIn wsX0_cast wsX0_clear := goodIn_r _ [6, 7, 8, 1, 9, 10, 42, 43, 44, 45, 46, 47] (by decide +kernel) (by decide +kernel)
set_option maxRecDepth 20000 in
theorem gX0_cast_X0_clear : GoodIn wsX0_cast (wsV RX0 38 RX0 yX0_clear wsX0_clear) := goodIn_app (goodIn_of _ (by decide +kernel)) ggX0_cast_X0_clear
set_option maxRecDepth 20000 in
theorem ggX0_cast_X3_keyOf : GoodIn wsX0_cast wsX3_keyOf := goodIn_r _ [15, 16, 17, 18, 14, 19, 20, 48, 49, 50] (by decide +kernel) (by decide +kernel)
set_option maxRecDepth 20000 in
theorem gX0_cast_X3_keyOf : GoodIn wsX0_cast (wsV RX0 41 RX3 yX3_keyOf wsX3_keyOf) := goodIn_app (goodIn_of _ (by decide +kernel)) ggX0_cast_X3_keyOf
set_option maxRecDepth 20000 in
theorem ggX0_cast_X0_castFor : GoodIn wsX0_cast wsX0_castFor := goodIn_r _ [24, 9, 7, 10, 25, 26, 27, 28, 29, 30, 31, 32, 33, 34, 35, 36, 42, 43, 44, 45, 46, 47, 51, 52, 53, 54] (by decide +kernel) (by decide +kernel)
set_option maxRecDepth 20000 in
theorem gX0_cast_X0_castFor : GoodIn wsX0_cast (wsV RX0 47 RX0 yX0_castFor wsX0_castFor) := goodIn_app (goodIn_of _ (by decide +kernel)) ggX0_cast_X0_castFor
set_option maxRecDepth 20000 in
theorem ggX0_cast_X0_rankCells : GoodIn wsX0_cast wsX0_rankCells := goodIn_r _ [40, 7, 8, 41, 42, 43, 44, 45, 46, 47] (by decide +kernel) (by decide +kernel)
set_option maxRecDepth 20000 in
theorem gX0_cast_X0_rankCells : GoodIn wsX0_cast (wsV RX0 51 RX0 yX0_rankCells wsX0_rankCells) := goodIn_app (goodIn_of _ (by decide +kernel)) ggX0_cast_X0_rankCells
theorem dX0_cast_0 : decode cX0_cast 0 = .ok (.aload_n 0, 1) := by decide +kernel
theorem dX0_cast_1 : decode cX0_cast 1 = .ok (.invokevirtual 38, 3) := by decide +kernel
theorem dX0_cast_4 : decode cX0_cast 4 = .ok (.iconst 0, 1) := by decide +kernel
theorem dX0_cast_5 : decode cX0_cast 5 = .ok (.istore 4, 2) := by decide +kernel
theorem dX0_cast_7 : decode cX0_cast 7 = .ok (.iload 4, 2) := by decide +kernel
theorem dX0_cast_9 : decode cX0_cast 9 = .ok (.bipush 16, 2) := by decide +kernel
theorem dX0_cast_11 : decode cX0_cast 11 = .ok (.if_icmp .ge 64, 3) := by decide +kernel
theorem dX0_cast_14 : decode cX0_cast 14 = .ok (.iconst 1, 1) := by decide +kernel
theorem dX0_cast_15 : decode cX0_cast 15 = .ok (.istore 5, 2) := by decide +kernel
theorem dX0_cast_17 : decode cX0_cast 17 = .ok (.iload 5, 2) := by decide +kernel
theorem dX0_cast_19 : decode cX0_cast 19 = .ok (.iload_n 3, 1) := by decide +kernel
theorem dX0_cast_20 : decode cX0_cast 20 = .ok (.if_icmp .gt 49, 3) := by decide +kernel
theorem dX0_cast_23 : decode cX0_cast 23 = .ok (.aload_n 1, 1) := by decide +kernel
theorem dX0_cast_24 : decode cX0_cast 24 = .ok (.iconst 4, 1) := by decide +kernel
theorem dX0_cast_25 : decode cX0_cast 25 = .ok (.iload 4, 2) := by decide +kernel
theorem dX0_cast_27 : decode cX0_cast 27 = .ok (.iload 4, 2) := by decide +kernel
theorem dX0_cast_29 : decode cX0_cast 29 = .ok (.iload 5, 2) := by decide +kernel
theorem dX0_cast_31 : decode cX0_cast 31 = .ok (.iadd, 1) := by decide +kernel
theorem dX0_cast_32 : decode cX0_cast 32 = .ok (.iload_n 3, 1) := by decide +kernel
theorem dX0_cast_33 : decode cX0_cast 33 = .ok (.invokevirtual 41, 3) := by decide +kernel
theorem dX0_cast_36 : decode cX0_cast 36 = .ok (.istore 6, 2) := by decide +kernel
theorem dX0_cast_38 : decode cX0_cast 38 = .ok (.iload 6, 2) := by decide +kernel
theorem dX0_cast_40 : decode cX0_cast 40 = .ok (.iconst (-1), 1) := by decide +kernel
theorem dX0_cast_41 : decode cX0_cast 41 = .ok (.if_icmp .eq 22, 3) := by decide +kernel
theorem dX0_cast_44 : decode cX0_cast 44 = .ok (.aload_n 0, 1) := by decide +kernel
theorem dX0_cast_45 : decode cX0_cast 45 = .ok (.dup, 1) := by decide +kernel
theorem dX0_cast_46 : decode cX0_cast 46 = .ok (.getfield 18, 3) := by decide +kernel
theorem dX0_cast_49 : decode cX0_cast 49 = .ok (.iconst 1, 1) := by decide +kernel
theorem dX0_cast_50 : decode cX0_cast 50 = .ok (.iadd, 1) := by decide +kernel
theorem dX0_cast_51 : decode cX0_cast 51 = .ok (.putfield 18, 3) := by decide +kernel
theorem dX0_cast_54 : decode cX0_cast 54 = .ok (.aload_n 0, 1) := by decide +kernel
theorem dX0_cast_55 : decode cX0_cast 55 = .ok (.aload_n 2, 1) := by decide +kernel
theorem dX0_cast_56 : decode cX0_cast 56 = .ok (.iload 6, 2) := by decide +kernel
theorem dX0_cast_58 : decode cX0_cast 58 = .ok (.iload 4, 2) := by decide +kernel
theorem dX0_cast_60 : decode cX0_cast 60 = .ok (.invokevirtual 47, 3) := by decide +kernel
theorem dX0_cast_63 : decode cX0_cast 63 = .ok (.iinc 5 1, 3) := by decide +kernel
theorem dX0_cast_66 : decode cX0_cast 66 = .ok (.goto (-49), 3) := by decide +kernel
theorem dX0_cast_69 : decode cX0_cast 69 = .ok (.iinc 4 1, 3) := by decide +kernel
theorem dX0_cast_72 : decode cX0_cast 72 = .ok (.goto (-65), 3) := by decide +kernel
theorem dX0_cast_75 : decode cX0_cast 75 = .ok (.aload_n 0, 1) := by decide +kernel
theorem dX0_cast_76 : decode cX0_cast 76 = .ok (.invokevirtual 51, 3) := by decide +kernel
theorem dX0_cast_79 : decode cX0_cast 79 = .ok (.return_, 1) := by decide +kernel
theorem dX0_clear_0 : decode cX0_clear 0 = .ok (.iconst 0, 1) := by decide +kernel
theorem dX0_clear_1 : decode cX0_clear 1 = .ok (.istore_n 1, 1) := by decide +kernel
theorem dX0_clear_2 : decode cX0_clear 2 = .ok (.iload_n 1, 1) := by decide +kernel
theorem dX0_clear_3 : decode cX0_clear 3 = .ok (.bipush 124, 2) := by decide +kernel
theorem dX0_clear_5 : decode cX0_clear 5 = .ok (.if_icmp .ge 16, 3) := by decide +kernel
theorem dX0_clear_8 : decode cX0_clear 8 = .ok (.aload_n 0, 1) := by decide +kernel
theorem dX0_clear_9 : decode cX0_clear 9 = .ok (.getfield 9, 3) := by decide +kernel
theorem dX0_clear_12 : decode cX0_clear 12 = .ok (.iload_n 1, 1) := by decide +kernel
theorem dX0_clear_13 : decode cX0_clear 13 = .ok (.iconst 0, 1) := by decide +kernel
theorem dX0_clear_14 : decode cX0_clear 14 = .ok (.iastore, 1) := by decide +kernel
theorem dX0_clear_15 : decode cX0_clear 15 = .ok (.iinc 1 1, 3) := by decide +kernel
theorem dX0_clear_18 : decode cX0_clear 18 = .ok (.goto (-16), 3) := by decide +kernel
theorem dX0_clear_21 : decode cX0_clear 21 = .ok (.aload_n 0, 1) := by decide +kernel
theorem dX0_clear_22 : decode cX0_clear 22 = .ok (.iconst 0, 1) := by decide +kernel
theorem dX0_clear_23 : decode cX0_clear 23 = .ok (.putfield 28, 3) := by decide +kernel
theorem dX0_clear_26 : decode cX0_clear 26 = .ok (.aload_n 0, 1) := by decide +kernel
theorem dX0_clear_27 : decode cX0_clear 27 = .ok (.iconst 0, 1) := by decide +kernel
theorem dX0_clear_28 : decode cX0_clear 28 = .ok (.putfield 18, 3) := by decide +kernel
theorem dX0_clear_31 : decode cX0_clear 31 = .ok (.aload_n 0, 1) := by decide +kernel
theorem dX0_clear_32 : decode cX0_clear 32 = .ok (.iconst 0, 1) := by decide +kernel
theorem dX0_clear_33 : decode cX0_clear 33 = .ok (.putfield 22, 3) := by decide +kernel
theorem dX0_clear_36 : decode cX0_clear 36 = .ok (.aload_n 0, 1) := by decide +kernel
theorem dX0_clear_37 : decode cX0_clear 37 = .ok (.iconst 0, 1) := by decide +kernel
theorem dX0_clear_38 : decode cX0_clear 38 = .ok (.putfield 25, 3) := by decide +kernel
theorem dX0_clear_41 : decode cX0_clear 41 = .ok (.return_, 1) := by decide +kernel
set_option maxRecDepth 20000 in
theorem ggX0_castFor_X1_placesOf : GoodIn wsX0_castFor wsX1_placesOf := goodIn_r _ [8, 9, 22, 23, 24, 25] (by decide +kernel) (by decide +kernel)
set_option maxRecDepth 20000 in
theorem gX0_castFor_X1_placesOf : GoodIn wsX0_castFor (wsV RX0 54 RX1 yX1_placesOf wsX1_placesOf) := goodIn_app (goodIn_of _ (by decide +kernel)) ggX0_castFor_X1_placesOf
set_option maxRecDepth 20000 in
theorem ggX0_castFor_X1_placeOf : GoodIn wsX0_castFor wsX1_placeOf := goodIn_r _ [13, 14, 9, 15, 5, 6, 7, 8, 22, 23, 24, 25] (by decide +kernel) (by decide +kernel)
set_option maxRecDepth 20000 in
theorem gX0_castFor_X1_placeOf : GoodIn wsX0_castFor (wsV RX0 59 RX1 yX1_placeOf wsX1_placeOf) := goodIn_app (goodIn_of _ (by decide +kernel)) ggX0_castFor_X1_placeOf
theorem dX0_castFor_0 : decode cX0_castFor 0 = .ok (.aload_n 1, 1) := by decide +kernel
theorem dX0_castFor_1 : decode cX0_castFor 1 = .ok (.iload_n 2, 1) := by decide +kernel
theorem dX0_castFor_2 : decode cX0_castFor 2 = .ok (.invokevirtual 54, 3) := by decide +kernel
theorem dX0_castFor_5 : decode cX0_castFor 5 = .ok (.istore 4, 2) := by decide +kernel
theorem dX0_castFor_7 : decode cX0_castFor 7 = .ok (.iload 4, 2) := by decide +kernel
theorem dX0_castFor_9 : decode cX0_castFor 9 = .ok (.ifCond .le 13, 3) := by decide +kernel
theorem dX0_castFor_12 : decode cX0_castFor 12 = .ok (.aload_n 0, 1) := by decide +kernel
theorem dX0_castFor_13 : decode cX0_castFor 13 = .ok (.dup, 1) := by decide +kernel
theorem dX0_castFor_14 : decode cX0_castFor 14 = .ok (.getfield 22, 3) := by decide +kernel
theorem dX0_castFor_17 : decode cX0_castFor 17 = .ok (.iconst 1, 1) := by decide +kernel
theorem dX0_castFor_18 : decode cX0_castFor 18 = .ok (.iadd, 1) := by decide +kernel
theorem dX0_castFor_19 : decode cX0_castFor 19 = .ok (.putfield 22, 3) := by decide +kernel
theorem dX0_castFor_22 : decode cX0_castFor 22 = .ok (.iconst 0, 1) := by decide +kernel
theorem dX0_castFor_23 : decode cX0_castFor 23 = .ok (.istore 5, 2) := by decide +kernel
theorem dX0_castFor_25 : decode cX0_castFor 25 = .ok (.iload 5, 2) := by decide +kernel
theorem dX0_castFor_27 : decode cX0_castFor 27 = .ok (.iload 4, 2) := by decide +kernel
theorem dX0_castFor_29 : decode cX0_castFor 29 = .ok (.if_icmp .ge 66, 3) := by decide +kernel
theorem dX0_castFor_32 : decode cX0_castFor 32 = .ok (.aload_n 1, 1) := by decide +kernel
theorem dX0_castFor_33 : decode cX0_castFor 33 = .ok (.iload_n 2, 1) := by decide +kernel
theorem dX0_castFor_34 : decode cX0_castFor 34 = .ok (.iload 5, 2) := by decide +kernel
theorem dX0_castFor_36 : decode cX0_castFor 36 = .ok (.invokevirtual 59, 3) := by decide +kernel
theorem dX0_castFor_39 : decode cX0_castFor 39 = .ok (.istore 6, 2) := by decide +kernel
theorem dX0_castFor_41 : decode cX0_castFor 41 = .ok (.iload 6, 2) := by decide +kernel
theorem dX0_castFor_43 : decode cX0_castFor 43 = .ok (.sipush 1000, 3) := by decide +kernel
theorem dX0_castFor_46 : decode cX0_castFor 46 = .ok (.idiv, 1) := by decide +kernel
theorem dX0_castFor_47 : decode cX0_castFor 47 = .ok (.istore 7, 2) := by decide +kernel
theorem dX0_castFor_49 : decode cX0_castFor 49 = .ok (.iload 6, 2) := by decide +kernel
theorem dX0_castFor_51 : decode cX0_castFor 51 = .ok (.sipush 1000, 3) := by decide +kernel
theorem dX0_castFor_54 : decode cX0_castFor 54 = .ok (.irem, 1) := by decide +kernel
theorem dX0_castFor_55 : decode cX0_castFor 55 = .ok (.iload_n 3, 1) := by decide +kernel
theorem dX0_castFor_56 : decode cX0_castFor 56 = .ok (.isub, 1) := by decide +kernel
theorem dX0_castFor_57 : decode cX0_castFor 57 = .ok (.istore 8, 2) := by decide +kernel
theorem dX0_castFor_59 : decode cX0_castFor 59 = .ok (.aload_n 0, 1) := by decide +kernel
theorem dX0_castFor_60 : decode cX0_castFor 60 = .ok (.getfield 9, 3) := by decide +kernel
theorem dX0_castFor_63 : decode cX0_castFor 63 = .ok (.iload 7, 2) := by decide +kernel
theorem dX0_castFor_65 : decode cX0_castFor 65 = .ok (.bipush 31, 2) := by decide +kernel
theorem dX0_castFor_67 : decode cX0_castFor 67 = .ok (.imul, 1) := by decide +kernel
theorem dX0_castFor_68 : decode cX0_castFor 68 = .ok (.iload 8, 2) := by decide +kernel
theorem dX0_castFor_70 : decode cX0_castFor 70 = .ok (.iadd, 1) := by decide +kernel
theorem dX0_castFor_71 : decode cX0_castFor 71 = .ok (.bipush 15, 2) := by decide +kernel
theorem dX0_castFor_73 : decode cX0_castFor 73 = .ok (.iadd, 1) := by decide +kernel
theorem dX0_castFor_74 : decode cX0_castFor 74 = .ok (.dup2, 1) := by decide +kernel
theorem dX0_castFor_75 : decode cX0_castFor 75 = .ok (.iaload, 1) := by decide +kernel
theorem dX0_castFor_76 : decode cX0_castFor 76 = .ok (.iconst 1, 1) := by decide +kernel
theorem dX0_castFor_77 : decode cX0_castFor 77 = .ok (.iadd, 1) := by decide +kernel
theorem dX0_castFor_78 : decode cX0_castFor 78 = .ok (.iastore, 1) := by decide +kernel
theorem dX0_castFor_79 : decode cX0_castFor 79 = .ok (.aload_n 0, 1) := by decide +kernel
theorem dX0_castFor_80 : decode cX0_castFor 80 = .ok (.dup, 1) := by decide +kernel
theorem dX0_castFor_81 : decode cX0_castFor 81 = .ok (.getfield 25, 3) := by decide +kernel
theorem dX0_castFor_84 : decode cX0_castFor 84 = .ok (.iconst 1, 1) := by decide +kernel
theorem dX0_castFor_85 : decode cX0_castFor 85 = .ok (.iadd, 1) := by decide +kernel
theorem dX0_castFor_86 : decode cX0_castFor 86 = .ok (.putfield 25, 3) := by decide +kernel
theorem dX0_castFor_89 : decode cX0_castFor 89 = .ok (.iinc 5 1, 3) := by decide +kernel
theorem dX0_castFor_92 : decode cX0_castFor 92 = .ok (.goto (-67), 3) := by decide +kernel
theorem dX0_castFor_95 : decode cX0_castFor 95 = .ok (.return_, 1) := by decide +kernel
theorem dX0_rankCells_0 : decode cX0_rankCells 0 = .ok (.iconst 0, 1) := by decide +kernel
theorem dX0_rankCells_1 : decode cX0_rankCells 1 = .ok (.istore_n 1, 1) := by decide +kernel
theorem dX0_rankCells_2 : decode cX0_rankCells 2 = .ok (.iload_n 1, 1) := by decide +kernel
theorem dX0_rankCells_3 : decode cX0_rankCells 3 = .ok (.bipush 124, 2) := by decide +kernel
theorem dX0_rankCells_5 : decode cX0_rankCells 5 = .ok (.if_icmp .ge 86, 3) := by decide +kernel
theorem dX0_rankCells_8 : decode cX0_rankCells 8 = .ok (.aload_n 0, 1) := by decide +kernel
theorem dX0_rankCells_9 : decode cX0_rankCells 9 = .ok (.getfield 9, 3) := by decide +kernel
theorem dX0_rankCells_12 : decode cX0_rankCells 12 = .ok (.iload_n 1, 1) := by decide +kernel
theorem dX0_rankCells_13 : decode cX0_rankCells 13 = .ok (.iaload, 1) := by decide +kernel
theorem dX0_rankCells_14 : decode cX0_rankCells 14 = .ok (.ifCond .le 71, 3) := by decide +kernel
theorem dX0_rankCells_17 : decode cX0_rankCells 17 = .ok (.aload_n 0, 1) := by decide +kernel
theorem dX0_rankCells_18 : decode cX0_rankCells 18 = .ok (.getfield 28, 3) := by decide +kernel
theorem dX0_rankCells_21 : decode cX0_rankCells 21 = .ok (.istore_n 2, 1) := by decide +kernel
theorem dX0_rankCells_22 : decode cX0_rankCells 22 = .ok (.iload_n 2, 1) := by decide +kernel
theorem dX0_rankCells_23 : decode cX0_rankCells 23 = .ok (.ifCond .le 45, 3) := by decide +kernel
theorem dX0_rankCells_26 : decode cX0_rankCells 26 = .ok (.aload_n 0, 1) := by decide +kernel
theorem dX0_rankCells_27 : decode cX0_rankCells 27 = .ok (.getfield 9, 3) := by decide +kernel
theorem dX0_rankCells_30 : decode cX0_rankCells 30 = .ok (.aload_n 0, 1) := by decide +kernel
theorem dX0_rankCells_31 : decode cX0_rankCells 31 = .ok (.getfield 15, 3) := by decide +kernel
theorem dX0_rankCells_34 : decode cX0_rankCells 34 = .ok (.iload_n 2, 1) := by decide +kernel
theorem dX0_rankCells_35 : decode cX0_rankCells 35 = .ok (.iconst 1, 1) := by decide +kernel
theorem dX0_rankCells_36 : decode cX0_rankCells 36 = .ok (.isub, 1) := by decide +kernel
theorem dX0_rankCells_37 : decode cX0_rankCells 37 = .ok (.iaload, 1) := by decide +kernel
theorem dX0_rankCells_38 : decode cX0_rankCells 38 = .ok (.iaload, 1) := by decide +kernel
theorem dX0_rankCells_39 : decode cX0_rankCells 39 = .ok (.aload_n 0, 1) := by decide +kernel
theorem dX0_rankCells_40 : decode cX0_rankCells 40 = .ok (.getfield 9, 3) := by decide +kernel
theorem dX0_rankCells_43 : decode cX0_rankCells 43 = .ok (.iload_n 1, 1) := by decide +kernel
theorem dX0_rankCells_44 : decode cX0_rankCells 44 = .ok (.iaload, 1) := by decide +kernel
theorem dX0_rankCells_45 : decode cX0_rankCells 45 = .ok (.if_icmp .ge 23, 3) := by decide +kernel
theorem dX0_rankCells_48 : decode cX0_rankCells 48 = .ok (.aload_n 0, 1) := by decide +kernel
theorem dX0_rankCells_49 : decode cX0_rankCells 49 = .ok (.getfield 15, 3) := by decide +kernel
theorem dX0_rankCells_52 : decode cX0_rankCells 52 = .ok (.iload_n 2, 1) := by decide +kernel
theorem dX0_rankCells_53 : decode cX0_rankCells 53 = .ok (.aload_n 0, 1) := by decide +kernel
theorem dX0_rankCells_54 : decode cX0_rankCells 54 = .ok (.getfield 15, 3) := by decide +kernel
theorem dX0_rankCells_57 : decode cX0_rankCells 57 = .ok (.iload_n 2, 1) := by decide +kernel
theorem dX0_rankCells_58 : decode cX0_rankCells 58 = .ok (.iconst 1, 1) := by decide +kernel
theorem dX0_rankCells_59 : decode cX0_rankCells 59 = .ok (.isub, 1) := by decide +kernel
theorem dX0_rankCells_60 : decode cX0_rankCells 60 = .ok (.iaload, 1) := by decide +kernel
theorem dX0_rankCells_61 : decode cX0_rankCells 61 = .ok (.iastore, 1) := by decide +kernel
theorem dX0_rankCells_62 : decode cX0_rankCells 62 = .ok (.iinc 2 (-1), 3) := by decide +kernel
theorem dX0_rankCells_65 : decode cX0_rankCells 65 = .ok (.goto (-43), 3) := by decide +kernel
theorem dX0_rankCells_68 : decode cX0_rankCells 68 = .ok (.aload_n 0, 1) := by decide +kernel
theorem dX0_rankCells_69 : decode cX0_rankCells 69 = .ok (.getfield 15, 3) := by decide +kernel
theorem dX0_rankCells_72 : decode cX0_rankCells 72 = .ok (.iload_n 2, 1) := by decide +kernel
theorem dX0_rankCells_73 : decode cX0_rankCells 73 = .ok (.iload_n 1, 1) := by decide +kernel
theorem dX0_rankCells_74 : decode cX0_rankCells 74 = .ok (.iastore, 1) := by decide +kernel
theorem dX0_rankCells_75 : decode cX0_rankCells 75 = .ok (.aload_n 0, 1) := by decide +kernel
theorem dX0_rankCells_76 : decode cX0_rankCells 76 = .ok (.dup, 1) := by decide +kernel
theorem dX0_rankCells_77 : decode cX0_rankCells 77 = .ok (.getfield 28, 3) := by decide +kernel
theorem dX0_rankCells_80 : decode cX0_rankCells 80 = .ok (.iconst 1, 1) := by decide +kernel
theorem dX0_rankCells_81 : decode cX0_rankCells 81 = .ok (.iadd, 1) := by decide +kernel
theorem dX0_rankCells_82 : decode cX0_rankCells 82 = .ok (.putfield 28, 3) := by decide +kernel
theorem dX0_rankCells_85 : decode cX0_rankCells 85 = .ok (.iinc 1 1, 3) := by decide +kernel
theorem dX0_rankCells_88 : decode cX0_rankCells 88 = .ok (.goto (-86), 3) := by decide +kernel
theorem dX0_rankCells_91 : decode cX0_rankCells 91 = .ok (.return_, 1) := by decide +kernel
theorem dX1_init_0 : decode cX1_init 0 = .ok (.aload_n 0, 1) := by decide +kernel
theorem dX1_init_1 : decode cX1_init 1 = .ok (.invokespecial 3, 3) := by decide +kernel
theorem dX1_init_4 : decode cX1_init 4 = .ok (.aload_n 0, 1) := by decide +kernel
theorem dX1_init_5 : decode cX1_init 5 = .ok (.sipush 385, 3) := by decide +kernel
theorem dX1_init_8 : decode cX1_init 8 = .ok (.newarray .int, 2) := by decide +kernel
theorem dX1_init_10 : decode cX1_init 10 = .ok (.putfield 9, 3) := by decide +kernel
theorem dX1_init_13 : decode cX1_init 13 = .ok (.aload_n 0, 1) := by decide +kernel
theorem dX1_init_14 : decode cX1_init 14 = .ok (.sipush 384, 3) := by decide +kernel
theorem dX1_init_17 : decode cX1_init 17 = .ok (.newarray .int, 2) := by decide +kernel
theorem dX1_init_19 : decode cX1_init 19 = .ok (.putfield 15, 3) := by decide +kernel
theorem dX1_init_22 : decode cX1_init 22 = .ok (.aload_n 0, 1) := by decide +kernel
theorem dX1_init_23 : decode cX1_init 23 = .ok (.sipush 320, 3) := by decide +kernel
theorem dX1_init_26 : decode cX1_init 26 = .ok (.newarray .int, 2) := by decide +kernel
theorem dX1_init_28 : decode cX1_init 28 = .ok (.putfield 18, 3) := by decide +kernel
theorem dX1_init_31 : decode cX1_init 31 = .ok (.return_, 1) := by decide +kernel
theorem dX1_unlikeKeys_0 : decode cX1_unlikeKeys 0 = .ok (.aload_n 0, 1) := by decide +kernel
theorem dX1_unlikeKeys_1 : decode cX1_unlikeKeys 1 = .ok (.getfield 21, 3) := by decide +kernel
theorem dX1_unlikeKeys_4 : decode cX1_unlikeKeys 4 = .ok (.ireturn, 1) := by decide +kernel
theorem dX1_allPlaces_0 : decode cX1_allPlaces 0 = .ok (.aload_n 0, 1) := by decide +kernel
theorem dX1_allPlaces_1 : decode cX1_allPlaces 1 = .ok (.getfield 9, 3) := by decide +kernel
theorem dX1_allPlaces_4 : decode cX1_allPlaces 4 = .ok (.sipush 384, 3) := by decide +kernel
theorem dX1_allPlaces_7 : decode cX1_allPlaces 7 = .ok (.iaload, 1) := by decide +kernel
theorem dX1_allPlaces_8 : decode cX1_allPlaces 8 = .ok (.ireturn, 1) := by decide +kernel
theorem dX1_placesOf_0 : decode cX1_placesOf 0 = .ok (.aload_n 0, 1) := by decide +kernel
theorem dX1_placesOf_1 : decode cX1_placesOf 1 = .ok (.getfield 9, 3) := by decide +kernel
theorem dX1_placesOf_4 : decode cX1_placesOf 4 = .ok (.iload_n 1, 1) := by decide +kernel
theorem dX1_placesOf_5 : decode cX1_placesOf 5 = .ok (.iconst 1, 1) := by decide +kernel
theorem dX1_placesOf_6 : decode cX1_placesOf 6 = .ok (.iadd, 1) := by decide +kernel
theorem dX1_placesOf_7 : decode cX1_placesOf 7 = .ok (.iaload, 1) := by decide +kernel
theorem dX1_placesOf_8 : decode cX1_placesOf 8 = .ok (.aload_n 0, 1) := by decide +kernel
theorem dX1_placesOf_9 : decode cX1_placesOf 9 = .ok (.getfield 9, 3) := by decide +kernel
theorem dX1_placesOf_12 : decode cX1_placesOf 12 = .ok (.iload_n 1, 1) := by decide +kernel
theorem dX1_placesOf_13 : decode cX1_placesOf 13 = .ok (.iaload, 1) := by decide +kernel
theorem dX1_placesOf_14 : decode cX1_placesOf 14 = .ok (.isub, 1) := by decide +kernel
theorem dX1_placesOf_15 : decode cX1_placesOf 15 = .ok (.ireturn, 1) := by decide +kernel
set_option maxRecDepth 20000 in
theorem ggX1_placeOf_X1_placesOf : GoodIn wsX1_placeOf wsX1_placesOf := goodIn_r _ [7, 2, 8, 9, 10, 11] (by decide +kernel) (by decide +kernel)
set_option maxRecDepth 20000 in
theorem gX1_placeOf_X1_placesOf : GoodIn wsX1_placeOf (wsV RX1 25 RX1 yX1_placesOf wsX1_placesOf) := goodIn_app (goodIn_of _ (by decide +kernel)) ggX1_placeOf_X1_placesOf
theorem dX1_placeOf_0 : decode cX1_placeOf 0 = .ok (.iload_n 2, 1) := by decide +kernel
theorem dX1_placeOf_1 : decode cX1_placeOf 1 = .ok (.aload_n 0, 1) := by decide +kernel
theorem dX1_placeOf_2 : decode cX1_placeOf 2 = .ok (.iload_n 1, 1) := by decide +kernel
theorem dX1_placeOf_3 : decode cX1_placeOf 3 = .ok (.invokevirtual 25, 3) := by decide +kernel
theorem dX1_placeOf_6 : decode cX1_placeOf 6 = .ok (.if_icmp .ge 19, 3) := by decide +kernel
theorem dX1_placeOf_9 : decode cX1_placeOf 9 = .ok (.aload_n 0, 1) := by decide +kernel
theorem dX1_placeOf_10 : decode cX1_placeOf 10 = .ok (.getfield 18, 3) := by decide +kernel
theorem dX1_placeOf_13 : decode cX1_placeOf 13 = .ok (.aload_n 0, 1) := by decide +kernel
theorem dX1_placeOf_14 : decode cX1_placeOf 14 = .ok (.getfield 9, 3) := by decide +kernel
theorem dX1_placeOf_17 : decode cX1_placeOf 17 = .ok (.iload_n 1, 1) := by decide +kernel
theorem dX1_placeOf_18 : decode cX1_placeOf 18 = .ok (.iaload, 1) := by decide +kernel
theorem dX1_placeOf_19 : decode cX1_placeOf 19 = .ok (.iload_n 2, 1) := by decide +kernel
theorem dX1_placeOf_20 : decode cX1_placeOf 20 = .ok (.iadd, 1) := by decide +kernel
theorem dX1_placeOf_21 : decode cX1_placeOf 21 = .ok (.iaload, 1) := by decide +kernel
theorem dX1_placeOf_22 : decode cX1_placeOf 22 = .ok (.goto 4, 3) := by decide +kernel
theorem dX1_placeOf_25 : decode cX1_placeOf 25 = .ok (.iconst (-1), 1) := by decide +kernel
theorem dX1_placeOf_26 : decode cX1_placeOf 26 = .ok (.ireturn, 1) := by decide +kernel
set_option maxRecDepth 20000 in
theorem ggX1_keyByRise_X1_placesOf : GoodIn wsX1_keyByRise wsX1_placesOf := goodIn_r _ [5, 6, 7, 8, 9, 10] (by decide +kernel) (by decide +kernel)
set_option maxRecDepth 20000 in
theorem gX1_keyByRise_X1_placesOf : GoodIn wsX1_keyByRise (wsV RX1 25 RX1 yX1_placesOf wsX1_placesOf) := goodIn_app (goodIn_of _ (by decide +kernel)) ggX1_keyByRise_X1_placesOf
theorem dX1_keyByRise_0 : decode cX1_keyByRise 0 = .ok (.iload_n 1, 1) := by decide +kernel
theorem dX1_keyByRise_1 : decode cX1_keyByRise 1 = .ok (.istore_n 2, 1) := by decide +kernel
theorem dX1_keyByRise_2 : decode cX1_keyByRise 2 = .ok (.bipush 64, 2) := by decide +kernel
theorem dX1_keyByRise_4 : decode cX1_keyByRise 4 = .ok (.istore_n 3, 1) := by decide +kernel
theorem dX1_keyByRise_5 : decode cX1_keyByRise 5 = .ok (.iload_n 3, 1) := by decide +kernel
theorem dX1_keyByRise_6 : decode cX1_keyByRise 6 = .ok (.sipush 383, 3) := by decide +kernel
theorem dX1_keyByRise_9 : decode cX1_keyByRise 9 = .ok (.if_icmp .gt 26, 3) := by decide +kernel
theorem dX1_keyByRise_12 : decode cX1_keyByRise 12 = .ok (.aload_n 0, 1) := by decide +kernel
theorem dX1_keyByRise_13 : decode cX1_keyByRise 13 = .ok (.iload_n 3, 1) := by decide +kernel
theorem dX1_keyByRise_14 : decode cX1_keyByRise 14 = .ok (.invokevirtual 25, 3) := by decide +kernel
theorem dX1_keyByRise_17 : decode cX1_keyByRise 17 = .ok (.ifCond .le 12, 3) := by decide +kernel
theorem dX1_keyByRise_20 : decode cX1_keyByRise 20 = .ok (.iload_n 2, 1) := by decide +kernel
theorem dX1_keyByRise_21 : decode cX1_keyByRise 21 = .ok (.ifCond .ne 5, 3) := by decide +kernel
theorem dX1_keyByRise_24 : decode cX1_keyByRise 24 = .ok (.iload_n 3, 1) := by decide +kernel
theorem dX1_keyByRise_25 : decode cX1_keyByRise 25 = .ok (.ireturn, 1) := by decide +kernel
theorem dX1_keyByRise_26 : decode cX1_keyByRise 26 = .ok (.iinc 2 (-1), 3) := by decide +kernel
theorem dX1_keyByRise_29 : decode cX1_keyByRise 29 = .ok (.iinc 3 1, 3) := by decide +kernel
theorem dX1_keyByRise_32 : decode cX1_keyByRise 32 = .ok (.goto (-27), 3) := by decide +kernel
theorem dX1_keyByRise_35 : decode cX1_keyByRise 35 = .ok (.iconst (-1), 1) := by decide +kernel
theorem dX1_keyByRise_36 : decode cX1_keyByRise 36 = .ok (.ireturn, 1) := by decide +kernel
set_option maxRecDepth 20000 in
theorem ggX1_write_X1_countKeys : GoodIn wsX1_write wsX1_countKeys := goodIn_r _ [5, 6, 7, 8, 9, 10, 11, 12, 13, 14, 15, 16, 28, 29, 30, 31, 32, 33, 34] (by decide +kernel) (by decide +kernel)
set_option maxRecDepth 20000 in
theorem gX1_write_X1_countKeys : GoodIn wsX1_write (wsV RX1 29 RX1 yX1_countKeys wsX1_countKeys) := goodIn_app (goodIn_of _ (by decide +kernel)) ggX1_write_X1_countKeys
set_option maxRecDepth 20000 in
theorem ggX1_write_X1_setStarts : GoodIn wsX1_write wsX1_setStarts := goodIn_r _ [20, 21, 22, 6, 28, 29, 30, 31] (by decide +kernel) (by decide +kernel)
set_option maxRecDepth 20000 in
theorem gX1_write_X1_setStarts : GoodIn wsX1_write (wsV RX1 33 RX1 yX1_setStarts wsX1_setStarts) := goodIn_app (goodIn_of _ (by decide +kernel)) ggX1_write_X1_setStarts
set_option maxRecDepth 20000 in
theorem ggX1_write_X1_fillEntries : GoodIn wsX1_write wsX1_fillEntries := goodIn_r _ [26, 27, 22, 6, 7, 8, 9, 10, 11, 12, 13, 14, 15, 16, 28, 29, 30, 31, 32, 33, 34] (by decide +kernel) (by decide +kernel)
set_option maxRecDepth 20000 in
theorem gX1_write_X1_fillEntries : GoodIn wsX1_write (wsV RX1 36 RX1 yX1_fillEntries wsX1_fillEntries) := goodIn_app (goodIn_of _ (by decide +kernel)) ggX1_write_X1_fillEntries
theorem dX1_write_0 : decode cX1_write 0 = .ok (.aload_n 0, 1) := by decide +kernel
theorem dX1_write_1 : decode cX1_write 1 = .ok (.aload_n 1, 1) := by decide +kernel
theorem dX1_write_2 : decode cX1_write 2 = .ok (.iload_n 2, 1) := by decide +kernel
theorem dX1_write_3 : decode cX1_write 3 = .ok (.invokevirtual 29, 3) := by decide +kernel
theorem dX1_write_6 : decode cX1_write 6 = .ok (.aload_n 0, 1) := by decide +kernel
theorem dX1_write_7 : decode cX1_write 7 = .ok (.invokevirtual 33, 3) := by decide +kernel
theorem dX1_write_10 : decode cX1_write 10 = .ok (.aload_n 0, 1) := by decide +kernel
theorem dX1_write_11 : decode cX1_write 11 = .ok (.aload_n 1, 1) := by decide +kernel
theorem dX1_write_12 : decode cX1_write 12 = .ok (.iload_n 2, 1) := by decide +kernel
theorem dX1_write_13 : decode cX1_write 13 = .ok (.invokevirtual 36, 3) := by decide +kernel
theorem dX1_write_16 : decode cX1_write 16 = .ok (.return_, 1) := by decide +kernel
set_option maxRecDepth 20000 in
theorem ggX1_countKeys_X3_keyOf : GoodIn wsX1_countKeys wsX3_keyOf := goodIn_r _ [6, 7, 8, 9, 5, 10, 11, 16, 17, 18] (by decide +kernel) (by decide +kernel)
set_option maxRecDepth 20000 in
theorem gX1_countKeys_X3_keyOf : GoodIn wsX1_countKeys (wsV RX1 39 RX3 yX3_keyOf wsX3_keyOf) := goodIn_app (goodIn_of _ (by decide +kernel)) ggX1_countKeys_X3_keyOf
theorem dX1_countKeys_0 : decode cX1_countKeys 0 = .ok (.iconst 0, 1) := by decide +kernel
theorem dX1_countKeys_1 : decode cX1_countKeys 1 = .ok (.istore_n 3, 1) := by decide +kernel
theorem dX1_countKeys_2 : decode cX1_countKeys 2 = .ok (.iload_n 3, 1) := by decide +kernel
theorem dX1_countKeys_3 : decode cX1_countKeys 3 = .ok (.sipush 383, 3) := by decide +kernel
theorem dX1_countKeys_6 : decode cX1_countKeys 6 = .ok (.if_icmp .gt 16, 3) := by decide +kernel
theorem dX1_countKeys_9 : decode cX1_countKeys 9 = .ok (.aload_n 0, 1) := by decide +kernel
theorem dX1_countKeys_10 : decode cX1_countKeys 10 = .ok (.getfield 15, 3) := by decide +kernel
theorem dX1_countKeys_13 : decode cX1_countKeys 13 = .ok (.iload_n 3, 1) := by decide +kernel
theorem dX1_countKeys_14 : decode cX1_countKeys 14 = .ok (.iconst 0, 1) := by decide +kernel
theorem dX1_countKeys_15 : decode cX1_countKeys 15 = .ok (.iastore, 1) := by decide +kernel
theorem dX1_countKeys_16 : decode cX1_countKeys 16 = .ok (.iinc 3 1, 3) := by decide +kernel
theorem dX1_countKeys_19 : decode cX1_countKeys 19 = .ok (.goto (-17), 3) := by decide +kernel
theorem dX1_countKeys_22 : decode cX1_countKeys 22 = .ok (.iconst 0, 1) := by decide +kernel
theorem dX1_countKeys_23 : decode cX1_countKeys 23 = .ok (.istore_n 3, 1) := by decide +kernel
theorem dX1_countKeys_24 : decode cX1_countKeys 24 = .ok (.iload_n 3, 1) := by decide +kernel
theorem dX1_countKeys_25 : decode cX1_countKeys 25 = .ok (.iconst 4, 1) := by decide +kernel
theorem dX1_countKeys_26 : decode cX1_countKeys 26 = .ok (.if_icmp .ge 72, 3) := by decide +kernel
theorem dX1_countKeys_29 : decode cX1_countKeys 29 = .ok (.iconst 0, 1) := by decide +kernel
theorem dX1_countKeys_30 : decode cX1_countKeys 30 = .ok (.istore 4, 2) := by decide +kernel
theorem dX1_countKeys_32 : decode cX1_countKeys 32 = .ok (.iload 4, 2) := by decide +kernel
theorem dX1_countKeys_34 : decode cX1_countKeys 34 = .ok (.bipush 16, 2) := by decide +kernel
theorem dX1_countKeys_36 : decode cX1_countKeys 36 = .ok (.if_icmp .ge 56, 3) := by decide +kernel
theorem dX1_countKeys_39 : decode cX1_countKeys 39 = .ok (.iconst 1, 1) := by decide +kernel
theorem dX1_countKeys_40 : decode cX1_countKeys 40 = .ok (.istore 5, 2) := by decide +kernel
theorem dX1_countKeys_42 : decode cX1_countKeys 42 = .ok (.iload 5, 2) := by decide +kernel
theorem dX1_countKeys_44 : decode cX1_countKeys 44 = .ok (.iload_n 2, 1) := by decide +kernel
theorem dX1_countKeys_45 : decode cX1_countKeys 45 = .ok (.if_icmp .gt 41, 3) := by decide +kernel
theorem dX1_countKeys_48 : decode cX1_countKeys 48 = .ok (.aload_n 1, 1) := by decide +kernel
theorem dX1_countKeys_49 : decode cX1_countKeys 49 = .ok (.iload_n 3, 1) := by decide +kernel
theorem dX1_countKeys_50 : decode cX1_countKeys 50 = .ok (.iload 4, 2) := by decide +kernel
theorem dX1_countKeys_52 : decode cX1_countKeys 52 = .ok (.iload 4, 2) := by decide +kernel
theorem dX1_countKeys_54 : decode cX1_countKeys 54 = .ok (.iload 5, 2) := by decide +kernel
theorem dX1_countKeys_56 : decode cX1_countKeys 56 = .ok (.iadd, 1) := by decide +kernel
theorem dX1_countKeys_57 : decode cX1_countKeys 57 = .ok (.iload_n 2, 1) := by decide +kernel
theorem dX1_countKeys_58 : decode cX1_countKeys 58 = .ok (.invokevirtual 39, 3) := by decide +kernel
theorem dX1_countKeys_61 : decode cX1_countKeys 61 = .ok (.istore 6, 2) := by decide +kernel
theorem dX1_countKeys_63 : decode cX1_countKeys 63 = .ok (.iload 6, 2) := by decide +kernel
theorem dX1_countKeys_65 : decode cX1_countKeys 65 = .ok (.iconst (-1), 1) := by decide +kernel
theorem dX1_countKeys_66 : decode cX1_countKeys 66 = .ok (.if_icmp .eq 14, 3) := by decide +kernel
theorem dX1_countKeys_69 : decode cX1_countKeys 69 = .ok (.aload_n 0, 1) := by decide +kernel
theorem dX1_countKeys_70 : decode cX1_countKeys 70 = .ok (.getfield 15, 3) := by decide +kernel
theorem dX1_countKeys_73 : decode cX1_countKeys 73 = .ok (.iload 6, 2) := by decide +kernel
theorem dX1_countKeys_75 : decode cX1_countKeys 75 = .ok (.dup2, 1) := by decide +kernel
theorem dX1_countKeys_76 : decode cX1_countKeys 76 = .ok (.iaload, 1) := by decide +kernel
theorem dX1_countKeys_77 : decode cX1_countKeys 77 = .ok (.iconst 1, 1) := by decide +kernel
theorem dX1_countKeys_78 : decode cX1_countKeys 78 = .ok (.iadd, 1) := by decide +kernel
theorem dX1_countKeys_79 : decode cX1_countKeys 79 = .ok (.iastore, 1) := by decide +kernel
theorem dX1_countKeys_80 : decode cX1_countKeys 80 = .ok (.iinc 5 1, 3) := by decide +kernel
theorem dX1_countKeys_83 : decode cX1_countKeys 83 = .ok (.goto (-41), 3) := by decide +kernel
theorem dX1_countKeys_86 : decode cX1_countKeys 86 = .ok (.iinc 4 1, 3) := by decide +kernel
theorem dX1_countKeys_89 : decode cX1_countKeys 89 = .ok (.goto (-57), 3) := by decide +kernel
theorem dX1_countKeys_92 : decode cX1_countKeys 92 = .ok (.iinc 3 1, 3) := by decide +kernel
theorem dX1_countKeys_95 : decode cX1_countKeys 95 = .ok (.goto (-71), 3) := by decide +kernel
theorem dX1_countKeys_98 : decode cX1_countKeys 98 = .ok (.return_, 1) := by decide +kernel
theorem dX1_setStarts_0 : decode cX1_setStarts 0 = .ok (.aload_n 0, 1) := by decide +kernel
theorem dX1_setStarts_1 : decode cX1_setStarts 1 = .ok (.iconst 0, 1) := by decide +kernel
theorem dX1_setStarts_2 : decode cX1_setStarts 2 = .ok (.putfield 21, 3) := by decide +kernel
theorem dX1_setStarts_5 : decode cX1_setStarts 5 = .ok (.aload_n 0, 1) := by decide +kernel
theorem dX1_setStarts_6 : decode cX1_setStarts 6 = .ok (.getfield 9, 3) := by decide +kernel
theorem dX1_setStarts_9 : decode cX1_setStarts 9 = .ok (.iconst 0, 1) := by decide +kernel
theorem dX1_setStarts_10 : decode cX1_setStarts 10 = .ok (.iconst 0, 1) := by decide +kernel
theorem dX1_setStarts_11 : decode cX1_setStarts 11 = .ok (.iastore, 1) := by decide +kernel
theorem dX1_setStarts_12 : decode cX1_setStarts 12 = .ok (.iconst 0, 1) := by decide +kernel
theorem dX1_setStarts_13 : decode cX1_setStarts 13 = .ok (.istore_n 1, 1) := by decide +kernel
theorem dX1_setStarts_14 : decode cX1_setStarts 14 = .ok (.iload_n 1, 1) := by decide +kernel
theorem dX1_setStarts_15 : decode cX1_setStarts 15 = .ok (.sipush 383, 3) := by decide +kernel
theorem dX1_setStarts_18 : decode cX1_setStarts 18 = .ok (.if_icmp .gt 56, 3) := by decide +kernel
theorem dX1_setStarts_21 : decode cX1_setStarts 21 = .ok (.aload_n 0, 1) := by decide +kernel
theorem dX1_setStarts_22 : decode cX1_setStarts 22 = .ok (.getfield 9, 3) := by decide +kernel
theorem dX1_setStarts_25 : decode cX1_setStarts 25 = .ok (.iload_n 1, 1) := by decide +kernel
theorem dX1_setStarts_26 : decode cX1_setStarts 26 = .ok (.iconst 1, 1) := by decide +kernel
theorem dX1_setStarts_27 : decode cX1_setStarts 27 = .ok (.iadd, 1) := by decide +kernel
theorem dX1_setStarts_28 : decode cX1_setStarts 28 = .ok (.aload_n 0, 1) := by decide +kernel
theorem dX1_setStarts_29 : decode cX1_setStarts 29 = .ok (.getfield 9, 3) := by decide +kernel
theorem dX1_setStarts_32 : decode cX1_setStarts 32 = .ok (.iload_n 1, 1) := by decide +kernel
theorem dX1_setStarts_33 : decode cX1_setStarts 33 = .ok (.iaload, 1) := by decide +kernel
theorem dX1_setStarts_34 : decode cX1_setStarts 34 = .ok (.aload_n 0, 1) := by decide +kernel
theorem dX1_setStarts_35 : decode cX1_setStarts 35 = .ok (.getfield 15, 3) := by decide +kernel
theorem dX1_setStarts_38 : decode cX1_setStarts 38 = .ok (.iload_n 1, 1) := by decide +kernel
theorem dX1_setStarts_39 : decode cX1_setStarts 39 = .ok (.iaload, 1) := by decide +kernel
theorem dX1_setStarts_40 : decode cX1_setStarts 40 = .ok (.iadd, 1) := by decide +kernel
theorem dX1_setStarts_41 : decode cX1_setStarts 41 = .ok (.iastore, 1) := by decide +kernel
theorem dX1_setStarts_42 : decode cX1_setStarts 42 = .ok (.aload_n 0, 1) := by decide +kernel
theorem dX1_setStarts_43 : decode cX1_setStarts 43 = .ok (.getfield 15, 3) := by decide +kernel
theorem dX1_setStarts_46 : decode cX1_setStarts 46 = .ok (.iload_n 1, 1) := by decide +kernel
theorem dX1_setStarts_47 : decode cX1_setStarts 47 = .ok (.iaload, 1) := by decide +kernel
theorem dX1_setStarts_48 : decode cX1_setStarts 48 = .ok (.ifCond .le 13, 3) := by decide +kernel
theorem dX1_setStarts_51 : decode cX1_setStarts 51 = .ok (.aload_n 0, 1) := by decide +kernel
theorem dX1_setStarts_52 : decode cX1_setStarts 52 = .ok (.dup, 1) := by decide +kernel
theorem dX1_setStarts_53 : decode cX1_setStarts 53 = .ok (.getfield 21, 3) := by decide +kernel
theorem dX1_setStarts_56 : decode cX1_setStarts 56 = .ok (.iconst 1, 1) := by decide +kernel
theorem dX1_setStarts_57 : decode cX1_setStarts 57 = .ok (.iadd, 1) := by decide +kernel
theorem dX1_setStarts_58 : decode cX1_setStarts 58 = .ok (.putfield 21, 3) := by decide +kernel
theorem dX1_setStarts_61 : decode cX1_setStarts 61 = .ok (.aload_n 0, 1) := by decide +kernel
theorem dX1_setStarts_62 : decode cX1_setStarts 62 = .ok (.getfield 15, 3) := by decide +kernel
theorem dX1_setStarts_65 : decode cX1_setStarts 65 = .ok (.iload_n 1, 1) := by decide +kernel
theorem dX1_setStarts_66 : decode cX1_setStarts 66 = .ok (.iconst 0, 1) := by decide +kernel
theorem dX1_setStarts_67 : decode cX1_setStarts 67 = .ok (.iastore, 1) := by decide +kernel
theorem dX1_setStarts_68 : decode cX1_setStarts 68 = .ok (.iinc 1 1, 3) := by decide +kernel
theorem dX1_setStarts_71 : decode cX1_setStarts 71 = .ok (.goto (-57), 3) := by decide +kernel
theorem dX1_setStarts_74 : decode cX1_setStarts 74 = .ok (.return_, 1) := by decide +kernel
set_option maxRecDepth 20000 in
theorem ggX1_fillEntries_X3_keyOf : GoodIn wsX1_fillEntries wsX3_keyOf := goodIn_r _ [8, 9, 10, 11, 7, 12, 13, 18, 19, 20] (by decide +kernel) (by decide +kernel)
set_option maxRecDepth 20000 in
theorem gX1_fillEntries_X3_keyOf : GoodIn wsX1_fillEntries (wsV RX1 39 RX3 yX3_keyOf wsX3_keyOf) := goodIn_app (goodIn_of _ (by decide +kernel)) ggX1_fillEntries_X3_keyOf
theorem dX1_fillEntries_0 : decode cX1_fillEntries 0 = .ok (.iconst 0, 1) := by decide +kernel
theorem dX1_fillEntries_1 : decode cX1_fillEntries 1 = .ok (.istore_n 3, 1) := by decide +kernel
theorem dX1_fillEntries_2 : decode cX1_fillEntries 2 = .ok (.iload_n 3, 1) := by decide +kernel
theorem dX1_fillEntries_3 : decode cX1_fillEntries 3 = .ok (.iconst 4, 1) := by decide +kernel
theorem dX1_fillEntries_4 : decode cX1_fillEntries 4 = .ok (.if_icmp .ge 100, 3) := by decide +kernel
theorem dX1_fillEntries_7 : decode cX1_fillEntries 7 = .ok (.iconst 0, 1) := by decide +kernel
theorem dX1_fillEntries_8 : decode cX1_fillEntries 8 = .ok (.istore 4, 2) := by decide +kernel
theorem dX1_fillEntries_10 : decode cX1_fillEntries 10 = .ok (.iload 4, 2) := by decide +kernel
theorem dX1_fillEntries_12 : decode cX1_fillEntries 12 = .ok (.bipush 16, 2) := by decide +kernel
theorem dX1_fillEntries_14 : decode cX1_fillEntries 14 = .ok (.if_icmp .ge 84, 3) := by decide +kernel
theorem dX1_fillEntries_17 : decode cX1_fillEntries 17 = .ok (.iconst 1, 1) := by decide +kernel
theorem dX1_fillEntries_18 : decode cX1_fillEntries 18 = .ok (.istore 5, 2) := by decide +kernel
theorem dX1_fillEntries_20 : decode cX1_fillEntries 20 = .ok (.iload 5, 2) := by decide +kernel
theorem dX1_fillEntries_22 : decode cX1_fillEntries 22 = .ok (.iload_n 2, 1) := by decide +kernel
theorem dX1_fillEntries_23 : decode cX1_fillEntries 23 = .ok (.if_icmp .gt 69, 3) := by decide +kernel
theorem dX1_fillEntries_26 : decode cX1_fillEntries 26 = .ok (.aload_n 1, 1) := by decide +kernel
theorem dX1_fillEntries_27 : decode cX1_fillEntries 27 = .ok (.iload_n 3, 1) := by decide +kernel
theorem dX1_fillEntries_28 : decode cX1_fillEntries 28 = .ok (.iload 4, 2) := by decide +kernel
theorem dX1_fillEntries_30 : decode cX1_fillEntries 30 = .ok (.iload 4, 2) := by decide +kernel
theorem dX1_fillEntries_32 : decode cX1_fillEntries 32 = .ok (.iload 5, 2) := by decide +kernel
theorem dX1_fillEntries_34 : decode cX1_fillEntries 34 = .ok (.iadd, 1) := by decide +kernel
theorem dX1_fillEntries_35 : decode cX1_fillEntries 35 = .ok (.iload_n 2, 1) := by decide +kernel
theorem dX1_fillEntries_36 : decode cX1_fillEntries 36 = .ok (.invokevirtual 39, 3) := by decide +kernel
theorem dX1_fillEntries_39 : decode cX1_fillEntries 39 = .ok (.istore 6, 2) := by decide +kernel
theorem dX1_fillEntries_41 : decode cX1_fillEntries 41 = .ok (.iload 6, 2) := by decide +kernel
theorem dX1_fillEntries_43 : decode cX1_fillEntries 43 = .ok (.iconst (-1), 1) := by decide +kernel
theorem dX1_fillEntries_44 : decode cX1_fillEntries 44 = .ok (.if_icmp .eq 42, 3) := by decide +kernel
theorem dX1_fillEntries_47 : decode cX1_fillEntries 47 = .ok (.aload_n 0, 1) := by decide +kernel
theorem dX1_fillEntries_48 : decode cX1_fillEntries 48 = .ok (.getfield 18, 3) := by decide +kernel
theorem dX1_fillEntries_51 : decode cX1_fillEntries 51 = .ok (.aload_n 0, 1) := by decide +kernel
theorem dX1_fillEntries_52 : decode cX1_fillEntries 52 = .ok (.getfield 9, 3) := by decide +kernel
theorem dX1_fillEntries_55 : decode cX1_fillEntries 55 = .ok (.iload 6, 2) := by decide +kernel
theorem dX1_fillEntries_57 : decode cX1_fillEntries 57 = .ok (.iaload, 1) := by decide +kernel
theorem dX1_fillEntries_58 : decode cX1_fillEntries 58 = .ok (.aload_n 0, 1) := by decide +kernel
theorem dX1_fillEntries_59 : decode cX1_fillEntries 59 = .ok (.getfield 15, 3) := by decide +kernel
theorem dX1_fillEntries_62 : decode cX1_fillEntries 62 = .ok (.iload 6, 2) := by decide +kernel
theorem dX1_fillEntries_64 : decode cX1_fillEntries 64 = .ok (.iaload, 1) := by decide +kernel
theorem dX1_fillEntries_65 : decode cX1_fillEntries 65 = .ok (.iadd, 1) := by decide +kernel
theorem dX1_fillEntries_66 : decode cX1_fillEntries 66 = .ok (.sipush 1000, 3) := by decide +kernel
theorem dX1_fillEntries_69 : decode cX1_fillEntries 69 = .ok (.iload_n 3, 1) := by decide +kernel
theorem dX1_fillEntries_70 : decode cX1_fillEntries 70 = .ok (.imul, 1) := by decide +kernel
theorem dX1_fillEntries_71 : decode cX1_fillEntries 71 = .ok (.iload 4, 2) := by decide +kernel
theorem dX1_fillEntries_73 : decode cX1_fillEntries 73 = .ok (.iadd, 1) := by decide +kernel
theorem dX1_fillEntries_74 : decode cX1_fillEntries 74 = .ok (.iastore, 1) := by decide +kernel
theorem dX1_fillEntries_75 : decode cX1_fillEntries 75 = .ok (.aload_n 0, 1) := by decide +kernel
theorem dX1_fillEntries_76 : decode cX1_fillEntries 76 = .ok (.getfield 15, 3) := by decide +kernel
theorem dX1_fillEntries_79 : decode cX1_fillEntries 79 = .ok (.iload 6, 2) := by decide +kernel
theorem dX1_fillEntries_81 : decode cX1_fillEntries 81 = .ok (.dup2, 1) := by decide +kernel
theorem dX1_fillEntries_82 : decode cX1_fillEntries 82 = .ok (.iaload, 1) := by decide +kernel
theorem dX1_fillEntries_83 : decode cX1_fillEntries 83 = .ok (.iconst 1, 1) := by decide +kernel
theorem dX1_fillEntries_84 : decode cX1_fillEntries 84 = .ok (.iadd, 1) := by decide +kernel
theorem dX1_fillEntries_85 : decode cX1_fillEntries 85 = .ok (.iastore, 1) := by decide +kernel
theorem dX1_fillEntries_86 : decode cX1_fillEntries 86 = .ok (.iinc 5 1, 3) := by decide +kernel
theorem dX1_fillEntries_89 : decode cX1_fillEntries 89 = .ok (.goto (-69), 3) := by decide +kernel
theorem dX1_fillEntries_92 : decode cX1_fillEntries 92 = .ok (.iinc 4 1, 3) := by decide +kernel
theorem dX1_fillEntries_95 : decode cX1_fillEntries 95 = .ok (.goto (-85), 3) := by decide +kernel
theorem dX1_fillEntries_98 : decode cX1_fillEntries 98 = .ok (.iinc 3 1, 3) := by decide +kernel
theorem dX1_fillEntries_101 : decode cX1_fillEntries 101 = .ok (.goto (-99), 3) := by decide +kernel
theorem dX1_fillEntries_104 : decode cX1_fillEntries 104 = .ok (.return_, 1) := by decide +kernel
theorem dX2_init_0 : decode cX2_init 0 = .ok (.aload_n 0, 1) := by decide +kernel
theorem dX2_init_1 : decode cX2_init 1 = .ok (.invokespecial 3, 3) := by decide +kernel
theorem dX2_init_4 : decode cX2_init 4 = .ok (.aload_n 0, 1) := by decide +kernel
theorem dX2_init_5 : decode cX2_init 5 = .ok (.sipush 1024, 3) := by decide +kernel
theorem dX2_init_8 : decode cX2_init 8 = .ok (.newarray .int, 2) := by decide +kernel
theorem dX2_init_10 : decode cX2_init 10 = .ok (.putfield 9, 3) := by decide +kernel
theorem dX2_init_13 : decode cX2_init 13 = .ok (.aload_n 0, 1) := by decide +kernel
theorem dX2_init_14 : decode cX2_init 14 = .ok (.bipush 8, 2) := by decide +kernel
theorem dX2_init_16 : decode cX2_init 16 = .ok (.newarray .int, 2) := by decide +kernel
theorem dX2_init_18 : decode cX2_init 18 = .ok (.putfield 15, 3) := by decide +kernel
theorem dX2_init_21 : decode cX2_init 21 = .ok (.aload_n 0, 1) := by decide +kernel
theorem dX2_init_22 : decode cX2_init 22 = .ok (.bipush 8, 2) := by decide +kernel
theorem dX2_init_24 : decode cX2_init 24 = .ok (.newarray .int, 2) := by decide +kernel
theorem dX2_init_26 : decode cX2_init 26 = .ok (.putfield 18, 3) := by decide +kernel
theorem dX2_init_29 : decode cX2_init 29 = .ok (.aload_n 0, 1) := by decide +kernel
theorem dX2_init_30 : decode cX2_init 30 = .ok (.bipush 8, 2) := by decide +kernel
theorem dX2_init_32 : decode cX2_init 32 = .ok (.newarray .int, 2) := by decide +kernel
theorem dX2_init_34 : decode cX2_init 34 = .ok (.putfield 21, 3) := by decide +kernel
theorem dX2_init_37 : decode cX2_init 37 = .ok (.aload_n 0, 1) := by decide +kernel
theorem dX2_init_38 : decode cX2_init 38 = .ok (.bipush 8, 2) := by decide +kernel
theorem dX2_init_40 : decode cX2_init 40 = .ok (.newarray .int, 2) := by decide +kernel
theorem dX2_init_42 : decode cX2_init 42 = .ok (.putfield 24, 3) := by decide +kernel
theorem dX2_init_45 : decode cX2_init 45 = .ok (.return_, 1) := by decide +kernel
theorem dX2_depth_0 : decode cX2_depth 0 = .ok (.aload_n 0, 1) := by decide +kernel
theorem dX2_depth_1 : decode cX2_depth 1 = .ok (.getfield 27, 3) := by decide +kernel
theorem dX2_depth_4 : decode cX2_depth 4 = .ok (.ireturn, 1) := by decide +kernel
theorem dX2_forget_0 : decode cX2_forget 0 = .ok (.aload_n 0, 1) := by decide +kernel
theorem dX2_forget_1 : decode cX2_forget 1 = .ok (.iconst 0, 1) := by decide +kernel
theorem dX2_forget_2 : decode cX2_forget 2 = .ok (.putfield 27, 3) := by decide +kernel
theorem dX2_forget_5 : decode cX2_forget 5 = .ok (.return_, 1) := by decide +kernel
set_option maxRecDepth 20000 in
theorem ggX2_remember_X4_copyRowTo : GoodIn wsX2_remember wsX4_copyRowTo := goodIn_r _ [16, 17, 18, 19, 20, 21, 44, 45, 46, 47] (by decide +kernel) (by decide +kernel)
set_option maxRecDepth 20000 in
theorem gX2_remember_X4_copyRowTo : GoodIn wsX2_remember (wsV RX2 34 RX4 yX4_copyRowTo wsX4_copyRowTo) := goodIn_app (goodIn_of _ (by decide +kernel)) ggX2_remember_X4_copyRowTo
set_option maxRecDepth 20000 in
theorem ggX2_remember_X4_sizeOf : GoodIn wsX2_remember wsX4_sizeOf := goodIn_r _ [25, 26, 44, 45, 46, 47] (by decide +kernel) (by decide +kernel)
set_option maxRecDepth 20000 in
theorem gX2_remember_X4_sizeOf : GoodIn wsX2_remember (wsV RX2 40 RX4 yX4_sizeOf wsX4_sizeOf) := goodIn_app (goodIn_of _ (by decide +kernel)) ggX2_remember_X4_sizeOf
set_option maxRecDepth 20000 in
theorem ggX2_remember_X4_floor : GoodIn wsX2_remember wsX4_floor := goodIn_r _ [30, 31, 44, 45, 46, 47] (by decide +kernel) (by decide +kernel)
set_option maxRecDepth 20000 in
theorem gX2_remember_X4_floor : GoodIn wsX2_remember (wsV RX2 44 RX4 yX4_floor wsX4_floor) := goodIn_app (goodIn_of _ (by decide +kernel)) ggX2_remember_X4_floor
set_option maxRecDepth 20000 in
theorem ggX2_remember_X4_reach : GoodIn wsX2_remember wsX4_reach := goodIn_r _ [35, 36, 44, 45, 46, 47] (by decide +kernel) (by decide +kernel)
set_option maxRecDepth 20000 in
theorem gX2_remember_X4_reach : GoodIn wsX2_remember (wsV RX2 48 RX4 yX4_reach wsX4_reach) := goodIn_app (goodIn_of _ (by decide +kernel)) ggX2_remember_X4_reach
theorem dX2_remember_0 : decode cX2_remember 0 = .ok (.aload_n 1, 1) := by decide +kernel
theorem dX2_remember_1 : decode cX2_remember 1 = .ok (.iload_n 2, 1) := by decide +kernel
theorem dX2_remember_2 : decode cX2_remember 2 = .ok (.aload_n 0, 1) := by decide +kernel
theorem dX2_remember_3 : decode cX2_remember 3 = .ok (.getfield 9, 3) := by decide +kernel
theorem dX2_remember_6 : decode cX2_remember 6 = .ok (.aload_n 0, 1) := by decide +kernel
theorem dX2_remember_7 : decode cX2_remember 7 = .ok (.getfield 31, 3) := by decide +kernel
theorem dX2_remember_10 : decode cX2_remember 10 = .ok (.sipush 128, 3) := by decide +kernel
theorem dX2_remember_13 : decode cX2_remember 13 = .ok (.imul, 1) := by decide +kernel
theorem dX2_remember_14 : decode cX2_remember 14 = .ok (.invokevirtual 34, 3) := by decide +kernel
theorem dX2_remember_17 : decode cX2_remember 17 = .ok (.aload_n 0, 1) := by decide +kernel
theorem dX2_remember_18 : decode cX2_remember 18 = .ok (.getfield 15, 3) := by decide +kernel
theorem dX2_remember_21 : decode cX2_remember 21 = .ok (.aload_n 0, 1) := by decide +kernel
theorem dX2_remember_22 : decode cX2_remember 22 = .ok (.getfield 31, 3) := by decide +kernel
theorem dX2_remember_25 : decode cX2_remember 25 = .ok (.iload_n 2, 1) := by decide +kernel
theorem dX2_remember_26 : decode cX2_remember 26 = .ok (.iastore, 1) := by decide +kernel
theorem dX2_remember_27 : decode cX2_remember 27 = .ok (.aload_n 0, 1) := by decide +kernel
theorem dX2_remember_28 : decode cX2_remember 28 = .ok (.getfield 18, 3) := by decide +kernel
theorem dX2_remember_31 : decode cX2_remember 31 = .ok (.aload_n 0, 1) := by decide +kernel
theorem dX2_remember_32 : decode cX2_remember 32 = .ok (.getfield 31, 3) := by decide +kernel
theorem dX2_remember_35 : decode cX2_remember 35 = .ok (.aload_n 1, 1) := by decide +kernel
theorem dX2_remember_36 : decode cX2_remember 36 = .ok (.iload_n 2, 1) := by decide +kernel
theorem dX2_remember_37 : decode cX2_remember 37 = .ok (.invokevirtual 40, 3) := by decide +kernel
theorem dX2_remember_40 : decode cX2_remember 40 = .ok (.iastore, 1) := by decide +kernel
theorem dX2_remember_41 : decode cX2_remember 41 = .ok (.aload_n 0, 1) := by decide +kernel
theorem dX2_remember_42 : decode cX2_remember 42 = .ok (.getfield 21, 3) := by decide +kernel
theorem dX2_remember_45 : decode cX2_remember 45 = .ok (.aload_n 0, 1) := by decide +kernel
theorem dX2_remember_46 : decode cX2_remember 46 = .ok (.getfield 31, 3) := by decide +kernel
theorem dX2_remember_49 : decode cX2_remember 49 = .ok (.aload_n 1, 1) := by decide +kernel
theorem dX2_remember_50 : decode cX2_remember 50 = .ok (.invokevirtual 44, 3) := by decide +kernel
theorem dX2_remember_53 : decode cX2_remember 53 = .ok (.iastore, 1) := by decide +kernel
theorem dX2_remember_54 : decode cX2_remember 54 = .ok (.aload_n 0, 1) := by decide +kernel
theorem dX2_remember_55 : decode cX2_remember 55 = .ok (.getfield 24, 3) := by decide +kernel
theorem dX2_remember_58 : decode cX2_remember 58 = .ok (.aload_n 0, 1) := by decide +kernel
theorem dX2_remember_59 : decode cX2_remember 59 = .ok (.getfield 31, 3) := by decide +kernel
theorem dX2_remember_62 : decode cX2_remember 62 = .ok (.aload_n 1, 1) := by decide +kernel
theorem dX2_remember_63 : decode cX2_remember 63 = .ok (.invokevirtual 48, 3) := by decide +kernel
theorem dX2_remember_66 : decode cX2_remember 66 = .ok (.iastore, 1) := by decide +kernel
theorem dX2_remember_67 : decode cX2_remember 67 = .ok (.aload_n 0, 1) := by decide +kernel
theorem dX2_remember_68 : decode cX2_remember 68 = .ok (.aload_n 0, 1) := by decide +kernel
theorem dX2_remember_69 : decode cX2_remember 69 = .ok (.getfield 31, 3) := by decide +kernel
theorem dX2_remember_72 : decode cX2_remember 72 = .ok (.iconst 1, 1) := by decide +kernel
theorem dX2_remember_73 : decode cX2_remember 73 = .ok (.iadd, 1) := by decide +kernel
theorem dX2_remember_74 : decode cX2_remember 74 = .ok (.bipush 8, 2) := by decide +kernel
theorem dX2_remember_76 : decode cX2_remember 76 = .ok (.irem, 1) := by decide +kernel
theorem dX2_remember_77 : decode cX2_remember 77 = .ok (.putfield 31, 3) := by decide +kernel
theorem dX2_remember_80 : decode cX2_remember 80 = .ok (.aload_n 0, 1) := by decide +kernel
theorem dX2_remember_81 : decode cX2_remember 81 = .ok (.aload_n 0, 1) := by decide +kernel
theorem dX2_remember_82 : decode cX2_remember 82 = .ok (.getfield 27, 3) := by decide +kernel
theorem dX2_remember_85 : decode cX2_remember 85 = .ok (.iconst 1, 1) := by decide +kernel
theorem dX2_remember_86 : decode cX2_remember 86 = .ok (.iadd, 1) := by decide +kernel
theorem dX2_remember_87 : decode cX2_remember 87 = .ok (.bipush 8, 2) := by decide +kernel
theorem dX2_remember_89 : decode cX2_remember 89 = .ok (.invokestatic 51, 3) := by decide +kernel
theorem dX2_remember_92 : decode cX2_remember 92 = .ok (.putfield 27, 3) := by decide +kernel
theorem dX2_remember_95 : decode cX2_remember 95 = .ok (.return_, 1) := by decide +kernel
set_option maxRecDepth 20000 in
theorem ggX2_restoreLatest_X4_takeRow : GoodIn wsX2_restoreLatest wsX4_takeRow := goodIn_r _ [12, 13, 14, 15, 16, 17, 18, 36, 37, 38, 39] (by decide +kernel) (by decide +kernel)
set_option maxRecDepth 20000 in
theorem gX2_restoreLatest_X4_takeRow : GoodIn wsX2_restoreLatest (wsV RX2 57 RX4 yX4_takeRow wsX4_takeRow) := goodIn_app (goodIn_of _ (by decide +kernel)) ggX2_restoreLatest_X4_takeRow
set_option maxRecDepth 20000 in
theorem ggX2_restoreLatest_X4_setFloor : GoodIn wsX2_restoreLatest wsX4_setFloor := goodIn_r _ [22, 23, 36, 37, 38, 39] (by decide +kernel) (by decide +kernel)
set_option maxRecDepth 20000 in
theorem gX2_restoreLatest_X4_setFloor : GoodIn wsX2_restoreLatest (wsV RX2 61 RX4 yX4_setFloor wsX4_setFloor) := goodIn_app (goodIn_of _ (by decide +kernel)) ggX2_restoreLatest_X4_setFloor
set_option maxRecDepth 20000 in
theorem ggX2_restoreLatest_X4_setReach : GoodIn wsX2_restoreLatest wsX4_setReach := goodIn_r _ [27, 28, 36, 37, 38, 39] (by decide +kernel) (by decide +kernel)
set_option maxRecDepth 20000 in
theorem gX2_restoreLatest_X4_setReach : GoodIn wsX2_restoreLatest (wsV RX2 65 RX4 yX4_setReach wsX4_setReach) := goodIn_app (goodIn_of _ (by decide +kernel)) ggX2_restoreLatest_X4_setReach
theorem dX2_restoreLatest_0 : decode cX2_restoreLatest 0 = .ok (.aload_n 0, 1) := by decide +kernel
theorem dX2_restoreLatest_1 : decode cX2_restoreLatest 1 = .ok (.getfield 27, 3) := by decide +kernel
theorem dX2_restoreLatest_4 : decode cX2_restoreLatest 4 = .ok (.ifCond .ne 4, 3) := by decide +kernel
theorem dX2_restoreLatest_7 : decode cX2_restoreLatest 7 = .ok (.return_, 1) := by decide +kernel
theorem dX2_restoreLatest_8 : decode cX2_restoreLatest 8 = .ok (.aload_n 0, 1) := by decide +kernel
theorem dX2_restoreLatest_9 : decode cX2_restoreLatest 9 = .ok (.aload_n 0, 1) := by decide +kernel
theorem dX2_restoreLatest_10 : decode cX2_restoreLatest 10 = .ok (.getfield 31, 3) := by decide +kernel
theorem dX2_restoreLatest_13 : decode cX2_restoreLatest 13 = .ok (.bipush 8, 2) := by decide +kernel
theorem dX2_restoreLatest_15 : decode cX2_restoreLatest 15 = .ok (.iadd, 1) := by decide +kernel
theorem dX2_restoreLatest_16 : decode cX2_restoreLatest 16 = .ok (.iconst 1, 1) := by decide +kernel
theorem dX2_restoreLatest_17 : decode cX2_restoreLatest 17 = .ok (.isub, 1) := by decide +kernel
theorem dX2_restoreLatest_18 : decode cX2_restoreLatest 18 = .ok (.bipush 8, 2) := by decide +kernel
theorem dX2_restoreLatest_20 : decode cX2_restoreLatest 20 = .ok (.irem, 1) := by decide +kernel
theorem dX2_restoreLatest_21 : decode cX2_restoreLatest 21 = .ok (.putfield 31, 3) := by decide +kernel
theorem dX2_restoreLatest_24 : decode cX2_restoreLatest 24 = .ok (.aload_n 0, 1) := by decide +kernel
theorem dX2_restoreLatest_25 : decode cX2_restoreLatest 25 = .ok (.dup, 1) := by decide +kernel
theorem dX2_restoreLatest_26 : decode cX2_restoreLatest 26 = .ok (.getfield 27, 3) := by decide +kernel
theorem dX2_restoreLatest_29 : decode cX2_restoreLatest 29 = .ok (.iconst 1, 1) := by decide +kernel
theorem dX2_restoreLatest_30 : decode cX2_restoreLatest 30 = .ok (.isub, 1) := by decide +kernel
theorem dX2_restoreLatest_31 : decode cX2_restoreLatest 31 = .ok (.putfield 27, 3) := by decide +kernel
theorem dX2_restoreLatest_34 : decode cX2_restoreLatest 34 = .ok (.aload_n 1, 1) := by decide +kernel
theorem dX2_restoreLatest_35 : decode cX2_restoreLatest 35 = .ok (.aload_n 0, 1) := by decide +kernel
theorem dX2_restoreLatest_36 : decode cX2_restoreLatest 36 = .ok (.getfield 15, 3) := by decide +kernel
theorem dX2_restoreLatest_39 : decode cX2_restoreLatest 39 = .ok (.aload_n 0, 1) := by decide +kernel
theorem dX2_restoreLatest_40 : decode cX2_restoreLatest 40 = .ok (.getfield 31, 3) := by decide +kernel
theorem dX2_restoreLatest_43 : decode cX2_restoreLatest 43 = .ok (.iaload, 1) := by decide +kernel
theorem dX2_restoreLatest_44 : decode cX2_restoreLatest 44 = .ok (.aload_n 0, 1) := by decide +kernel
theorem dX2_restoreLatest_45 : decode cX2_restoreLatest 45 = .ok (.getfield 9, 3) := by decide +kernel
theorem dX2_restoreLatest_48 : decode cX2_restoreLatest 48 = .ok (.aload_n 0, 1) := by decide +kernel
theorem dX2_restoreLatest_49 : decode cX2_restoreLatest 49 = .ok (.getfield 31, 3) := by decide +kernel
theorem dX2_restoreLatest_52 : decode cX2_restoreLatest 52 = .ok (.sipush 128, 3) := by decide +kernel
theorem dX2_restoreLatest_55 : decode cX2_restoreLatest 55 = .ok (.imul, 1) := by decide +kernel
theorem dX2_restoreLatest_56 : decode cX2_restoreLatest 56 = .ok (.aload_n 0, 1) := by decide +kernel
theorem dX2_restoreLatest_57 : decode cX2_restoreLatest 57 = .ok (.getfield 18, 3) := by decide +kernel
theorem dX2_restoreLatest_60 : decode cX2_restoreLatest 60 = .ok (.aload_n 0, 1) := by decide +kernel
theorem dX2_restoreLatest_61 : decode cX2_restoreLatest 61 = .ok (.getfield 31, 3) := by decide +kernel
theorem dX2_restoreLatest_64 : decode cX2_restoreLatest 64 = .ok (.iaload, 1) := by decide +kernel
theorem dX2_restoreLatest_65 : decode cX2_restoreLatest 65 = .ok (.invokevirtual 57, 3) := by decide +kernel
theorem dX2_restoreLatest_68 : decode cX2_restoreLatest 68 = .ok (.aload_n 1, 1) := by decide +kernel
theorem dX2_restoreLatest_69 : decode cX2_restoreLatest 69 = .ok (.aload_n 0, 1) := by decide +kernel
theorem dX2_restoreLatest_70 : decode cX2_restoreLatest 70 = .ok (.getfield 21, 3) := by decide +kernel
theorem dX2_restoreLatest_73 : decode cX2_restoreLatest 73 = .ok (.aload_n 0, 1) := by decide +kernel
theorem dX2_restoreLatest_74 : decode cX2_restoreLatest 74 = .ok (.getfield 31, 3) := by decide +kernel
theorem dX2_restoreLatest_77 : decode cX2_restoreLatest 77 = .ok (.iaload, 1) := by decide +kernel
theorem dX2_restoreLatest_78 : decode cX2_restoreLatest 78 = .ok (.invokevirtual 61, 3) := by decide +kernel
theorem dX2_restoreLatest_81 : decode cX2_restoreLatest 81 = .ok (.aload_n 1, 1) := by decide +kernel
theorem dX2_restoreLatest_82 : decode cX2_restoreLatest 82 = .ok (.aload_n 0, 1) := by decide +kernel
theorem dX2_restoreLatest_83 : decode cX2_restoreLatest 83 = .ok (.getfield 24, 3) := by decide +kernel
theorem dX2_restoreLatest_86 : decode cX2_restoreLatest 86 = .ok (.aload_n 0, 1) := by decide +kernel
theorem dX2_restoreLatest_87 : decode cX2_restoreLatest 87 = .ok (.getfield 31, 3) := by decide +kernel
theorem dX2_restoreLatest_90 : decode cX2_restoreLatest 90 = .ok (.iaload, 1) := by decide +kernel
theorem dX2_restoreLatest_91 : decode cX2_restoreLatest 91 = .ok (.invokevirtual 65, 3) := by decide +kernel
theorem dX2_restoreLatest_94 : decode cX2_restoreLatest 94 = .ok (.return_, 1) := by decide +kernel
theorem dX3_init_0 : decode cX3_init 0 = .ok (.aload_n 0, 1) := by decide +kernel
theorem dX3_init_1 : decode cX3_init 1 = .ok (.invokespecial 3, 3) := by decide +kernel
theorem dX3_init_4 : decode cX3_init 4 = .ok (.aload_n 0, 1) := by decide +kernel
theorem dX3_init_5 : decode cX3_init 5 = .ok (.bipush 8, 2) := by decide +kernel
theorem dX3_init_7 : decode cX3_init 7 = .ok (.newarray .int, 2) := by decide +kernel
theorem dX3_init_9 : decode cX3_init 9 = .ok (.putfield 9, 3) := by decide +kernel
theorem dX3_init_12 : decode cX3_init 12 = .ok (.aload_n 0, 1) := by decide +kernel
theorem dX3_init_13 : decode cX3_init 13 = .ok (.bipush 80, 2) := by decide +kernel
theorem dX3_init_15 : decode cX3_init 15 = .ok (.newarray .int, 2) := by decide +kernel
theorem dX3_init_17 : decode cX3_init 17 = .ok (.putfield 15, 3) := by decide +kernel
theorem dX3_init_20 : decode cX3_init 20 = .ok (.aload_n 0, 1) := by decide +kernel
theorem dX3_init_21 : decode cX3_init 21 = .ok (.bipush 8, 2) := by decide +kernel
theorem dX3_init_23 : decode cX3_init 23 = .ok (.newarray .int, 2) := by decide +kernel
theorem dX3_init_25 : decode cX3_init 25 = .ok (.putfield 18, 3) := by decide +kernel
theorem dX3_init_28 : decode cX3_init 28 = .ok (.return_, 1) := by decide +kernel
set_option maxRecDepth 20000 in
theorem ggX3_look_X4_windowsOf : GoodIn wsX3_look wsX4_windowsOf := goodIn_r _ [6, 7, 39, 40, 41, 42] (by decide +kernel) (by decide +kernel)
set_option maxRecDepth 20000 in
theorem gX3_look_X4_windowsOf : GoodIn wsX3_look (wsV RX3 21 RX4 yX4_windowsOf wsX4_windowsOf) := goodIn_app (goodIn_of _ (by decide +kernel)) ggX3_look_X4_windowsOf
set_option maxRecDepth 20000 in
theorem ggX3_look_X3_findPeak : GoodIn wsX3_look wsX3_findPeak := goodIn_r _ [12, 13, 14, 15, 11, 16, 17, 18, 19, 20, 5, 21, 22, 23, 24, 25, 26, 27, 28, 29, 30, 31, 32, 33, 34, 35, 36, 37, 38, 39, 40, 41, 42] (by decide +kernel) (by decide +kernel)
set_option maxRecDepth 20000 in
theorem gX3_look_X3_findPeak : GoodIn wsX3_look (wsV RX3 27 RX3 yX3_findPeak wsX3_findPeak) := goodIn_app (goodIn_of _ (by decide +kernel)) ggX3_look_X3_findPeak
theorem dX3_look_0 : decode cX3_look 0 = .ok (.iconst 0, 1) := by decide +kernel
theorem dX3_look_1 : decode cX3_look 1 = .ok (.istore_n 2, 1) := by decide +kernel
theorem dX3_look_2 : decode cX3_look 2 = .ok (.iload_n 2, 1) := by decide +kernel
theorem dX3_look_3 : decode cX3_look 3 = .ok (.iconst 5, 1) := by decide +kernel
theorem dX3_look_4 : decode cX3_look 4 = .ok (.if_icmp .ge 65, 3) := by decide +kernel
theorem dX3_look_7 : decode cX3_look 7 = .ok (.aload_n 1, 1) := by decide +kernel
theorem dX3_look_8 : decode cX3_look 8 = .ok (.iload_n 2, 1) := by decide +kernel
theorem dX3_look_9 : decode cX3_look 9 = .ok (.invokevirtual 21, 3) := by decide +kernel
theorem dX3_look_12 : decode cX3_look 12 = .ok (.istore_n 3, 1) := by decide +kernel
theorem dX3_look_13 : decode cX3_look 13 = .ok (.iconst 0, 1) := by decide +kernel
theorem dX3_look_14 : decode cX3_look 14 = .ok (.istore 4, 2) := by decide +kernel
theorem dX3_look_16 : decode cX3_look 16 = .ok (.iload 4, 2) := by decide +kernel
theorem dX3_look_18 : decode cX3_look 18 = .ok (.bipush 16, 2) := by decide +kernel
theorem dX3_look_20 : decode cX3_look 20 = .ok (.if_icmp .ge 43, 3) := by decide +kernel
theorem dX3_look_23 : decode cX3_look 23 = .ok (.iload_n 2, 1) := by decide +kernel
theorem dX3_look_24 : decode cX3_look 24 = .ok (.bipush 16, 2) := by decide +kernel
theorem dX3_look_26 : decode cX3_look 26 = .ok (.imul, 1) := by decide +kernel
theorem dX3_look_27 : decode cX3_look 27 = .ok (.iload 4, 2) := by decide +kernel
theorem dX3_look_29 : decode cX3_look 29 = .ok (.iadd, 1) := by decide +kernel
theorem dX3_look_30 : decode cX3_look 30 = .ok (.istore 5, 2) := by decide +kernel
theorem dX3_look_32 : decode cX3_look 32 = .ok (.aload_n 0, 1) := by decide +kernel
theorem dX3_look_33 : decode cX3_look 33 = .ok (.getfield 15, 3) := by decide +kernel
theorem dX3_look_36 : decode cX3_look 36 = .ok (.iload 5, 2) := by decide +kernel
theorem dX3_look_38 : decode cX3_look 38 = .ok (.iload 4, 2) := by decide +kernel
theorem dX3_look_40 : decode cX3_look 40 = .ok (.iload_n 3, 1) := by decide +kernel
theorem dX3_look_41 : decode cX3_look 41 = .ok (.if_icmp .ge 14, 3) := by decide +kernel
theorem dX3_look_44 : decode cX3_look 44 = .ok (.aload_n 0, 1) := by decide +kernel
theorem dX3_look_45 : decode cX3_look 45 = .ok (.aload_n 1, 1) := by decide +kernel
theorem dX3_look_46 : decode cX3_look 46 = .ok (.iload_n 2, 1) := by decide +kernel
theorem dX3_look_47 : decode cX3_look 47 = .ok (.iload 4, 2) := by decide +kernel
theorem dX3_look_49 : decode cX3_look 49 = .ok (.invokevirtual 27, 3) := by decide +kernel
theorem dX3_look_52 : decode cX3_look 52 = .ok (.goto 4, 3) := by decide +kernel
theorem dX3_look_55 : decode cX3_look 55 = .ok (.iconst (-1), 1) := by decide +kernel
theorem dX3_look_56 : decode cX3_look 56 = .ok (.iastore, 1) := by decide +kernel
theorem dX3_look_57 : decode cX3_look 57 = .ok (.iinc 4 1, 3) := by decide +kernel
theorem dX3_look_60 : decode cX3_look 60 = .ok (.goto (-44), 3) := by decide +kernel
theorem dX3_look_63 : decode cX3_look 63 = .ok (.iinc 2 1, 3) := by decide +kernel
theorem dX3_look_66 : decode cX3_look 66 = .ok (.goto (-64), 3) := by decide +kernel
theorem dX3_look_69 : decode cX3_look 69 = .ok (.return_, 1) := by decide +kernel
set_option maxRecDepth 20000 in
theorem ggX3_shareIn_X3_turn : GoodIn wsX3_shareIn wsX3_turn := goodIn_r _ [5, 6, 7, 8, 9, 10, 11, 12, 13, 14, 15, 4, 16, 21, 22, 23, 24, 25, 26, 27] (by decide +kernel) (by decide +kernel)
set_option maxRecDepth 20000 in
theorem gX3_shareIn_X3_turn : GoodIn wsX3_shareIn (wsV RX3 31 RX3 yX3_turn wsX3_turn) := goodIn_app (goodIn_of _ (by decide +kernel)) ggX3_shareIn_X3_turn
set_option maxRecDepth 20000 in
theorem ggX3_shareIn_X3_shareOf : GoodIn wsX3_shareIn wsX3_shareOf := goodIn_r _ [20, 6, 21, 22, 23] (by decide +kernel) (by decide +kernel)
set_option maxRecDepth 20000 in
theorem gX3_shareIn_X3_shareOf : GoodIn wsX3_shareIn (wsV RX3 35 RX3 yX3_shareOf wsX3_shareOf) := goodIn_app (goodIn_of _ (by decide +kernel)) ggX3_shareIn_X3_shareOf
theorem dX3_shareIn_0 : decode cX3_shareIn 0 = .ok (.aload_n 0, 1) := by decide +kernel
theorem dX3_shareIn_1 : decode cX3_shareIn 1 = .ok (.aload_n 1, 1) := by decide +kernel
theorem dX3_shareIn_2 : decode cX3_shareIn 2 = .ok (.iload_n 2, 1) := by decide +kernel
theorem dX3_shareIn_3 : decode cX3_shareIn 3 = .ok (.iload_n 3, 1) := by decide +kernel
theorem dX3_shareIn_4 : decode cX3_shareIn 4 = .ok (.invokevirtual 31, 3) := by decide +kernel
theorem dX3_shareIn_7 : decode cX3_shareIn 7 = .ok (.aload_n 0, 1) := by decide +kernel
theorem dX3_shareIn_8 : decode cX3_shareIn 8 = .ok (.iload 4, 2) := by decide +kernel
theorem dX3_shareIn_10 : decode cX3_shareIn 10 = .ok (.invokevirtual 35, 3) := by decide +kernel
theorem dX3_shareIn_13 : decode cX3_shareIn 13 = .ok (.ireturn, 1) := by decide +kernel
set_option maxRecDepth 20000 in
theorem ggX3_allSharesIn_X4_windowsOf : GoodIn wsX3_allSharesIn wsX4_windowsOf := goodIn_r _ [5, 6, 26, 27, 28, 29] (by decide +kernel) (by decide +kernel)
set_option maxRecDepth 20000 in
theorem gX3_allSharesIn_X4_windowsOf : GoodIn wsX3_allSharesIn (wsV RX3 21 RX4 yX4_windowsOf wsX4_windowsOf) := goodIn_app (goodIn_of _ (by decide +kernel)) ggX3_allSharesIn_X4_windowsOf
set_option maxRecDepth 20000 in
theorem ggX3_allSharesIn_X3_turn : GoodIn wsX3_allSharesIn wsX3_turn := goodIn_r _ [11, 12, 13, 14, 15, 4, 16, 17, 18, 19, 20, 10, 21, 30, 31, 32, 26, 27, 28, 29] (by decide +kernel) (by decide +kernel)
set_option maxRecDepth 20000 in
theorem gX3_allSharesIn_X3_turn : GoodIn wsX3_allSharesIn (wsV RX3 31 RX3 yX3_turn wsX3_turn) := goodIn_app (goodIn_of _ (by decide +kernel)) ggX3_allSharesIn_X3_turn
set_option maxRecDepth 20000 in
theorem ggX3_allSharesIn_X3_shareOf : GoodIn wsX3_allSharesIn wsX3_shareOf := goodIn_r _ [25, 12, 30, 31, 32] (by decide +kernel) (by decide +kernel)
set_option maxRecDepth 20000 in
theorem gX3_allSharesIn_X3_shareOf : GoodIn wsX3_allSharesIn (wsV RX3 35 RX3 yX3_shareOf wsX3_shareOf) := goodIn_app (goodIn_of _ (by decide +kernel)) ggX3_allSharesIn_X3_shareOf
theorem dX3_allSharesIn_0 : decode cX3_allSharesIn 0 = .ok (.aload_n 1, 1) := by decide +kernel
theorem dX3_allSharesIn_1 : decode cX3_allSharesIn 1 = .ok (.iload_n 2, 1) := by decide +kernel
theorem dX3_allSharesIn_2 : decode cX3_allSharesIn 2 = .ok (.invokevirtual 21, 3) := by decide +kernel
theorem dX3_allSharesIn_5 : decode cX3_allSharesIn 5 = .ok (.istore_n 3, 1) := by decide +kernel
theorem dX3_allSharesIn_6 : decode cX3_allSharesIn 6 = .ok (.iconst 0, 1) := by decide +kernel
theorem dX3_allSharesIn_7 : decode cX3_allSharesIn 7 = .ok (.istore 4, 2) := by decide +kernel
theorem dX3_allSharesIn_9 : decode cX3_allSharesIn 9 = .ok (.iconst 0, 1) := by decide +kernel
theorem dX3_allSharesIn_10 : decode cX3_allSharesIn 10 = .ok (.istore 5, 2) := by decide +kernel
theorem dX3_allSharesIn_12 : decode cX3_allSharesIn 12 = .ok (.iload 5, 2) := by decide +kernel
theorem dX3_allSharesIn_14 : decode cX3_allSharesIn 14 = .ok (.iload_n 3, 1) := by decide +kernel
theorem dX3_allSharesIn_15 : decode cX3_allSharesIn 15 = .ok (.if_icmp .ge 44, 3) := by decide +kernel
theorem dX3_allSharesIn_18 : decode cX3_allSharesIn 18 = .ok (.aload_n 0, 1) := by decide +kernel
theorem dX3_allSharesIn_19 : decode cX3_allSharesIn 19 = .ok (.aload_n 1, 1) := by decide +kernel
theorem dX3_allSharesIn_20 : decode cX3_allSharesIn 20 = .ok (.iload_n 2, 1) := by decide +kernel
theorem dX3_allSharesIn_21 : decode cX3_allSharesIn 21 = .ok (.iload 5, 2) := by decide +kernel
theorem dX3_allSharesIn_23 : decode cX3_allSharesIn 23 = .ok (.invokevirtual 31, 3) := by decide +kernel
theorem dX3_allSharesIn_26 : decode cX3_allSharesIn 26 = .ok (.iconst 0, 1) := by decide +kernel
theorem dX3_allSharesIn_27 : decode cX3_allSharesIn 27 = .ok (.istore 6, 2) := by decide +kernel
theorem dX3_allSharesIn_29 : decode cX3_allSharesIn 29 = .ok (.iload 6, 2) := by decide +kernel
theorem dX3_allSharesIn_31 : decode cX3_allSharesIn 31 = .ok (.bipush 8, 2) := by decide +kernel
theorem dX3_allSharesIn_33 : decode cX3_allSharesIn 33 = .ok (.if_icmp .ge 20, 3) := by decide +kernel
theorem dX3_allSharesIn_36 : decode cX3_allSharesIn 36 = .ok (.iload 4, 2) := by decide +kernel
theorem dX3_allSharesIn_38 : decode cX3_allSharesIn 38 = .ok (.aload_n 0, 1) := by decide +kernel
theorem dX3_allSharesIn_39 : decode cX3_allSharesIn 39 = .ok (.iload 6, 2) := by decide +kernel
theorem dX3_allSharesIn_41 : decode cX3_allSharesIn 41 = .ok (.invokevirtual 35, 3) := by decide +kernel
theorem dX3_allSharesIn_44 : decode cX3_allSharesIn 44 = .ok (.iadd, 1) := by decide +kernel
theorem dX3_allSharesIn_45 : decode cX3_allSharesIn 45 = .ok (.istore 4, 2) := by decide +kernel
theorem dX3_allSharesIn_47 : decode cX3_allSharesIn 47 = .ok (.iinc 6 1, 3) := by decide +kernel
theorem dX3_allSharesIn_50 : decode cX3_allSharesIn 50 = .ok (.goto (-21), 3) := by decide +kernel
theorem dX3_allSharesIn_53 : decode cX3_allSharesIn 53 = .ok (.iinc 5 1, 3) := by decide +kernel
theorem dX3_allSharesIn_56 : decode cX3_allSharesIn 56 = .ok (.goto (-44), 3) := by decide +kernel
theorem dX3_allSharesIn_59 : decode cX3_allSharesIn 59 = .ok (.iload 4, 2) := by decide +kernel
theorem dX3_allSharesIn_61 : decode cX3_allSharesIn 61 = .ok (.ireturn, 1) := by decide +kernel
theorem dX3_peakOf_0 : decode cX3_peakOf 0 = .ok (.aload_n 0, 1) := by decide +kernel
theorem dX3_peakOf_1 : decode cX3_peakOf 1 = .ok (.getfield 15, 3) := by decide +kernel
theorem dX3_peakOf_4 : decode cX3_peakOf 4 = .ok (.iload_n 1, 1) := by decide +kernel
theorem dX3_peakOf_5 : decode cX3_peakOf 5 = .ok (.bipush 16, 2) := by decide +kernel
theorem dX3_peakOf_7 : decode cX3_peakOf 7 = .ok (.imul, 1) := by decide +kernel
theorem dX3_peakOf_8 : decode cX3_peakOf 8 = .ok (.iload_n 2, 1) := by decide +kernel
theorem dX3_peakOf_9 : decode cX3_peakOf 9 = .ok (.iadd, 1) := by decide +kernel
theorem dX3_peakOf_10 : decode cX3_peakOf 10 = .ok (.iaload, 1) := by decide +kernel
theorem dX3_peakOf_11 : decode cX3_peakOf 11 = .ok (.ireturn, 1) := by decide +kernel
set_option maxRecDepth 20000 in
theorem ggX3_keyOf_X3_peakOf : GoodIn wsX3_keyOf wsX3_peakOf := goodIn_r _ [5, 6, 7, 8, 9] (by decide +kernel) (by decide +kernel)
set_option maxRecDepth 20000 in
theorem gX3_keyOf_X3_peakOf : GoodIn wsX3_keyOf (wsV RX3 38 RX3 yX3_peakOf wsX3_peakOf) := goodIn_app (goodIn_of _ (by decide +kernel)) ggX3_keyOf_X3_peakOf
theorem dX3_keyOf_0 : decode cX3_keyOf 0 = .ok (.iload_n 2, 1) := by decide +kernel
theorem dX3_keyOf_1 : decode cX3_keyOf 1 = .ok (.ifCond .lt 22, 3) := by decide +kernel
theorem dX3_keyOf_4 : decode cX3_keyOf 4 = .ok (.iload_n 2, 1) := by decide +kernel
theorem dX3_keyOf_5 : decode cX3_keyOf 5 = .ok (.iload_n 3, 1) := by decide +kernel
theorem dX3_keyOf_6 : decode cX3_keyOf 6 = .ok (.if_icmp .ge 17, 3) := by decide +kernel
theorem dX3_keyOf_9 : decode cX3_keyOf 9 = .ok (.iload_n 3, 1) := by decide +kernel
theorem dX3_keyOf_10 : decode cX3_keyOf 10 = .ok (.bipush 16, 2) := by decide +kernel
theorem dX3_keyOf_12 : decode cX3_keyOf 12 = .ok (.if_icmp .ge 11, 3) := by decide +kernel
theorem dX3_keyOf_15 : decode cX3_keyOf 15 = .ok (.iload_n 3, 1) := by decide +kernel
theorem dX3_keyOf_16 : decode cX3_keyOf 16 = .ok (.iload_n 2, 1) := by decide +kernel
theorem dX3_keyOf_17 : decode cX3_keyOf 17 = .ok (.isub, 1) := by decide +kernel
theorem dX3_keyOf_18 : decode cX3_keyOf 18 = .ok (.iload 4, 2) := by decide +kernel
theorem dX3_keyOf_20 : decode cX3_keyOf 20 = .ok (.if_icmp .le 5, 3) := by decide +kernel
theorem dX3_keyOf_23 : decode cX3_keyOf 23 = .ok (.iconst (-1), 1) := by decide +kernel
theorem dX3_keyOf_24 : decode cX3_keyOf 24 = .ok (.ireturn, 1) := by decide +kernel
theorem dX3_keyOf_25 : decode cX3_keyOf 25 = .ok (.aload_n 0, 1) := by decide +kernel
theorem dX3_keyOf_26 : decode cX3_keyOf 26 = .ok (.iload_n 1, 1) := by decide +kernel
theorem dX3_keyOf_27 : decode cX3_keyOf 27 = .ok (.iload_n 2, 1) := by decide +kernel
theorem dX3_keyOf_28 : decode cX3_keyOf 28 = .ok (.invokevirtual 38, 3) := by decide +kernel
theorem dX3_keyOf_31 : decode cX3_keyOf 31 = .ok (.istore 5, 2) := by decide +kernel
theorem dX3_keyOf_33 : decode cX3_keyOf 33 = .ok (.aload_n 0, 1) := by decide +kernel
theorem dX3_keyOf_34 : decode cX3_keyOf 34 = .ok (.iload_n 1, 1) := by decide +kernel
theorem dX3_keyOf_35 : decode cX3_keyOf 35 = .ok (.iload_n 3, 1) := by decide +kernel
theorem dX3_keyOf_36 : decode cX3_keyOf 36 = .ok (.invokevirtual 38, 3) := by decide +kernel
theorem dX3_keyOf_39 : decode cX3_keyOf 39 = .ok (.istore 6, 2) := by decide +kernel
theorem dX3_keyOf_41 : decode cX3_keyOf 41 = .ok (.iload 5, 2) := by decide +kernel
theorem dX3_keyOf_43 : decode cX3_keyOf 43 = .ok (.iconst (-1), 1) := by decide +kernel
theorem dX3_keyOf_44 : decode cX3_keyOf 44 = .ok (.if_icmp .eq 9, 3) := by decide +kernel
theorem dX3_keyOf_47 : decode cX3_keyOf 47 = .ok (.iload 6, 2) := by decide +kernel
theorem dX3_keyOf_49 : decode cX3_keyOf 49 = .ok (.iconst (-1), 1) := by decide +kernel
theorem dX3_keyOf_50 : decode cX3_keyOf 50 = .ok (.if_icmp .ne 7, 3) := by decide +kernel
theorem dX3_keyOf_53 : decode cX3_keyOf 53 = .ok (.iconst (-1), 1) := by decide +kernel
theorem dX3_keyOf_54 : decode cX3_keyOf 54 = .ok (.goto 18, 3) := by decide +kernel
theorem dX3_keyOf_57 : decode cX3_keyOf 57 = .ok (.bipush 64, 2) := by decide +kernel
theorem dX3_keyOf_59 : decode cX3_keyOf 59 = .ok (.iload_n 3, 1) := by decide +kernel
theorem dX3_keyOf_60 : decode cX3_keyOf 60 = .ok (.iload_n 2, 1) := by decide +kernel
theorem dX3_keyOf_61 : decode cX3_keyOf 61 = .ok (.isub, 1) := by decide +kernel
theorem dX3_keyOf_62 : decode cX3_keyOf 62 = .ok (.imul, 1) := by decide +kernel
theorem dX3_keyOf_63 : decode cX3_keyOf 63 = .ok (.bipush 8, 2) := by decide +kernel
theorem dX3_keyOf_65 : decode cX3_keyOf 65 = .ok (.iload 5, 2) := by decide +kernel
theorem dX3_keyOf_67 : decode cX3_keyOf 67 = .ok (.imul, 1) := by decide +kernel
theorem dX3_keyOf_68 : decode cX3_keyOf 68 = .ok (.iadd, 1) := by decide +kernel
theorem dX3_keyOf_69 : decode cX3_keyOf 69 = .ok (.iload 6, 2) := by decide +kernel
theorem dX3_keyOf_71 : decode cX3_keyOf 71 = .ok (.iadd, 1) := by decide +kernel
theorem dX3_keyOf_72 : decode cX3_keyOf 72 = .ok (.ireturn, 1) := by decide +kernel
set_option maxRecDepth 20000 in
theorem ggX3_countIn_X3_peakOf : GoodIn wsX3_countIn wsX3_peakOf := goodIn_r _ [5, 6, 7, 8, 9] (by decide +kernel) (by decide +kernel)
set_option maxRecDepth 20000 in
theorem gX3_countIn_X3_peakOf : GoodIn wsX3_countIn (wsV RX3 38 RX3 yX3_peakOf wsX3_peakOf) := goodIn_app (goodIn_of _ (by decide +kernel)) ggX3_countIn_X3_peakOf
theorem dX3_countIn_0 : decode cX3_countIn 0 = .ok (.iconst 0, 1) := by decide +kernel
theorem dX3_countIn_1 : decode cX3_countIn 1 = .ok (.istore_n 2, 1) := by decide +kernel
theorem dX3_countIn_2 : decode cX3_countIn 2 = .ok (.iconst 0, 1) := by decide +kernel
theorem dX3_countIn_3 : decode cX3_countIn 3 = .ok (.istore_n 3, 1) := by decide +kernel
theorem dX3_countIn_4 : decode cX3_countIn 4 = .ok (.iload_n 3, 1) := by decide +kernel
theorem dX3_countIn_5 : decode cX3_countIn 5 = .ok (.bipush 16, 2) := by decide +kernel
theorem dX3_countIn_7 : decode cX3_countIn 7 = .ok (.if_icmp .ge 22, 3) := by decide +kernel
theorem dX3_countIn_10 : decode cX3_countIn 10 = .ok (.aload_n 0, 1) := by decide +kernel
theorem dX3_countIn_11 : decode cX3_countIn 11 = .ok (.iload_n 1, 1) := by decide +kernel
theorem dX3_countIn_12 : decode cX3_countIn 12 = .ok (.iload_n 3, 1) := by decide +kernel
theorem dX3_countIn_13 : decode cX3_countIn 13 = .ok (.invokevirtual 38, 3) := by decide +kernel
theorem dX3_countIn_16 : decode cX3_countIn 16 = .ok (.iconst (-1), 1) := by decide +kernel
theorem dX3_countIn_17 : decode cX3_countIn 17 = .ok (.if_icmp .eq 6, 3) := by decide +kernel
theorem dX3_countIn_20 : decode cX3_countIn 20 = .ok (.iinc 2 1, 3) := by decide +kernel
theorem dX3_countIn_23 : decode cX3_countIn 23 = .ok (.iinc 3 1, 3) := by decide +kernel
theorem dX3_countIn_26 : decode cX3_countIn 26 = .ok (.goto (-22), 3) := by decide +kernel
theorem dX3_countIn_29 : decode cX3_countIn 29 = .ok (.iload_n 2, 1) := by decide +kernel
theorem dX3_countIn_30 : decode cX3_countIn 30 = .ok (.ireturn, 1) := by decide +kernel
set_option maxRecDepth 20000 in
theorem ggX3_countKeysIn_X3_keyOf : GoodIn wsX3_countKeysIn wsX3_keyOf := goodIn_r _ [5, 6, 7, 8, 4, 9, 10, 11, 12, 13] (by decide +kernel) (by decide +kernel)
set_option maxRecDepth 20000 in
theorem gX3_countKeysIn_X3_keyOf : GoodIn wsX3_countKeysIn (wsV RX3 42 RX3 yX3_keyOf wsX3_keyOf) := goodIn_app (goodIn_of _ (by decide +kernel)) ggX3_countKeysIn_X3_keyOf
theorem dX3_countKeysIn_0 : decode cX3_countKeysIn 0 = .ok (.iconst 0, 1) := by decide +kernel
theorem dX3_countKeysIn_1 : decode cX3_countKeysIn 1 = .ok (.istore_n 3, 1) := by decide +kernel
theorem dX3_countKeysIn_2 : decode cX3_countKeysIn 2 = .ok (.iconst 0, 1) := by decide +kernel
theorem dX3_countKeysIn_3 : decode cX3_countKeysIn 3 = .ok (.istore 4, 2) := by decide +kernel
theorem dX3_countKeysIn_5 : decode cX3_countKeysIn 5 = .ok (.iload 4, 2) := by decide +kernel
theorem dX3_countKeysIn_7 : decode cX3_countKeysIn 7 = .ok (.bipush 16, 2) := by decide +kernel
theorem dX3_countKeysIn_9 : decode cX3_countKeysIn 9 = .ok (.if_icmp .ge 44, 3) := by decide +kernel
theorem dX3_countKeysIn_12 : decode cX3_countKeysIn 12 = .ok (.iconst 1, 1) := by decide +kernel
theorem dX3_countKeysIn_13 : decode cX3_countKeysIn 13 = .ok (.istore 5, 2) := by decide +kernel
theorem dX3_countKeysIn_15 : decode cX3_countKeysIn 15 = .ok (.iload 5, 2) := by decide +kernel
theorem dX3_countKeysIn_17 : decode cX3_countKeysIn 17 = .ok (.iload_n 2, 1) := by decide +kernel
theorem dX3_countKeysIn_18 : decode cX3_countKeysIn 18 = .ok (.if_icmp .gt 29, 3) := by decide +kernel
theorem dX3_countKeysIn_21 : decode cX3_countKeysIn 21 = .ok (.aload_n 0, 1) := by decide +kernel
theorem dX3_countKeysIn_22 : decode cX3_countKeysIn 22 = .ok (.iload_n 1, 1) := by decide +kernel
theorem dX3_countKeysIn_23 : decode cX3_countKeysIn 23 = .ok (.iload 4, 2) := by decide +kernel
theorem dX3_countKeysIn_25 : decode cX3_countKeysIn 25 = .ok (.iload 4, 2) := by decide +kernel
theorem dX3_countKeysIn_27 : decode cX3_countKeysIn 27 = .ok (.iload 5, 2) := by decide +kernel
theorem dX3_countKeysIn_29 : decode cX3_countKeysIn 29 = .ok (.iadd, 1) := by decide +kernel
theorem dX3_countKeysIn_30 : decode cX3_countKeysIn 30 = .ok (.iload_n 2, 1) := by decide +kernel
theorem dX3_countKeysIn_31 : decode cX3_countKeysIn 31 = .ok (.invokevirtual 42, 3) := by decide +kernel
theorem dX3_countKeysIn_34 : decode cX3_countKeysIn 34 = .ok (.iconst (-1), 1) := by decide +kernel
theorem dX3_countKeysIn_35 : decode cX3_countKeysIn 35 = .ok (.if_icmp .eq 6, 3) := by decide +kernel
theorem dX3_countKeysIn_38 : decode cX3_countKeysIn 38 = .ok (.iinc 3 1, 3) := by decide +kernel
theorem dX3_countKeysIn_41 : decode cX3_countKeysIn 41 = .ok (.iinc 5 1, 3) := by decide +kernel
theorem dX3_countKeysIn_44 : decode cX3_countKeysIn 44 = .ok (.goto (-29), 3) := by decide +kernel
theorem dX3_countKeysIn_47 : decode cX3_countKeysIn 47 = .ok (.iinc 4 1, 3) := by decide +kernel
theorem dX3_countKeysIn_50 : decode cX3_countKeysIn 50 = .ok (.goto (-45), 3) := by decide +kernel
theorem dX3_countKeysIn_53 : decode cX3_countKeysIn 53 = .ok (.iload_n 3, 1) := by decide +kernel
theorem dX3_countKeysIn_54 : decode cX3_countKeysIn 54 = .ok (.ireturn, 1) := by decide +kernel
set_option maxRecDepth 20000 in
theorem ggX3_mostOftenIn_X3_peakOf : GoodIn wsX3_mostOftenIn wsX3_peakOf := goodIn_r _ [6, 7, 8, 9, 10] (by decide +kernel) (by decide +kernel)
set_option maxRecDepth 20000 in
theorem gX3_mostOftenIn_X3_peakOf : GoodIn wsX3_mostOftenIn (wsV RX3 38 RX3 yX3_peakOf wsX3_peakOf) := goodIn_app (goodIn_of _ (by decide +kernel)) ggX3_mostOftenIn_X3_peakOf
theorem dX3_mostOftenIn_0 : decode cX3_mostOftenIn 0 = .ok (.iconst 0, 1) := by decide +kernel
theorem dX3_mostOftenIn_1 : decode cX3_mostOftenIn 1 = .ok (.istore_n 2, 1) := by decide +kernel
theorem dX3_mostOftenIn_2 : decode cX3_mostOftenIn 2 = .ok (.iload_n 2, 1) := by decide +kernel
theorem dX3_mostOftenIn_3 : decode cX3_mostOftenIn 3 = .ok (.bipush 8, 2) := by decide +kernel
theorem dX3_mostOftenIn_5 : decode cX3_mostOftenIn 5 = .ok (.if_icmp .ge 16, 3) := by decide +kernel
theorem dX3_mostOftenIn_8 : decode cX3_mostOftenIn 8 = .ok (.aload_n 0, 1) := by decide +kernel
theorem dX3_mostOftenIn_9 : decode cX3_mostOftenIn 9 = .ok (.getfield 18, 3) := by decide +kernel
theorem dX3_mostOftenIn_12 : decode cX3_mostOftenIn 12 = .ok (.iload_n 2, 1) := by decide +kernel
theorem dX3_mostOftenIn_13 : decode cX3_mostOftenIn 13 = .ok (.iconst 0, 1) := by decide +kernel
theorem dX3_mostOftenIn_14 : decode cX3_mostOftenIn 14 = .ok (.iastore, 1) := by decide +kernel
theorem dX3_mostOftenIn_15 : decode cX3_mostOftenIn 15 = .ok (.iinc 2 1, 3) := by decide +kernel
theorem dX3_mostOftenIn_18 : decode cX3_mostOftenIn 18 = .ok (.goto (-16), 3) := by decide +kernel
theorem dX3_mostOftenIn_21 : decode cX3_mostOftenIn 21 = .ok (.iconst 0, 1) := by decide +kernel
theorem dX3_mostOftenIn_22 : decode cX3_mostOftenIn 22 = .ok (.istore_n 2, 1) := by decide +kernel
theorem dX3_mostOftenIn_23 : decode cX3_mostOftenIn 23 = .ok (.iload_n 2, 1) := by decide +kernel
theorem dX3_mostOftenIn_24 : decode cX3_mostOftenIn 24 = .ok (.bipush 16, 2) := by decide +kernel
theorem dX3_mostOftenIn_26 : decode cX3_mostOftenIn 26 = .ok (.if_icmp .ge 31, 3) := by decide +kernel
theorem dX3_mostOftenIn_29 : decode cX3_mostOftenIn 29 = .ok (.aload_n 0, 1) := by decide +kernel
theorem dX3_mostOftenIn_30 : decode cX3_mostOftenIn 30 = .ok (.iload_n 1, 1) := by decide +kernel
theorem dX3_mostOftenIn_31 : decode cX3_mostOftenIn 31 = .ok (.iload_n 2, 1) := by decide +kernel
theorem dX3_mostOftenIn_32 : decode cX3_mostOftenIn 32 = .ok (.invokevirtual 38, 3) := by decide +kernel
theorem dX3_mostOftenIn_35 : decode cX3_mostOftenIn 35 = .ok (.istore_n 3, 1) := by decide +kernel
theorem dX3_mostOftenIn_36 : decode cX3_mostOftenIn 36 = .ok (.iload_n 3, 1) := by decide +kernel
theorem dX3_mostOftenIn_37 : decode cX3_mostOftenIn 37 = .ok (.iconst (-1), 1) := by decide +kernel
theorem dX3_mostOftenIn_38 : decode cX3_mostOftenIn 38 = .ok (.if_icmp .eq 13, 3) := by decide +kernel
theorem dX3_mostOftenIn_41 : decode cX3_mostOftenIn 41 = .ok (.aload_n 0, 1) := by decide +kernel
theorem dX3_mostOftenIn_42 : decode cX3_mostOftenIn 42 = .ok (.getfield 18, 3) := by decide +kernel
theorem dX3_mostOftenIn_45 : decode cX3_mostOftenIn 45 = .ok (.iload_n 3, 1) := by decide +kernel
theorem dX3_mostOftenIn_46 : decode cX3_mostOftenIn 46 = .ok (.dup2, 1) := by decide +kernel
theorem dX3_mostOftenIn_47 : decode cX3_mostOftenIn 47 = .ok (.iaload, 1) := by decide +kernel
theorem dX3_mostOftenIn_48 : decode cX3_mostOftenIn 48 = .ok (.iconst 1, 1) := by decide +kernel
theorem dX3_mostOftenIn_49 : decode cX3_mostOftenIn 49 = .ok (.iadd, 1) := by decide +kernel
theorem dX3_mostOftenIn_50 : decode cX3_mostOftenIn 50 = .ok (.iastore, 1) := by decide +kernel
theorem dX3_mostOftenIn_51 : decode cX3_mostOftenIn 51 = .ok (.iinc 2 1, 3) := by decide +kernel
theorem dX3_mostOftenIn_54 : decode cX3_mostOftenIn 54 = .ok (.goto (-31), 3) := by decide +kernel
theorem dX3_mostOftenIn_57 : decode cX3_mostOftenIn 57 = .ok (.iconst (-1), 1) := by decide +kernel
theorem dX3_mostOftenIn_58 : decode cX3_mostOftenIn 58 = .ok (.istore_n 2, 1) := by decide +kernel
theorem dX3_mostOftenIn_59 : decode cX3_mostOftenIn 59 = .ok (.iconst 0, 1) := by decide +kernel
theorem dX3_mostOftenIn_60 : decode cX3_mostOftenIn 60 = .ok (.istore_n 3, 1) := by decide +kernel
theorem dX3_mostOftenIn_61 : decode cX3_mostOftenIn 61 = .ok (.iconst 0, 1) := by decide +kernel
theorem dX3_mostOftenIn_62 : decode cX3_mostOftenIn 62 = .ok (.istore 4, 2) := by decide +kernel
theorem dX3_mostOftenIn_64 : decode cX3_mostOftenIn 64 = .ok (.iload 4, 2) := by decide +kernel
theorem dX3_mostOftenIn_66 : decode cX3_mostOftenIn 66 = .ok (.bipush 8, 2) := by decide +kernel
theorem dX3_mostOftenIn_68 : decode cX3_mostOftenIn 68 = .ok (.if_icmp .ge 31, 3) := by decide +kernel
theorem dX3_mostOftenIn_71 : decode cX3_mostOftenIn 71 = .ok (.aload_n 0, 1) := by decide +kernel
theorem dX3_mostOftenIn_72 : decode cX3_mostOftenIn 72 = .ok (.getfield 18, 3) := by decide +kernel
theorem dX3_mostOftenIn_75 : decode cX3_mostOftenIn 75 = .ok (.iload 4, 2) := by decide +kernel
theorem dX3_mostOftenIn_77 : decode cX3_mostOftenIn 77 = .ok (.iaload, 1) := by decide +kernel
theorem dX3_mostOftenIn_78 : decode cX3_mostOftenIn 78 = .ok (.iload_n 3, 1) := by decide +kernel
theorem dX3_mostOftenIn_79 : decode cX3_mostOftenIn 79 = .ok (.if_icmp .le 14, 3) := by decide +kernel
theorem dX3_mostOftenIn_82 : decode cX3_mostOftenIn 82 = .ok (.aload_n 0, 1) := by decide +kernel
theorem dX3_mostOftenIn_83 : decode cX3_mostOftenIn 83 = .ok (.getfield 18, 3) := by decide +kernel
theorem dX3_mostOftenIn_86 : decode cX3_mostOftenIn 86 = .ok (.iload 4, 2) := by decide +kernel
theorem dX3_mostOftenIn_88 : decode cX3_mostOftenIn 88 = .ok (.iaload, 1) := by decide +kernel
theorem dX3_mostOftenIn_89 : decode cX3_mostOftenIn 89 = .ok (.istore_n 3, 1) := by decide +kernel
theorem dX3_mostOftenIn_90 : decode cX3_mostOftenIn 90 = .ok (.iload 4, 2) := by decide +kernel
theorem dX3_mostOftenIn_92 : decode cX3_mostOftenIn 92 = .ok (.istore_n 2, 1) := by decide +kernel
theorem dX3_mostOftenIn_93 : decode cX3_mostOftenIn 93 = .ok (.iinc 4 1, 3) := by decide +kernel
theorem dX3_mostOftenIn_96 : decode cX3_mostOftenIn 96 = .ok (.goto (-32), 3) := by decide +kernel
theorem dX3_mostOftenIn_99 : decode cX3_mostOftenIn 99 = .ok (.iload_n 2, 1) := by decide +kernel
theorem dX3_mostOftenIn_100 : decode cX3_mostOftenIn 100 = .ok (.ireturn, 1) := by decide +kernel
set_option maxRecDepth 20000 in
theorem ggX3_findPeak_X3_turn : GoodIn wsX3_findPeak wsX3_turn := goodIn_r _ [5, 6, 7, 8, 9, 10, 11, 12, 13, 14, 15, 4, 16, 26, 27, 28, 29, 30, 31, 32] (by decide +kernel) (by decide +kernel)
set_option maxRecDepth 20000 in
theorem gX3_findPeak_X3_turn : GoodIn wsX3_findPeak (wsV RX3 31 RX3 yX3_turn wsX3_turn) := goodIn_app (goodIn_of _ (by decide +kernel)) ggX3_findPeak_X3_turn
set_option maxRecDepth 20000 in
theorem ggX3_findPeak_X3_shareOf : GoodIn wsX3_findPeak wsX3_shareOf := goodIn_r _ [20, 6, 26, 27, 28] (by decide +kernel) (by decide +kernel)
set_option maxRecDepth 20000 in
theorem gX3_findPeak_X3_shareOf : GoodIn wsX3_findPeak (wsV RX3 35 RX3 yX3_shareOf wsX3_shareOf) := goodIn_app (goodIn_of _ (by decide +kernel)) ggX3_findPeak_X3_shareOf
set_option maxRecDepth 20000 in
theorem ggX3_findPeak_X4_floor : GoodIn wsX3_findPeak wsX4_floor := goodIn_r _ [24, 25, 29, 30, 31, 32] (by decide +kernel) (by decide +kernel)
set_option maxRecDepth 20000 in
theorem gX3_findPeak_X4_floor : GoodIn wsX3_findPeak (wsV RX3 46 RX4 yX4_floor wsX4_floor) := goodIn_app (goodIn_of _ (by decide +kernel)) ggX3_findPeak_X4_floor
theorem dX3_findPeak_0 : decode cX3_findPeak 0 = .ok (.aload_n 0, 1) := by decide +kernel
theorem dX3_findPeak_1 : decode cX3_findPeak 1 = .ok (.aload_n 1, 1) := by decide +kernel
theorem dX3_findPeak_2 : decode cX3_findPeak 2 = .ok (.iload_n 2, 1) := by decide +kernel
theorem dX3_findPeak_3 : decode cX3_findPeak 3 = .ok (.iload_n 3, 1) := by decide +kernel
theorem dX3_findPeak_4 : decode cX3_findPeak 4 = .ok (.invokevirtual 31, 3) := by decide +kernel
theorem dX3_findPeak_7 : decode cX3_findPeak 7 = .ok (.iconst 1, 1) := by decide +kernel
theorem dX3_findPeak_8 : decode cX3_findPeak 8 = .ok (.istore 4, 2) := by decide +kernel
theorem dX3_findPeak_10 : decode cX3_findPeak 10 = .ok (.iconst 2, 1) := by decide +kernel
theorem dX3_findPeak_11 : decode cX3_findPeak 11 = .ok (.istore 5, 2) := by decide +kernel
theorem dX3_findPeak_13 : decode cX3_findPeak 13 = .ok (.iload 5, 2) := by decide +kernel
theorem dX3_findPeak_15 : decode cX3_findPeak 15 = .ok (.bipush 8, 2) := by decide +kernel
theorem dX3_findPeak_17 : decode cX3_findPeak 17 = .ok (.if_icmp .ge 28, 3) := by decide +kernel
theorem dX3_findPeak_20 : decode cX3_findPeak 20 = .ok (.aload_n 0, 1) := by decide +kernel
theorem dX3_findPeak_21 : decode cX3_findPeak 21 = .ok (.iload 5, 2) := by decide +kernel
theorem dX3_findPeak_23 : decode cX3_findPeak 23 = .ok (.invokevirtual 35, 3) := by decide +kernel
theorem dX3_findPeak_26 : decode cX3_findPeak 26 = .ok (.aload_n 0, 1) := by decide +kernel
theorem dX3_findPeak_27 : decode cX3_findPeak 27 = .ok (.iload 4, 2) := by decide +kernel
theorem dX3_findPeak_29 : decode cX3_findPeak 29 = .ok (.invokevirtual 35, 3) := by decide +kernel
theorem dX3_findPeak_32 : decode cX3_findPeak 32 = .ok (.if_icmp .le 7, 3) := by decide +kernel
theorem dX3_findPeak_35 : decode cX3_findPeak 35 = .ok (.iload 5, 2) := by decide +kernel
theorem dX3_findPeak_37 : decode cX3_findPeak 37 = .ok (.istore 4, 2) := by decide +kernel
theorem dX3_findPeak_39 : decode cX3_findPeak 39 = .ok (.iinc 5 1, 3) := by decide +kernel
theorem dX3_findPeak_42 : decode cX3_findPeak 42 = .ok (.goto (-29), 3) := by decide +kernel
theorem dX3_findPeak_45 : decode cX3_findPeak 45 = .ok (.aload_n 0, 1) := by decide +kernel
theorem dX3_findPeak_46 : decode cX3_findPeak 46 = .ok (.iload 4, 2) := by decide +kernel
theorem dX3_findPeak_48 : decode cX3_findPeak 48 = .ok (.invokevirtual 35, 3) := by decide +kernel
theorem dX3_findPeak_51 : decode cX3_findPeak 51 = .ok (.aload_n 1, 1) := by decide +kernel
theorem dX3_findPeak_52 : decode cX3_findPeak 52 = .ok (.invokevirtual 46, 3) := by decide +kernel
theorem dX3_findPeak_55 : decode cX3_findPeak 55 = .ok (.if_icmp .lt 8, 3) := by decide +kernel
theorem dX3_findPeak_58 : decode cX3_findPeak 58 = .ok (.iload 4, 2) := by decide +kernel
theorem dX3_findPeak_60 : decode cX3_findPeak 60 = .ok (.goto 4, 3) := by decide +kernel
theorem dX3_findPeak_63 : decode cX3_findPeak 63 = .ok (.iconst (-1), 1) := by decide +kernel
theorem dX3_findPeak_64 : decode cX3_findPeak 64 = .ok (.ireturn, 1) := by decide +kernel
theorem dX3_shareOf_0 : decode cX3_shareOf 0 = .ok (.aload_n 0, 1) := by decide +kernel
theorem dX3_shareOf_1 : decode cX3_shareOf 1 = .ok (.getfield 9, 3) := by decide +kernel
theorem dX3_shareOf_4 : decode cX3_shareOf 4 = .ok (.iload_n 1, 1) := by decide +kernel
theorem dX3_shareOf_5 : decode cX3_shareOf 5 = .ok (.iaload, 1) := by decide +kernel
theorem dX3_shareOf_6 : decode cX3_shareOf 6 = .ok (.aload_n 0, 1) := by decide +kernel
theorem dX3_shareOf_7 : decode cX3_shareOf 7 = .ok (.getfield 9, 3) := by decide +kernel
theorem dX3_shareOf_10 : decode cX3_shareOf 10 = .ok (.iload_n 1, 1) := by decide +kernel
theorem dX3_shareOf_11 : decode cX3_shareOf 11 = .ok (.iaload, 1) := by decide +kernel
theorem dX3_shareOf_12 : decode cX3_shareOf 12 = .ok (.imul, 1) := by decide +kernel
theorem dX3_shareOf_13 : decode cX3_shareOf 13 = .ok (.bipush 64, 2) := by decide +kernel
theorem dX3_shareOf_15 : decode cX3_shareOf 15 = .ok (.idiv, 1) := by decide +kernel
theorem dX3_shareOf_16 : decode cX3_shareOf 16 = .ok (.ireturn, 1) := by decide +kernel
set_option maxRecDepth 20000 in
theorem ggX3_turn_X4_numberAt : GoodIn wsX3_turn wsX4_numberAt := goodIn_r _ [6, 7, 16, 17, 18, 19] (by decide +kernel) (by decide +kernel)
set_option maxRecDepth 20000 in
theorem gX3_turn_X4_numberAt : GoodIn wsX3_turn (wsV RX3 50 RX4 yX4_numberAt wsX4_numberAt) := goodIn_app (goodIn_of _ (by decide +kernel)) ggX3_turn_X4_numberAt
set_option maxRecDepth 20000 in
theorem ggX3_turn_X3_turnPairs : GoodIn wsX3_turn wsX3_turnPairs := goodIn_r _ [12, 1, 13, 14, 15] (by decide +kernel) (by decide +kernel)
set_option maxRecDepth 20000 in
theorem gX3_turn_X3_turnPairs : GoodIn wsX3_turn (wsV RX3 53 RX3 yX3_turnPairs wsX3_turnPairs) := goodIn_app (goodIn_of _ (by decide +kernel)) ggX3_turn_X3_turnPairs
theorem dX3_turn_0 : decode cX3_turn 0 = .ok (.iconst 0, 1) := by decide +kernel
theorem dX3_turn_1 : decode cX3_turn 1 = .ok (.istore 4, 2) := by decide +kernel
theorem dX3_turn_3 : decode cX3_turn 3 = .ok (.iload 4, 2) := by decide +kernel
theorem dX3_turn_5 : decode cX3_turn 5 = .ok (.bipush 8, 2) := by decide +kernel
theorem dX3_turn_7 : decode cX3_turn 7 = .ok (.if_icmp .ge 28, 3) := by decide +kernel
theorem dX3_turn_10 : decode cX3_turn 10 = .ok (.aload_n 0, 1) := by decide +kernel
theorem dX3_turn_11 : decode cX3_turn 11 = .ok (.getfield 9, 3) := by decide +kernel
theorem dX3_turn_14 : decode cX3_turn 14 = .ok (.iload 4, 2) := by decide +kernel
theorem dX3_turn_16 : decode cX3_turn 16 = .ok (.aload_n 1, 1) := by decide +kernel
theorem dX3_turn_17 : decode cX3_turn 17 = .ok (.iload_n 2, 1) := by decide +kernel
theorem dX3_turn_18 : decode cX3_turn 18 = .ok (.iload_n 3, 1) := by decide +kernel
theorem dX3_turn_19 : decode cX3_turn 19 = .ok (.bipush 8, 2) := by decide +kernel
theorem dX3_turn_21 : decode cX3_turn 21 = .ok (.imul, 1) := by decide +kernel
end
section
theorem dX3_turn_22 : decode cX3_turn 22 = .ok (.iload 4, 2) := by decide +kernel
theorem dX3_turn_24 : decode cX3_turn 24 = .ok (.iadd, 1) := by decide +kernel
theorem dX3_turn_25 : decode cX3_turn 25 = .ok (.invokevirtual 50, 3) := by decide +kernel
theorem dX3_turn_28 : decode cX3_turn 28 = .ok (.iastore, 1) := by decide +kernel
theorem dX3_turn_29 : decode cX3_turn 29 = .ok (.iinc 4 1, 3) := by decide +kernel
theorem dX3_turn_32 : decode cX3_turn 32 = .ok (.goto (-29), 3) := by decide +kernel
theorem dX3_turn_35 : decode cX3_turn 35 = .ok (.iconst 1, 1) := by decide +kernel
theorem dX3_turn_36 : decode cX3_turn 36 = .ok (.istore 4, 2) := by decide +kernel
theorem dX3_turn_38 : decode cX3_turn 38 = .ok (.iload 4, 2) := by decide +kernel
theorem dX3_turn_40 : decode cX3_turn 40 = .ok (.bipush 8, 2) := by decide +kernel
theorem dX3_turn_42 : decode cX3_turn 42 = .ok (.if_icmp .ge 18, 3) := by decide +kernel
theorem dX3_turn_45 : decode cX3_turn 45 = .ok (.aload_n 0, 1) := by decide +kernel
theorem dX3_turn_46 : decode cX3_turn 46 = .ok (.iload 4, 2) := by decide +kernel
theorem dX3_turn_48 : decode cX3_turn 48 = .ok (.invokevirtual 53, 3) := by decide +kernel
theorem dX3_turn_51 : decode cX3_turn 51 = .ok (.iload 4, 2) := by decide +kernel
theorem dX3_turn_53 : decode cX3_turn 53 = .ok (.iconst 2, 1) := by decide +kernel
theorem dX3_turn_54 : decode cX3_turn 54 = .ok (.imul, 1) := by decide +kernel
theorem dX3_turn_55 : decode cX3_turn 55 = .ok (.istore 4, 2) := by decide +kernel
theorem dX3_turn_57 : decode cX3_turn 57 = .ok (.goto (-19), 3) := by decide +kernel
theorem dX3_turn_60 : decode cX3_turn 60 = .ok (.return_, 1) := by decide +kernel
theorem dX3_turnPairs_0 : decode cX3_turnPairs 0 = .ok (.iconst 0, 1) := by decide +kernel
theorem dX3_turnPairs_1 : decode cX3_turnPairs 1 = .ok (.istore_n 2, 1) := by decide +kernel
theorem dX3_turnPairs_2 : decode cX3_turnPairs 2 = .ok (.iload_n 2, 1) := by decide +kernel
theorem dX3_turnPairs_3 : decode cX3_turnPairs 3 = .ok (.iload_n 1, 1) := by decide +kernel
theorem dX3_turnPairs_4 : decode cX3_turnPairs 4 = .ok (.iadd, 1) := by decide +kernel
theorem dX3_turnPairs_5 : decode cX3_turnPairs 5 = .ok (.bipush 8, 2) := by decide +kernel
theorem dX3_turnPairs_7 : decode cX3_turnPairs 7 = .ok (.if_icmp .ge 54, 3) := by decide +kernel
theorem dX3_turnPairs_10 : decode cX3_turnPairs 10 = .ok (.iload_n 2, 1) := by decide +kernel
theorem dX3_turnPairs_11 : decode cX3_turnPairs 11 = .ok (.iload_n 1, 1) := by decide +kernel
theorem dX3_turnPairs_12 : decode cX3_turnPairs 12 = .ok (.iand, 1) := by decide +kernel
theorem dX3_turnPairs_13 : decode cX3_turnPairs 13 = .ok (.ifCond .ne 42, 3) := by decide +kernel
theorem dX3_turnPairs_16 : decode cX3_turnPairs 16 = .ok (.aload_n 0, 1) := by decide +kernel
theorem dX3_turnPairs_17 : decode cX3_turnPairs 17 = .ok (.getfield 9, 3) := by decide +kernel
theorem dX3_turnPairs_20 : decode cX3_turnPairs 20 = .ok (.iload_n 2, 1) := by decide +kernel
theorem dX3_turnPairs_21 : decode cX3_turnPairs 21 = .ok (.iaload, 1) := by decide +kernel
theorem dX3_turnPairs_22 : decode cX3_turnPairs 22 = .ok (.istore_n 3, 1) := by decide +kernel
theorem dX3_turnPairs_23 : decode cX3_turnPairs 23 = .ok (.aload_n 0, 1) := by decide +kernel
theorem dX3_turnPairs_24 : decode cX3_turnPairs 24 = .ok (.getfield 9, 3) := by decide +kernel
theorem dX3_turnPairs_27 : decode cX3_turnPairs 27 = .ok (.iload_n 2, 1) := by decide +kernel
theorem dX3_turnPairs_28 : decode cX3_turnPairs 28 = .ok (.iload_n 1, 1) := by decide +kernel
theorem dX3_turnPairs_29 : decode cX3_turnPairs 29 = .ok (.iadd, 1) := by decide +kernel
theorem dX3_turnPairs_30 : decode cX3_turnPairs 30 = .ok (.iaload, 1) := by decide +kernel
theorem dX3_turnPairs_31 : decode cX3_turnPairs 31 = .ok (.istore 4, 2) := by decide +kernel
theorem dX3_turnPairs_33 : decode cX3_turnPairs 33 = .ok (.aload_n 0, 1) := by decide +kernel
theorem dX3_turnPairs_34 : decode cX3_turnPairs 34 = .ok (.getfield 9, 3) := by decide +kernel
theorem dX3_turnPairs_37 : decode cX3_turnPairs 37 = .ok (.iload_n 2, 1) := by decide +kernel
theorem dX3_turnPairs_38 : decode cX3_turnPairs 38 = .ok (.iload_n 3, 1) := by decide +kernel
theorem dX3_turnPairs_39 : decode cX3_turnPairs 39 = .ok (.iload 4, 2) := by decide +kernel
theorem dX3_turnPairs_41 : decode cX3_turnPairs 41 = .ok (.iadd, 1) := by decide +kernel
theorem dX3_turnPairs_42 : decode cX3_turnPairs 42 = .ok (.iastore, 1) := by decide +kernel
theorem dX3_turnPairs_43 : decode cX3_turnPairs 43 = .ok (.aload_n 0, 1) := by decide +kernel
theorem dX3_turnPairs_44 : decode cX3_turnPairs 44 = .ok (.getfield 9, 3) := by decide +kernel
theorem dX3_turnPairs_47 : decode cX3_turnPairs 47 = .ok (.iload_n 2, 1) := by decide +kernel
theorem dX3_turnPairs_48 : decode cX3_turnPairs 48 = .ok (.iload_n 1, 1) := by decide +kernel
theorem dX3_turnPairs_49 : decode cX3_turnPairs 49 = .ok (.iadd, 1) := by decide +kernel
theorem dX3_turnPairs_50 : decode cX3_turnPairs 50 = .ok (.iload_n 3, 1) := by decide +kernel
theorem dX3_turnPairs_51 : decode cX3_turnPairs 51 = .ok (.iload 4, 2) := by decide +kernel
theorem dX3_turnPairs_53 : decode cX3_turnPairs 53 = .ok (.isub, 1) := by decide +kernel
theorem dX3_turnPairs_54 : decode cX3_turnPairs 54 = .ok (.iastore, 1) := by decide +kernel
theorem dX3_turnPairs_55 : decode cX3_turnPairs 55 = .ok (.iinc 2 1, 3) := by decide +kernel
theorem dX3_turnPairs_58 : decode cX3_turnPairs 58 = .ok (.goto (-56), 3) := by decide +kernel
theorem dX3_turnPairs_61 : decode cX3_turnPairs 61 = .ok (.return_, 1) := by decide +kernel
theorem dX4_init_0 : decode cX4_init 0 = .ok (.aload_n 0, 1) := by decide +kernel
theorem dX4_init_1 : decode cX4_init 1 = .ok (.invokespecial 3, 3) := by decide +kernel
theorem dX4_init_4 : decode cX4_init 4 = .ok (.aload_n 0, 1) := by decide +kernel
theorem dX4_init_5 : decode cX4_init 5 = .ok (.sipush 640, 3) := by decide +kernel
theorem dX4_init_8 : decode cX4_init 8 = .ok (.newarray .int, 2) := by decide +kernel
theorem dX4_init_10 : decode cX4_init 10 = .ok (.putfield 9, 3) := by decide +kernel
theorem dX4_init_13 : decode cX4_init 13 = .ok (.aload_n 0, 1) := by decide +kernel
theorem dX4_init_14 : decode cX4_init 14 = .ok (.iconst 5, 1) := by decide +kernel
theorem dX4_init_15 : decode cX4_init 15 = .ok (.newarray .int, 2) := by decide +kernel
theorem dX4_init_17 : decode cX4_init 17 = .ok (.putfield 15, 3) := by decide +kernel
theorem dX4_init_20 : decode cX4_init 20 = .ok (.aload_n 0, 1) := by decide +kernel
theorem dX4_init_21 : decode cX4_init 21 = .ok (.bipush 50, 2) := by decide +kernel
theorem dX4_init_23 : decode cX4_init 23 = .ok (.putfield 18, 3) := by decide +kernel
theorem dX4_init_26 : decode cX4_init 26 = .ok (.aload_n 0, 1) := by decide +kernel
theorem dX4_init_27 : decode cX4_init 27 = .ok (.iconst 3, 1) := by decide +kernel
theorem dX4_init_28 : decode cX4_init 28 = .ok (.putfield 22, 3) := by decide +kernel
theorem dX4_init_31 : decode cX4_init 31 = .ok (.return_, 1) := by decide +kernel
theorem dX4_floor_0 : decode cX4_floor 0 = .ok (.aload_n 0, 1) := by decide +kernel
theorem dX4_floor_1 : decode cX4_floor 1 = .ok (.getfield 18, 3) := by decide +kernel
theorem dX4_floor_4 : decode cX4_floor 4 = .ok (.ireturn, 1) := by decide +kernel
theorem dX4_reach_0 : decode cX4_reach 0 = .ok (.aload_n 0, 1) := by decide +kernel
theorem dX4_reach_1 : decode cX4_reach 1 = .ok (.getfield 22, 3) := by decide +kernel
theorem dX4_reach_4 : decode cX4_reach 4 = .ok (.ireturn, 1) := by decide +kernel
theorem dX4_setFloor_0 : decode cX4_setFloor 0 = .ok (.aload_n 0, 1) := by decide +kernel
theorem dX4_setFloor_1 : decode cX4_setFloor 1 = .ok (.iload_n 1, 1) := by decide +kernel
theorem dX4_setFloor_2 : decode cX4_setFloor 2 = .ok (.putfield 18, 3) := by decide +kernel
theorem dX4_setFloor_5 : decode cX4_setFloor 5 = .ok (.return_, 1) := by decide +kernel
theorem dX4_setReach_0 : decode cX4_setReach 0 = .ok (.aload_n 0, 1) := by decide +kernel
theorem dX4_setReach_1 : decode cX4_setReach 1 = .ok (.iload_n 1, 1) := by decide +kernel
theorem dX4_setReach_2 : decode cX4_setReach 2 = .ok (.putfield 22, 3) := by decide +kernel
theorem dX4_setReach_5 : decode cX4_setReach 5 = .ok (.return_, 1) := by decide +kernel
theorem dX4_sizeOf_0 : decode cX4_sizeOf 0 = .ok (.aload_n 0, 1) := by decide +kernel
theorem dX4_sizeOf_1 : decode cX4_sizeOf 1 = .ok (.getfield 15, 3) := by decide +kernel
theorem dX4_sizeOf_4 : decode cX4_sizeOf 4 = .ok (.iload_n 1, 1) := by decide +kernel
theorem dX4_sizeOf_5 : decode cX4_sizeOf 5 = .ok (.iaload, 1) := by decide +kernel
theorem dX4_sizeOf_6 : decode cX4_sizeOf 6 = .ok (.ireturn, 1) := by decide +kernel
theorem dX4_windowsOf_0 : decode cX4_windowsOf 0 = .ok (.aload_n 0, 1) := by decide +kernel
theorem dX4_windowsOf_1 : decode cX4_windowsOf 1 = .ok (.getfield 15, 3) := by decide +kernel
theorem dX4_windowsOf_4 : decode cX4_windowsOf 4 = .ok (.iload_n 1, 1) := by decide +kernel
theorem dX4_windowsOf_5 : decode cX4_windowsOf 5 = .ok (.iaload, 1) := by decide +kernel
theorem dX4_windowsOf_6 : decode cX4_windowsOf 6 = .ok (.bipush 8, 2) := by decide +kernel
theorem dX4_windowsOf_8 : decode cX4_windowsOf 8 = .ok (.idiv, 1) := by decide +kernel
theorem dX4_windowsOf_9 : decode cX4_windowsOf 9 = .ok (.ireturn, 1) := by decide +kernel
theorem dX4_numberAt_0 : decode cX4_numberAt 0 = .ok (.aload_n 0, 1) := by decide +kernel
theorem dX4_numberAt_1 : decode cX4_numberAt 1 = .ok (.getfield 9, 3) := by decide +kernel
theorem dX4_numberAt_4 : decode cX4_numberAt 4 = .ok (.iload_n 1, 1) := by decide +kernel
theorem dX4_numberAt_5 : decode cX4_numberAt 5 = .ok (.sipush 128, 3) := by decide +kernel
theorem dX4_numberAt_8 : decode cX4_numberAt 8 = .ok (.imul, 1) := by decide +kernel
theorem dX4_numberAt_9 : decode cX4_numberAt 9 = .ok (.iload_n 2, 1) := by decide +kernel
theorem dX4_numberAt_10 : decode cX4_numberAt 10 = .ok (.iadd, 1) := by decide +kernel
theorem dX4_numberAt_11 : decode cX4_numberAt 11 = .ok (.iaload, 1) := by decide +kernel
theorem dX4_numberAt_12 : decode cX4_numberAt 12 = .ok (.ireturn, 1) := by decide +kernel
theorem dX4_empty_0 : decode cX4_empty 0 = .ok (.aload_n 0, 1) := by decide +kernel
theorem dX4_empty_1 : decode cX4_empty 1 = .ok (.getfield 15, 3) := by decide +kernel
theorem dX4_empty_4 : decode cX4_empty 4 = .ok (.iload_n 1, 1) := by decide +kernel
theorem dX4_empty_5 : decode cX4_empty 5 = .ok (.iconst 0, 1) := by decide +kernel
theorem dX4_empty_6 : decode cX4_empty 6 = .ok (.iastore, 1) := by decide +kernel
theorem dX4_empty_7 : decode cX4_empty 7 = .ok (.return_, 1) := by decide +kernel
theorem dX4_append_0 : decode cX4_append 0 = .ok (.aload_n 0, 1) := by decide +kernel
theorem dX4_append_1 : decode cX4_append 1 = .ok (.getfield 15, 3) := by decide +kernel
theorem dX4_append_4 : decode cX4_append 4 = .ok (.iload_n 1, 1) := by decide +kernel
theorem dX4_append_5 : decode cX4_append 5 = .ok (.iaload, 1) := by decide +kernel
theorem dX4_append_6 : decode cX4_append 6 = .ok (.istore_n 3, 1) := by decide +kernel
theorem dX4_append_7 : decode cX4_append 7 = .ok (.iload_n 3, 1) := by decide +kernel
theorem dX4_append_8 : decode cX4_append 8 = .ok (.sipush 128, 3) := by decide +kernel
theorem dX4_append_11 : decode cX4_append 11 = .ok (.if_icmp .ge 25, 3) := by decide +kernel
theorem dX4_append_14 : decode cX4_append 14 = .ok (.aload_n 0, 1) := by decide +kernel
theorem dX4_append_15 : decode cX4_append 15 = .ok (.getfield 9, 3) := by decide +kernel
theorem dX4_append_18 : decode cX4_append 18 = .ok (.iload_n 1, 1) := by decide +kernel
theorem dX4_append_19 : decode cX4_append 19 = .ok (.sipush 128, 3) := by decide +kernel
theorem dX4_append_22 : decode cX4_append 22 = .ok (.imul, 1) := by decide +kernel
theorem dX4_append_23 : decode cX4_append 23 = .ok (.iload_n 3, 1) := by decide +kernel
theorem dX4_append_24 : decode cX4_append 24 = .ok (.iadd, 1) := by decide +kernel
theorem dX4_append_25 : decode cX4_append 25 = .ok (.iload_n 2, 1) := by decide +kernel
theorem dX4_append_26 : decode cX4_append 26 = .ok (.iastore, 1) := by decide +kernel
theorem dX4_append_27 : decode cX4_append 27 = .ok (.aload_n 0, 1) := by decide +kernel
theorem dX4_append_28 : decode cX4_append 28 = .ok (.getfield 15, 3) := by decide +kernel
theorem dX4_append_31 : decode cX4_append 31 = .ok (.iload_n 1, 1) := by decide +kernel
theorem dX4_append_32 : decode cX4_append 32 = .ok (.iload_n 3, 1) := by decide +kernel
theorem dX4_append_33 : decode cX4_append 33 = .ok (.iconst 1, 1) := by decide +kernel
theorem dX4_append_34 : decode cX4_append 34 = .ok (.iadd, 1) := by decide +kernel
theorem dX4_append_35 : decode cX4_append 35 = .ok (.iastore, 1) := by decide +kernel
theorem dX4_append_36 : decode cX4_append 36 = .ok (.return_, 1) := by decide +kernel
theorem dX4_replace_0 : decode cX4_replace 0 = .ok (.iload_n 1, 1) := by decide +kernel
theorem dX4_replace_1 : decode cX4_replace 1 = .ok (.sipush 128, 3) := by decide +kernel
theorem dX4_replace_4 : decode cX4_replace 4 = .ok (.imul, 1) := by decide +kernel
theorem dX4_replace_5 : decode cX4_replace 5 = .ok (.iload_n 2, 1) := by decide +kernel
theorem dX4_replace_6 : decode cX4_replace 6 = .ok (.iadd, 1) := by decide +kernel
theorem dX4_replace_7 : decode cX4_replace 7 = .ok (.istore 4, 2) := by decide +kernel
theorem dX4_replace_9 : decode cX4_replace 9 = .ok (.aload_n 0, 1) := by decide +kernel
theorem dX4_replace_10 : decode cX4_replace 10 = .ok (.getfield 9, 3) := by decide +kernel
theorem dX4_replace_13 : decode cX4_replace 13 = .ok (.iload 4, 2) := by decide +kernel
theorem dX4_replace_15 : decode cX4_replace 15 = .ok (.iaload, 1) := by decide +kernel
theorem dX4_replace_16 : decode cX4_replace 16 = .ok (.istore 5, 2) := by decide +kernel
theorem dX4_replace_18 : decode cX4_replace 18 = .ok (.bipush (-100), 2) := by decide +kernel
theorem dX4_replace_20 : decode cX4_replace 20 = .ok (.bipush 100, 2) := by decide +kernel
theorem dX4_replace_22 : decode cX4_replace 22 = .ok (.iload_n 3, 1) := by decide +kernel
theorem dX4_replace_23 : decode cX4_replace 23 = .ok (.invokestatic 25, 3) := by decide +kernel
theorem dX4_replace_26 : decode cX4_replace 26 = .ok (.invokestatic 31, 3) := by decide +kernel
theorem dX4_replace_29 : decode cX4_replace 29 = .ok (.istore 6, 2) := by decide +kernel
theorem dX4_replace_31 : decode cX4_replace 31 = .ok (.aload_n 0, 1) := by decide +kernel
theorem dX4_replace_32 : decode cX4_replace 32 = .ok (.getfield 9, 3) := by decide +kernel
theorem dX4_replace_35 : decode cX4_replace 35 = .ok (.iload 4, 2) := by decide +kernel
theorem dX4_replace_37 : decode cX4_replace 37 = .ok (.iload 6, 2) := by decide +kernel
theorem dX4_replace_39 : decode cX4_replace 39 = .ok (.iastore, 1) := by decide +kernel
theorem dX4_replace_40 : decode cX4_replace 40 = .ok (.iload 6, 2) := by decide +kernel
theorem dX4_replace_42 : decode cX4_replace 42 = .ok (.iload 5, 2) := by decide +kernel
theorem dX4_replace_44 : decode cX4_replace 44 = .ok (.if_icmp .eq 7, 3) := by decide +kernel
theorem dX4_replace_47 : decode cX4_replace 47 = .ok (.iconst 1, 1) := by decide +kernel
theorem dX4_replace_48 : decode cX4_replace 48 = .ok (.goto 4, 3) := by decide +kernel
theorem dX4_replace_51 : decode cX4_replace 51 = .ok (.iconst 0, 1) := by decide +kernel
theorem dX4_replace_52 : decode cX4_replace 52 = .ok (.ireturn, 1) := by decide +kernel
theorem dX4_become_0 : decode cX4_become 0 = .ok (.aload_n 1, 1) := by decide +kernel
theorem dX4_become_1 : decode cX4_become 1 = .ok (.getfield 9, 3) := by decide +kernel
theorem dX4_become_4 : decode cX4_become 4 = .ok (.iconst 0, 1) := by decide +kernel
theorem dX4_become_5 : decode cX4_become 5 = .ok (.aload_n 0, 1) := by decide +kernel
theorem dX4_become_6 : decode cX4_become 6 = .ok (.getfield 9, 3) := by decide +kernel
theorem dX4_become_9 : decode cX4_become 9 = .ok (.iconst 0, 1) := by decide +kernel
theorem dX4_become_10 : decode cX4_become 10 = .ok (.sipush 640, 3) := by decide +kernel
theorem dX4_become_13 : decode cX4_become 13 = .ok (.invokestatic 34, 3) := by decide +kernel
theorem dX4_become_16 : decode cX4_become 16 = .ok (.aload_n 1, 1) := by decide +kernel
theorem dX4_become_17 : decode cX4_become 17 = .ok (.getfield 15, 3) := by decide +kernel
theorem dX4_become_20 : decode cX4_become 20 = .ok (.iconst 0, 1) := by decide +kernel
theorem dX4_become_21 : decode cX4_become 21 = .ok (.aload_n 0, 1) := by decide +kernel
theorem dX4_become_22 : decode cX4_become 22 = .ok (.getfield 15, 3) := by decide +kernel
theorem dX4_become_25 : decode cX4_become 25 = .ok (.iconst 0, 1) := by decide +kernel
theorem dX4_become_26 : decode cX4_become 26 = .ok (.iconst 5, 1) := by decide +kernel
theorem dX4_become_27 : decode cX4_become 27 = .ok (.invokestatic 34, 3) := by decide +kernel
theorem dX4_become_30 : decode cX4_become 30 = .ok (.aload_n 0, 1) := by decide +kernel
theorem dX4_become_31 : decode cX4_become 31 = .ok (.aload_n 1, 1) := by decide +kernel
theorem dX4_become_32 : decode cX4_become 32 = .ok (.getfield 18, 3) := by decide +kernel
theorem dX4_become_35 : decode cX4_become 35 = .ok (.putfield 18, 3) := by decide +kernel
theorem dX4_become_38 : decode cX4_become 38 = .ok (.aload_n 0, 1) := by decide +kernel
theorem dX4_become_39 : decode cX4_become 39 = .ok (.aload_n 1, 1) := by decide +kernel
theorem dX4_become_40 : decode cX4_become 40 = .ok (.getfield 22, 3) := by decide +kernel
theorem dX4_become_43 : decode cX4_become 43 = .ok (.putfield 22, 3) := by decide +kernel
theorem dX4_become_46 : decode cX4_become 46 = .ok (.return_, 1) := by decide +kernel
theorem dX4_copyRowTo_0 : decode cX4_copyRowTo 0 = .ok (.aload_n 0, 1) := by decide +kernel
theorem dX4_copyRowTo_1 : decode cX4_copyRowTo 1 = .ok (.getfield 9, 3) := by decide +kernel
theorem dX4_copyRowTo_4 : decode cX4_copyRowTo 4 = .ok (.iload_n 1, 1) := by decide +kernel
theorem dX4_copyRowTo_5 : decode cX4_copyRowTo 5 = .ok (.sipush 128, 3) := by decide +kernel
theorem dX4_copyRowTo_8 : decode cX4_copyRowTo 8 = .ok (.imul, 1) := by decide +kernel
theorem dX4_copyRowTo_9 : decode cX4_copyRowTo 9 = .ok (.aload_n 2, 1) := by decide +kernel
theorem dX4_copyRowTo_10 : decode cX4_copyRowTo 10 = .ok (.iload_n 3, 1) := by decide +kernel
theorem dX4_copyRowTo_11 : decode cX4_copyRowTo 11 = .ok (.sipush 128, 3) := by decide +kernel
theorem dX4_copyRowTo_14 : decode cX4_copyRowTo 14 = .ok (.invokestatic 34, 3) := by decide +kernel
theorem dX4_copyRowTo_17 : decode cX4_copyRowTo 17 = .ok (.return_, 1) := by decide +kernel
theorem dX4_takeRow_0 : decode cX4_takeRow 0 = .ok (.aload_n 2, 1) := by decide +kernel
theorem dX4_takeRow_1 : decode cX4_takeRow 1 = .ok (.iload_n 3, 1) := by decide +kernel
theorem dX4_takeRow_2 : decode cX4_takeRow 2 = .ok (.aload_n 0, 1) := by decide +kernel
theorem dX4_takeRow_3 : decode cX4_takeRow 3 = .ok (.getfield 9, 3) := by decide +kernel
theorem dX4_takeRow_6 : decode cX4_takeRow 6 = .ok (.iload_n 1, 1) := by decide +kernel
theorem dX4_takeRow_7 : decode cX4_takeRow 7 = .ok (.sipush 128, 3) := by decide +kernel
theorem dX4_takeRow_10 : decode cX4_takeRow 10 = .ok (.imul, 1) := by decide +kernel
theorem dX4_takeRow_11 : decode cX4_takeRow 11 = .ok (.sipush 128, 3) := by decide +kernel
theorem dX4_takeRow_14 : decode cX4_takeRow 14 = .ok (.invokestatic 34, 3) := by decide +kernel
theorem dX4_takeRow_17 : decode cX4_takeRow 17 = .ok (.aload_n 0, 1) := by decide +kernel
theorem dX4_takeRow_18 : decode cX4_takeRow 18 = .ok (.getfield 15, 3) := by decide +kernel
theorem dX4_takeRow_21 : decode cX4_takeRow 21 = .ok (.iload_n 1, 1) := by decide +kernel
theorem dX4_takeRow_22 : decode cX4_takeRow 22 = .ok (.iload 4, 2) := by decide +kernel
theorem dX4_takeRow_24 : decode cX4_takeRow 24 = .ok (.iastore, 1) := by decide +kernel
theorem dX4_takeRow_25 : decode cX4_takeRow 25 = .ok (.return_, 1) := by decide +kernel
set_option maxRecDepth 20000 in
theorem ggX5_init_X4_init : GoodIn wsX5_init wsX4_init := goodIn_r _ [28, 29, 2, 3, 30, 31, 32, 33, 34, 64, 65, 66, 67] (by decide +kernel) (by decide +kernel)
set_option maxRecDepth 20000 in
theorem gX5_init_X4_init : GoodIn wsX5_init (wsX4_init) := ggX5_init_X4_init
set_option maxRecDepth 20000 in
theorem ggX5_init_X2_init : GoodIn wsX5_init wsX2_init := goodIn_r _ [37, 38, 2, 3, 30, 39, 40, 41, 42, 43, 75, 76, 77, 78, 79, 80, 81] (by decide +kernel) (by decide +kernel)
set_option maxRecDepth 20000 in
theorem gX5_init_X2_init : GoodIn wsX5_init (wsX2_init) := ggX5_init_X2_init
set_option maxRecDepth 20000 in
theorem ggX5_init_X3_init : GoodIn wsX5_init wsX3_init := goodIn_r _ [46, 47, 2, 3, 30, 48, 49, 50, 82, 83, 84] (by decide +kernel) (by decide +kernel)
set_option maxRecDepth 20000 in
theorem gX5_init_X3_init : GoodIn wsX5_init (wsX3_init) := ggX5_init_X3_init
set_option maxRecDepth 20000 in
theorem ggX5_init_X1_init : GoodIn wsX5_init wsX1_init := goodIn_r _ [53, 54, 2, 3, 30, 55, 56, 57, 85, 86, 87, 88] (by decide +kernel) (by decide +kernel)
set_option maxRecDepth 20000 in
theorem gX5_init_X1_init : GoodIn wsX5_init (wsX1_init) := ggX5_init_X1_init
set_option maxRecDepth 20000 in
theorem ggX5_init_X0_init : GoodIn wsX5_init wsX0_init := goodIn_r _ [60, 61, 2, 3, 30, 62, 63, 89, 90, 91, 92, 93, 94] (by decide +kernel) (by decide +kernel)
set_option maxRecDepth 20000 in
theorem gX5_init_X0_init : GoodIn wsX5_init (wsX0_init) := ggX5_init_X0_init
theorem dX5_init_0 : decode cX5_init 0 = .ok (.aload_n 0, 1) := by decide +kernel
theorem dX5_init_1 : decode cX5_init 1 = .ok (.invokespecial 1, 3) := by decide +kernel
theorem dX5_init_4 : decode cX5_init 4 = .ok (.aload_n 0, 1) := by decide +kernel
theorem dX5_init_5 : decode cX5_init 5 = .ok (.new 7, 3) := by decide +kernel
theorem dX5_init_8 : decode cX5_init 8 = .ok (.dup, 1) := by decide +kernel
theorem dX5_init_9 : decode cX5_init 9 = .ok (.invokespecial 9, 3) := by decide +kernel
theorem dX5_init_12 : decode cX5_init 12 = .ok (.putfield 10, 3) := by decide +kernel
theorem dX5_init_15 : decode cX5_init 15 = .ok (.aload_n 0, 1) := by decide +kernel
theorem dX5_init_16 : decode cX5_init 16 = .ok (.new 16, 3) := by decide +kernel
theorem dX5_init_19 : decode cX5_init 19 = .ok (.dup, 1) := by decide +kernel
theorem dX5_init_20 : decode cX5_init 20 = .ok (.invokespecial 18, 3) := by decide +kernel
theorem dX5_init_23 : decode cX5_init 23 = .ok (.putfield 19, 3) := by decide +kernel
theorem dX5_init_26 : decode cX5_init 26 = .ok (.aload_n 0, 1) := by decide +kernel
theorem dX5_init_27 : decode cX5_init 27 = .ok (.iconst 2, 1) := by decide +kernel
theorem dX5_init_28 : decode cX5_init 28 = .ok (.anewarray 7, 3) := by decide +kernel
theorem dX5_init_31 : decode cX5_init 31 = .ok (.putfield 23, 3) := by decide +kernel
theorem dX5_init_34 : decode cX5_init 34 = .ok (.aload_n 0, 1) := by decide +kernel
theorem dX5_init_35 : decode cX5_init 35 = .ok (.new 27, 3) := by decide +kernel
theorem dX5_init_38 : decode cX5_init 38 = .ok (.dup, 1) := by decide +kernel
theorem dX5_init_39 : decode cX5_init 39 = .ok (.invokespecial 29, 3) := by decide +kernel
theorem dX5_init_42 : decode cX5_init 42 = .ok (.putfield 30, 3) := by decide +kernel
theorem dX5_init_45 : decode cX5_init 45 = .ok (.aload_n 0, 1) := by decide +kernel
theorem dX5_init_46 : decode cX5_init 46 = .ok (.new 34, 3) := by decide +kernel
theorem dX5_init_49 : decode cX5_init 49 = .ok (.dup, 1) := by decide +kernel
theorem dX5_init_50 : decode cX5_init 50 = .ok (.invokespecial 36, 3) := by decide +kernel
theorem dX5_init_53 : decode cX5_init 53 = .ok (.putfield 37, 3) := by decide +kernel
theorem dX5_init_56 : decode cX5_init 56 = .ok (.aload_n 0, 1) := by decide +kernel
theorem dX5_init_57 : decode cX5_init 57 = .ok (.new 41, 3) := by decide +kernel
theorem dX5_init_60 : decode cX5_init 60 = .ok (.dup, 1) := by decide +kernel
theorem dX5_init_61 : decode cX5_init 61 = .ok (.invokespecial 43, 3) := by decide +kernel
theorem dX5_init_64 : decode cX5_init 64 = .ok (.putfield 44, 3) := by decide +kernel
theorem dX5_init_67 : decode cX5_init 67 = .ok (.aload_n 0, 1) := by decide +kernel
theorem dX5_init_68 : decode cX5_init 68 = .ok (.iconst 0, 1) := by decide +kernel
theorem dX5_init_69 : decode cX5_init 69 = .ok (.putfield 48, 3) := by decide +kernel
theorem dX5_init_72 : decode cX5_init 72 = .ok (.return_, 1) := by decide +kernel
set_option maxRecDepth 20000 in
theorem ggX5_add_X5_isRow : GoodIn wsX5_add wsX5_isRow := goodIn_r _ [8, 9, 10, 7, 11] (by decide +kernel) (by decide +kernel)
set_option maxRecDepth 20000 in
theorem gX5_add_X5_isRow : GoodIn wsX5_add (va_wsS RX5 52 yX5_isRow wsX5_isRow) := goodIn_app (goodIn_of _ (by decide +kernel)) ggX5_add_X5_isRow
set_option maxRecDepth 20000 in
theorem ggX5_add_X5_isWithin : GoodIn wsX5_add wsX5_isWithin := goodIn_r _ [11] (by decide +kernel) (by decide +kernel)
set_option maxRecDepth 20000 in
theorem gX5_add_X5_isWithin : GoodIn wsX5_add (va_wsS RX5 57 yX5_isWithin wsX5_isWithin) := goodIn_app (goodIn_of _ (by decide +kernel)) ggX5_add_X5_isWithin
set_option maxRecDepth 20000 in
theorem ggX5_add_X4_sizeOf : GoodIn wsX5_add wsX4_sizeOf := goodIn_r _ [16, 17, 71, 72, 73, 74] (by decide +kernel) (by decide +kernel)
set_option maxRecDepth 20000 in
theorem gX5_add_X4_sizeOf : GoodIn wsX5_add (wsV RX5 62 RX4 yX4_sizeOf wsX4_sizeOf) := goodIn_app (goodIn_of _ (by decide +kernel)) ggX5_add_X4_sizeOf
set_option maxRecDepth 20000 in
theorem ggX5_add_X5_beforeChange : GoodIn wsX5_add wsX5_beforeChange := goodIn_r _ [21, 22, 3, 23, 24, 25, 26, 27, 28, 29, 30, 31, 32, 33, 34, 35, 36, 37, 38, 39, 40, 41, 42, 15, 43, 44, 45, 46, 47, 48, 49, 13, 14, 16, 17, 50, 51, 52, 53, 54, 55, 56, 57, 58, 59, 64, 65, 66, 67, 68, 69, 70, 75, 76, 77, 78, 79, 80, 81, 71, 72, 73, 74] (by decide +kernel) (by decide +kernel)
set_option maxRecDepth 20000 in
theorem gX5_add_X5_beforeChange : GoodIn wsX5_add (wsV RX5 67 RX5 yX5_beforeChange wsX5_beforeChange) := goodIn_app (goodIn_of _ (by decide +kernel)) ggX5_add_X5_beforeChange
set_option maxRecDepth 20000 in
theorem ggX5_add_X4_append : GoodIn wsX5_add wsX4_append := goodIn_r _ [63, 17, 44, 71, 72, 73, 74] (by decide +kernel) (by decide +kernel)
set_option maxRecDepth 20000 in
theorem gX5_add_X4_append : GoodIn wsX5_add (wsV RX5 71 RX4 yX4_append wsX4_append) := goodIn_app (goodIn_of _ (by decide +kernel)) ggX5_add_X4_append
theorem dX5_add_0 : decode cX5_add 0 = .ok (.iload_n 1, 1) := by decide +kernel
theorem dX5_add_1 : decode cX5_add 1 = .ok (.invokestatic 52, 3) := by decide +kernel
theorem dX5_add_4 : decode cX5_add 4 = .ok (.ifCond .ne 6, 3) := by decide +kernel
theorem dX5_add_7 : decode cX5_add 7 = .ok (.ldc 56, 2) := by decide +kernel
theorem dX5_add_9 : decode cX5_add 9 = .ok (.ireturn, 1) := by decide +kernel
theorem dX5_add_10 : decode cX5_add 10 = .ok (.iload_n 2, 1) := by decide +kernel
theorem dX5_add_11 : decode cX5_add 11 = .ok (.bipush (-100), 2) := by decide +kernel
theorem dX5_add_13 : decode cX5_add 13 = .ok (.bipush 100, 2) := by decide +kernel
theorem dX5_add_15 : decode cX5_add 15 = .ok (.invokestatic 57, 3) := by decide +kernel
theorem dX5_add_18 : decode cX5_add 18 = .ok (.ifCond .ne 6, 3) := by decide +kernel
theorem dX5_add_21 : decode cX5_add 21 = .ok (.ldc 61, 2) := by decide +kernel
theorem dX5_add_23 : decode cX5_add 23 = .ok (.ireturn, 1) := by decide +kernel
theorem dX5_add_24 : decode cX5_add 24 = .ok (.aload_n 0, 1) := by decide +kernel
theorem dX5_add_25 : decode cX5_add 25 = .ok (.getfield 10, 3) := by decide +kernel
theorem dX5_add_28 : decode cX5_add 28 = .ok (.iload_n 1, 1) := by decide +kernel
theorem dX5_add_29 : decode cX5_add 29 = .ok (.invokevirtual 62, 3) := by decide +kernel
theorem dX5_add_32 : decode cX5_add 32 = .ok (.sipush 128, 3) := by decide +kernel
theorem dX5_add_35 : decode cX5_add 35 = .ok (.if_icmp .lt 6, 3) := by decide +kernel
theorem dX5_add_38 : decode cX5_add 38 = .ok (.ldc 66, 2) := by decide +kernel
theorem dX5_add_40 : decode cX5_add 40 = .ok (.ireturn, 1) := by decide +kernel
theorem dX5_add_41 : decode cX5_add 41 = .ok (.aload_n 0, 1) := by decide +kernel
theorem dX5_add_42 : decode cX5_add 42 = .ok (.iload_n 1, 1) := by decide +kernel
theorem dX5_add_43 : decode cX5_add 43 = .ok (.invokevirtual 67, 3) := by decide +kernel
theorem dX5_add_46 : decode cX5_add 46 = .ok (.aload_n 0, 1) := by decide +kernel
theorem dX5_add_47 : decode cX5_add 47 = .ok (.getfield 10, 3) := by decide +kernel
theorem dX5_add_50 : decode cX5_add 50 = .ok (.iload_n 1, 1) := by decide +kernel
theorem dX5_add_51 : decode cX5_add 51 = .ok (.iload_n 2, 1) := by decide +kernel
theorem dX5_add_52 : decode cX5_add 52 = .ok (.invokevirtual 71, 3) := by decide +kernel
theorem dX5_add_55 : decode cX5_add 55 = .ok (.aload_n 0, 1) := by decide +kernel
theorem dX5_add_56 : decode cX5_add 56 = .ok (.getfield 10, 3) := by decide +kernel
theorem dX5_add_59 : decode cX5_add 59 = .ok (.iload_n 1, 1) := by decide +kernel
theorem dX5_add_60 : decode cX5_add 60 = .ok (.invokevirtual 62, 3) := by decide +kernel
theorem dX5_add_63 : decode cX5_add 63 = .ok (.ireturn, 1) := by decide +kernel
set_option maxRecDepth 20000 in
theorem ggX5_wipe_X5_isRow : GoodIn wsX5_wipe wsX5_isRow := goodIn_r _ [6, 7, 8, 5, 9] (by decide +kernel) (by decide +kernel)
set_option maxRecDepth 20000 in
theorem gX5_wipe_X5_isRow : GoodIn wsX5_wipe (va_wsS RX5 52 yX5_isRow wsX5_isRow) := goodIn_app (goodIn_of _ (by decide +kernel)) ggX5_wipe_X5_isRow
set_option maxRecDepth 20000 in
theorem ggX5_wipe_X5_beforeChange : GoodIn wsX5_wipe wsX5_beforeChange := goodIn_r _ [13, 14, 2, 15, 16, 17, 18, 19, 20, 21, 22, 23, 24, 25, 26, 27, 28, 29, 30, 31, 32, 33, 34, 35, 36, 37, 38, 39, 40, 41, 42, 43, 44, 45, 46, 47, 48, 49, 50, 51, 52, 53, 54, 55, 56, 62, 63, 64, 65, 66, 67, 68, 69, 70, 71, 72, 73, 74, 75, 76, 77, 78, 79] (by decide +kernel) (by decide +kernel)
set_option maxRecDepth 20000 in
theorem gX5_wipe_X5_beforeChange : GoodIn wsX5_wipe (wsV RX5 67 RX5 yX5_beforeChange wsX5_beforeChange) := goodIn_app (goodIn_of _ (by decide +kernel)) ggX5_wipe_X5_beforeChange
set_option maxRecDepth 20000 in
theorem ggX5_wipe_X4_sizeOf : GoodIn wsX5_wipe wsX4_sizeOf := goodIn_r _ [45, 46, 76, 77, 78, 79] (by decide +kernel) (by decide +kernel)
set_option maxRecDepth 20000 in
theorem gX5_wipe_X4_sizeOf : GoodIn wsX5_wipe (wsV RX5 62 RX4 yX4_sizeOf wsX4_sizeOf) := goodIn_app (goodIn_of _ (by decide +kernel)) ggX5_wipe_X4_sizeOf
set_option maxRecDepth 20000 in
theorem ggX5_wipe_X4_empty : GoodIn wsX5_wipe wsX4_empty := goodIn_r _ [61, 46, 76, 77, 78, 79] (by decide +kernel) (by decide +kernel)
set_option maxRecDepth 20000 in
theorem gX5_wipe_X4_empty : GoodIn wsX5_wipe (wsV RX5 75 RX4 yX4_empty wsX4_empty) := goodIn_app (goodIn_of _ (by decide +kernel)) ggX5_wipe_X4_empty
theorem dX5_wipe_0 : decode cX5_wipe 0 = .ok (.iload_n 1, 1) := by decide +kernel
theorem dX5_wipe_1 : decode cX5_wipe 1 = .ok (.invokestatic 52, 3) := by decide +kernel
theorem dX5_wipe_4 : decode cX5_wipe 4 = .ok (.ifCond .ne 6, 3) := by decide +kernel
theorem dX5_wipe_7 : decode cX5_wipe 7 = .ok (.ldc 56, 2) := by decide +kernel
theorem dX5_wipe_9 : decode cX5_wipe 9 = .ok (.ireturn, 1) := by decide +kernel
theorem dX5_wipe_10 : decode cX5_wipe 10 = .ok (.aload_n 0, 1) := by decide +kernel
theorem dX5_wipe_11 : decode cX5_wipe 11 = .ok (.iload_n 1, 1) := by decide +kernel
theorem dX5_wipe_12 : decode cX5_wipe 12 = .ok (.invokevirtual 67, 3) := by decide +kernel
theorem dX5_wipe_15 : decode cX5_wipe 15 = .ok (.aload_n 0, 1) := by decide +kernel
theorem dX5_wipe_16 : decode cX5_wipe 16 = .ok (.getfield 10, 3) := by decide +kernel
theorem dX5_wipe_19 : decode cX5_wipe 19 = .ok (.iload_n 1, 1) := by decide +kernel
theorem dX5_wipe_20 : decode cX5_wipe 20 = .ok (.invokevirtual 62, 3) := by decide +kernel
theorem dX5_wipe_23 : decode cX5_wipe 23 = .ok (.istore_n 2, 1) := by decide +kernel
theorem dX5_wipe_24 : decode cX5_wipe 24 = .ok (.aload_n 0, 1) := by decide +kernel
theorem dX5_wipe_25 : decode cX5_wipe 25 = .ok (.getfield 10, 3) := by decide +kernel
theorem dX5_wipe_28 : decode cX5_wipe 28 = .ok (.iload_n 1, 1) := by decide +kernel
theorem dX5_wipe_29 : decode cX5_wipe 29 = .ok (.invokevirtual 75, 3) := by decide +kernel
theorem dX5_wipe_32 : decode cX5_wipe 32 = .ok (.iload_n 2, 1) := by decide +kernel
theorem dX5_wipe_33 : decode cX5_wipe 33 = .ok (.ireturn, 1) := by decide +kernel
set_option maxRecDepth 20000 in
theorem ggX5_lots_X5_isRow : GoodIn wsX5_lots wsX5_isRow := goodIn_r _ [8, 9, 10, 7, 11] (by decide +kernel) (by decide +kernel)
set_option maxRecDepth 20000 in
theorem gX5_lots_X5_isRow : GoodIn wsX5_lots (va_wsS RX5 52 yX5_isRow wsX5_isRow) := goodIn_app (goodIn_of _ (by decide +kernel)) ggX5_lots_X5_isRow
set_option maxRecDepth 20000 in
theorem ggX5_lots_X5_isWithin : GoodIn wsX5_lots wsX5_isWithin := goodIn_r _ [11] (by decide +kernel) (by decide +kernel)
set_option maxRecDepth 20000 in
theorem gX5_lots_X5_isWithin : GoodIn wsX5_lots (va_wsS RX5 57 yX5_isWithin wsX5_isWithin) := goodIn_app (goodIn_of _ (by decide +kernel)) ggX5_lots_X5_isWithin
set_option maxRecDepth 20000 in
theorem ggX5_lots_X5_beforeChange : GoodIn wsX5_lots wsX5_beforeChange := goodIn_r _ [15, 16, 4, 17, 18, 19, 20, 21, 22, 23, 24, 25, 26, 27, 28, 29, 30, 31, 32, 33, 34, 35, 36, 37, 38, 39, 40, 41, 42, 43, 44, 45, 46, 47, 48, 49, 50, 51, 52, 53, 54, 55, 56, 57, 58, 76, 77, 78, 79, 80, 81, 82, 83, 84, 85, 86, 87, 88, 89, 90, 91, 92, 93] (by decide +kernel) (by decide +kernel)
set_option maxRecDepth 20000 in
theorem gX5_lots_X5_beforeChange : GoodIn wsX5_lots (wsV RX5 67 RX5 yX5_beforeChange wsX5_beforeChange) := goodIn_app (goodIn_of _ (by decide +kernel)) ggX5_lots_X5_beforeChange
set_option maxRecDepth 20000 in
theorem ggX5_lots_X4_empty : GoodIn wsX5_lots wsX4_empty := goodIn_r _ [62, 48, 90, 91, 92, 93] (by decide +kernel) (by decide +kernel)
set_option maxRecDepth 20000 in
theorem gX5_lots_X4_empty : GoodIn wsX5_lots (wsV RX5 75 RX4 yX4_empty wsX4_empty) := goodIn_app (goodIn_of _ (by decide +kernel)) ggX5_lots_X4_empty
set_option maxRecDepth 20000 in
theorem ggX5_lots_X5_lotAfter : GoodIn wsX5_lots wsX5_lotAfter := goodIn_r _ [65, 66, 67] (by decide +kernel) (by decide +kernel)
set_option maxRecDepth 20000 in
theorem gX5_lots_X5_lotAfter : GoodIn wsX5_lots (va_wsS RX5 79 yX5_lotAfter wsX5_lotAfter) := goodIn_app (goodIn_of _ (by decide +kernel)) ggX5_lots_X5_lotAfter
set_option maxRecDepth 20000 in
theorem ggX5_lots_X4_append : GoodIn wsX5_lots wsX4_append := goodIn_r _ [71, 48, 39, 90, 91, 92, 93] (by decide +kernel) (by decide +kernel)
set_option maxRecDepth 20000 in
theorem gX5_lots_X4_append : GoodIn wsX5_lots (wsV RX5 71 RX4 yX4_append wsX4_append) := goodIn_app (goodIn_of _ (by decide +kernel)) ggX5_lots_X4_append
set_option maxRecDepth 20000 in
theorem ggX5_lots_X4_windowsOf : GoodIn wsX5_lots wsX4_windowsOf := goodIn_r _ [75, 48, 90, 91, 92, 93] (by decide +kernel) (by decide +kernel)
set_option maxRecDepth 20000 in
theorem gX5_lots_X4_windowsOf : GoodIn wsX5_lots (wsV RX5 82 RX4 yX4_windowsOf wsX4_windowsOf) := goodIn_app (goodIn_of _ (by decide +kernel)) ggX5_lots_X4_windowsOf
theorem dX5_lots_0 : decode cX5_lots 0 = .ok (.iload_n 1, 1) := by decide +kernel
theorem dX5_lots_1 : decode cX5_lots 1 = .ok (.invokestatic 52, 3) := by decide +kernel
theorem dX5_lots_4 : decode cX5_lots 4 = .ok (.ifCond .ne 6, 3) := by decide +kernel
theorem dX5_lots_7 : decode cX5_lots 7 = .ok (.ldc 56, 2) := by decide +kernel
theorem dX5_lots_9 : decode cX5_lots 9 = .ok (.ireturn, 1) := by decide +kernel
theorem dX5_lots_10 : decode cX5_lots 10 = .ok (.iload_n 2, 1) := by decide +kernel
theorem dX5_lots_11 : decode cX5_lots 11 = .ok (.iconst 1, 1) := by decide +kernel
theorem dX5_lots_12 : decode cX5_lots 12 = .ok (.sipush 128, 3) := by decide +kernel
theorem dX5_lots_15 : decode cX5_lots 15 = .ok (.invokestatic 57, 3) := by decide +kernel
theorem dX5_lots_18 : decode cX5_lots 18 = .ok (.ifCond .eq 13, 3) := by decide +kernel
theorem dX5_lots_21 : decode cX5_lots 21 = .ok (.iload_n 3, 1) := by decide +kernel
theorem dX5_lots_22 : decode cX5_lots 22 = .ok (.iconst 1, 1) := by decide +kernel
theorem dX5_lots_23 : decode cX5_lots 23 = .ok (.ldc 78, 2) := by decide +kernel
theorem dX5_lots_25 : decode cX5_lots 25 = .ok (.invokestatic 57, 3) := by decide +kernel
theorem dX5_lots_28 : decode cX5_lots 28 = .ok (.ifCond .ne 6, 3) := by decide +kernel
theorem dX5_lots_31 : decode cX5_lots 31 = .ok (.ldc 61, 2) := by decide +kernel
theorem dX5_lots_33 : decode cX5_lots 33 = .ok (.ireturn, 1) := by decide +kernel
theorem dX5_lots_34 : decode cX5_lots 34 = .ok (.aload_n 0, 1) := by decide +kernel
theorem dX5_lots_35 : decode cX5_lots 35 = .ok (.iload_n 1, 1) := by decide +kernel
theorem dX5_lots_36 : decode cX5_lots 36 = .ok (.invokevirtual 67, 3) := by decide +kernel
theorem dX5_lots_39 : decode cX5_lots 39 = .ok (.aload_n 0, 1) := by decide +kernel
theorem dX5_lots_40 : decode cX5_lots 40 = .ok (.getfield 10, 3) := by decide +kernel
theorem dX5_lots_43 : decode cX5_lots 43 = .ok (.iload_n 1, 1) := by decide +kernel
theorem dX5_lots_44 : decode cX5_lots 44 = .ok (.invokevirtual 75, 3) := by decide +kernel
theorem dX5_lots_47 : decode cX5_lots 47 = .ok (.iload_n 3, 1) := by decide +kernel
theorem dX5_lots_48 : decode cX5_lots 48 = .ok (.istore 4, 2) := by decide +kernel
theorem dX5_lots_50 : decode cX5_lots 50 = .ok (.iconst 0, 1) := by decide +kernel
theorem dX5_lots_51 : decode cX5_lots 51 = .ok (.istore 5, 2) := by decide +kernel
theorem dX5_lots_53 : decode cX5_lots 53 = .ok (.iload 5, 2) := by decide +kernel
theorem dX5_lots_55 : decode cX5_lots 55 = .ok (.iload_n 2, 1) := by decide +kernel
theorem dX5_lots_56 : decode cX5_lots 56 = .ok (.if_icmp .ge 33, 3) := by decide +kernel
theorem dX5_lots_59 : decode cX5_lots 59 = .ok (.iload 4, 2) := by decide +kernel
theorem dX5_lots_61 : decode cX5_lots 61 = .ok (.invokestatic 79, 3) := by decide +kernel
theorem dX5_lots_64 : decode cX5_lots 64 = .ok (.istore 4, 2) := by decide +kernel
theorem dX5_lots_66 : decode cX5_lots 66 = .ok (.aload_n 0, 1) := by decide +kernel
theorem dX5_lots_67 : decode cX5_lots 67 = .ok (.getfield 10, 3) := by decide +kernel
theorem dX5_lots_70 : decode cX5_lots 70 = .ok (.iload_n 1, 1) := by decide +kernel
theorem dX5_lots_71 : decode cX5_lots 71 = .ok (.iload 4, 2) := by decide +kernel
theorem dX5_lots_73 : decode cX5_lots 73 = .ok (.sipush 201, 3) := by decide +kernel
theorem dX5_lots_76 : decode cX5_lots 76 = .ok (.irem, 1) := by decide +kernel
theorem dX5_lots_77 : decode cX5_lots 77 = .ok (.bipush 100, 2) := by decide +kernel
theorem dX5_lots_79 : decode cX5_lots 79 = .ok (.isub, 1) := by decide +kernel
theorem dX5_lots_80 : decode cX5_lots 80 = .ok (.invokevirtual 71, 3) := by decide +kernel
theorem dX5_lots_83 : decode cX5_lots 83 = .ok (.iinc 5 1, 3) := by decide +kernel
theorem dX5_lots_86 : decode cX5_lots 86 = .ok (.goto (-33), 3) := by decide +kernel
theorem dX5_lots_89 : decode cX5_lots 89 = .ok (.aload_n 0, 1) := by decide +kernel
theorem dX5_lots_90 : decode cX5_lots 90 = .ok (.getfield 10, 3) := by decide +kernel
theorem dX5_lots_93 : decode cX5_lots 93 = .ok (.iload_n 1, 1) := by decide +kernel
theorem dX5_lots_94 : decode cX5_lots 94 = .ok (.invokevirtual 82, 3) := by decide +kernel
theorem dX5_lots_97 : decode cX5_lots 97 = .ok (.ireturn, 1) := by decide +kernel
set_option maxRecDepth 20000 in
theorem ggX5_noise_X5_isRow : GoodIn wsX5_noise wsX5_isRow := goodIn_r _ [8, 9, 10, 7, 11] (by decide +kernel) (by decide +kernel)
set_option maxRecDepth 20000 in
theorem gX5_noise_X5_isRow : GoodIn wsX5_noise (va_wsS RX5 52 yX5_isRow wsX5_isRow) := goodIn_app (goodIn_of _ (by decide +kernel)) ggX5_noise_X5_isRow
set_option maxRecDepth 20000 in
theorem ggX5_noise_X5_isWithin : GoodIn wsX5_noise wsX5_isWithin := goodIn_r _ [11] (by decide +kernel) (by decide +kernel)
set_option maxRecDepth 20000 in
theorem gX5_noise_X5_isWithin : GoodIn wsX5_noise (va_wsS RX5 57 yX5_isWithin wsX5_isWithin) := goodIn_app (goodIn_of _ (by decide +kernel)) ggX5_noise_X5_isWithin
set_option maxRecDepth 20000 in
theorem ggX5_noise_X5_beforeChange : GoodIn wsX5_noise wsX5_beforeChange := goodIn_r _ [15, 16, 4, 17, 18, 19, 20, 21, 22, 23, 24, 25, 26, 27, 28, 29, 30, 31, 32, 33, 34, 35, 36, 37, 38, 39, 40, 41, 42, 43, 44, 45, 46, 47, 48, 49, 50, 51, 52, 53, 54, 55, 56, 57, 58, 77, 78, 79, 80, 81, 82, 83, 84, 85, 86, 87, 88, 89, 90, 91, 92, 93, 94] (by decide +kernel) (by decide +kernel)
set_option maxRecDepth 20000 in
theorem gX5_noise_X5_beforeChange : GoodIn wsX5_noise (wsV RX5 67 RX5 yX5_beforeChange wsX5_beforeChange) := goodIn_app (goodIn_of _ (by decide +kernel)) ggX5_noise_X5_beforeChange
set_option maxRecDepth 20000 in
theorem ggX5_noise_X4_sizeOf : GoodIn wsX5_noise wsX4_sizeOf := goodIn_r _ [47, 48, 91, 92, 93, 94] (by decide +kernel) (by decide +kernel)
set_option maxRecDepth 20000 in
theorem gX5_noise_X4_sizeOf : GoodIn wsX5_noise (wsV RX5 62 RX4 yX4_sizeOf wsX4_sizeOf) := goodIn_app (goodIn_of _ (by decide +kernel)) ggX5_noise_X4_sizeOf
set_option maxRecDepth 20000 in
theorem ggX5_noise_X5_lotAfter : GoodIn wsX5_noise wsX5_lotAfter := goodIn_r _ [62, 63, 64] (by decide +kernel) (by decide +kernel)
set_option maxRecDepth 20000 in
theorem gX5_noise_X5_lotAfter : GoodIn wsX5_noise (va_wsS RX5 79 yX5_lotAfter wsX5_lotAfter) := goodIn_app (goodIn_of _ (by decide +kernel)) ggX5_noise_X5_lotAfter
set_option maxRecDepth 20000 in
theorem ggX5_noise_X4_numberAt : GoodIn wsX5_noise wsX4_numberAt := goodIn_r _ [68, 39, 91, 92, 93, 94] (by decide +kernel) (by decide +kernel)
set_option maxRecDepth 20000 in
theorem gX5_noise_X4_numberAt : GoodIn wsX5_noise (wsV RX5 85 RX4 yX4_numberAt wsX4_numberAt) := goodIn_app (goodIn_of _ (by decide +kernel)) ggX5_noise_X4_numberAt
set_option maxRecDepth 20000 in
theorem ggX5_noise_X4_replace : GoodIn wsX5_noise wsX4_replace := goodIn_r _ [72, 39, 73, 31, 32, 33, 74, 75, 76, 91, 92, 93, 94] (by decide +kernel) (by decide +kernel)
set_option maxRecDepth 20000 in
theorem gX5_noise_X4_replace : GoodIn wsX5_noise (wsV RX5 89 RX4 yX4_replace wsX4_replace) := goodIn_app (goodIn_of _ (by decide +kernel)) ggX5_noise_X4_replace
theorem dX5_noise_0 : decode cX5_noise 0 = .ok (.iload_n 1, 1) := by decide +kernel
theorem dX5_noise_1 : decode cX5_noise 1 = .ok (.invokestatic 52, 3) := by decide +kernel
theorem dX5_noise_4 : decode cX5_noise 4 = .ok (.ifCond .ne 6, 3) := by decide +kernel
theorem dX5_noise_7 : decode cX5_noise 7 = .ok (.ldc 56, 2) := by decide +kernel
theorem dX5_noise_9 : decode cX5_noise 9 = .ok (.ireturn, 1) := by decide +kernel
theorem dX5_noise_10 : decode cX5_noise 10 = .ok (.iload_n 2, 1) := by decide +kernel
theorem dX5_noise_11 : decode cX5_noise 11 = .ok (.iconst 1, 1) := by decide +kernel
theorem dX5_noise_12 : decode cX5_noise 12 = .ok (.bipush 100, 2) := by decide +kernel
theorem dX5_noise_14 : decode cX5_noise 14 = .ok (.invokestatic 57, 3) := by decide +kernel
theorem dX5_noise_17 : decode cX5_noise 17 = .ok (.ifCond .eq 13, 3) := by decide +kernel
theorem dX5_noise_20 : decode cX5_noise 20 = .ok (.iload_n 3, 1) := by decide +kernel
theorem dX5_noise_21 : decode cX5_noise 21 = .ok (.iconst 1, 1) := by decide +kernel
theorem dX5_noise_22 : decode cX5_noise 22 = .ok (.ldc 78, 2) := by decide +kernel
theorem dX5_noise_24 : decode cX5_noise 24 = .ok (.invokestatic 57, 3) := by decide +kernel
theorem dX5_noise_27 : decode cX5_noise 27 = .ok (.ifCond .ne 6, 3) := by decide +kernel
theorem dX5_noise_30 : decode cX5_noise 30 = .ok (.ldc 61, 2) := by decide +kernel
theorem dX5_noise_32 : decode cX5_noise 32 = .ok (.ireturn, 1) := by decide +kernel
theorem dX5_noise_33 : decode cX5_noise 33 = .ok (.aload_n 0, 1) := by decide +kernel
theorem dX5_noise_34 : decode cX5_noise 34 = .ok (.iload_n 1, 1) := by decide +kernel
theorem dX5_noise_35 : decode cX5_noise 35 = .ok (.invokevirtual 67, 3) := by decide +kernel
theorem dX5_noise_38 : decode cX5_noise 38 = .ok (.aload_n 0, 1) := by decide +kernel
theorem dX5_noise_39 : decode cX5_noise 39 = .ok (.getfield 10, 3) := by decide +kernel
theorem dX5_noise_42 : decode cX5_noise 42 = .ok (.iload_n 1, 1) := by decide +kernel
theorem dX5_noise_43 : decode cX5_noise 43 = .ok (.invokevirtual 62, 3) := by decide +kernel
theorem dX5_noise_46 : decode cX5_noise 46 = .ok (.istore 4, 2) := by decide +kernel
theorem dX5_noise_48 : decode cX5_noise 48 = .ok (.iload_n 3, 1) := by decide +kernel
theorem dX5_noise_49 : decode cX5_noise 49 = .ok (.istore 5, 2) := by decide +kernel
theorem dX5_noise_51 : decode cX5_noise 51 = .ok (.iconst 0, 1) := by decide +kernel
theorem dX5_noise_52 : decode cX5_noise 52 = .ok (.istore 6, 2) := by decide +kernel
theorem dX5_noise_54 : decode cX5_noise 54 = .ok (.iconst 0, 1) := by decide +kernel
theorem dX5_noise_55 : decode cX5_noise 55 = .ok (.istore 7, 2) := by decide +kernel
theorem dX5_noise_57 : decode cX5_noise 57 = .ok (.iload 7, 2) := by decide +kernel
theorem dX5_noise_59 : decode cX5_noise 59 = .ok (.iload 4, 2) := by decide +kernel
theorem dX5_noise_61 : decode cX5_noise 61 = .ok (.if_icmp .ge 53, 3) := by decide +kernel
theorem dX5_noise_64 : decode cX5_noise 64 = .ok (.iload 5, 2) := by decide +kernel
theorem dX5_noise_66 : decode cX5_noise 66 = .ok (.invokestatic 79, 3) := by decide +kernel
theorem dX5_noise_69 : decode cX5_noise 69 = .ok (.istore 5, 2) := by decide +kernel
theorem dX5_noise_71 : decode cX5_noise 71 = .ok (.aload_n 0, 1) := by decide +kernel
theorem dX5_noise_72 : decode cX5_noise 72 = .ok (.getfield 10, 3) := by decide +kernel
theorem dX5_noise_75 : decode cX5_noise 75 = .ok (.iload_n 1, 1) := by decide +kernel
theorem dX5_noise_76 : decode cX5_noise 76 = .ok (.iload 7, 2) := by decide +kernel
theorem dX5_noise_78 : decode cX5_noise 78 = .ok (.aload_n 0, 1) := by decide +kernel
theorem dX5_noise_79 : decode cX5_noise 79 = .ok (.getfield 10, 3) := by decide +kernel
theorem dX5_noise_82 : decode cX5_noise 82 = .ok (.iload_n 1, 1) := by decide +kernel
theorem dX5_noise_83 : decode cX5_noise 83 = .ok (.iload 7, 2) := by decide +kernel
theorem dX5_noise_85 : decode cX5_noise 85 = .ok (.invokevirtual 85, 3) := by decide +kernel
theorem dX5_noise_88 : decode cX5_noise 88 = .ok (.iload 5, 2) := by decide +kernel
theorem dX5_noise_90 : decode cX5_noise 90 = .ok (.iconst 2, 1) := by decide +kernel
theorem dX5_noise_91 : decode cX5_noise 91 = .ok (.iload_n 2, 1) := by decide +kernel
theorem dX5_noise_92 : decode cX5_noise 92 = .ok (.imul, 1) := by decide +kernel
theorem dX5_noise_93 : decode cX5_noise 93 = .ok (.iconst 1, 1) := by decide +kernel
theorem dX5_noise_94 : decode cX5_noise 94 = .ok (.iadd, 1) := by decide +kernel
theorem dX5_noise_95 : decode cX5_noise 95 = .ok (.irem, 1) := by decide +kernel
theorem dX5_noise_96 : decode cX5_noise 96 = .ok (.iadd, 1) := by decide +kernel
theorem dX5_noise_97 : decode cX5_noise 97 = .ok (.iload_n 2, 1) := by decide +kernel
theorem dX5_noise_98 : decode cX5_noise 98 = .ok (.isub, 1) := by decide +kernel
theorem dX5_noise_99 : decode cX5_noise 99 = .ok (.invokevirtual 89, 3) := by decide +kernel
theorem dX5_noise_102 : decode cX5_noise 102 = .ok (.ifCond .eq 6, 3) := by decide +kernel
theorem dX5_noise_105 : decode cX5_noise 105 = .ok (.iinc 6 1, 3) := by decide +kernel
theorem dX5_noise_108 : decode cX5_noise 108 = .ok (.iinc 7 1, 3) := by decide +kernel
theorem dX5_noise_111 : decode cX5_noise 111 = .ok (.goto (-54), 3) := by decide +kernel
theorem dX5_noise_114 : decode cX5_noise 114 = .ok (.iload 6, 2) := by decide +kernel
theorem dX5_noise_116 : decode cX5_noise 116 = .ok (.ireturn, 1) := by decide +kernel
set_option maxRecDepth 20000 in
theorem ggX5_louder_X5_isRow : GoodIn wsX5_louder wsX5_isRow := goodIn_r _ [7, 8, 9, 6, 10] (by decide +kernel) (by decide +kernel)
set_option maxRecDepth 20000 in
theorem gX5_louder_X5_isRow : GoodIn wsX5_louder (va_wsS RX5 52 yX5_isRow wsX5_isRow) := goodIn_app (goodIn_of _ (by decide +kernel)) ggX5_louder_X5_isRow
set_option maxRecDepth 20000 in
theorem ggX5_louder_X5_isWithin : GoodIn wsX5_louder wsX5_isWithin := goodIn_r _ [10] (by decide +kernel) (by decide +kernel)
set_option maxRecDepth 20000 in
theorem gX5_louder_X5_isWithin : GoodIn wsX5_louder (va_wsS RX5 57 yX5_isWithin wsX5_isWithin) := goodIn_app (goodIn_of _ (by decide +kernel)) ggX5_louder_X5_isWithin
set_option maxRecDepth 20000 in
theorem ggX5_louder_X5_beforeChange : GoodIn wsX5_louder wsX5_beforeChange := goodIn_r _ [14, 15, 3, 16, 17, 18, 19, 20, 21, 22, 23, 24, 25, 26, 27, 28, 29, 30, 31, 32, 33, 34, 35, 36, 37, 38, 39, 40, 41, 42, 43, 44, 45, 46, 47, 48, 49, 50, 51, 52, 53, 54, 55, 56, 57, 71, 72, 73, 74, 75, 76, 77, 78, 79, 80, 81, 82, 83, 84, 85, 86, 87, 88] (by decide +kernel) (by decide +kernel)
set_option maxRecDepth 20000 in
theorem gX5_louder_X5_beforeChange : GoodIn wsX5_louder (wsV RX5 67 RX5 yX5_beforeChange wsX5_beforeChange) := goodIn_app (goodIn_of _ (by decide +kernel)) ggX5_louder_X5_beforeChange
set_option maxRecDepth 20000 in
theorem ggX5_louder_X4_sizeOf : GoodIn wsX5_louder wsX4_sizeOf := goodIn_r _ [46, 47, 85, 86, 87, 88] (by decide +kernel) (by decide +kernel)
set_option maxRecDepth 20000 in
theorem gX5_louder_X4_sizeOf : GoodIn wsX5_louder (wsV RX5 62 RX4 yX4_sizeOf wsX4_sizeOf) := goodIn_app (goodIn_of _ (by decide +kernel)) ggX5_louder_X4_sizeOf
set_option maxRecDepth 20000 in
theorem ggX5_louder_X4_numberAt : GoodIn wsX5_louder wsX4_numberAt := goodIn_r _ [62, 38, 85, 86, 87, 88] (by decide +kernel) (by decide +kernel)
set_option maxRecDepth 20000 in
theorem gX5_louder_X4_numberAt : GoodIn wsX5_louder (wsV RX5 85 RX4 yX4_numberAt wsX4_numberAt) := goodIn_app (goodIn_of _ (by decide +kernel)) ggX5_louder_X4_numberAt
set_option maxRecDepth 20000 in
theorem ggX5_louder_X4_replace : GoodIn wsX5_louder wsX4_replace := goodIn_r _ [66, 38, 67, 30, 31, 32, 68, 69, 70, 85, 86, 87, 88] (by decide +kernel) (by decide +kernel)
set_option maxRecDepth 20000 in
theorem gX5_louder_X4_replace : GoodIn wsX5_louder (wsV RX5 89 RX4 yX4_replace wsX4_replace) := goodIn_app (goodIn_of _ (by decide +kernel)) ggX5_louder_X4_replace
theorem dX5_louder_0 : decode cX5_louder 0 = .ok (.iload_n 1, 1) := by decide +kernel
theorem dX5_louder_1 : decode cX5_louder 1 = .ok (.invokestatic 52, 3) := by decide +kernel
theorem dX5_louder_4 : decode cX5_louder 4 = .ok (.ifCond .ne 6, 3) := by decide +kernel
theorem dX5_louder_7 : decode cX5_louder 7 = .ok (.ldc 56, 2) := by decide +kernel
theorem dX5_louder_9 : decode cX5_louder 9 = .ok (.ireturn, 1) := by decide +kernel
theorem dX5_louder_10 : decode cX5_louder 10 = .ok (.iload_n 2, 1) := by decide +kernel
theorem dX5_louder_11 : decode cX5_louder 11 = .ok (.iconst 1, 1) := by decide +kernel
theorem dX5_louder_12 : decode cX5_louder 12 = .ok (.bipush 9, 2) := by decide +kernel
theorem dX5_louder_14 : decode cX5_louder 14 = .ok (.invokestatic 57, 3) := by decide +kernel
theorem dX5_louder_17 : decode cX5_louder 17 = .ok (.ifCond .eq 13, 3) := by decide +kernel
theorem dX5_louder_20 : decode cX5_louder 20 = .ok (.iload_n 3, 1) := by decide +kernel
theorem dX5_louder_21 : decode cX5_louder 21 = .ok (.iconst 1, 1) := by decide +kernel
theorem dX5_louder_22 : decode cX5_louder 22 = .ok (.bipush 9, 2) := by decide +kernel
theorem dX5_louder_24 : decode cX5_louder 24 = .ok (.invokestatic 57, 3) := by decide +kernel
theorem dX5_louder_27 : decode cX5_louder 27 = .ok (.ifCond .ne 6, 3) := by decide +kernel
theorem dX5_louder_30 : decode cX5_louder 30 = .ok (.ldc 61, 2) := by decide +kernel
theorem dX5_louder_32 : decode cX5_louder 32 = .ok (.ireturn, 1) := by decide +kernel
theorem dX5_louder_33 : decode cX5_louder 33 = .ok (.aload_n 0, 1) := by decide +kernel
theorem dX5_louder_34 : decode cX5_louder 34 = .ok (.iload_n 1, 1) := by decide +kernel
theorem dX5_louder_35 : decode cX5_louder 35 = .ok (.invokevirtual 67, 3) := by decide +kernel
theorem dX5_louder_38 : decode cX5_louder 38 = .ok (.aload_n 0, 1) := by decide +kernel
theorem dX5_louder_39 : decode cX5_louder 39 = .ok (.getfield 10, 3) := by decide +kernel
theorem dX5_louder_42 : decode cX5_louder 42 = .ok (.iload_n 1, 1) := by decide +kernel
theorem dX5_louder_43 : decode cX5_louder 43 = .ok (.invokevirtual 62, 3) := by decide +kernel
theorem dX5_louder_46 : decode cX5_louder 46 = .ok (.istore 4, 2) := by decide +kernel
theorem dX5_louder_48 : decode cX5_louder 48 = .ok (.iconst 0, 1) := by decide +kernel
theorem dX5_louder_49 : decode cX5_louder 49 = .ok (.istore 5, 2) := by decide +kernel
theorem dX5_louder_51 : decode cX5_louder 51 = .ok (.iconst 0, 1) := by decide +kernel
theorem dX5_louder_52 : decode cX5_louder 52 = .ok (.istore 6, 2) := by decide +kernel
theorem dX5_louder_54 : decode cX5_louder 54 = .ok (.iload 6, 2) := by decide +kernel
theorem dX5_louder_56 : decode cX5_louder 56 = .ok (.iload 4, 2) := by decide +kernel
theorem dX5_louder_58 : decode cX5_louder 58 = .ok (.if_icmp .ge 39, 3) := by decide +kernel
theorem dX5_louder_61 : decode cX5_louder 61 = .ok (.aload_n 0, 1) := by decide +kernel
theorem dX5_louder_62 : decode cX5_louder 62 = .ok (.getfield 10, 3) := by decide +kernel
theorem dX5_louder_65 : decode cX5_louder 65 = .ok (.iload_n 1, 1) := by decide +kernel
theorem dX5_louder_66 : decode cX5_louder 66 = .ok (.iload 6, 2) := by decide +kernel
theorem dX5_louder_68 : decode cX5_louder 68 = .ok (.aload_n 0, 1) := by decide +kernel
theorem dX5_louder_69 : decode cX5_louder 69 = .ok (.getfield 10, 3) := by decide +kernel
theorem dX5_louder_72 : decode cX5_louder 72 = .ok (.iload_n 1, 1) := by decide +kernel
theorem dX5_louder_73 : decode cX5_louder 73 = .ok (.iload 6, 2) := by decide +kernel
theorem dX5_louder_75 : decode cX5_louder 75 = .ok (.invokevirtual 85, 3) := by decide +kernel
theorem dX5_louder_78 : decode cX5_louder 78 = .ok (.iload_n 2, 1) := by decide +kernel
theorem dX5_louder_79 : decode cX5_louder 79 = .ok (.imul, 1) := by decide +kernel
theorem dX5_louder_80 : decode cX5_louder 80 = .ok (.iload_n 3, 1) := by decide +kernel
theorem dX5_louder_81 : decode cX5_louder 81 = .ok (.idiv, 1) := by decide +kernel
theorem dX5_louder_82 : decode cX5_louder 82 = .ok (.invokevirtual 89, 3) := by decide +kernel
theorem dX5_louder_85 : decode cX5_louder 85 = .ok (.ifCond .eq 6, 3) := by decide +kernel
theorem dX5_louder_88 : decode cX5_louder 88 = .ok (.iinc 5 1, 3) := by decide +kernel
theorem dX5_louder_91 : decode cX5_louder 91 = .ok (.iinc 6 1, 3) := by decide +kernel
theorem dX5_louder_94 : decode cX5_louder 94 = .ok (.goto (-40), 3) := by decide +kernel
theorem dX5_louder_97 : decode cX5_louder 97 = .ok (.iload 5, 2) := by decide +kernel
theorem dX5_louder_99 : decode cX5_louder 99 = .ok (.ireturn, 1) := by decide +kernel
set_option maxRecDepth 20000 in
theorem ggX5_hear_X5_isPiece : GoodIn wsX5_hear wsX5_isPiece := goodIn_r _ [12, 13, 14, 11, 15] (by decide +kernel) (by decide +kernel)
set_option maxRecDepth 20000 in
theorem gX5_hear_X5_isPiece : GoodIn wsX5_hear (va_wsS RX5 92 yX5_isPiece wsX5_isPiece) := goodIn_app (goodIn_of _ (by decide +kernel)) ggX5_hear_X5_isPiece
set_option maxRecDepth 20000 in
theorem ggX5_hear_X5_isWithin : GoodIn wsX5_hear wsX5_isWithin := goodIn_r _ [15] (by decide +kernel) (by decide +kernel)
set_option maxRecDepth 20000 in
theorem gX5_hear_X5_isWithin : GoodIn wsX5_hear (va_wsS RX5 57 yX5_isWithin wsX5_isWithin) := goodIn_app (goodIn_of _ (by decide +kernel)) ggX5_hear_X5_isWithin
set_option maxRecDepth 20000 in
theorem ggX5_hear_X4_sizeOf : GoodIn wsX5_hear wsX4_sizeOf := goodIn_r _ [20, 21, 80, 81, 82, 83] (by decide +kernel) (by decide +kernel)
set_option maxRecDepth 20000 in
theorem gX5_hear_X4_sizeOf : GoodIn wsX5_hear (wsV RX5 62 RX4 yX4_sizeOf wsX4_sizeOf) := goodIn_app (goodIn_of _ (by decide +kernel)) ggX5_hear_X4_sizeOf
set_option maxRecDepth 20000 in
theorem ggX5_hear_X5_beforeChange : GoodIn wsX5_hear wsX5_beforeChange := goodIn_r _ [25, 26, 3, 27, 28, 29, 30, 31, 32, 33, 34, 35, 36, 37, 38, 39, 40, 6, 7, 8, 41, 42, 43, 19, 44, 45, 46, 47, 48, 49, 50, 17, 18, 20, 21, 51, 52, 53, 54, 55, 56, 57, 58, 59, 60, 73, 74, 75, 76, 77, 78, 79, 84, 85, 86, 87, 88, 89, 90, 80, 81, 82, 83] (by decide +kernel) (by decide +kernel)
set_option maxRecDepth 20000 in
theorem gX5_hear_X5_beforeChange : GoodIn wsX5_hear (wsV RX5 67 RX5 yX5_beforeChange wsX5_beforeChange) := goodIn_app (goodIn_of _ (by decide +kernel)) ggX5_hear_X5_beforeChange
set_option maxRecDepth 20000 in
theorem ggX5_hear_X4_empty : GoodIn wsX5_hear wsX4_empty := goodIn_r _ [64, 21, 80, 81, 82, 83] (by decide +kernel) (by decide +kernel)
set_option maxRecDepth 20000 in
theorem gX5_hear_X4_empty : GoodIn wsX5_hear (wsV RX5 75 RX4 yX4_empty wsX4_empty) := goodIn_app (goodIn_of _ (by decide +kernel)) ggX5_hear_X4_empty
set_option maxRecDepth 20000 in
theorem ggX5_hear_X4_numberAt : GoodIn wsX5_hear wsX4_numberAt := goodIn_r _ [68, 45, 80, 81, 82, 83] (by decide +kernel) (by decide +kernel)
set_option maxRecDepth 20000 in
theorem gX5_hear_X4_numberAt : GoodIn wsX5_hear (wsV RX5 85 RX4 yX4_numberAt wsX4_numberAt) := goodIn_app (goodIn_of _ (by decide +kernel)) ggX5_hear_X4_numberAt
set_option maxRecDepth 20000 in
theorem ggX5_hear_X4_append : GoodIn wsX5_hear wsX4_append := goodIn_r _ [72, 21, 45, 80, 81, 82, 83] (by decide +kernel) (by decide +kernel)
set_option maxRecDepth 20000 in
theorem gX5_hear_X4_append : GoodIn wsX5_hear (wsV RX5 71 RX4 yX4_append wsX4_append) := goodIn_app (goodIn_of _ (by decide +kernel)) ggX5_hear_X4_append
theorem dX5_hear_0 : decode cX5_hear 0 = .ok (.iload_n 1, 1) := by decide +kernel
theorem dX5_hear_1 : decode cX5_hear 1 = .ok (.invokestatic 92, 3) := by decide +kernel
theorem dX5_hear_4 : decode cX5_hear 4 = .ok (.ifCond .ne 6, 3) := by decide +kernel
theorem dX5_hear_7 : decode cX5_hear 7 = .ok (.ldc 56, 2) := by decide +kernel
theorem dX5_hear_9 : decode cX5_hear 9 = .ok (.ireturn, 1) := by decide +kernel
theorem dX5_hear_10 : decode cX5_hear 10 = .ok (.iload_n 2, 1) := by decide +kernel
theorem dX5_hear_11 : decode cX5_hear 11 = .ok (.iconst 0, 1) := by decide +kernel
theorem dX5_hear_12 : decode cX5_hear 12 = .ok (.bipush 127, 2) := by decide +kernel
theorem dX5_hear_14 : decode cX5_hear 14 = .ok (.invokestatic 57, 3) := by decide +kernel
theorem dX5_hear_17 : decode cX5_hear 17 = .ok (.ifCond .eq 14, 3) := by decide +kernel
theorem dX5_hear_20 : decode cX5_hear 20 = .ok (.iload_n 3, 1) := by decide +kernel
theorem dX5_hear_21 : decode cX5_hear 21 = .ok (.iconst 1, 1) := by decide +kernel
theorem dX5_hear_22 : decode cX5_hear 22 = .ok (.sipush 128, 3) := by decide +kernel
theorem dX5_hear_25 : decode cX5_hear 25 = .ok (.invokestatic 57, 3) := by decide +kernel
theorem dX5_hear_28 : decode cX5_hear 28 = .ok (.ifCond .ne 6, 3) := by decide +kernel
theorem dX5_hear_31 : decode cX5_hear 31 = .ok (.ldc 61, 2) := by decide +kernel
theorem dX5_hear_33 : decode cX5_hear 33 = .ok (.ireturn, 1) := by decide +kernel
theorem dX5_hear_34 : decode cX5_hear 34 = .ok (.aload_n 0, 1) := by decide +kernel
theorem dX5_hear_35 : decode cX5_hear 35 = .ok (.getfield 10, 3) := by decide +kernel
theorem dX5_hear_38 : decode cX5_hear 38 = .ok (.iload_n 1, 1) := by decide +kernel
theorem dX5_hear_39 : decode cX5_hear 39 = .ok (.invokevirtual 62, 3) := by decide +kernel
theorem dX5_hear_42 : decode cX5_hear 42 = .ok (.istore 4, 2) := by decide +kernel
theorem dX5_hear_44 : decode cX5_hear 44 = .ok (.iload_n 2, 1) := by decide +kernel
theorem dX5_hear_45 : decode cX5_hear 45 = .ok (.iload 4, 2) := by decide +kernel
theorem dX5_hear_47 : decode cX5_hear 47 = .ok (.if_icmp .lt 6, 3) := by decide +kernel
theorem dX5_hear_50 : decode cX5_hear 50 = .ok (.ldc 95, 2) := by decide +kernel
theorem dX5_hear_52 : decode cX5_hear 52 = .ok (.ireturn, 1) := by decide +kernel
theorem dX5_hear_53 : decode cX5_hear 53 = .ok (.aload_n 0, 1) := by decide +kernel
theorem dX5_hear_54 : decode cX5_hear 54 = .ok (.iconst 4, 1) := by decide +kernel
theorem dX5_hear_55 : decode cX5_hear 55 = .ok (.invokevirtual 67, 3) := by decide +kernel
theorem dX5_hear_58 : decode cX5_hear 58 = .ok (.iload 4, 2) := by decide +kernel
theorem dX5_hear_60 : decode cX5_hear 60 = .ok (.iload_n 2, 1) := by decide +kernel
theorem dX5_hear_61 : decode cX5_hear 61 = .ok (.iload_n 3, 1) := by decide +kernel
theorem dX5_hear_62 : decode cX5_hear 62 = .ok (.iadd, 1) := by decide +kernel
theorem dX5_hear_63 : decode cX5_hear 63 = .ok (.invokestatic 96, 3) := by decide +kernel
theorem dX5_hear_66 : decode cX5_hear 66 = .ok (.istore 5, 2) := by decide +kernel
theorem dX5_hear_68 : decode cX5_hear 68 = .ok (.aload_n 0, 1) := by decide +kernel
theorem dX5_hear_69 : decode cX5_hear 69 = .ok (.getfield 10, 3) := by decide +kernel
theorem dX5_hear_72 : decode cX5_hear 72 = .ok (.iconst 4, 1) := by decide +kernel
theorem dX5_hear_73 : decode cX5_hear 73 = .ok (.invokevirtual 75, 3) := by decide +kernel
theorem dX5_hear_76 : decode cX5_hear 76 = .ok (.iload_n 2, 1) := by decide +kernel
theorem dX5_hear_77 : decode cX5_hear 77 = .ok (.istore 6, 2) := by decide +kernel
theorem dX5_hear_79 : decode cX5_hear 79 = .ok (.iload 6, 2) := by decide +kernel
theorem dX5_hear_81 : decode cX5_hear 81 = .ok (.iload 5, 2) := by decide +kernel
theorem dX5_hear_83 : decode cX5_hear 83 = .ok (.if_icmp .ge 27, 3) := by decide +kernel
theorem dX5_hear_86 : decode cX5_hear 86 = .ok (.aload_n 0, 1) := by decide +kernel
theorem dX5_hear_87 : decode cX5_hear 87 = .ok (.getfield 10, 3) := by decide +kernel
theorem dX5_hear_90 : decode cX5_hear 90 = .ok (.iconst 4, 1) := by decide +kernel
theorem dX5_hear_91 : decode cX5_hear 91 = .ok (.aload_n 0, 1) := by decide +kernel
theorem dX5_hear_92 : decode cX5_hear 92 = .ok (.getfield 10, 3) := by decide +kernel
theorem dX5_hear_95 : decode cX5_hear 95 = .ok (.iload_n 1, 1) := by decide +kernel
theorem dX5_hear_96 : decode cX5_hear 96 = .ok (.iload 6, 2) := by decide +kernel
theorem dX5_hear_98 : decode cX5_hear 98 = .ok (.invokevirtual 85, 3) := by decide +kernel
theorem dX5_hear_101 : decode cX5_hear 101 = .ok (.invokevirtual 71, 3) := by decide +kernel
theorem dX5_hear_104 : decode cX5_hear 104 = .ok (.iinc 6 1, 3) := by decide +kernel
theorem dX5_hear_107 : decode cX5_hear 107 = .ok (.goto (-28), 3) := by decide +kernel
theorem dX5_hear_110 : decode cX5_hear 110 = .ok (.aload_n 0, 1) := by decide +kernel
theorem dX5_hear_111 : decode cX5_hear 111 = .ok (.getfield 10, 3) := by decide +kernel
theorem dX5_hear_114 : decode cX5_hear 114 = .ok (.iconst 4, 1) := by decide +kernel
theorem dX5_hear_115 : decode cX5_hear 115 = .ok (.invokevirtual 62, 3) := by decide +kernel
theorem dX5_hear_118 : decode cX5_hear 118 = .ok (.ireturn, 1) := by decide +kernel
set_option maxRecDepth 20000 in
theorem ggX5_bound_X5_isWithin : GoodIn wsX5_bound wsX5_isWithin := goodIn_r _ [6] (by decide +kernel) (by decide +kernel)
set_option maxRecDepth 20000 in
theorem gX5_bound_X5_isWithin : GoodIn wsX5_bound (va_wsS RX5 57 yX5_isWithin wsX5_isWithin) := goodIn_app (goodIn_of _ (by decide +kernel)) ggX5_bound_X5_isWithin
set_option maxRecDepth 20000 in
theorem ggX5_bound_X5_changeFloor : GoodIn wsX5_bound wsX5_changeFloor := goodIn_r _ [10, 11, 12, 13, 14, 5, 15, 16, 17, 18, 19, 20, 21, 22, 23, 24, 25, 26, 27, 28, 29, 30, 31, 32, 33, 34, 35, 36, 37, 38, 39, 40, 41, 42, 43, 44, 45, 46, 47, 48, 49, 50, 51, 52, 53, 54, 55, 56, 57, 58, 59, 60, 61, 62, 63, 73, 74, 75, 76, 77, 78, 79, 80, 81, 82, 83, 84, 85, 86, 87, 88, 89, 90] (by decide +kernel) (by decide +kernel)
set_option maxRecDepth 20000 in
theorem gX5_bound_X5_changeFloor : GoodIn wsX5_bound (wsV RX5 102 RX5 yX5_changeFloor wsX5_changeFloor) := goodIn_app (goodIn_of _ (by decide +kernel)) ggX5_bound_X5_changeFloor
set_option maxRecDepth 20000 in
theorem ggX5_bound_X5_changeReach : GoodIn wsX5_bound wsX5_changeReach := goodIn_r _ [67, 11, 12, 13, 14, 5, 15, 16, 17, 18, 19, 20, 21, 22, 23, 24, 25, 26, 27, 28, 29, 30, 31, 32, 33, 34, 35, 36, 37, 38, 39, 40, 41, 42, 43, 44, 45, 46, 47, 48, 49, 50, 51, 52, 53, 54, 55, 56, 57, 58, 68, 69, 70, 71, 72, 73, 74, 75, 76, 77, 78, 79, 80, 81, 82, 83, 84, 85, 86, 87, 88, 89, 90] (by decide +kernel) (by decide +kernel)
set_option maxRecDepth 20000 in
theorem gX5_bound_X5_changeReach : GoodIn wsX5_bound (wsV RX5 105 RX5 yX5_changeReach wsX5_changeReach) := goodIn_app (goodIn_of _ (by decide +kernel)) ggX5_bound_X5_changeReach
theorem dX5_bound_0 : decode cX5_bound 0 = .ok (.iload_n 1, 1) := by decide +kernel
theorem dX5_bound_1 : decode cX5_bound 1 = .ok (.ifCond .ne 24, 3) := by decide +kernel
theorem dX5_bound_4 : decode cX5_bound 4 = .ok (.iload_n 2, 1) := by decide +kernel
theorem dX5_bound_5 : decode cX5_bound 5 = .ok (.iconst 0, 1) := by decide +kernel
theorem dX5_bound_6 : decode cX5_bound 6 = .ok (.ldc 101, 2) := by decide +kernel
theorem dX5_bound_8 : decode cX5_bound 8 = .ok (.invokestatic 57, 3) := by decide +kernel
theorem dX5_bound_11 : decode cX5_bound 11 = .ok (.ifCond .eq 11, 3) := by decide +kernel
theorem dX5_bound_14 : decode cX5_bound 14 = .ok (.aload_n 0, 1) := by decide +kernel
theorem dX5_bound_15 : decode cX5_bound 15 = .ok (.iload_n 2, 1) := by decide +kernel
theorem dX5_bound_16 : decode cX5_bound 16 = .ok (.invokevirtual 102, 3) := by decide +kernel
theorem dX5_bound_19 : decode cX5_bound 19 = .ok (.goto 5, 3) := by decide +kernel
theorem dX5_bound_22 : decode cX5_bound 22 = .ok (.ldc 61, 2) := by decide +kernel
theorem dX5_bound_24 : decode cX5_bound 24 = .ok (.ireturn, 1) := by decide +kernel
theorem dX5_bound_25 : decode cX5_bound 25 = .ok (.iload_n 1, 1) := by decide +kernel
theorem dX5_bound_26 : decode cX5_bound 26 = .ok (.iconst 1, 1) := by decide +kernel
theorem dX5_bound_27 : decode cX5_bound 27 = .ok (.if_icmp .ne 23, 3) := by decide +kernel
theorem dX5_bound_30 : decode cX5_bound 30 = .ok (.iload_n 2, 1) := by decide +kernel
theorem dX5_bound_31 : decode cX5_bound 31 = .ok (.iconst 1, 1) := by decide +kernel
theorem dX5_bound_32 : decode cX5_bound 32 = .ok (.iconst 5, 1) := by decide +kernel
theorem dX5_bound_33 : decode cX5_bound 33 = .ok (.invokestatic 57, 3) := by decide +kernel
theorem dX5_bound_36 : decode cX5_bound 36 = .ok (.ifCond .eq 11, 3) := by decide +kernel
theorem dX5_bound_39 : decode cX5_bound 39 = .ok (.aload_n 0, 1) := by decide +kernel
theorem dX5_bound_40 : decode cX5_bound 40 = .ok (.iload_n 2, 1) := by decide +kernel
theorem dX5_bound_41 : decode cX5_bound 41 = .ok (.invokevirtual 105, 3) := by decide +kernel
theorem dX5_bound_44 : decode cX5_bound 44 = .ok (.goto 5, 3) := by decide +kernel
theorem dX5_bound_47 : decode cX5_bound 47 = .ok (.ldc 61, 2) := by decide +kernel
theorem dX5_bound_49 : decode cX5_bound 49 = .ok (.ireturn, 1) := by decide +kernel
theorem dX5_bound_50 : decode cX5_bound 50 = .ok (.ldc 61, 2) := by decide +kernel
theorem dX5_bound_52 : decode cX5_bound 52 = .ok (.ireturn, 1) := by decide +kernel
set_option maxRecDepth 20000 in
theorem ggX5_undo_X2_depth : GoodIn wsX5_undo wsX2_depth := goodIn_r _ [9, 10, 49, 50, 51, 52, 53, 54, 55] (by decide +kernel) (by decide +kernel)
set_option maxRecDepth 20000 in
theorem gX5_undo_X2_depth : GoodIn wsX5_undo (wsV RX5 108 RX2 yX2_depth wsX2_depth) := goodIn_app (goodIn_of _ (by decide +kernel)) ggX5_undo_X2_depth
set_option maxRecDepth 20000 in
theorem ggX5_undo_X2_restoreLatest : GoodIn wsX5_undo wsX2_restoreLatest := goodIn_r _ [14, 10, 15, 16, 17, 18, 19, 20, 21, 22, 23, 24, 25, 26, 27, 28, 29, 30, 31, 32, 33, 34, 35, 36, 37, 38, 39, 40, 41, 49, 50, 51, 52, 53, 54, 55, 56, 57, 58, 59] (by decide +kernel) (by decide +kernel)
set_option maxRecDepth 20000 in
theorem gX5_undo_X2_restoreLatest : GoodIn wsX5_undo (wsV RX5 112 RX2 yX2_restoreLatest wsX2_restoreLatest) := goodIn_app (goodIn_of _ (by decide +kernel)) ggX5_undo_X2_restoreLatest
theorem dX5_undo_0 : decode cX5_undo 0 = .ok (.aload_n 0, 1) := by decide +kernel
theorem dX5_undo_1 : decode cX5_undo 1 = .ok (.getfield 19, 3) := by decide +kernel
theorem dX5_undo_4 : decode cX5_undo 4 = .ok (.invokevirtual 108, 3) := by decide +kernel
theorem dX5_undo_7 : decode cX5_undo 7 = .ok (.ifCond .ne 6, 3) := by decide +kernel
theorem dX5_undo_10 : decode cX5_undo 10 = .ok (.ldc 95, 2) := by decide +kernel
theorem dX5_undo_12 : decode cX5_undo 12 = .ok (.ireturn, 1) := by decide +kernel
theorem dX5_undo_13 : decode cX5_undo 13 = .ok (.aload_n 0, 1) := by decide +kernel
theorem dX5_undo_14 : decode cX5_undo 14 = .ok (.getfield 19, 3) := by decide +kernel
theorem dX5_undo_17 : decode cX5_undo 17 = .ok (.aload_n 0, 1) := by decide +kernel
theorem dX5_undo_18 : decode cX5_undo 18 = .ok (.getfield 10, 3) := by decide +kernel
theorem dX5_undo_21 : decode cX5_undo 21 = .ok (.invokevirtual 112, 3) := by decide +kernel
theorem dX5_undo_24 : decode cX5_undo 24 = .ok (.aload_n 0, 1) := by decide +kernel
theorem dX5_undo_25 : decode cX5_undo 25 = .ok (.iconst 0, 1) := by decide +kernel
theorem dX5_undo_26 : decode cX5_undo 26 = .ok (.putfield 48, 3) := by decide +kernel
theorem dX5_undo_29 : decode cX5_undo 29 = .ok (.aload_n 0, 1) := by decide +kernel
theorem dX5_undo_30 : decode cX5_undo 30 = .ok (.getfield 19, 3) := by decide +kernel
theorem dX5_undo_33 : decode cX5_undo 33 = .ok (.invokevirtual 108, 3) := by decide +kernel
theorem dX5_undo_36 : decode cX5_undo 36 = .ok (.ireturn, 1) := by decide +kernel
set_option maxRecDepth 20000 in
theorem ggX5_told_X5_refresh : GoodIn wsX5_told wsX5_refresh := goodIn_r _ [10, 11, 12, 1, 2, 3, 13, 14, 15, 16, 17, 18, 19, 20, 21, 22, 23, 24, 25, 26, 27, 28, 29, 30, 31, 32, 33, 34, 35, 36, 37, 38, 39, 40, 41, 42, 43, 44, 45, 46, 47, 48, 49, 50, 51, 52, 53, 54, 55, 56, 57, 58, 59, 60, 61, 62, 63, 64, 65, 66, 67, 68, 69, 70, 71, 72, 73, 74, 75, 76, 77, 78, 79, 80, 81, 82, 83, 84, 85, 86, 87, 88, 89, 90, 91, 92, 93, 94, 95, 96, 97, 98, 99, 100, 101, 102, 103, 104, 105, 106, 107, 108, 109, 110, 111, 112, 113, 114, 115, 116, 117, 118, 168, 169, 170, 171, 172, 173, 174, 175, 176, 177, 178, 179, 180, 181, 182, 183, 184, 185, 186, 187, 188, 189, 190, 191] (by decide +kernel) (by decide +kernel)
set_option maxRecDepth 20000 in
theorem gX5_told_X5_refresh : GoodIn wsX5_told (wsV RX5 116 RX5 yX5_refresh wsX5_refresh) := goodIn_app (goodIn_of _ (by decide +kernel)) ggX5_told_X5_refresh
set_option maxRecDepth 20000 in
theorem ggX5_told_X4_floor : GoodIn wsX5_told wsX4_floor := goodIn_r _ [50, 51, 178, 179, 180, 181] (by decide +kernel) (by decide +kernel)
set_option maxRecDepth 20000 in
theorem gX5_told_X4_floor : GoodIn wsX5_told (wsV RX5 119 RX4 yX4_floor wsX4_floor) := goodIn_app (goodIn_of _ (by decide +kernel)) ggX5_told_X4_floor
set_option maxRecDepth 20000 in
theorem ggX5_told_X4_reach : GoodIn wsX5_told wsX4_reach := goodIn_r _ [55, 56, 178, 179, 180, 181] (by decide +kernel) (by decide +kernel)
set_option maxRecDepth 20000 in
theorem gX5_told_X4_reach : GoodIn wsX5_told (wsV RX5 122 RX4 yX4_reach wsX4_reach) := goodIn_app (goodIn_of _ (by decide +kernel)) ggX5_told_X4_reach
set_option maxRecDepth 20000 in
theorem ggX5_told_X1_unlikeKeys : GoodIn wsX5_told wsX1_unlikeKeys := goodIn_r _ [123, 79, 182, 183, 184, 185] (by decide +kernel) (by decide +kernel)
set_option maxRecDepth 20000 in
theorem gX5_told_X1_unlikeKeys : GoodIn wsX5_told (wsV RX5 125 RX1 yX1_unlikeKeys wsX1_unlikeKeys) := goodIn_app (goodIn_of _ (by decide +kernel)) ggX5_told_X1_unlikeKeys
set_option maxRecDepth 20000 in
theorem ggX5_told_X1_allPlaces : GoodIn wsX5_told wsX1_allPlaces := goodIn_r _ [127, 80, 182, 183, 184, 185] (by decide +kernel) (by decide +kernel)
set_option maxRecDepth 20000 in
theorem gX5_told_X1_allPlaces : GoodIn wsX5_told (wsV RX5 128 RX1 yX1_allPlaces wsX1_allPlaces) := goodIn_app (goodIn_of _ (by decide +kernel)) ggX5_told_X1_allPlaces
set_option maxRecDepth 20000 in
theorem ggX5_told_X0_keysHeard : GoodIn wsX5_told wsX0_keysHeard := goodIn_r _ [131, 91, 186, 187, 188, 189, 190, 191] (by decide +kernel) (by decide +kernel)
set_option maxRecDepth 20000 in
theorem gX5_told_X0_keysHeard : GoodIn wsX5_told (wsV RX5 131 RX0 yX0_keysHeard wsX0_keysHeard) := goodIn_app (goodIn_of _ (by decide +kernel)) ggX5_told_X0_keysHeard
set_option maxRecDepth 20000 in
theorem ggX5_told_X0_keysKnown : GoodIn wsX5_told wsX0_keysKnown := goodIn_r _ [135, 98, 186, 187, 188, 189, 190, 191] (by decide +kernel) (by decide +kernel)
set_option maxRecDepth 20000 in
theorem gX5_told_X0_keysKnown : GoodIn wsX5_told (wsV RX5 134 RX0 yX0_keysKnown wsX0_keysKnown) := goodIn_app (goodIn_of _ (by decide +kernel)) ggX5_told_X0_keysKnown
set_option maxRecDepth 20000 in
theorem ggX5_told_X0_pieceOf : GoodIn wsX5_told wsX0_pieceOf := goodIn_r _ [139, 97, 118, 186, 187, 188, 189, 190, 191] (by decide +kernel) (by decide +kernel)
set_option maxRecDepth 20000 in
theorem gX5_told_X0_pieceOf : GoodIn wsX5_told (wsV RX5 137 RX0 yX0_pieceOf wsX0_pieceOf) := goodIn_app (goodIn_of _ (by decide +kernel)) ggX5_told_X0_pieceOf
set_option maxRecDepth 20000 in
theorem ggX5_told_X0_offsetOf : GoodIn wsX5_told wsX0_offsetOf := goodIn_r _ [143, 97, 118, 186, 187, 188, 189, 190, 191] (by decide +kernel) (by decide +kernel)
set_option maxRecDepth 20000 in
theorem gX5_told_X0_offsetOf : GoodIn wsX5_told (wsV RX5 140 RX0 yX0_offsetOf wsX0_offsetOf) := goodIn_app (goodIn_of _ (by decide +kernel)) ggX5_told_X0_offsetOf
set_option maxRecDepth 20000 in
theorem ggX5_told_X0_countOf : GoodIn wsX5_told wsX0_countOf := goodIn_r _ [147, 97, 96, 118, 186, 187, 188, 189, 190, 191] (by decide +kernel) (by decide +kernel)
set_option maxRecDepth 20000 in
theorem gX5_told_X0_countOf : GoodIn wsX5_told (wsV RX5 143 RX0 yX0_countOf wsX0_countOf) := goodIn_app (goodIn_of _ (by decide +kernel)) ggX5_told_X0_countOf
set_option maxRecDepth 20000 in
theorem ggX5_told_X0_doubt : GoodIn wsX5_told wsX0_doubt := goodIn_r _ [151, 97, 152, 145, 146, 89, 147, 96, 118, 153, 137, 138, 139, 186, 187, 188, 189, 190, 191] (by decide +kernel) (by decide +kernel)
set_option maxRecDepth 20000 in
theorem gX5_told_X0_doubt : GoodIn wsX5_told (wsV RX5 146 RX0 yX0_doubt wsX0_doubt) := goodIn_app (goodIn_of _ (by decide +kernel)) ggX5_told_X0_doubt
set_option maxRecDepth 20000 in
theorem ggX5_told_X0_ranked : GoodIn wsX5_told wsX0_ranked := goodIn_r _ [157, 97, 186, 187, 188, 189, 190, 191] (by decide +kernel) (by decide +kernel)
set_option maxRecDepth 20000 in
theorem gX5_told_X0_ranked : GoodIn wsX5_told (wsV RX5 149 RX0 yX0_ranked wsX0_ranked) := goodIn_app (goodIn_of _ (by decide +kernel)) ggX5_told_X0_ranked
set_option maxRecDepth 20000 in
theorem ggX5_told_X0_allVotes : GoodIn wsX5_told wsX0_allVotes := goodIn_r _ [161, 99, 186, 187, 188, 189, 190, 191] (by decide +kernel) (by decide +kernel)
set_option maxRecDepth 20000 in
theorem gX5_told_X0_allVotes : GoodIn wsX5_told (wsV RX5 152 RX0 yX0_allVotes wsX0_allVotes) := goodIn_app (goodIn_of _ (by decide +kernel)) ggX5_told_X0_allVotes
set_option maxRecDepth 20000 in
theorem ggX5_told_X2_depth : GoodIn wsX5_told wsX2_depth := goodIn_r _ [166, 167, 192, 193, 194, 195, 196, 197, 198] (by decide +kernel) (by decide +kernel)
set_option maxRecDepth 20000 in
theorem gX5_told_X2_depth : GoodIn wsX5_told (wsV RX5 108 RX2 yX2_depth wsX2_depth) := goodIn_app (goodIn_of _ (by decide +kernel)) ggX5_told_X2_depth
theorem dX5_told_0 : decode cX5_told 0 = .ok (.aload_n 0, 1) := by decide +kernel
theorem dX5_told_1 : decode cX5_told 1 = .ok (.invokevirtual 116, 3) := by decide +kernel
theorem dX5_told_4 : decode cX5_told 4 = .ok (.iload_n 1, 1) := by decide +kernel
theorem dX5_told_5 : decode cX5_told 5 = .ok (.tableswitch 174 0 12 #[67, 75, 83, 91, 99, 107, 115, 124, 133, 142, 150, 158, 166], 67) := by decide +kernel
theorem dX5_told_72 : decode cX5_told 72 = .ok (.aload_n 0, 1) := by decide +kernel
theorem dX5_told_73 : decode cX5_told 73 = .ok (.getfield 10, 3) := by decide +kernel
theorem dX5_told_76 : decode cX5_told 76 = .ok (.invokevirtual 119, 3) := by decide +kernel
theorem dX5_told_79 : decode cX5_told 79 = .ok (.ireturn, 1) := by decide +kernel
theorem dX5_told_80 : decode cX5_told 80 = .ok (.aload_n 0, 1) := by decide +kernel
theorem dX5_told_81 : decode cX5_told 81 = .ok (.getfield 10, 3) := by decide +kernel
theorem dX5_told_84 : decode cX5_told 84 = .ok (.invokevirtual 122, 3) := by decide +kernel
theorem dX5_told_87 : decode cX5_told 87 = .ok (.ireturn, 1) := by decide +kernel
theorem dX5_told_88 : decode cX5_told 88 = .ok (.aload_n 0, 1) := by decide +kernel
theorem dX5_told_89 : decode cX5_told 89 = .ok (.getfield 37, 3) := by decide +kernel
theorem dX5_told_92 : decode cX5_told 92 = .ok (.invokevirtual 125, 3) := by decide +kernel
theorem dX5_told_95 : decode cX5_told 95 = .ok (.ireturn, 1) := by decide +kernel
theorem dX5_told_96 : decode cX5_told 96 = .ok (.aload_n 0, 1) := by decide +kernel
theorem dX5_told_97 : decode cX5_told 97 = .ok (.getfield 37, 3) := by decide +kernel
theorem dX5_told_100 : decode cX5_told 100 = .ok (.invokevirtual 128, 3) := by decide +kernel
theorem dX5_told_103 : decode cX5_told 103 = .ok (.ireturn, 1) := by decide +kernel
theorem dX5_told_104 : decode cX5_told 104 = .ok (.aload_n 0, 1) := by decide +kernel
theorem dX5_told_105 : decode cX5_told 105 = .ok (.getfield 44, 3) := by decide +kernel
theorem dX5_told_108 : decode cX5_told 108 = .ok (.invokevirtual 131, 3) := by decide +kernel
theorem dX5_told_111 : decode cX5_told 111 = .ok (.ireturn, 1) := by decide +kernel
theorem dX5_told_112 : decode cX5_told 112 = .ok (.aload_n 0, 1) := by decide +kernel
theorem dX5_told_113 : decode cX5_told 113 = .ok (.getfield 44, 3) := by decide +kernel
theorem dX5_told_116 : decode cX5_told 116 = .ok (.invokevirtual 134, 3) := by decide +kernel
theorem dX5_told_119 : decode cX5_told 119 = .ok (.ireturn, 1) := by decide +kernel
theorem dX5_told_120 : decode cX5_told 120 = .ok (.aload_n 0, 1) := by decide +kernel
theorem dX5_told_121 : decode cX5_told 121 = .ok (.getfield 44, 3) := by decide +kernel
theorem dX5_told_124 : decode cX5_told 124 = .ok (.iconst 0, 1) := by decide +kernel
theorem dX5_told_125 : decode cX5_told 125 = .ok (.invokevirtual 137, 3) := by decide +kernel
theorem dX5_told_128 : decode cX5_told 128 = .ok (.ireturn, 1) := by decide +kernel
theorem dX5_told_129 : decode cX5_told 129 = .ok (.aload_n 0, 1) := by decide +kernel
theorem dX5_told_130 : decode cX5_told 130 = .ok (.getfield 44, 3) := by decide +kernel
theorem dX5_told_133 : decode cX5_told 133 = .ok (.iconst 0, 1) := by decide +kernel
theorem dX5_told_134 : decode cX5_told 134 = .ok (.invokevirtual 140, 3) := by decide +kernel
theorem dX5_told_137 : decode cX5_told 137 = .ok (.ireturn, 1) := by decide +kernel
theorem dX5_told_138 : decode cX5_told 138 = .ok (.aload_n 0, 1) := by decide +kernel
theorem dX5_told_139 : decode cX5_told 139 = .ok (.getfield 44, 3) := by decide +kernel
theorem dX5_told_142 : decode cX5_told 142 = .ok (.iconst 0, 1) := by decide +kernel
theorem dX5_told_143 : decode cX5_told 143 = .ok (.invokevirtual 143, 3) := by decide +kernel
theorem dX5_told_146 : decode cX5_told 146 = .ok (.ireturn, 1) := by decide +kernel
theorem dX5_told_147 : decode cX5_told 147 = .ok (.aload_n 0, 1) := by decide +kernel
theorem dX5_told_148 : decode cX5_told 148 = .ok (.getfield 44, 3) := by decide +kernel
theorem dX5_told_151 : decode cX5_told 151 = .ok (.invokevirtual 146, 3) := by decide +kernel
theorem dX5_told_154 : decode cX5_told 154 = .ok (.ireturn, 1) := by decide +kernel
theorem dX5_told_155 : decode cX5_told 155 = .ok (.aload_n 0, 1) := by decide +kernel
theorem dX5_told_156 : decode cX5_told 156 = .ok (.getfield 44, 3) := by decide +kernel
theorem dX5_told_159 : decode cX5_told 159 = .ok (.invokevirtual 149, 3) := by decide +kernel
theorem dX5_told_162 : decode cX5_told 162 = .ok (.ireturn, 1) := by decide +kernel
theorem dX5_told_163 : decode cX5_told 163 = .ok (.aload_n 0, 1) := by decide +kernel
theorem dX5_told_164 : decode cX5_told 164 = .ok (.getfield 44, 3) := by decide +kernel
theorem dX5_told_167 : decode cX5_told 167 = .ok (.invokevirtual 152, 3) := by decide +kernel
theorem dX5_told_170 : decode cX5_told 170 = .ok (.ireturn, 1) := by decide +kernel
theorem dX5_told_171 : decode cX5_told 171 = .ok (.aload_n 0, 1) := by decide +kernel
theorem dX5_told_172 : decode cX5_told 172 = .ok (.getfield 19, 3) := by decide +kernel
theorem dX5_told_175 : decode cX5_told 175 = .ok (.invokevirtual 108, 3) := by decide +kernel
theorem dX5_told_178 : decode cX5_told 178 = .ok (.ireturn, 1) := by decide +kernel
theorem dX5_told_179 : decode cX5_told 179 = .ok (.ldc 61, 2) := by decide +kernel
theorem dX5_told_181 : decode cX5_told 181 = .ok (.ireturn, 1) := by decide +kernel
set_option maxRecDepth 20000 in
theorem ggX5_row_X5_isRow : GoodIn wsX5_row wsX5_isRow := goodIn_r _ [8, 9, 10, 7, 11] (by decide +kernel) (by decide +kernel)
set_option maxRecDepth 20000 in
theorem gX5_row_X5_isRow : GoodIn wsX5_row (va_wsS RX5 52 yX5_isRow wsX5_isRow) := goodIn_app (goodIn_of _ (by decide +kernel)) ggX5_row_X5_isRow
set_option maxRecDepth 20000 in
theorem ggX5_row_X5_refresh : GoodIn wsX5_row wsX5_refresh := goodIn_r _ [15, 16, 3, 2, 17, 18, 19, 20, 21, 22, 23, 24, 25, 26, 27, 28, 29, 30, 31, 32, 33, 34, 35, 36, 37, 38, 39, 40, 41, 42, 43, 44, 45, 46, 47, 48, 49, 50, 51, 52, 53, 54, 55, 56, 57, 58, 59, 60, 61, 62, 63, 64, 65, 66, 67, 68, 69, 70, 71, 72, 73, 74, 75, 76, 77, 78, 79, 80, 81, 82, 83, 84, 85, 86, 87, 88, 89, 90, 91, 92, 93, 94, 95, 96, 97, 98, 99, 100, 101, 102, 103, 104, 105, 106, 107, 108, 109, 110, 111, 112, 113, 114, 115, 116, 117, 118, 119, 120, 121, 122, 123, 124, 148, 149, 150, 151, 152, 153, 154, 155, 156, 157, 158, 159, 160, 161, 162, 163, 164, 165, 166, 167, 168, 169, 170, 171] (by decide +kernel) (by decide +kernel)
set_option maxRecDepth 20000 in
theorem gX5_row_X5_refresh : GoodIn wsX5_row (wsV RX5 116 RX5 yX5_refresh wsX5_refresh) := goodIn_app (goodIn_of _ (by decide +kernel)) ggX5_row_X5_refresh
set_option maxRecDepth 20000 in
theorem ggX5_row_X4_sizeOf : GoodIn wsX5_row wsX4_sizeOf := goodIn_r _ [128, 30, 158, 159, 160, 161] (by decide +kernel) (by decide +kernel)
set_option maxRecDepth 20000 in
theorem gX5_row_X4_sizeOf : GoodIn wsX5_row (wsV RX5 62 RX4 yX4_sizeOf wsX4_sizeOf) := goodIn_app (goodIn_of _ (by decide +kernel)) ggX5_row_X4_sizeOf
set_option maxRecDepth 20000 in
theorem ggX5_row_X4_windowsOf : GoodIn wsX5_row wsX4_windowsOf := goodIn_r _ [29, 30, 158, 159, 160, 161] (by decide +kernel) (by decide +kernel)
set_option maxRecDepth 20000 in
theorem gX5_row_X4_windowsOf : GoodIn wsX5_row (wsV RX5 82 RX4 yX4_windowsOf wsX4_windowsOf) := goodIn_app (goodIn_of _ (by decide +kernel)) ggX5_row_X4_windowsOf
set_option maxRecDepth 20000 in
theorem ggX5_row_X3_countIn : GoodIn wsX5_row wsX3_countIn := goodIn_r _ [133, 77, 78, 79, 22, 80, 24, 155, 156, 157] (by decide +kernel) (by decide +kernel)
set_option maxRecDepth 20000 in
theorem gX5_row_X3_countIn : GoodIn wsX5_row (wsV RX5 155 RX3 yX3_countIn wsX3_countIn) := goodIn_app (goodIn_of _ (by decide +kernel)) ggX5_row_X3_countIn
set_option maxRecDepth 20000 in
theorem ggX5_row_X4_reach : GoodIn wsX5_row wsX4_reach := goodIn_r _ [61, 62, 158, 159, 160, 161] (by decide +kernel) (by decide +kernel)
set_option maxRecDepth 20000 in
theorem gX5_row_X4_reach : GoodIn wsX5_row (wsV RX5 122 RX4 yX4_reach wsX4_reach) := goodIn_app (goodIn_of _ (by decide +kernel)) ggX5_row_X4_reach
set_option maxRecDepth 20000 in
theorem ggX5_row_X3_countKeysIn : GoodIn wsX5_row wsX3_countKeysIn := goodIn_r _ [137, 138, 74, 75, 22, 76, 77, 78, 79, 80, 24, 155, 156, 157] (by decide +kernel) (by decide +kernel)
set_option maxRecDepth 20000 in
theorem gX5_row_X3_countKeysIn : GoodIn wsX5_row (wsV RX5 158 RX3 yX3_countKeysIn wsX3_countKeysIn) := goodIn_app (goodIn_of _ (by decide +kernel)) ggX5_row_X3_countKeysIn
set_option maxRecDepth 20000 in
theorem ggX5_row_X3_allSharesIn : GoodIn wsX5_row wsX3_allSharesIn := goodIn_r _ [142, 25, 26, 27, 28, 29, 30, 35, 36, 37, 22, 38, 39, 40, 41, 42, 43, 44, 45, 46, 47, 48, 49, 50, 51, 52, 158, 159, 160, 161, 155, 156, 157] (by decide +kernel) (by decide +kernel)
set_option maxRecDepth 20000 in
theorem gX5_row_X3_allSharesIn : GoodIn wsX5_row (wsV RX5 161 RX3 yX3_allSharesIn wsX3_allSharesIn) := goodIn_app (goodIn_of _ (by decide +kernel)) ggX5_row_X3_allSharesIn
set_option maxRecDepth 20000 in
theorem ggX5_row_X3_mostOftenIn : GoodIn wsX5_row wsX3_mostOftenIn := goodIn_r _ [146, 147, 77, 78, 79, 22, 80, 24, 155, 156, 157] (by decide +kernel) (by decide +kernel)
set_option maxRecDepth 20000 in
theorem gX5_row_X3_mostOftenIn : GoodIn wsX5_row (wsV RX5 165 RX3 yX3_mostOftenIn wsX3_mostOftenIn) := goodIn_app (goodIn_of _ (by decide +kernel)) ggX5_row_X3_mostOftenIn
theorem dX5_row_0 : decode cX5_row 0 = .ok (.iload_n 1, 1) := by decide +kernel
theorem dX5_row_1 : decode cX5_row 1 = .ok (.invokestatic 52, 3) := by decide +kernel
theorem dX5_row_4 : decode cX5_row 4 = .ok (.ifCond .ne 6, 3) := by decide +kernel
theorem dX5_row_7 : decode cX5_row 7 = .ok (.ldc 56, 2) := by decide +kernel
theorem dX5_row_9 : decode cX5_row 9 = .ok (.ireturn, 1) := by decide +kernel
theorem dX5_row_10 : decode cX5_row 10 = .ok (.aload_n 0, 1) := by decide +kernel
theorem dX5_row_11 : decode cX5_row 11 = .ok (.invokevirtual 116, 3) := by decide +kernel
theorem dX5_row_14 : decode cX5_row 14 = .ok (.iload_n 2, 1) := by decide +kernel
theorem dX5_row_15 : decode cX5_row 15 = .ok (.tableswitch 102 0 5 #[37, 46, 55, 64, 80, 93], 37) := by decide +kernel
theorem dX5_row_52 : decode cX5_row 52 = .ok (.aload_n 0, 1) := by decide +kernel
theorem dX5_row_53 : decode cX5_row 53 = .ok (.getfield 10, 3) := by decide +kernel
theorem dX5_row_56 : decode cX5_row 56 = .ok (.iload_n 1, 1) := by decide +kernel
theorem dX5_row_57 : decode cX5_row 57 = .ok (.invokevirtual 62, 3) := by decide +kernel
theorem dX5_row_60 : decode cX5_row 60 = .ok (.ireturn, 1) := by decide +kernel
theorem dX5_row_61 : decode cX5_row 61 = .ok (.aload_n 0, 1) := by decide +kernel
theorem dX5_row_62 : decode cX5_row 62 = .ok (.getfield 10, 3) := by decide +kernel
theorem dX5_row_65 : decode cX5_row 65 = .ok (.iload_n 1, 1) := by decide +kernel
theorem dX5_row_66 : decode cX5_row 66 = .ok (.invokevirtual 82, 3) := by decide +kernel
theorem dX5_row_69 : decode cX5_row 69 = .ok (.ireturn, 1) := by decide +kernel
theorem dX5_row_70 : decode cX5_row 70 = .ok (.aload_n 0, 1) := by decide +kernel
theorem dX5_row_71 : decode cX5_row 71 = .ok (.getfield 30, 3) := by decide +kernel
theorem dX5_row_74 : decode cX5_row 74 = .ok (.iload_n 1, 1) := by decide +kernel
theorem dX5_row_75 : decode cX5_row 75 = .ok (.invokevirtual 155, 3) := by decide +kernel
theorem dX5_row_78 : decode cX5_row 78 = .ok (.ireturn, 1) := by decide +kernel
theorem dX5_row_79 : decode cX5_row 79 = .ok (.aload_n 0, 1) := by decide +kernel
theorem dX5_row_80 : decode cX5_row 80 = .ok (.getfield 30, 3) := by decide +kernel
theorem dX5_row_83 : decode cX5_row 83 = .ok (.iload_n 1, 1) := by decide +kernel
theorem dX5_row_84 : decode cX5_row 84 = .ok (.aload_n 0, 1) := by decide +kernel
theorem dX5_row_85 : decode cX5_row 85 = .ok (.getfield 10, 3) := by decide +kernel
theorem dX5_row_88 : decode cX5_row 88 = .ok (.invokevirtual 122, 3) := by decide +kernel
theorem dX5_row_91 : decode cX5_row 91 = .ok (.invokevirtual 158, 3) := by decide +kernel
theorem dX5_row_94 : decode cX5_row 94 = .ok (.ireturn, 1) := by decide +kernel
theorem dX5_row_95 : decode cX5_row 95 = .ok (.aload_n 0, 1) := by decide +kernel
theorem dX5_row_96 : decode cX5_row 96 = .ok (.getfield 30, 3) := by decide +kernel
theorem dX5_row_99 : decode cX5_row 99 = .ok (.aload_n 0, 1) := by decide +kernel
theorem dX5_row_100 : decode cX5_row 100 = .ok (.getfield 10, 3) := by decide +kernel
theorem dX5_row_103 : decode cX5_row 103 = .ok (.iload_n 1, 1) := by decide +kernel
theorem dX5_row_104 : decode cX5_row 104 = .ok (.invokevirtual 161, 3) := by decide +kernel
theorem dX5_row_107 : decode cX5_row 107 = .ok (.ireturn, 1) := by decide +kernel
theorem dX5_row_108 : decode cX5_row 108 = .ok (.aload_n 0, 1) := by decide +kernel
theorem dX5_row_109 : decode cX5_row 109 = .ok (.getfield 30, 3) := by decide +kernel
theorem dX5_row_112 : decode cX5_row 112 = .ok (.iload_n 1, 1) := by decide +kernel
theorem dX5_row_113 : decode cX5_row 113 = .ok (.invokevirtual 165, 3) := by decide +kernel
theorem dX5_row_116 : decode cX5_row 116 = .ok (.ireturn, 1) := by decide +kernel
theorem dX5_row_117 : decode cX5_row 117 = .ok (.ldc 61, 2) := by decide +kernel
theorem dX5_row_119 : decode cX5_row 119 = .ok (.ireturn, 1) := by decide +kernel
set_option maxRecDepth 20000 in
theorem ggX5_at_X5_isRow : GoodIn wsX5_at wsX5_isRow := goodIn_r _ [7, 8, 9, 6, 10] (by decide +kernel) (by decide +kernel)
set_option maxRecDepth 20000 in
theorem gX5_at_X5_isRow : GoodIn wsX5_at (va_wsS RX5 52 yX5_isRow wsX5_isRow) := goodIn_app (goodIn_of _ (by decide +kernel)) ggX5_at_X5_isRow
set_option maxRecDepth 20000 in
theorem ggX5_at_X4_sizeOf : GoodIn wsX5_at wsX4_sizeOf := goodIn_r _ [15, 16, 29, 30, 31, 32] (by decide +kernel) (by decide +kernel)
set_option maxRecDepth 20000 in
theorem gX5_at_X4_sizeOf : GoodIn wsX5_at (wsV RX5 62 RX4 yX4_sizeOf wsX4_sizeOf) := goodIn_app (goodIn_of _ (by decide +kernel)) ggX5_at_X4_sizeOf
set_option maxRecDepth 20000 in
theorem ggX5_at_X5_isWithin : GoodIn wsX5_at wsX5_isWithin := goodIn_r _ [10] (by decide +kernel) (by decide +kernel)
set_option maxRecDepth 20000 in
theorem gX5_at_X5_isWithin : GoodIn wsX5_at (va_wsS RX5 57 yX5_isWithin wsX5_isWithin) := goodIn_app (goodIn_of _ (by decide +kernel)) ggX5_at_X5_isWithin
set_option maxRecDepth 20000 in
theorem ggX5_at_X4_numberAt : GoodIn wsX5_at wsX4_numberAt := goodIn_r _ [20, 21, 29, 30, 31, 32] (by decide +kernel) (by decide +kernel)
set_option maxRecDepth 20000 in
theorem gX5_at_X4_numberAt : GoodIn wsX5_at (wsV RX5 85 RX4 yX4_numberAt wsX4_numberAt) := goodIn_app (goodIn_of _ (by decide +kernel)) ggX5_at_X4_numberAt
theorem dX5_at_0 : decode cX5_at 0 = .ok (.iload_n 1, 1) := by decide +kernel
theorem dX5_at_1 : decode cX5_at 1 = .ok (.invokestatic 52, 3) := by decide +kernel
theorem dX5_at_4 : decode cX5_at 4 = .ok (.ifCond .ne 6, 3) := by decide +kernel
theorem dX5_at_7 : decode cX5_at 7 = .ok (.ldc 56, 2) := by decide +kernel
theorem dX5_at_9 : decode cX5_at 9 = .ok (.ireturn, 1) := by decide +kernel
theorem dX5_at_10 : decode cX5_at 10 = .ok (.iload_n 2, 1) := by decide +kernel
theorem dX5_at_11 : decode cX5_at 11 = .ok (.iconst 0, 1) := by decide +kernel
theorem dX5_at_12 : decode cX5_at 12 = .ok (.aload_n 0, 1) := by decide +kernel
theorem dX5_at_13 : decode cX5_at 13 = .ok (.getfield 10, 3) := by decide +kernel
theorem dX5_at_16 : decode cX5_at 16 = .ok (.iload_n 1, 1) := by decide +kernel
theorem dX5_at_17 : decode cX5_at 17 = .ok (.invokevirtual 62, 3) := by decide +kernel
theorem dX5_at_20 : decode cX5_at 20 = .ok (.iconst 1, 1) := by decide +kernel
theorem dX5_at_21 : decode cX5_at 21 = .ok (.isub, 1) := by decide +kernel
theorem dX5_at_22 : decode cX5_at 22 = .ok (.invokestatic 57, 3) := by decide +kernel
theorem dX5_at_25 : decode cX5_at 25 = .ok (.ifCond .ne 6, 3) := by decide +kernel
theorem dX5_at_28 : decode cX5_at 28 = .ok (.ldc 61, 2) := by decide +kernel
theorem dX5_at_30 : decode cX5_at 30 = .ok (.ireturn, 1) := by decide +kernel
theorem dX5_at_31 : decode cX5_at 31 = .ok (.aload_n 0, 1) := by decide +kernel
theorem dX5_at_32 : decode cX5_at 32 = .ok (.getfield 10, 3) := by decide +kernel
theorem dX5_at_35 : decode cX5_at 35 = .ok (.iload_n 1, 1) := by decide +kernel
theorem dX5_at_36 : decode cX5_at 36 = .ok (.iload_n 2, 1) := by decide +kernel
theorem dX5_at_37 : decode cX5_at 37 = .ok (.invokevirtual 85, 3) := by decide +kernel
theorem dX5_at_40 : decode cX5_at 40 = .ok (.ireturn, 1) := by decide +kernel
set_option maxRecDepth 20000 in
theorem ggX5_share_X5_isWindow : GoodIn wsX5_share wsX5_isWindow := goodIn_r _ [9, 4, 10, 11, 8, 12, 13, 14, 15, 16, 17, 18, 19, 20, 21, 45, 46, 47, 48, 49, 50, 51, 52, 53, 54, 55] (by decide +kernel) (by decide +kernel)
set_option maxRecDepth 20000 in
theorem gX5_share_X5_isWindow : GoodIn wsX5_share (wsV RX5 168 RX5 yX5_isWindow wsX5_isWindow) := goodIn_app (goodIn_of _ (by decide +kernel)) ggX5_share_X5_isWindow
set_option maxRecDepth 20000 in
theorem ggX5_share_X5_isWithin : GoodIn wsX5_share wsX5_isWithin := goodIn_r _ [15] (by decide +kernel) (by decide +kernel)
set_option maxRecDepth 20000 in
theorem gX5_share_X5_isWithin : GoodIn wsX5_share (va_wsS RX5 57 yX5_isWithin wsX5_isWithin) := goodIn_app (goodIn_of _ (by decide +kernel)) ggX5_share_X5_isWithin
set_option maxRecDepth 20000 in
theorem ggX5_share_X3_shareIn : GoodIn wsX5_share wsX3_shareIn := goodIn_r _ [26, 27, 28, 29, 25, 30, 31, 32, 33, 34, 19, 35, 36, 37, 38, 39, 40, 41, 42, 43, 44, 56, 57, 58, 52, 53, 54, 55] (by decide +kernel) (by decide +kernel)
set_option maxRecDepth 20000 in
theorem gX5_share_X3_shareIn : GoodIn wsX5_share (wsV RX5 172 RX3 yX3_shareIn wsX3_shareIn) := goodIn_app (goodIn_of _ (by decide +kernel)) ggX5_share_X3_shareIn
theorem dX5_share_0 : decode cX5_share 0 = .ok (.aload_n 0, 1) := by decide +kernel
theorem dX5_share_1 : decode cX5_share 1 = .ok (.iload_n 1, 1) := by decide +kernel
theorem dX5_share_2 : decode cX5_share 2 = .ok (.iload_n 2, 1) := by decide +kernel
theorem dX5_share_3 : decode cX5_share 3 = .ok (.invokevirtual 168, 3) := by decide +kernel
theorem dX5_share_6 : decode cX5_share 6 = .ok (.ifCond .ne 6, 3) := by decide +kernel
theorem dX5_share_9 : decode cX5_share 9 = .ok (.ldc 56, 2) := by decide +kernel
theorem dX5_share_11 : decode cX5_share 11 = .ok (.ireturn, 1) := by decide +kernel
theorem dX5_share_12 : decode cX5_share 12 = .ok (.iload_n 3, 1) := by decide +kernel
theorem dX5_share_13 : decode cX5_share 13 = .ok (.iconst 0, 1) := by decide +kernel
theorem dX5_share_14 : decode cX5_share 14 = .ok (.bipush 7, 2) := by decide +kernel
theorem dX5_share_16 : decode cX5_share 16 = .ok (.invokestatic 57, 3) := by decide +kernel
theorem dX5_share_19 : decode cX5_share 19 = .ok (.ifCond .ne 6, 3) := by decide +kernel
theorem dX5_share_22 : decode cX5_share 22 = .ok (.ldc 61, 2) := by decide +kernel
theorem dX5_share_24 : decode cX5_share 24 = .ok (.ireturn, 1) := by decide +kernel
theorem dX5_share_25 : decode cX5_share 25 = .ok (.aload_n 0, 1) := by decide +kernel
theorem dX5_share_26 : decode cX5_share 26 = .ok (.getfield 30, 3) := by decide +kernel
theorem dX5_share_29 : decode cX5_share 29 = .ok (.aload_n 0, 1) := by decide +kernel
theorem dX5_share_30 : decode cX5_share 30 = .ok (.getfield 10, 3) := by decide +kernel
theorem dX5_share_33 : decode cX5_share 33 = .ok (.iload_n 1, 1) := by decide +kernel
theorem dX5_share_34 : decode cX5_share 34 = .ok (.iload_n 2, 1) := by decide +kernel
theorem dX5_share_35 : decode cX5_share 35 = .ok (.iload_n 3, 1) := by decide +kernel
theorem dX5_share_36 : decode cX5_share 36 = .ok (.invokevirtual 172, 3) := by decide +kernel
theorem dX5_share_39 : decode cX5_share 39 = .ok (.ireturn, 1) := by decide +kernel
set_option maxRecDepth 20000 in
theorem ggX5_peak_X5_isWindow : GoodIn wsX5_peak wsX5_isWindow := goodIn_r _ [7, 8, 9, 10, 6, 11, 12, 13, 14, 15, 16, 17, 18, 19, 20, 130, 131, 132, 133, 134, 135, 136, 137, 138, 139, 140] (by decide +kernel) (by decide +kernel)
set_option maxRecDepth 20000 in
theorem gX5_peak_X5_isWindow : GoodIn wsX5_peak (wsV RX5 168 RX5 yX5_isWindow wsX5_isWindow) := goodIn_app (goodIn_of _ (by decide +kernel)) ggX5_peak_X5_isWindow
set_option maxRecDepth 20000 in
theorem ggX5_peak_X5_refresh : GoodIn wsX5_peak wsX5_refresh := goodIn_r _ [24, 25, 2, 8, 26, 27, 28, 29, 30, 31, 32, 33, 34, 16, 17, 18, 19, 20, 35, 36, 37, 38, 39, 40, 41, 42, 43, 44, 45, 46, 47, 48, 49, 50, 51, 52, 53, 54, 55, 56, 57, 58, 59, 60, 61, 62, 63, 64, 65, 66, 67, 68, 69, 70, 71, 72, 73, 74, 75, 76, 77, 78, 79, 80, 81, 82, 83, 84, 85, 86, 87, 88, 89, 90, 91, 92, 93, 94, 95, 96, 97, 98, 99, 100, 101, 102, 103, 104, 105, 106, 107, 108, 109, 110, 111, 112, 113, 114, 115, 116, 117, 118, 119, 120, 121, 122, 123, 124, 125, 126, 127, 128, 130, 131, 132, 133, 134, 135, 136, 141, 142, 143, 137, 138, 139, 140, 144, 145, 146, 147, 148, 149, 150, 151, 152, 153] (by decide +kernel) (by decide +kernel)
set_option maxRecDepth 20000 in
theorem gX5_peak_X5_refresh : GoodIn wsX5_peak (wsV RX5 116 RX5 yX5_refresh wsX5_refresh) := goodIn_app (goodIn_of _ (by decide +kernel)) ggX5_peak_X5_refresh
set_option maxRecDepth 20000 in
theorem ggX5_peak_X3_peakOf : GoodIn wsX5_peak wsX3_peakOf := goodIn_r _ [84, 33, 141, 142, 143] (by decide +kernel) (by decide +kernel)
set_option maxRecDepth 20000 in
theorem gX5_peak_X3_peakOf : GoodIn wsX5_peak (wsV RX5 176 RX3 yX3_peakOf wsX3_peakOf) := goodIn_app (goodIn_of _ (by decide +kernel)) ggX5_peak_X3_peakOf
theorem dX5_peak_0 : decode cX5_peak 0 = .ok (.aload_n 0, 1) := by decide +kernel
theorem dX5_peak_1 : decode cX5_peak 1 = .ok (.iload_n 1, 1) := by decide +kernel
theorem dX5_peak_2 : decode cX5_peak 2 = .ok (.iload_n 2, 1) := by decide +kernel
theorem dX5_peak_3 : decode cX5_peak 3 = .ok (.invokevirtual 168, 3) := by decide +kernel
theorem dX5_peak_6 : decode cX5_peak 6 = .ok (.ifCond .ne 6, 3) := by decide +kernel
theorem dX5_peak_9 : decode cX5_peak 9 = .ok (.ldc 56, 2) := by decide +kernel
theorem dX5_peak_11 : decode cX5_peak 11 = .ok (.ireturn, 1) := by decide +kernel
theorem dX5_peak_12 : decode cX5_peak 12 = .ok (.aload_n 0, 1) := by decide +kernel
theorem dX5_peak_13 : decode cX5_peak 13 = .ok (.invokevirtual 116, 3) := by decide +kernel
theorem dX5_peak_16 : decode cX5_peak 16 = .ok (.aload_n 0, 1) := by decide +kernel
theorem dX5_peak_17 : decode cX5_peak 17 = .ok (.getfield 30, 3) := by decide +kernel
theorem dX5_peak_20 : decode cX5_peak 20 = .ok (.iload_n 1, 1) := by decide +kernel
theorem dX5_peak_21 : decode cX5_peak 21 = .ok (.iload_n 2, 1) := by decide +kernel
theorem dX5_peak_22 : decode cX5_peak 22 = .ok (.invokevirtual 176, 3) := by decide +kernel
theorem dX5_peak_25 : decode cX5_peak 25 = .ok (.ireturn, 1) := by decide +kernel
set_option maxRecDepth 20000 in
theorem ggX5_key_X5_isWindow : GoodIn wsX5_key wsX5_isWindow := goodIn_r _ [8, 3, 9, 10, 7, 11, 12, 13, 14, 15, 16, 17, 18, 19, 20, 130, 131, 132, 133, 134, 135, 136, 137, 138, 139, 140] (by decide +kernel) (by decide +kernel)
set_option maxRecDepth 20000 in
theorem gX5_key_X5_isWindow : GoodIn wsX5_key (wsV RX5 168 RX5 yX5_isWindow wsX5_isWindow) := goodIn_app (goodIn_of _ (by decide +kernel)) ggX5_key_X5_isWindow
set_option maxRecDepth 20000 in
theorem ggX5_key_X5_refresh : GoodIn wsX5_key wsX5_refresh := goodIn_r _ [24, 25, 2, 3, 26, 27, 28, 29, 30, 31, 32, 33, 34, 16, 17, 18, 19, 20, 35, 36, 37, 38, 39, 40, 41, 42, 43, 44, 45, 46, 47, 48, 49, 50, 51, 52, 53, 54, 55, 56, 57, 58, 59, 60, 61, 62, 63, 64, 65, 66, 67, 68, 69, 70, 71, 72, 73, 74, 75, 76, 77, 78, 79, 80, 81, 82, 83, 84, 85, 86, 87, 88, 89, 90, 91, 92, 93, 94, 95, 96, 97, 98, 99, 100, 101, 102, 103, 104, 105, 106, 107, 108, 109, 110, 111, 112, 113, 114, 115, 116, 117, 118, 119, 120, 121, 122, 123, 124, 125, 126, 127, 128, 130, 131, 132, 133, 134, 135, 136, 141, 142, 143, 137, 138, 139, 140, 144, 145, 146, 147, 148, 149, 150, 151, 152, 153] (by decide +kernel) (by decide +kernel)
set_option maxRecDepth 20000 in
theorem gX5_key_X5_refresh : GoodIn wsX5_key (wsV RX5 116 RX5 yX5_refresh wsX5_refresh) := goodIn_app (goodIn_of _ (by decide +kernel)) ggX5_key_X5_refresh
set_option maxRecDepth 20000 in
theorem ggX5_key_X4_reach : GoodIn wsX5_key wsX4_reach := goodIn_r _ [65, 66, 137, 138, 139, 140] (by decide +kernel) (by decide +kernel)
set_option maxRecDepth 20000 in
theorem gX5_key_X4_reach : GoodIn wsX5_key (wsV RX5 122 RX4 yX4_reach wsX4_reach) := goodIn_app (goodIn_of _ (by decide +kernel)) ggX5_key_X4_reach
set_option maxRecDepth 20000 in
theorem ggX5_key_X3_keyOf : GoodIn wsX5_key wsX3_keyOf := goodIn_r _ [80, 81, 82, 83, 31, 84, 33, 141, 142, 143] (by decide +kernel) (by decide +kernel)
set_option maxRecDepth 20000 in
theorem gX5_key_X3_keyOf : GoodIn wsX5_key (wsV RX5 179 RX3 yX3_keyOf wsX3_keyOf) := goodIn_app (goodIn_of _ (by decide +kernel)) ggX5_key_X3_keyOf
theorem dX5_key_0 : decode cX5_key 0 = .ok (.aload_n 0, 1) := by decide +kernel
theorem dX5_key_1 : decode cX5_key 1 = .ok (.iload_n 1, 1) := by decide +kernel
theorem dX5_key_2 : decode cX5_key 2 = .ok (.iload_n 2, 1) := by decide +kernel
theorem dX5_key_3 : decode cX5_key 3 = .ok (.invokevirtual 168, 3) := by decide +kernel
theorem dX5_key_6 : decode cX5_key 6 = .ok (.ifCond .eq 12, 3) := by decide +kernel
theorem dX5_key_9 : decode cX5_key 9 = .ok (.aload_n 0, 1) := by decide +kernel
theorem dX5_key_10 : decode cX5_key 10 = .ok (.iload_n 1, 1) := by decide +kernel
theorem dX5_key_11 : decode cX5_key 11 = .ok (.iload_n 3, 1) := by decide +kernel
theorem dX5_key_12 : decode cX5_key 12 = .ok (.invokevirtual 168, 3) := by decide +kernel
theorem dX5_key_15 : decode cX5_key 15 = .ok (.ifCond .ne 6, 3) := by decide +kernel
theorem dX5_key_18 : decode cX5_key 18 = .ok (.ldc 56, 2) := by decide +kernel
theorem dX5_key_20 : decode cX5_key 20 = .ok (.ireturn, 1) := by decide +kernel
theorem dX5_key_21 : decode cX5_key 21 = .ok (.aload_n 0, 1) := by decide +kernel
theorem dX5_key_22 : decode cX5_key 22 = .ok (.invokevirtual 116, 3) := by decide +kernel
theorem dX5_key_25 : decode cX5_key 25 = .ok (.aload_n 0, 1) := by decide +kernel
theorem dX5_key_26 : decode cX5_key 26 = .ok (.getfield 30, 3) := by decide +kernel
theorem dX5_key_29 : decode cX5_key 29 = .ok (.iload_n 1, 1) := by decide +kernel
theorem dX5_key_30 : decode cX5_key 30 = .ok (.iload_n 2, 1) := by decide +kernel
theorem dX5_key_31 : decode cX5_key 31 = .ok (.iload_n 3, 1) := by decide +kernel
theorem dX5_key_32 : decode cX5_key 32 = .ok (.aload_n 0, 1) := by decide +kernel
theorem dX5_key_33 : decode cX5_key 33 = .ok (.getfield 10, 3) := by decide +kernel
theorem dX5_key_36 : decode cX5_key 36 = .ok (.invokevirtual 122, 3) := by decide +kernel
theorem dX5_key_39 : decode cX5_key 39 = .ok (.invokevirtual 179, 3) := by decide +kernel
theorem dX5_key_42 : decode cX5_key 42 = .ok (.ireturn, 1) := by decide +kernel
set_option maxRecDepth 20000 in
theorem ggX5_keyAt_X5_refresh : GoodIn wsX5_keyAt wsX5_refresh := goodIn_r _ [7, 8, 9, 10, 2, 11, 12, 13, 14, 15, 16, 17, 18, 19, 20, 21, 22, 23, 24, 25, 26, 27, 28, 29, 30, 31, 32, 33, 34, 35, 36, 37, 38, 39, 40, 41, 42, 43, 44, 45, 46, 47, 48, 49, 50, 51, 52, 53, 54, 55, 56, 57, 58, 59, 60, 61, 62, 63, 64, 65, 66, 67, 68, 69, 70, 71, 72, 73, 74, 75, 76, 77, 78, 79, 80, 81, 82, 83, 84, 85, 86, 87, 88, 89, 90, 91, 92, 93, 94, 95, 96, 97, 98, 99, 100, 101, 102, 103, 104, 105, 106, 107, 108, 109, 110, 111, 112, 113, 114, 115, 116, 117, 122, 123, 124, 125, 126, 127, 128, 129, 130, 131, 132, 133, 134, 135, 136, 137, 138, 139, 140, 141, 142, 143, 144, 145] (by decide +kernel) (by decide +kernel)
set_option maxRecDepth 20000 in
theorem gX5_keyAt_X5_refresh : GoodIn wsX5_keyAt (wsV RX5 116 RX5 yX5_refresh wsX5_refresh) := goodIn_app (goodIn_of _ (by decide +kernel)) ggX5_keyAt_X5_refresh
set_option maxRecDepth 20000 in
theorem ggX5_keyAt_X1_keyByRise : GoodIn wsX5_keyAt wsX1_keyByRise := goodIn_r _ [121, 112, 105, 106, 59, 107, 79, 136, 137, 138, 139] (by decide +kernel) (by decide +kernel)
set_option maxRecDepth 20000 in
theorem gX5_keyAt_X1_keyByRise : GoodIn wsX5_keyAt (wsV RX5 183 RX1 yX1_keyByRise wsX1_keyByRise) := goodIn_app (goodIn_of _ (by decide +kernel)) ggX5_keyAt_X1_keyByRise
theorem dX5_keyAt_0 : decode cX5_keyAt 0 = .ok (.iload_n 1, 1) := by decide +kernel
theorem dX5_keyAt_1 : decode cX5_keyAt 1 = .ok (.ifCond .ge 6, 3) := by decide +kernel
theorem dX5_keyAt_4 : decode cX5_keyAt 4 = .ok (.ldc 61, 2) := by decide +kernel
theorem dX5_keyAt_6 : decode cX5_keyAt 6 = .ok (.ireturn, 1) := by decide +kernel
theorem dX5_keyAt_7 : decode cX5_keyAt 7 = .ok (.aload_n 0, 1) := by decide +kernel
theorem dX5_keyAt_8 : decode cX5_keyAt 8 = .ok (.invokevirtual 116, 3) := by decide +kernel
theorem dX5_keyAt_11 : decode cX5_keyAt 11 = .ok (.aload_n 0, 1) := by decide +kernel
theorem dX5_keyAt_12 : decode cX5_keyAt 12 = .ok (.getfield 37, 3) := by decide +kernel
theorem dX5_keyAt_15 : decode cX5_keyAt 15 = .ok (.iload_n 1, 1) := by decide +kernel
theorem dX5_keyAt_16 : decode cX5_keyAt 16 = .ok (.invokevirtual 183, 3) := by decide +kernel
theorem dX5_keyAt_19 : decode cX5_keyAt 19 = .ok (.ireturn, 1) := by decide +kernel
set_option maxRecDepth 20000 in
theorem ggX5_places_X5_isWithin : GoodIn wsX5_places wsX5_isWithin := goodIn_r _ [6] (by decide +kernel) (by decide +kernel)
set_option maxRecDepth 20000 in
theorem gX5_places_X5_isWithin : GoodIn wsX5_places (va_wsS RX5 57 yX5_isWithin wsX5_isWithin) := goodIn_app (goodIn_of _ (by decide +kernel)) ggX5_places_X5_isWithin
set_option maxRecDepth 20000 in
theorem ggX5_places_X5_refresh : GoodIn wsX5_places wsX5_refresh := goodIn_r _ [10, 11, 12, 13, 2, 14, 15, 16, 17, 18, 19, 20, 21, 22, 23, 24, 25, 26, 27, 28, 29, 30, 31, 32, 33, 34, 35, 36, 37, 38, 39, 40, 41, 42, 43, 44, 45, 46, 47, 48, 49, 50, 51, 52, 53, 54, 55, 56, 57, 58, 59, 60, 61, 62, 63, 64, 65, 66, 67, 68, 69, 70, 71, 72, 73, 74, 75, 76, 77, 78, 79, 80, 81, 82, 83, 84, 85, 86, 87, 88, 89, 90, 91, 92, 93, 94, 95, 96, 97, 98, 99, 100, 101, 102, 103, 104, 105, 106, 107, 108, 109, 110, 111, 112, 113, 114, 115, 116, 117, 118, 119, 120, 122, 123, 124, 125, 126, 127, 128, 129, 130, 131, 132, 133, 134, 135, 136, 137, 138, 139, 140, 141, 142, 143, 144, 145] (by decide +kernel) (by decide +kernel)
set_option maxRecDepth 20000 in
theorem gX5_places_X5_refresh : GoodIn wsX5_places (wsV RX5 116 RX5 yX5_refresh wsX5_refresh) := goodIn_app (goodIn_of _ (by decide +kernel)) ggX5_places_X5_refresh
set_option maxRecDepth 20000 in
theorem ggX5_places_X1_placesOf : GoodIn wsX5_places wsX1_placesOf := goodIn_r _ [110, 82, 136, 137, 138, 139] (by decide +kernel) (by decide +kernel)
set_option maxRecDepth 20000 in
theorem gX5_places_X1_placesOf : GoodIn wsX5_places (wsV RX5 186 RX1 yX1_placesOf wsX1_placesOf) := goodIn_app (goodIn_of _ (by decide +kernel)) ggX5_places_X1_placesOf
theorem dX5_places_0 : decode cX5_places 0 = .ok (.iload_n 1, 1) := by decide +kernel
theorem dX5_places_1 : decode cX5_places 1 = .ok (.bipush 64, 2) := by decide +kernel
theorem dX5_places_3 : decode cX5_places 3 = .ok (.sipush 383, 3) := by decide +kernel
theorem dX5_places_6 : decode cX5_places 6 = .ok (.invokestatic 57, 3) := by decide +kernel
theorem dX5_places_9 : decode cX5_places 9 = .ok (.ifCond .ne 6, 3) := by decide +kernel
theorem dX5_places_12 : decode cX5_places 12 = .ok (.ldc 61, 2) := by decide +kernel
theorem dX5_places_14 : decode cX5_places 14 = .ok (.ireturn, 1) := by decide +kernel
theorem dX5_places_15 : decode cX5_places 15 = .ok (.aload_n 0, 1) := by decide +kernel
theorem dX5_places_16 : decode cX5_places 16 = .ok (.invokevirtual 116, 3) := by decide +kernel
theorem dX5_places_19 : decode cX5_places 19 = .ok (.aload_n 0, 1) := by decide +kernel
theorem dX5_places_20 : decode cX5_places 20 = .ok (.getfield 37, 3) := by decide +kernel
end
section
theorem dX5_places_23 : decode cX5_places 23 = .ok (.iload_n 1, 1) := by decide +kernel
theorem dX5_places_24 : decode cX5_places 24 = .ok (.invokevirtual 186, 3) := by decide +kernel
theorem dX5_places_27 : decode cX5_places 27 = .ok (.ireturn, 1) := by decide +kernel
set_option maxRecDepth 20000 in
theorem ggX5_place_X5_isWithin : GoodIn wsX5_place wsX5_isWithin := goodIn_r _ [6] (by decide +kernel) (by decide +kernel)
set_option maxRecDepth 20000 in
theorem gX5_place_X5_isWithin : GoodIn wsX5_place (va_wsS RX5 57 yX5_isWithin wsX5_isWithin) := goodIn_app (goodIn_of _ (by decide +kernel)) ggX5_place_X5_isWithin
set_option maxRecDepth 20000 in
theorem ggX5_place_X5_refresh : GoodIn wsX5_place wsX5_refresh := goodIn_r _ [10, 11, 12, 13, 2, 14, 15, 16, 17, 18, 19, 20, 21, 22, 23, 24, 25, 26, 27, 28, 29, 30, 31, 32, 33, 34, 35, 36, 37, 38, 39, 40, 41, 42, 43, 44, 45, 46, 47, 48, 49, 50, 51, 52, 53, 54, 55, 56, 57, 58, 59, 60, 61, 62, 63, 64, 65, 66, 67, 68, 69, 70, 71, 72, 73, 74, 75, 76, 77, 78, 79, 80, 81, 82, 83, 84, 85, 86, 87, 88, 89, 90, 91, 92, 93, 94, 95, 96, 97, 98, 99, 100, 101, 102, 103, 104, 105, 106, 107, 108, 109, 110, 111, 112, 113, 114, 115, 116, 117, 118, 119, 120, 122, 123, 124, 125, 126, 127, 128, 129, 130, 131, 132, 133, 134, 135, 136, 137, 138, 139, 140, 141, 142, 143, 144, 145] (by decide +kernel) (by decide +kernel)
set_option maxRecDepth 20000 in
theorem gX5_place_X5_refresh : GoodIn wsX5_place (wsV RX5 116 RX5 yX5_refresh wsX5_refresh) := goodIn_app (goodIn_of _ (by decide +kernel)) ggX5_place_X5_refresh
set_option maxRecDepth 20000 in
theorem ggX5_place_X1_placeOf : GoodIn wsX5_place wsX1_placeOf := goodIn_r _ [114, 87, 82, 115, 108, 109, 62, 110, 136, 137, 138, 139] (by decide +kernel) (by decide +kernel)
set_option maxRecDepth 20000 in
theorem gX5_place_X1_placeOf : GoodIn wsX5_place (wsV RX5 189 RX1 yX1_placeOf wsX1_placeOf) := goodIn_app (goodIn_of _ (by decide +kernel)) ggX5_place_X1_placeOf
theorem dX5_place_0 : decode cX5_place 0 = .ok (.iload_n 1, 1) := by decide +kernel
theorem dX5_place_1 : decode cX5_place 1 = .ok (.bipush 64, 2) := by decide +kernel
theorem dX5_place_3 : decode cX5_place 3 = .ok (.sipush 383, 3) := by decide +kernel
theorem dX5_place_6 : decode cX5_place 6 = .ok (.invokestatic 57, 3) := by decide +kernel
theorem dX5_place_9 : decode cX5_place 9 = .ok (.ifCond .eq 7, 3) := by decide +kernel
theorem dX5_place_12 : decode cX5_place 12 = .ok (.iload_n 2, 1) := by decide +kernel
theorem dX5_place_13 : decode cX5_place 13 = .ok (.ifCond .ge 6, 3) := by decide +kernel
theorem dX5_place_16 : decode cX5_place 16 = .ok (.ldc 61, 2) := by decide +kernel
theorem dX5_place_18 : decode cX5_place 18 = .ok (.ireturn, 1) := by decide +kernel
theorem dX5_place_19 : decode cX5_place 19 = .ok (.aload_n 0, 1) := by decide +kernel
theorem dX5_place_20 : decode cX5_place 20 = .ok (.invokevirtual 116, 3) := by decide +kernel
theorem dX5_place_23 : decode cX5_place 23 = .ok (.aload_n 0, 1) := by decide +kernel
theorem dX5_place_24 : decode cX5_place 24 = .ok (.getfield 37, 3) := by decide +kernel
theorem dX5_place_27 : decode cX5_place 27 = .ok (.iload_n 1, 1) := by decide +kernel
theorem dX5_place_28 : decode cX5_place 28 = .ok (.iload_n 2, 1) := by decide +kernel
theorem dX5_place_29 : decode cX5_place 29 = .ok (.invokevirtual 189, 3) := by decide +kernel
theorem dX5_place_32 : decode cX5_place 32 = .ok (.ireturn, 1) := by decide +kernel
set_option maxRecDepth 20000 in
theorem ggX5_votes_X5_isPiece : GoodIn wsX5_votes wsX5_isPiece := goodIn_r _ [7, 8, 9, 6, 10] (by decide +kernel) (by decide +kernel)
set_option maxRecDepth 20000 in
theorem gX5_votes_X5_isPiece : GoodIn wsX5_votes (va_wsS RX5 92 yX5_isPiece wsX5_isPiece) := goodIn_app (goodIn_of _ (by decide +kernel)) ggX5_votes_X5_isPiece
set_option maxRecDepth 20000 in
theorem ggX5_votes_X5_isWithin : GoodIn wsX5_votes wsX5_isWithin := goodIn_r _ [10] (by decide +kernel) (by decide +kernel)
set_option maxRecDepth 20000 in
theorem gX5_votes_X5_isWithin : GoodIn wsX5_votes (va_wsS RX5 57 yX5_isWithin wsX5_isWithin) := goodIn_app (goodIn_of _ (by decide +kernel)) ggX5_votes_X5_isWithin
set_option maxRecDepth 20000 in
theorem ggX5_votes_X5_refresh : GoodIn wsX5_votes wsX5_refresh := goodIn_r _ [14, 15, 16, 17, 18, 3, 19, 20, 21, 22, 23, 24, 25, 26, 27, 28, 29, 30, 31, 32, 33, 34, 35, 36, 37, 38, 39, 40, 41, 42, 43, 44, 45, 46, 47, 48, 49, 50, 51, 52, 53, 54, 55, 56, 57, 58, 59, 60, 61, 62, 63, 64, 65, 66, 67, 68, 69, 70, 71, 72, 73, 74, 75, 76, 77, 78, 79, 80, 81, 82, 83, 84, 85, 86, 87, 88, 89, 90, 91, 92, 93, 94, 95, 96, 97, 98, 99, 100, 101, 102, 103, 104, 105, 106, 107, 108, 109, 110, 111, 112, 113, 114, 115, 116, 117, 118, 119, 120, 121, 122, 123, 124, 129, 130, 131, 132, 133, 134, 135, 136, 137, 138, 139, 140, 141, 142, 143, 144, 145, 146, 147, 148, 149, 150, 151, 152] (by decide +kernel) (by decide +kernel)
set_option maxRecDepth 20000 in
theorem gX5_votes_X5_refresh : GoodIn wsX5_votes (wsV RX5 116 RX5 yX5_refresh wsX5_refresh) := goodIn_app (goodIn_of _ (by decide +kernel)) ggX5_votes_X5_refresh
set_option maxRecDepth 20000 in
theorem ggX5_votes_X0_votesFor : GoodIn wsX5_votes wsX0_votesFor := goodIn_r _ [128, 102, 147, 148, 149, 150, 151, 152] (by decide +kernel) (by decide +kernel)
set_option maxRecDepth 20000 in
theorem gX5_votes_X0_votesFor : GoodIn wsX5_votes (wsV RX5 192 RX0 yX0_votesFor wsX0_votesFor) := goodIn_app (goodIn_of _ (by decide +kernel)) ggX5_votes_X0_votesFor
theorem dX5_votes_0 : decode cX5_votes 0 = .ok (.iload_n 1, 1) := by decide +kernel
theorem dX5_votes_1 : decode cX5_votes 1 = .ok (.invokestatic 92, 3) := by decide +kernel
theorem dX5_votes_4 : decode cX5_votes 4 = .ok (.ifCond .ne 6, 3) := by decide +kernel
theorem dX5_votes_7 : decode cX5_votes 7 = .ok (.ldc 56, 2) := by decide +kernel
theorem dX5_votes_9 : decode cX5_votes 9 = .ok (.ireturn, 1) := by decide +kernel
theorem dX5_votes_10 : decode cX5_votes 10 = .ok (.iload_n 2, 1) := by decide +kernel
theorem dX5_votes_11 : decode cX5_votes 11 = .ok (.bipush (-15), 2) := by decide +kernel
theorem dX5_votes_13 : decode cX5_votes 13 = .ok (.bipush 15, 2) := by decide +kernel
theorem dX5_votes_15 : decode cX5_votes 15 = .ok (.invokestatic 57, 3) := by decide +kernel
theorem dX5_votes_18 : decode cX5_votes 18 = .ok (.ifCond .ne 6, 3) := by decide +kernel
theorem dX5_votes_21 : decode cX5_votes 21 = .ok (.ldc 61, 2) := by decide +kernel
theorem dX5_votes_23 : decode cX5_votes 23 = .ok (.ireturn, 1) := by decide +kernel
theorem dX5_votes_24 : decode cX5_votes 24 = .ok (.aload_n 0, 1) := by decide +kernel
theorem dX5_votes_25 : decode cX5_votes 25 = .ok (.invokevirtual 116, 3) := by decide +kernel
theorem dX5_votes_28 : decode cX5_votes 28 = .ok (.aload_n 0, 1) := by decide +kernel
theorem dX5_votes_29 : decode cX5_votes 29 = .ok (.getfield 44, 3) := by decide +kernel
theorem dX5_votes_32 : decode cX5_votes 32 = .ok (.iload_n 1, 1) := by decide +kernel
theorem dX5_votes_33 : decode cX5_votes 33 = .ok (.iload_n 2, 1) := by decide +kernel
theorem dX5_votes_34 : decode cX5_votes 34 = .ok (.invokevirtual 192, 3) := by decide +kernel
theorem dX5_votes_37 : decode cX5_votes 37 = .ok (.ireturn, 1) := by decide +kernel
set_option maxRecDepth 20000 in
theorem ggX5_rank_X5_isWithin : GoodIn wsX5_rank wsX5_isWithin := goodIn_r _ [6] (by decide +kernel) (by decide +kernel)
set_option maxRecDepth 20000 in
theorem gX5_rank_X5_isWithin : GoodIn wsX5_rank (va_wsS RX5 57 yX5_isWithin wsX5_isWithin) := goodIn_app (goodIn_of _ (by decide +kernel)) ggX5_rank_X5_isWithin
set_option maxRecDepth 20000 in
theorem ggX5_rank_X5_refresh : GoodIn wsX5_rank wsX5_refresh := goodIn_r _ [10, 11, 12, 13, 14, 2, 15, 16, 17, 18, 19, 20, 21, 22, 23, 24, 25, 26, 27, 28, 29, 30, 31, 32, 33, 34, 35, 36, 37, 38, 39, 40, 41, 42, 43, 44, 45, 46, 47, 48, 49, 50, 51, 52, 53, 54, 55, 56, 57, 58, 59, 60, 61, 62, 63, 64, 65, 66, 67, 68, 69, 70, 71, 72, 73, 74, 75, 76, 77, 78, 79, 80, 81, 82, 83, 84, 85, 86, 87, 88, 89, 90, 91, 92, 93, 94, 95, 96, 97, 98, 99, 100, 101, 102, 103, 104, 105, 106, 107, 108, 109, 110, 111, 112, 113, 114, 115, 116, 117, 118, 119, 120, 137, 138, 139, 140, 141, 142, 143, 144, 145, 146, 147, 148, 149, 150, 151, 152, 153, 154, 155, 156, 157, 158, 159, 160] (by decide +kernel) (by decide +kernel)
set_option maxRecDepth 20000 in
theorem gX5_rank_X5_refresh : GoodIn wsX5_rank (wsV RX5 116 RX5 yX5_refresh wsX5_refresh) := goodIn_app (goodIn_of _ (by decide +kernel)) ggX5_rank_X5_refresh
set_option maxRecDepth 20000 in
theorem ggX5_rank_X0_ranked : GoodIn wsX5_rank wsX0_ranked := goodIn_r _ [124, 99, 155, 156, 157, 158, 159, 160] (by decide +kernel) (by decide +kernel)
set_option maxRecDepth 20000 in
theorem gX5_rank_X0_ranked : GoodIn wsX5_rank (wsV RX5 149 RX0 yX0_ranked wsX0_ranked) := goodIn_app (goodIn_of _ (by decide +kernel)) ggX5_rank_X0_ranked
set_option maxRecDepth 20000 in
theorem ggX5_rank_X0_pieceOf : GoodIn wsX5_rank wsX0_pieceOf := goodIn_r _ [128, 99, 120, 155, 156, 157, 158, 159, 160] (by decide +kernel) (by decide +kernel)
set_option maxRecDepth 20000 in
theorem gX5_rank_X0_pieceOf : GoodIn wsX5_rank (wsV RX5 137 RX0 yX0_pieceOf wsX0_pieceOf) := goodIn_app (goodIn_of _ (by decide +kernel)) ggX5_rank_X0_pieceOf
set_option maxRecDepth 20000 in
theorem ggX5_rank_X0_offsetOf : GoodIn wsX5_rank wsX0_offsetOf := goodIn_r _ [132, 99, 120, 155, 156, 157, 158, 159, 160] (by decide +kernel) (by decide +kernel)
set_option maxRecDepth 20000 in
theorem gX5_rank_X0_offsetOf : GoodIn wsX5_rank (wsV RX5 140 RX0 yX0_offsetOf wsX0_offsetOf) := goodIn_app (goodIn_of _ (by decide +kernel)) ggX5_rank_X0_offsetOf
set_option maxRecDepth 20000 in
theorem ggX5_rank_X0_countOf : GoodIn wsX5_rank wsX0_countOf := goodIn_r _ [136, 99, 98, 120, 155, 156, 157, 158, 159, 160] (by decide +kernel) (by decide +kernel)
set_option maxRecDepth 20000 in
theorem gX5_rank_X0_countOf : GoodIn wsX5_rank (wsV RX5 143 RX0 yX0_countOf wsX0_countOf) := goodIn_app (goodIn_of _ (by decide +kernel)) ggX5_rank_X0_countOf
theorem dX5_rank_0 : decode cX5_rank 0 = .ok (.iload_n 1, 1) := by decide +kernel
theorem dX5_rank_1 : decode cX5_rank 1 = .ok (.ifCond .lt 12, 3) := by decide +kernel
theorem dX5_rank_4 : decode cX5_rank 4 = .ok (.iload_n 2, 1) := by decide +kernel
theorem dX5_rank_5 : decode cX5_rank 5 = .ok (.iconst 0, 1) := by decide +kernel
theorem dX5_rank_6 : decode cX5_rank 6 = .ok (.iconst 2, 1) := by decide +kernel
theorem dX5_rank_7 : decode cX5_rank 7 = .ok (.invokestatic 57, 3) := by decide +kernel
theorem dX5_rank_10 : decode cX5_rank 10 = .ok (.ifCond .ne 6, 3) := by decide +kernel
theorem dX5_rank_13 : decode cX5_rank 13 = .ok (.ldc 61, 2) := by decide +kernel
theorem dX5_rank_15 : decode cX5_rank 15 = .ok (.ireturn, 1) := by decide +kernel
theorem dX5_rank_16 : decode cX5_rank 16 = .ok (.aload_n 0, 1) := by decide +kernel
theorem dX5_rank_17 : decode cX5_rank 17 = .ok (.invokevirtual 116, 3) := by decide +kernel
theorem dX5_rank_20 : decode cX5_rank 20 = .ok (.iload_n 1, 1) := by decide +kernel
theorem dX5_rank_21 : decode cX5_rank 21 = .ok (.aload_n 0, 1) := by decide +kernel
theorem dX5_rank_22 : decode cX5_rank 22 = .ok (.getfield 44, 3) := by decide +kernel
theorem dX5_rank_25 : decode cX5_rank 25 = .ok (.invokevirtual 149, 3) := by decide +kernel
theorem dX5_rank_28 : decode cX5_rank 28 = .ok (.if_icmp .lt 5, 3) := by decide +kernel
theorem dX5_rank_31 : decode cX5_rank 31 = .ok (.iconst (-1), 1) := by decide +kernel
theorem dX5_rank_32 : decode cX5_rank 32 = .ok (.ireturn, 1) := by decide +kernel
theorem dX5_rank_33 : decode cX5_rank 33 = .ok (.iload_n 2, 1) := by decide +kernel
theorem dX5_rank_34 : decode cX5_rank 34 = .ok (.lookupswitch 47 #[(0, 26), (1, 35)], 26) := by decide +kernel
theorem dX5_rank_60 : decode cX5_rank 60 = .ok (.aload_n 0, 1) := by decide +kernel
theorem dX5_rank_61 : decode cX5_rank 61 = .ok (.getfield 44, 3) := by decide +kernel
theorem dX5_rank_64 : decode cX5_rank 64 = .ok (.iload_n 1, 1) := by decide +kernel
theorem dX5_rank_65 : decode cX5_rank 65 = .ok (.invokevirtual 137, 3) := by decide +kernel
theorem dX5_rank_68 : decode cX5_rank 68 = .ok (.ireturn, 1) := by decide +kernel
theorem dX5_rank_69 : decode cX5_rank 69 = .ok (.aload_n 0, 1) := by decide +kernel
theorem dX5_rank_70 : decode cX5_rank 70 = .ok (.getfield 44, 3) := by decide +kernel
theorem dX5_rank_73 : decode cX5_rank 73 = .ok (.iload_n 1, 1) := by decide +kernel
theorem dX5_rank_74 : decode cX5_rank 74 = .ok (.invokevirtual 140, 3) := by decide +kernel
theorem dX5_rank_77 : decode cX5_rank 77 = .ok (.bipush 100, 2) := by decide +kernel
theorem dX5_rank_79 : decode cX5_rank 79 = .ok (.iadd, 1) := by decide +kernel
theorem dX5_rank_80 : decode cX5_rank 80 = .ok (.ireturn, 1) := by decide +kernel
theorem dX5_rank_81 : decode cX5_rank 81 = .ok (.aload_n 0, 1) := by decide +kernel
theorem dX5_rank_82 : decode cX5_rank 82 = .ok (.getfield 44, 3) := by decide +kernel
theorem dX5_rank_85 : decode cX5_rank 85 = .ok (.iload_n 1, 1) := by decide +kernel
theorem dX5_rank_86 : decode cX5_rank 86 = .ok (.invokevirtual 143, 3) := by decide +kernel
theorem dX5_rank_89 : decode cX5_rank 89 = .ok (.ireturn, 1) := by decide +kernel
set_option maxRecDepth 20000 in
theorem ggX5_keep_X5_isWithin : GoodIn wsX5_keep wsX5_isWithin := goodIn_r _ [11] (by decide +kernel) (by decide +kernel)
set_option maxRecDepth 20000 in
theorem gX5_keep_X5_isWithin : GoodIn wsX5_keep (va_wsS RX5 57 yX5_isWithin wsX5_isWithin) := goodIn_app (goodIn_of _ (by decide +kernel)) ggX5_keep_X5_isWithin
set_option maxRecDepth 20000 in
theorem ggX5_keep_X4_init : GoodIn wsX5_keep wsX4_init := goodIn_r _ [14, 15, 16, 17, 18, 19, 20, 21, 22, 44, 45, 46, 47] (by decide +kernel) (by decide +kernel)
set_option maxRecDepth 20000 in
theorem gX5_keep_X4_init : GoodIn wsX5_keep (wsX4_init) := ggX5_keep_X4_init
set_option maxRecDepth 20000 in
theorem ggX5_keep_X4_become : GoodIn wsX5_keep wsX4_become := goodIn_r _ [26, 19, 27, 28, 29, 30, 20, 21, 22, 44, 45, 46, 47] (by decide +kernel) (by decide +kernel)
set_option maxRecDepth 20000 in
theorem gX5_keep_X4_become : GoodIn wsX5_keep (wsV RX5 195 RX4 yX4_become wsX4_become) := goodIn_app (goodIn_of _ (by decide +kernel)) ggX5_keep_X4_become
set_option maxRecDepth 20000 in
theorem ggX5_keep_X2_forget : GoodIn wsX5_keep wsX2_forget := goodIn_r _ [35, 36, 48, 49, 50, 51, 52, 53, 54] (by decide +kernel) (by decide +kernel)
set_option maxRecDepth 20000 in
theorem gX5_keep_X2_forget : GoodIn wsX5_keep (wsV RX5 198 RX2 yX2_forget wsX2_forget) := goodIn_app (goodIn_of _ (by decide +kernel)) ggX5_keep_X2_forget
theorem dX5_keep_0 : decode cX5_keep 0 = .ok (.iload_n 1, 1) := by decide +kernel
theorem dX5_keep_1 : decode cX5_keep 1 = .ok (.iconst 0, 1) := by decide +kernel
theorem dX5_keep_2 : decode cX5_keep 2 = .ok (.iconst 1, 1) := by decide +kernel
theorem dX5_keep_3 : decode cX5_keep 3 = .ok (.invokestatic 57, 3) := by decide +kernel
theorem dX5_keep_6 : decode cX5_keep 6 = .ok (.ifCond .ne 6, 3) := by decide +kernel
theorem dX5_keep_9 : decode cX5_keep 9 = .ok (.ldc 56, 2) := by decide +kernel
theorem dX5_keep_11 : decode cX5_keep 11 = .ok (.ireturn, 1) := by decide +kernel
theorem dX5_keep_12 : decode cX5_keep 12 = .ok (.aload_n 0, 1) := by decide +kernel
theorem dX5_keep_13 : decode cX5_keep 13 = .ok (.getfield 23, 3) := by decide +kernel
theorem dX5_keep_16 : decode cX5_keep 16 = .ok (.iload_n 1, 1) := by decide +kernel
theorem dX5_keep_17 : decode cX5_keep 17 = .ok (.aaload, 1) := by decide +kernel
theorem dX5_keep_18 : decode cX5_keep 18 = .ok (.astore_n 2, 1) := by decide +kernel
theorem dX5_keep_19 : decode cX5_keep 19 = .ok (.aload_n 2, 1) := by decide +kernel
theorem dX5_keep_20 : decode cX5_keep 20 = .ok (.ifnonnull 18, 3) := by decide +kernel
theorem dX5_keep_23 : decode cX5_keep 23 = .ok (.new 7, 3) := by decide +kernel
theorem dX5_keep_26 : decode cX5_keep 26 = .ok (.dup, 1) := by decide +kernel
theorem dX5_keep_27 : decode cX5_keep 27 = .ok (.invokespecial 9, 3) := by decide +kernel
theorem dX5_keep_30 : decode cX5_keep 30 = .ok (.astore_n 2, 1) := by decide +kernel
theorem dX5_keep_31 : decode cX5_keep 31 = .ok (.aload_n 0, 1) := by decide +kernel
theorem dX5_keep_32 : decode cX5_keep 32 = .ok (.getfield 23, 3) := by decide +kernel
theorem dX5_keep_35 : decode cX5_keep 35 = .ok (.iload_n 1, 1) := by decide +kernel
theorem dX5_keep_36 : decode cX5_keep 36 = .ok (.aload_n 2, 1) := by decide +kernel
theorem dX5_keep_37 : decode cX5_keep 37 = .ok (.aastore, 1) := by decide +kernel
theorem dX5_keep_38 : decode cX5_keep 38 = .ok (.aload_n 2, 1) := by decide +kernel
theorem dX5_keep_39 : decode cX5_keep 39 = .ok (.aload_n 0, 1) := by decide +kernel
theorem dX5_keep_40 : decode cX5_keep 40 = .ok (.getfield 10, 3) := by decide +kernel
theorem dX5_keep_43 : decode cX5_keep 43 = .ok (.invokevirtual 195, 3) := by decide +kernel
theorem dX5_keep_46 : decode cX5_keep 46 = .ok (.aload_n 0, 1) := by decide +kernel
theorem dX5_keep_47 : decode cX5_keep 47 = .ok (.getfield 19, 3) := by decide +kernel
theorem dX5_keep_50 : decode cX5_keep 50 = .ok (.invokevirtual 198, 3) := by decide +kernel
theorem dX5_keep_53 : decode cX5_keep 53 = .ok (.iconst 1, 1) := by decide +kernel
theorem dX5_keep_54 : decode cX5_keep 54 = .ok (.ireturn, 1) := by decide +kernel
set_option maxRecDepth 20000 in
theorem ggX5_goBack_X5_isWithin : GoodIn wsX5_goBack wsX5_isWithin := goodIn_r _ [10] (by decide +kernel) (by decide +kernel)
set_option maxRecDepth 20000 in
theorem gX5_goBack_X5_isWithin : GoodIn wsX5_goBack (va_wsS RX5 57 yX5_isWithin wsX5_isWithin) := goodIn_app (goodIn_of _ (by decide +kernel)) ggX5_goBack_X5_isWithin
set_option maxRecDepth 20000 in
theorem ggX5_goBack_X4_become : GoodIn wsX5_goBack wsX4_become := goodIn_r _ [15, 16, 17, 18, 19, 20, 21, 22, 23, 37, 38, 39, 40] (by decide +kernel) (by decide +kernel)
set_option maxRecDepth 20000 in
theorem gX5_goBack_X4_become : GoodIn wsX5_goBack (wsV RX5 195 RX4 yX4_become wsX4_become) := goodIn_app (goodIn_of _ (by decide +kernel)) ggX5_goBack_X4_become
set_option maxRecDepth 20000 in
theorem ggX5_goBack_X2_forget : GoodIn wsX5_goBack wsX2_forget := goodIn_r _ [28, 29, 41, 42, 43, 44, 45, 46, 47] (by decide +kernel) (by decide +kernel)
set_option maxRecDepth 20000 in
theorem gX5_goBack_X2_forget : GoodIn wsX5_goBack (wsV RX5 198 RX2 yX2_forget wsX2_forget) := goodIn_app (goodIn_of _ (by decide +kernel)) ggX5_goBack_X2_forget
theorem dX5_goBack_0 : decode cX5_goBack 0 = .ok (.iload_n 1, 1) := by decide +kernel
theorem dX5_goBack_1 : decode cX5_goBack 1 = .ok (.iconst 0, 1) := by decide +kernel
theorem dX5_goBack_2 : decode cX5_goBack 2 = .ok (.iconst 1, 1) := by decide +kernel
theorem dX5_goBack_3 : decode cX5_goBack 3 = .ok (.invokestatic 57, 3) := by decide +kernel
theorem dX5_goBack_6 : decode cX5_goBack 6 = .ok (.ifCond .ne 6, 3) := by decide +kernel
theorem dX5_goBack_9 : decode cX5_goBack 9 = .ok (.ldc 56, 2) := by decide +kernel
theorem dX5_goBack_11 : decode cX5_goBack 11 = .ok (.ireturn, 1) := by decide +kernel
theorem dX5_goBack_12 : decode cX5_goBack 12 = .ok (.aload_n 0, 1) := by decide +kernel
theorem dX5_goBack_13 : decode cX5_goBack 13 = .ok (.getfield 23, 3) := by decide +kernel
theorem dX5_goBack_16 : decode cX5_goBack 16 = .ok (.iload_n 1, 1) := by decide +kernel
theorem dX5_goBack_17 : decode cX5_goBack 17 = .ok (.aaload, 1) := by decide +kernel
theorem dX5_goBack_18 : decode cX5_goBack 18 = .ok (.astore_n 2, 1) := by decide +kernel
theorem dX5_goBack_19 : decode cX5_goBack 19 = .ok (.aload_n 2, 1) := by decide +kernel
theorem dX5_goBack_20 : decode cX5_goBack 20 = .ok (.ifnonnull 6, 3) := by decide +kernel
theorem dX5_goBack_23 : decode cX5_goBack 23 = .ok (.ldc 95, 2) := by decide +kernel
theorem dX5_goBack_25 : decode cX5_goBack 25 = .ok (.ireturn, 1) := by decide +kernel
theorem dX5_goBack_26 : decode cX5_goBack 26 = .ok (.aload_n 0, 1) := by decide +kernel
theorem dX5_goBack_27 : decode cX5_goBack 27 = .ok (.getfield 10, 3) := by decide +kernel
theorem dX5_goBack_30 : decode cX5_goBack 30 = .ok (.aload_n 2, 1) := by decide +kernel
theorem dX5_goBack_31 : decode cX5_goBack 31 = .ok (.invokevirtual 195, 3) := by decide +kernel
theorem dX5_goBack_34 : decode cX5_goBack 34 = .ok (.aload_n 0, 1) := by decide +kernel
theorem dX5_goBack_35 : decode cX5_goBack 35 = .ok (.getfield 19, 3) := by decide +kernel
theorem dX5_goBack_38 : decode cX5_goBack 38 = .ok (.invokevirtual 198, 3) := by decide +kernel
theorem dX5_goBack_41 : decode cX5_goBack 41 = .ok (.aload_n 0, 1) := by decide +kernel
theorem dX5_goBack_42 : decode cX5_goBack 42 = .ok (.iconst 0, 1) := by decide +kernel
theorem dX5_goBack_43 : decode cX5_goBack 43 = .ok (.putfield 48, 3) := by decide +kernel
theorem dX5_goBack_46 : decode cX5_goBack 46 = .ok (.iconst 1, 1) := by decide +kernel
theorem dX5_goBack_47 : decode cX5_goBack 47 = .ok (.ireturn, 1) := by decide +kernel
theorem dX5_isWithin_0 : decode cX5_isWithin 0 = .ok (.iload_n 0, 1) := by decide +kernel
theorem dX5_isWithin_1 : decode cX5_isWithin 1 = .ok (.iload_n 1, 1) := by decide +kernel
theorem dX5_isWithin_2 : decode cX5_isWithin 2 = .ok (.if_icmp .lt 12, 3) := by decide +kernel
theorem dX5_isWithin_5 : decode cX5_isWithin 5 = .ok (.iload_n 0, 1) := by decide +kernel
theorem dX5_isWithin_6 : decode cX5_isWithin 6 = .ok (.iload_n 2, 1) := by decide +kernel
theorem dX5_isWithin_7 : decode cX5_isWithin 7 = .ok (.if_icmp .gt 7, 3) := by decide +kernel
theorem dX5_isWithin_10 : decode cX5_isWithin 10 = .ok (.iconst 1, 1) := by decide +kernel
theorem dX5_isWithin_11 : decode cX5_isWithin 11 = .ok (.goto 4, 3) := by decide +kernel
theorem dX5_isWithin_14 : decode cX5_isWithin 14 = .ok (.iconst 0, 1) := by decide +kernel
theorem dX5_isWithin_15 : decode cX5_isWithin 15 = .ok (.ireturn, 1) := by decide +kernel
set_option maxRecDepth 20000 in
theorem ggX5_isPiece_X5_isWithin : GoodIn wsX5_isPiece wsX5_isWithin := goodIn_r _ [4] (by decide +kernel) (by decide +kernel)
set_option maxRecDepth 20000 in
theorem gX5_isPiece_X5_isWithin : GoodIn wsX5_isPiece (va_wsS RX5 57 yX5_isWithin wsX5_isWithin) := goodIn_app (goodIn_of _ (by decide +kernel)) ggX5_isPiece_X5_isWithin
theorem dX5_isPiece_0 : decode cX5_isPiece 0 = .ok (.iload_n 0, 1) := by decide +kernel
theorem dX5_isPiece_1 : decode cX5_isPiece 1 = .ok (.iconst 0, 1) := by decide +kernel
theorem dX5_isPiece_2 : decode cX5_isPiece 2 = .ok (.iconst 3, 1) := by decide +kernel
theorem dX5_isPiece_3 : decode cX5_isPiece 3 = .ok (.invokestatic 57, 3) := by decide +kernel
theorem dX5_isPiece_6 : decode cX5_isPiece 6 = .ok (.ireturn, 1) := by decide +kernel
set_option maxRecDepth 20000 in
theorem ggX5_isRow_X5_isWithin : GoodIn wsX5_isRow wsX5_isWithin := goodIn_r _ [4] (by decide +kernel) (by decide +kernel)
set_option maxRecDepth 20000 in
theorem gX5_isRow_X5_isWithin : GoodIn wsX5_isRow (va_wsS RX5 57 yX5_isWithin wsX5_isWithin) := goodIn_app (goodIn_of _ (by decide +kernel)) ggX5_isRow_X5_isWithin
theorem dX5_isRow_0 : decode cX5_isRow 0 = .ok (.iload_n 0, 1) := by decide +kernel
theorem dX5_isRow_1 : decode cX5_isRow 1 = .ok (.iconst 0, 1) := by decide +kernel
theorem dX5_isRow_2 : decode cX5_isRow 2 = .ok (.iconst 4, 1) := by decide +kernel
theorem dX5_isRow_3 : decode cX5_isRow 3 = .ok (.invokestatic 57, 3) := by decide +kernel
theorem dX5_isRow_6 : decode cX5_isRow 6 = .ok (.ireturn, 1) := by decide +kernel
set_option maxRecDepth 20000 in
theorem ggX5_isWindow_X5_isRow : GoodIn wsX5_isWindow wsX5_isRow := goodIn_r _ [5, 6, 7, 4, 8] (by decide +kernel) (by decide +kernel)
set_option maxRecDepth 20000 in
theorem gX5_isWindow_X5_isRow : GoodIn wsX5_isWindow (va_wsS RX5 52 yX5_isRow wsX5_isRow) := goodIn_app (goodIn_of _ (by decide +kernel)) ggX5_isWindow_X5_isRow
set_option maxRecDepth 20000 in
theorem ggX5_isWindow_X4_windowsOf : GoodIn wsX5_isWindow wsX4_windowsOf := goodIn_r _ [13, 14, 22, 23, 24, 25] (by decide +kernel) (by decide +kernel)
set_option maxRecDepth 20000 in
theorem gX5_isWindow_X4_windowsOf : GoodIn wsX5_isWindow (wsV RX5 82 RX4 yX4_windowsOf wsX4_windowsOf) := goodIn_app (goodIn_of _ (by decide +kernel)) ggX5_isWindow_X4_windowsOf
set_option maxRecDepth 20000 in
theorem ggX5_isWindow_X5_isWithin : GoodIn wsX5_isWindow wsX5_isWithin := goodIn_r _ [8] (by decide +kernel) (by decide +kernel)
set_option maxRecDepth 20000 in
theorem gX5_isWindow_X5_isWithin : GoodIn wsX5_isWindow (va_wsS RX5 57 yX5_isWithin wsX5_isWithin) := goodIn_app (goodIn_of _ (by decide +kernel)) ggX5_isWindow_X5_isWithin
theorem dX5_isWindow_0 : decode cX5_isWindow 0 = .ok (.iload_n 1, 1) := by decide +kernel
theorem dX5_isWindow_1 : decode cX5_isWindow 1 = .ok (.invokestatic 52, 3) := by decide +kernel
theorem dX5_isWindow_4 : decode cX5_isWindow 4 = .ok (.ifCond .eq 25, 3) := by decide +kernel
theorem dX5_isWindow_7 : decode cX5_isWindow 7 = .ok (.iload_n 2, 1) := by decide +kernel
theorem dX5_isWindow_8 : decode cX5_isWindow 8 = .ok (.iconst 0, 1) := by decide +kernel
theorem dX5_isWindow_9 : decode cX5_isWindow 9 = .ok (.aload_n 0, 1) := by decide +kernel
theorem dX5_isWindow_10 : decode cX5_isWindow 10 = .ok (.getfield 10, 3) := by decide +kernel
theorem dX5_isWindow_13 : decode cX5_isWindow 13 = .ok (.iload_n 1, 1) := by decide +kernel
theorem dX5_isWindow_14 : decode cX5_isWindow 14 = .ok (.invokevirtual 82, 3) := by decide +kernel
theorem dX5_isWindow_17 : decode cX5_isWindow 17 = .ok (.iconst 1, 1) := by decide +kernel
theorem dX5_isWindow_18 : decode cX5_isWindow 18 = .ok (.isub, 1) := by decide +kernel
theorem dX5_isWindow_19 : decode cX5_isWindow 19 = .ok (.invokestatic 57, 3) := by decide +kernel
theorem dX5_isWindow_22 : decode cX5_isWindow 22 = .ok (.ifCond .eq 7, 3) := by decide +kernel
theorem dX5_isWindow_25 : decode cX5_isWindow 25 = .ok (.iconst 1, 1) := by decide +kernel
theorem dX5_isWindow_26 : decode cX5_isWindow 26 = .ok (.goto 4, 3) := by decide +kernel
theorem dX5_isWindow_29 : decode cX5_isWindow 29 = .ok (.iconst 0, 1) := by decide +kernel
theorem dX5_isWindow_30 : decode cX5_isWindow 30 = .ok (.ireturn, 1) := by decide +kernel
theorem dX5_lotAfter_0 : decode cX5_lotAfter 0 = .ok (.iload_n 0, 1) := by decide +kernel
theorem dX5_lotAfter_1 : decode cX5_lotAfter 1 = .ok (.i2l, 1) := by decide +kernel
theorem dX5_lotAfter_2 : decode cX5_lotAfter 2 = .ok (.ldc2_w 201, 3) := by decide +kernel
theorem dX5_lotAfter_5 : decode cX5_lotAfter 5 = .ok (.lmul, 1) := by decide +kernel
theorem dX5_lotAfter_6 : decode cX5_lotAfter 6 = .ok (.ldc2_w 203, 3) := by decide +kernel
theorem dX5_lotAfter_9 : decode cX5_lotAfter 9 = .ok (.lrem, 1) := by decide +kernel
theorem dX5_lotAfter_10 : decode cX5_lotAfter 10 = .ok (.l2i, 1) := by decide +kernel
theorem dX5_lotAfter_11 : decode cX5_lotAfter 11 = .ok (.ireturn, 1) := by decide +kernel
set_option maxRecDepth 20000 in
theorem ggX5_beforeChange_X2_remember : GoodIn wsX5_beforeChange wsX2_remember := goodIn_r _ [8, 9, 10, 11, 12, 13, 14, 15, 16, 17, 18, 19, 20, 21, 22, 23, 24, 25, 26, 27, 28, 29, 30, 31, 32, 33, 34, 35, 36, 37, 38, 39, 40, 41, 42, 43, 44, 52, 53, 54, 55, 56, 57, 58, 59, 60, 61, 62] (by decide +kernel) (by decide +kernel)
set_option maxRecDepth 20000 in
theorem gX5_beforeChange_X2_remember : GoodIn wsX5_beforeChange (wsV RX5 205 RX2 yX2_remember wsX2_remember) := goodIn_app (goodIn_of _ (by decide +kernel)) ggX5_beforeChange_X2_remember
theorem dX5_beforeChange_0 : decode cX5_beforeChange 0 = .ok (.aload_n 0, 1) := by decide +kernel
theorem dX5_beforeChange_1 : decode cX5_beforeChange 1 = .ok (.getfield 19, 3) := by decide +kernel
theorem dX5_beforeChange_4 : decode cX5_beforeChange 4 = .ok (.aload_n 0, 1) := by decide +kernel
theorem dX5_beforeChange_5 : decode cX5_beforeChange 5 = .ok (.getfield 10, 3) := by decide +kernel
theorem dX5_beforeChange_8 : decode cX5_beforeChange 8 = .ok (.iload_n 1, 1) := by decide +kernel
theorem dX5_beforeChange_9 : decode cX5_beforeChange 9 = .ok (.invokevirtual 205, 3) := by decide +kernel
theorem dX5_beforeChange_12 : decode cX5_beforeChange 12 = .ok (.aload_n 0, 1) := by decide +kernel
theorem dX5_beforeChange_13 : decode cX5_beforeChange 13 = .ok (.iconst 0, 1) := by decide +kernel
theorem dX5_beforeChange_14 : decode cX5_beforeChange 14 = .ok (.putfield 48, 3) := by decide +kernel
theorem dX5_beforeChange_17 : decode cX5_beforeChange 17 = .ok (.return_, 1) := by decide +kernel
set_option maxRecDepth 20000 in
theorem ggX5_changeFloor_X5_beforeChange : GoodIn wsX5_changeFloor wsX5_beforeChange := goodIn_r _ [6, 7, 1, 8, 9, 10, 11, 12, 13, 14, 15, 16, 17, 18, 19, 20, 21, 22, 23, 24, 25, 26, 27, 28, 29, 30, 31, 32, 33, 34, 35, 36, 37, 38, 39, 40, 41, 42, 43, 44, 45, 46, 47, 48, 49, 55, 56, 57, 58, 59, 60, 61, 62, 63, 64, 65, 66, 67, 68, 69, 70, 71, 72] (by decide +kernel) (by decide +kernel)
set_option maxRecDepth 20000 in
theorem gX5_changeFloor_X5_beforeChange : GoodIn wsX5_changeFloor (wsV RX5 67 RX5 yX5_beforeChange wsX5_beforeChange) := goodIn_app (goodIn_of _ (by decide +kernel)) ggX5_changeFloor_X5_beforeChange
set_option maxRecDepth 20000 in
theorem ggX5_changeFloor_X4_floor : GoodIn wsX5_changeFloor wsX4_floor := goodIn_r _ [43, 44, 69, 70, 71, 72] (by decide +kernel) (by decide +kernel)
set_option maxRecDepth 20000 in
theorem gX5_changeFloor_X4_floor : GoodIn wsX5_changeFloor (wsV RX5 119 RX4 yX4_floor wsX4_floor) := goodIn_app (goodIn_of _ (by decide +kernel)) ggX5_changeFloor_X4_floor
set_option maxRecDepth 20000 in
theorem ggX5_changeFloor_X4_setFloor : GoodIn wsX5_changeFloor wsX4_setFloor := goodIn_r _ [54, 44, 69, 70, 71, 72] (by decide +kernel) (by decide +kernel)
set_option maxRecDepth 20000 in
theorem gX5_changeFloor_X4_setFloor : GoodIn wsX5_changeFloor (wsV RX5 209 RX4 yX4_setFloor wsX4_setFloor) := goodIn_app (goodIn_of _ (by decide +kernel)) ggX5_changeFloor_X4_setFloor
theorem dX5_changeFloor_0 : decode cX5_changeFloor 0 = .ok (.aload_n 0, 1) := by decide +kernel
theorem dX5_changeFloor_1 : decode cX5_changeFloor 1 = .ok (.iconst 4, 1) := by decide +kernel
theorem dX5_changeFloor_2 : decode cX5_changeFloor 2 = .ok (.invokevirtual 67, 3) := by decide +kernel
theorem dX5_changeFloor_5 : decode cX5_changeFloor 5 = .ok (.aload_n 0, 1) := by decide +kernel
theorem dX5_changeFloor_6 : decode cX5_changeFloor 6 = .ok (.getfield 10, 3) := by decide +kernel
theorem dX5_changeFloor_9 : decode cX5_changeFloor 9 = .ok (.invokevirtual 119, 3) := by decide +kernel
theorem dX5_changeFloor_12 : decode cX5_changeFloor 12 = .ok (.istore_n 2, 1) := by decide +kernel
theorem dX5_changeFloor_13 : decode cX5_changeFloor 13 = .ok (.aload_n 0, 1) := by decide +kernel
theorem dX5_changeFloor_14 : decode cX5_changeFloor 14 = .ok (.getfield 10, 3) := by decide +kernel
theorem dX5_changeFloor_17 : decode cX5_changeFloor 17 = .ok (.iload_n 1, 1) := by decide +kernel
theorem dX5_changeFloor_18 : decode cX5_changeFloor 18 = .ok (.invokevirtual 209, 3) := by decide +kernel
theorem dX5_changeFloor_21 : decode cX5_changeFloor 21 = .ok (.iload_n 2, 1) := by decide +kernel
theorem dX5_changeFloor_22 : decode cX5_changeFloor 22 = .ok (.ireturn, 1) := by decide +kernel
set_option maxRecDepth 20000 in
theorem ggX5_changeReach_X5_beforeChange : GoodIn wsX5_changeReach wsX5_beforeChange := goodIn_r _ [6, 7, 1, 8, 9, 10, 11, 12, 13, 14, 15, 16, 17, 18, 19, 20, 21, 22, 23, 24, 25, 26, 27, 28, 29, 30, 31, 32, 33, 34, 35, 36, 37, 38, 39, 40, 41, 42, 43, 44, 45, 46, 47, 48, 49, 55, 56, 57, 58, 59, 60, 61, 62, 63, 64, 65, 66, 67, 68, 69, 70, 71, 72] (by decide +kernel) (by decide +kernel)
set_option maxRecDepth 20000 in
theorem gX5_changeReach_X5_beforeChange : GoodIn wsX5_changeReach (wsV RX5 67 RX5 yX5_beforeChange wsX5_beforeChange) := goodIn_app (goodIn_of _ (by decide +kernel)) ggX5_changeReach_X5_beforeChange
set_option maxRecDepth 20000 in
theorem ggX5_changeReach_X4_reach : GoodIn wsX5_changeReach wsX4_reach := goodIn_r _ [48, 49, 69, 70, 71, 72] (by decide +kernel) (by decide +kernel)
set_option maxRecDepth 20000 in
theorem gX5_changeReach_X4_reach : GoodIn wsX5_changeReach (wsV RX5 122 RX4 yX4_reach wsX4_reach) := goodIn_app (goodIn_of _ (by decide +kernel)) ggX5_changeReach_X4_reach
set_option maxRecDepth 20000 in
theorem ggX5_changeReach_X4_setReach : GoodIn wsX5_changeReach wsX4_setReach := goodIn_r _ [54, 49, 69, 70, 71, 72] (by decide +kernel) (by decide +kernel)
set_option maxRecDepth 20000 in
theorem gX5_changeReach_X4_setReach : GoodIn wsX5_changeReach (wsV RX5 212 RX4 yX4_setReach wsX4_setReach) := goodIn_app (goodIn_of _ (by decide +kernel)) ggX5_changeReach_X4_setReach
theorem dX5_changeReach_0 : decode cX5_changeReach 0 = .ok (.aload_n 0, 1) := by decide +kernel
theorem dX5_changeReach_1 : decode cX5_changeReach 1 = .ok (.iconst 4, 1) := by decide +kernel
theorem dX5_changeReach_2 : decode cX5_changeReach 2 = .ok (.invokevirtual 67, 3) := by decide +kernel
theorem dX5_changeReach_5 : decode cX5_changeReach 5 = .ok (.aload_n 0, 1) := by decide +kernel
theorem dX5_changeReach_6 : decode cX5_changeReach 6 = .ok (.getfield 10, 3) := by decide +kernel
theorem dX5_changeReach_9 : decode cX5_changeReach 9 = .ok (.invokevirtual 122, 3) := by decide +kernel
theorem dX5_changeReach_12 : decode cX5_changeReach 12 = .ok (.istore_n 2, 1) := by decide +kernel
theorem dX5_changeReach_13 : decode cX5_changeReach 13 = .ok (.aload_n 0, 1) := by decide +kernel
theorem dX5_changeReach_14 : decode cX5_changeReach 14 = .ok (.getfield 10, 3) := by decide +kernel
theorem dX5_changeReach_17 : decode cX5_changeReach 17 = .ok (.iload_n 1, 1) := by decide +kernel
theorem dX5_changeReach_18 : decode cX5_changeReach 18 = .ok (.invokevirtual 212, 3) := by decide +kernel
theorem dX5_changeReach_21 : decode cX5_changeReach 21 = .ok (.iload_n 2, 1) := by decide +kernel
theorem dX5_changeReach_22 : decode cX5_changeReach 22 = .ok (.ireturn, 1) := by decide +kernel
set_option maxRecDepth 20000 in
theorem ggX5_refresh_X3_look : GoodIn wsX5_refresh wsX3_look := goodIn_r _ [10, 11, 12, 13, 14, 15, 16, 17, 18, 19, 20, 9, 21, 22, 23, 24, 25, 26, 27, 28, 29, 30, 31, 32, 33, 34, 35, 36, 37, 38, 39, 40, 41, 42, 43, 44, 119, 120, 121, 122, 123, 124, 125] (by decide +kernel) (by decide +kernel)
set_option maxRecDepth 20000 in
theorem gX5_refresh_X3_look : GoodIn wsX5_refresh (wsV RX5 215 RX3 yX3_look wsX3_look) := goodIn_app (goodIn_of _ (by decide +kernel)) ggX5_refresh_X3_look
set_option maxRecDepth 20000 in
theorem ggX5_refresh_X4_reach : GoodIn wsX5_refresh wsX4_reach := goodIn_r _ [48, 49, 122, 123, 124, 125] (by decide +kernel) (by decide +kernel)
set_option maxRecDepth 20000 in
theorem gX5_refresh_X4_reach : GoodIn wsX5_refresh (wsV RX5 122 RX4 yX4_reach wsX4_reach) := goodIn_app (goodIn_of _ (by decide +kernel)) ggX5_refresh_X4_reach
set_option maxRecDepth 20000 in
theorem ggX5_refresh_X1_write : GoodIn wsX5_refresh wsX1_write := goodIn_r _ [54, 55, 56, 57, 53, 58, 59, 60, 61, 62, 9, 63, 64, 65, 66, 67, 11, 68, 69, 70, 71, 72, 73, 74, 75, 76, 77, 78, 126, 127, 128, 129, 119, 120, 121] (by decide +kernel) (by decide +kernel)
set_option maxRecDepth 20000 in
theorem gX5_refresh_X1_write : GoodIn wsX5_refresh (wsV RX5 218 RX1 yX1_write wsX1_write) := goodIn_app (goodIn_of _ (by decide +kernel)) ggX5_refresh_X1_write
set_option maxRecDepth 20000 in
theorem ggX5_refresh_X0_cast : GoodIn wsX5_refresh wsX0_cast := goodIn_r _ [83, 84, 85, 86, 87, 82, 88, 89, 90, 91, 92, 93, 61, 62, 9, 63, 64, 65, 66, 67, 11, 94, 95, 96, 97, 98, 99, 100, 53, 101, 73, 102, 103, 104, 105, 78, 106, 107, 108, 109, 110, 111, 130, 131, 132, 133, 134, 135, 119, 120, 121, 126, 127, 128, 129] (by decide +kernel) (by decide +kernel)
set_option maxRecDepth 20000 in
theorem gX5_refresh_X0_cast : GoodIn wsX5_refresh (wsV RX5 222 RX0 yX0_cast wsX0_cast) := goodIn_app (goodIn_of _ (by decide +kernel)) ggX5_refresh_X0_cast
theorem dX5_refresh_0 : decode cX5_refresh 0 = .ok (.aload_n 0, 1) := by decide +kernel
theorem dX5_refresh_1 : decode cX5_refresh 1 = .ok (.getfield 48, 3) := by decide +kernel
theorem dX5_refresh_4 : decode cX5_refresh 4 = .ok (.ifCond .eq 4, 3) := by decide +kernel
theorem dX5_refresh_7 : decode cX5_refresh 7 = .ok (.return_, 1) := by decide +kernel
theorem dX5_refresh_8 : decode cX5_refresh 8 = .ok (.aload_n 0, 1) := by decide +kernel
theorem dX5_refresh_9 : decode cX5_refresh 9 = .ok (.getfield 30, 3) := by decide +kernel
theorem dX5_refresh_12 : decode cX5_refresh 12 = .ok (.aload_n 0, 1) := by decide +kernel
theorem dX5_refresh_13 : decode cX5_refresh 13 = .ok (.getfield 10, 3) := by decide +kernel
theorem dX5_refresh_16 : decode cX5_refresh 16 = .ok (.invokevirtual 215, 3) := by decide +kernel
theorem dX5_refresh_19 : decode cX5_refresh 19 = .ok (.aload_n 0, 1) := by decide +kernel
theorem dX5_refresh_20 : decode cX5_refresh 20 = .ok (.getfield 37, 3) := by decide +kernel
theorem dX5_refresh_23 : decode cX5_refresh 23 = .ok (.aload_n 0, 1) := by decide +kernel
theorem dX5_refresh_24 : decode cX5_refresh 24 = .ok (.getfield 30, 3) := by decide +kernel
theorem dX5_refresh_27 : decode cX5_refresh 27 = .ok (.aload_n 0, 1) := by decide +kernel
theorem dX5_refresh_28 : decode cX5_refresh 28 = .ok (.getfield 10, 3) := by decide +kernel
theorem dX5_refresh_31 : decode cX5_refresh 31 = .ok (.invokevirtual 122, 3) := by decide +kernel
theorem dX5_refresh_34 : decode cX5_refresh 34 = .ok (.invokevirtual 218, 3) := by decide +kernel
theorem dX5_refresh_37 : decode cX5_refresh 37 = .ok (.aload_n 0, 1) := by decide +kernel
theorem dX5_refresh_38 : decode cX5_refresh 38 = .ok (.getfield 44, 3) := by decide +kernel
theorem dX5_refresh_41 : decode cX5_refresh 41 = .ok (.aload_n 0, 1) := by decide +kernel
theorem dX5_refresh_42 : decode cX5_refresh 42 = .ok (.getfield 30, 3) := by decide +kernel
theorem dX5_refresh_45 : decode cX5_refresh 45 = .ok (.aload_n 0, 1) := by decide +kernel
theorem dX5_refresh_46 : decode cX5_refresh 46 = .ok (.getfield 37, 3) := by decide +kernel
theorem dX5_refresh_49 : decode cX5_refresh 49 = .ok (.aload_n 0, 1) := by decide +kernel
theorem dX5_refresh_50 : decode cX5_refresh 50 = .ok (.getfield 10, 3) := by decide +kernel
theorem dX5_refresh_53 : decode cX5_refresh 53 = .ok (.invokevirtual 122, 3) := by decide +kernel
theorem dX5_refresh_56 : decode cX5_refresh 56 = .ok (.invokevirtual 222, 3) := by decide +kernel
theorem dX5_refresh_59 : decode cX5_refresh 59 = .ok (.aload_n 0, 1) := by decide +kernel
theorem dX5_refresh_60 : decode cX5_refresh 60 = .ok (.iconst 1, 1) := by decide +kernel
theorem dX5_refresh_61 : decode cX5_refresh 61 = .ok (.putfield 48, 3) := by decide +kernel
theorem dX5_refresh_64 : decode cX5_refresh 64 = .ok (.return_, 1) := by decide +kernel
theorem dX6_init_0 : decode cX6_init 0 = .ok (.aload_n 0, 1) := by decide +kernel
theorem dX6_init_1 : decode cX6_init 1 = .ok (.invokespecial 1, 3) := by decide +kernel
theorem dX6_init_4 : decode cX6_init 4 = .ok (.aload_n 0, 1) := by decide +kernel
theorem dX6_init_5 : decode cX6_init 5 = .ok (.sipush 647, 3) := by decide +kernel
theorem dX6_init_8 : decode cX6_init 8 = .ok (.newarray .int, 2) := by decide +kernel
theorem dX6_init_10 : decode cX6_init 10 = .ok (.putfield 7, 3) := by decide +kernel
theorem dX6_init_13 : decode cX6_init 13 = .ok (.aload_n 0, 1) := by decide +kernel
theorem dX6_init_14 : decode cX6_init 14 = .ok (.sipush 5176, 3) := by decide +kernel
theorem dX6_init_17 : decode cX6_init 17 = .ok (.newarray .int, 2) := by decide +kernel
theorem dX6_init_19 : decode cX6_init 19 = .ok (.putfield 13, 3) := by decide +kernel
theorem dX6_init_22 : decode cX6_init 22 = .ok (.aload_n 0, 1) := by decide +kernel
theorem dX6_init_23 : decode cX6_init 23 = .ok (.sipush 1294, 3) := by decide +kernel
theorem dX6_init_26 : decode cX6_init 26 = .ok (.newarray .int, 2) := by decide +kernel
theorem dX6_init_28 : decode cX6_init 28 = .ok (.putfield 16, 3) := by decide +kernel
theorem dX6_init_31 : decode cX6_init 31 = .ok (.aload_n 0, 1) := by decide +kernel
theorem dX6_init_32 : decode cX6_init 32 = .ok (.iconst 2, 1) := by decide +kernel
theorem dX6_init_33 : decode cX6_init 33 = .ok (.newarray .boolean, 2) := by decide +kernel
theorem dX6_init_35 : decode cX6_init 35 = .ok (.putfield 19, 3) := by decide +kernel
theorem dX6_init_38 : decode cX6_init 38 = .ok (.aload_n 0, 1) := by decide +kernel
theorem dX6_init_39 : decode cX6_init 39 = .ok (.bipush 8, 2) := by decide +kernel
theorem dX6_init_41 : decode cX6_init 41 = .ok (.newarray .int, 2) := by decide +kernel
theorem dX6_init_43 : decode cX6_init 43 = .ok (.putfield 23, 3) := by decide +kernel
theorem dX6_init_46 : decode cX6_init 46 = .ok (.aload_n 0, 1) := by decide +kernel
theorem dX6_init_47 : decode cX6_init 47 = .ok (.bipush 80, 2) := by decide +kernel
theorem dX6_init_49 : decode cX6_init 49 = .ok (.newarray .int, 2) := by decide +kernel
theorem dX6_init_51 : decode cX6_init 51 = .ok (.putfield 26, 3) := by decide +kernel
theorem dX6_init_54 : decode cX6_init 54 = .ok (.aload_n 0, 1) := by decide +kernel
theorem dX6_init_55 : decode cX6_init 55 = .ok (.bipush 124, 2) := by decide +kernel
theorem dX6_init_57 : decode cX6_init 57 = .ok (.newarray .int, 2) := by decide +kernel
theorem dX6_init_59 : decode cX6_init 59 = .ok (.putfield 29, 3) := by decide +kernel
theorem dX6_init_62 : decode cX6_init 62 = .ok (.aload_n 0, 1) := by decide +kernel
theorem dX6_init_63 : decode cX6_init 63 = .ok (.bipush 124, 2) := by decide +kernel
theorem dX6_init_65 : decode cX6_init 65 = .ok (.newarray .boolean, 2) := by decide +kernel
theorem dX6_init_67 : decode cX6_init 67 = .ok (.putfield 32, 3) := by decide +kernel
theorem dX6_init_70 : decode cX6_init 70 = .ok (.aload_n 0, 1) := by decide +kernel
theorem dX6_init_71 : decode cX6_init 71 = .ok (.getfield 7, 3) := by decide +kernel
theorem dX6_init_74 : decode cX6_init 74 = .ok (.iconst 0, 1) := by decide +kernel
theorem dX6_init_75 : decode cX6_init 75 = .ok (.bipush 50, 2) := by decide +kernel
theorem dX6_init_77 : decode cX6_init 77 = .ok (.iastore, 1) := by decide +kernel
theorem dX6_init_78 : decode cX6_init 78 = .ok (.aload_n 0, 1) := by decide +kernel
theorem dX6_init_79 : decode cX6_init 79 = .ok (.getfield 7, 3) := by decide +kernel
theorem dX6_init_82 : decode cX6_init 82 = .ok (.iconst 1, 1) := by decide +kernel
theorem dX6_init_83 : decode cX6_init 83 = .ok (.iconst 3, 1) := by decide +kernel
theorem dX6_init_84 : decode cX6_init 84 = .ok (.iastore, 1) := by decide +kernel
theorem dX6_init_85 : decode cX6_init 85 = .ok (.return_, 1) := by decide +kernel
theorem dX6_in_0 : decode cX6_in 0 = .ok (.iload_n 0, 1) := by decide +kernel
theorem dX6_in_1 : decode cX6_in 1 = .ok (.iload_n 1, 1) := by decide +kernel
theorem dX6_in_2 : decode cX6_in 2 = .ok (.if_icmp .lt 12, 3) := by decide +kernel
theorem dX6_in_5 : decode cX6_in 5 = .ok (.iload_n 0, 1) := by decide +kernel
theorem dX6_in_6 : decode cX6_in 6 = .ok (.iload_n 2, 1) := by decide +kernel
theorem dX6_in_7 : decode cX6_in 7 = .ok (.if_icmp .gt 7, 3) := by decide +kernel
theorem dX6_in_10 : decode cX6_in 10 = .ok (.iconst 1, 1) := by decide +kernel
theorem dX6_in_11 : decode cX6_in 11 = .ok (.goto 4, 3) := by decide +kernel
theorem dX6_in_14 : decode cX6_in 14 = .ok (.iconst 0, 1) := by decide +kernel
theorem dX6_in_15 : decode cX6_in 15 = .ok (.ireturn, 1) := by decide +kernel
set_option maxRecDepth 20000 in
theorem ggX6_isRow_X6_in : GoodIn wsX6_isRow wsX6_in := goodIn_r _ [4] (by decide +kernel) (by decide +kernel)
set_option maxRecDepth 20000 in
theorem gX6_isRow_X6_in : GoodIn wsX6_isRow (va_wsS RX6 35 yX6_in wsX6_in) := goodIn_app (goodIn_of _ (by decide +kernel)) ggX6_isRow_X6_in
theorem dX6_isRow_0 : decode cX6_isRow 0 = .ok (.iload_n 0, 1) := by decide +kernel
theorem dX6_isRow_1 : decode cX6_isRow 1 = .ok (.iconst 0, 1) := by decide +kernel
theorem dX6_isRow_2 : decode cX6_isRow 2 = .ok (.iconst 4, 1) := by decide +kernel
theorem dX6_isRow_3 : decode cX6_isRow 3 = .ok (.invokestatic 35, 3) := by decide +kernel
theorem dX6_isRow_6 : decode cX6_isRow 6 = .ok (.ireturn, 1) := by decide +kernel
theorem dX6_windows_0 : decode cX6_windows 0 = .ok (.aload_n 0, 1) := by decide +kernel
theorem dX6_windows_1 : decode cX6_windows 1 = .ok (.getfield 7, 3) := by decide +kernel
theorem dX6_windows_4 : decode cX6_windows 4 = .ok (.iconst 2, 1) := by decide +kernel
theorem dX6_windows_5 : decode cX6_windows 5 = .ok (.iload_n 1, 1) := by decide +kernel
theorem dX6_windows_6 : decode cX6_windows 6 = .ok (.iadd, 1) := by decide +kernel
theorem dX6_windows_7 : decode cX6_windows 7 = .ok (.iaload, 1) := by decide +kernel
theorem dX6_windows_8 : decode cX6_windows 8 = .ok (.bipush 8, 2) := by decide +kernel
theorem dX6_windows_10 : decode cX6_windows 10 = .ok (.idiv, 1) := by decide +kernel
theorem dX6_windows_11 : decode cX6_windows 11 = .ok (.ireturn, 1) := by decide +kernel
set_option maxRecDepth 20000 in
theorem ggX6_isWindow_X6_windows : GoodIn wsX6_isWindow wsX6_windows := goodIn_r _ [5, 6, 10, 11, 12, 13, 14, 15, 16, 17, 18] (by decide +kernel) (by decide +kernel)
set_option maxRecDepth 20000 in
theorem gX6_isWindow_X6_windows : GoodIn wsX6_isWindow (wsV RX6 39 RX6 yX6_windows wsX6_windows) := goodIn_app (goodIn_of _ (by decide +kernel)) ggX6_isWindow_X6_windows
set_option maxRecDepth 20000 in
theorem ggX6_isWindow_X6_in : GoodIn wsX6_isWindow wsX6_in := goodIn_r _ [9] (by decide +kernel) (by decide +kernel)
set_option maxRecDepth 20000 in
theorem gX6_isWindow_X6_in : GoodIn wsX6_isWindow (va_wsS RX6 35 yX6_in wsX6_in) := goodIn_app (goodIn_of _ (by decide +kernel)) ggX6_isWindow_X6_in
theorem dX6_isWindow_0 : decode cX6_isWindow 0 = .ok (.iload_n 2, 1) := by decide +kernel
theorem dX6_isWindow_1 : decode cX6_isWindow 1 = .ok (.iconst 0, 1) := by decide +kernel
theorem dX6_isWindow_2 : decode cX6_isWindow 2 = .ok (.aload_n 0, 1) := by decide +kernel
theorem dX6_isWindow_3 : decode cX6_isWindow 3 = .ok (.iload_n 1, 1) := by decide +kernel
theorem dX6_isWindow_4 : decode cX6_isWindow 4 = .ok (.invokevirtual 39, 3) := by decide +kernel
theorem dX6_isWindow_7 : decode cX6_isWindow 7 = .ok (.iconst 1, 1) := by decide +kernel
theorem dX6_isWindow_8 : decode cX6_isWindow 8 = .ok (.isub, 1) := by decide +kernel
theorem dX6_isWindow_9 : decode cX6_isWindow 9 = .ok (.invokestatic 35, 3) := by decide +kernel
theorem dX6_isWindow_12 : decode cX6_isWindow 12 = .ok (.ireturn, 1) := by decide +kernel
theorem dX6_of_0 : decode cX6_of 0 = .ok (.aload_n 0, 1) := by decide +kernel
theorem dX6_of_1 : decode cX6_of 1 = .ok (.getfield 7, 3) := by decide +kernel
theorem dX6_of_4 : decode cX6_of 4 = .ok (.bipush 7, 2) := by decide +kernel
theorem dX6_of_6 : decode cX6_of 6 = .ok (.sipush 128, 3) := by decide +kernel
theorem dX6_of_9 : decode cX6_of 9 = .ok (.iload_n 1, 1) := by decide +kernel
theorem dX6_of_10 : decode cX6_of 10 = .ok (.imul, 1) := by decide +kernel
theorem dX6_of_11 : decode cX6_of 11 = .ok (.iadd, 1) := by decide +kernel
theorem dX6_of_12 : decode cX6_of 12 = .ok (.iload_n 2, 1) := by decide +kernel
theorem dX6_of_13 : decode cX6_of 13 = .ok (.iadd, 1) := by decide +kernel
theorem dX6_of_14 : decode cX6_of 14 = .ok (.iaload, 1) := by decide +kernel
theorem dX6_of_15 : decode cX6_of 15 = .ok (.ireturn, 1) := by decide +kernel
theorem dX6_put_0 : decode cX6_put 0 = .ok (.aload_n 0, 1) := by decide +kernel
theorem dX6_put_1 : decode cX6_put 1 = .ok (.getfield 7, 3) := by decide +kernel
theorem dX6_put_4 : decode cX6_put 4 = .ok (.bipush 7, 2) := by decide +kernel
theorem dX6_put_6 : decode cX6_put 6 = .ok (.sipush 128, 3) := by decide +kernel
theorem dX6_put_9 : decode cX6_put 9 = .ok (.iload_n 1, 1) := by decide +kernel
theorem dX6_put_10 : decode cX6_put 10 = .ok (.imul, 1) := by decide +kernel
theorem dX6_put_11 : decode cX6_put 11 = .ok (.iadd, 1) := by decide +kernel
theorem dX6_put_12 : decode cX6_put 12 = .ok (.iload_n 2, 1) := by decide +kernel
theorem dX6_put_13 : decode cX6_put 13 = .ok (.iadd, 1) := by decide +kernel
theorem dX6_put_14 : decode cX6_put 14 = .ok (.iload_n 3, 1) := by decide +kernel
theorem dX6_put_15 : decode cX6_put 15 = .ok (.iastore, 1) := by decide +kernel
theorem dX6_put_16 : decode cX6_put 16 = .ok (.return_, 1) := by decide +kernel
theorem dX6_notes_0 : decode cX6_notes 0 = .ok (.aload_n 0, 1) := by decide +kernel
theorem dX6_notes_1 : decode cX6_notes 1 = .ok (.getfield 43, 3) := by decide +kernel
theorem dX6_notes_4 : decode cX6_notes 4 = .ok (.bipush 8, 2) := by decide +kernel
theorem dX6_notes_6 : decode cX6_notes 6 = .ok (.if_icmp .ne 44, 3) := by decide +kernel
theorem dX6_notes_9 : decode cX6_notes 9 = .ok (.iconst 0, 1) := by decide +kernel
theorem dX6_notes_10 : decode cX6_notes 10 = .ok (.istore_n 1, 1) := by decide +kernel
theorem dX6_notes_11 : decode cX6_notes 11 = .ok (.iload_n 1, 1) := by decide +kernel
theorem dX6_notes_12 : decode cX6_notes 12 = .ok (.sipush 4529, 3) := by decide +kernel
theorem dX6_notes_15 : decode cX6_notes 15 = .ok (.if_icmp .ge 25, 3) := by decide +kernel
theorem dX6_notes_18 : decode cX6_notes 18 = .ok (.aload_n 0, 1) := by decide +kernel
theorem dX6_notes_19 : decode cX6_notes 19 = .ok (.getfield 13, 3) := by decide +kernel
theorem dX6_notes_22 : decode cX6_notes 22 = .ok (.iload_n 1, 1) := by decide +kernel
theorem dX6_notes_23 : decode cX6_notes 23 = .ok (.aload_n 0, 1) := by decide +kernel
theorem dX6_notes_24 : decode cX6_notes 24 = .ok (.getfield 13, 3) := by decide +kernel
theorem dX6_notes_27 : decode cX6_notes 27 = .ok (.iload_n 1, 1) := by decide +kernel
theorem dX6_notes_28 : decode cX6_notes 28 = .ok (.sipush 647, 3) := by decide +kernel
theorem dX6_notes_31 : decode cX6_notes 31 = .ok (.iadd, 1) := by decide +kernel
theorem dX6_notes_32 : decode cX6_notes 32 = .ok (.iaload, 1) := by decide +kernel
theorem dX6_notes_33 : decode cX6_notes 33 = .ok (.iastore, 1) := by decide +kernel
theorem dX6_notes_34 : decode cX6_notes 34 = .ok (.iinc 1 1, 3) := by decide +kernel
theorem dX6_notes_37 : decode cX6_notes 37 = .ok (.goto (-26), 3) := by decide +kernel
theorem dX6_notes_40 : decode cX6_notes 40 = .ok (.aload_n 0, 1) := by decide +kernel
theorem dX6_notes_41 : decode cX6_notes 41 = .ok (.dup, 1) := by decide +kernel
theorem dX6_notes_42 : decode cX6_notes 42 = .ok (.getfield 43, 3) := by decide +kernel
theorem dX6_notes_45 : decode cX6_notes 45 = .ok (.iconst 1, 1) := by decide +kernel
theorem dX6_notes_46 : decode cX6_notes 46 = .ok (.isub, 1) := by decide +kernel
theorem dX6_notes_47 : decode cX6_notes 47 = .ok (.putfield 43, 3) := by decide +kernel
theorem dX6_notes_50 : decode cX6_notes 50 = .ok (.iconst 0, 1) := by decide +kernel
theorem dX6_notes_51 : decode cX6_notes 51 = .ok (.istore_n 1, 1) := by decide +kernel
theorem dX6_notes_52 : decode cX6_notes 52 = .ok (.iload_n 1, 1) := by decide +kernel
theorem dX6_notes_53 : decode cX6_notes 53 = .ok (.sipush 647, 3) := by decide +kernel
theorem dX6_notes_56 : decode cX6_notes 56 = .ok (.if_icmp .ge 30, 3) := by decide +kernel
theorem dX6_notes_59 : decode cX6_notes 59 = .ok (.aload_n 0, 1) := by decide +kernel
theorem dX6_notes_60 : decode cX6_notes 60 = .ok (.getfield 13, 3) := by decide +kernel
theorem dX6_notes_63 : decode cX6_notes 63 = .ok (.sipush 647, 3) := by decide +kernel
theorem dX6_notes_66 : decode cX6_notes 66 = .ok (.aload_n 0, 1) := by decide +kernel
theorem dX6_notes_67 : decode cX6_notes 67 = .ok (.getfield 43, 3) := by decide +kernel
theorem dX6_notes_70 : decode cX6_notes 70 = .ok (.imul, 1) := by decide +kernel
theorem dX6_notes_71 : decode cX6_notes 71 = .ok (.iload_n 1, 1) := by decide +kernel
theorem dX6_notes_72 : decode cX6_notes 72 = .ok (.iadd, 1) := by decide +kernel
theorem dX6_notes_73 : decode cX6_notes 73 = .ok (.aload_n 0, 1) := by decide +kernel
theorem dX6_notes_74 : decode cX6_notes 74 = .ok (.getfield 7, 3) := by decide +kernel
theorem dX6_notes_77 : decode cX6_notes 77 = .ok (.iload_n 1, 1) := by decide +kernel
theorem dX6_notes_78 : decode cX6_notes 78 = .ok (.iaload, 1) := by decide +kernel
theorem dX6_notes_79 : decode cX6_notes 79 = .ok (.iastore, 1) := by decide +kernel
theorem dX6_notes_80 : decode cX6_notes 80 = .ok (.iinc 1 1, 3) := by decide +kernel
theorem dX6_notes_83 : decode cX6_notes 83 = .ok (.goto (-31), 3) := by decide +kernel
theorem dX6_notes_86 : decode cX6_notes 86 = .ok (.aload_n 0, 1) := by decide +kernel
theorem dX6_notes_87 : decode cX6_notes 87 = .ok (.dup, 1) := by decide +kernel
theorem dX6_notes_88 : decode cX6_notes 88 = .ok (.getfield 43, 3) := by decide +kernel
theorem dX6_notes_91 : decode cX6_notes 91 = .ok (.iconst 1, 1) := by decide +kernel
theorem dX6_notes_92 : decode cX6_notes 92 = .ok (.iadd, 1) := by decide +kernel
theorem dX6_notes_93 : decode cX6_notes 93 = .ok (.putfield 43, 3) := by decide +kernel
theorem dX6_notes_96 : decode cX6_notes 96 = .ok (.return_, 1) := by decide +kernel
theorem dX6_drawn_0 : decode cX6_drawn 0 = .ok (.lload_n 0, 1) := by decide +kernel
theorem dX6_drawn_1 : decode cX6_drawn 1 = .ok (.ldc2_w 47, 3) := by decide +kernel
theorem dX6_drawn_4 : decode cX6_drawn 4 = .ok (.lmul, 1) := by decide +kernel
theorem dX6_drawn_5 : decode cX6_drawn 5 = .ok (.ldc2_w 49, 3) := by decide +kernel
theorem dX6_drawn_8 : decode cX6_drawn 8 = .ok (.lrem, 1) := by decide +kernel
theorem dX6_drawn_9 : decode cX6_drawn 9 = .ok (.lreturn, 1) := by decide +kernel
theorem dX6_bounded_0 : decode cX6_bounded 0 = .ok (.iload_n 0, 1) := by decide +kernel
theorem dX6_bounded_1 : decode cX6_bounded 1 = .ok (.bipush 100, 2) := by decide +kernel
theorem dX6_bounded_3 : decode cX6_bounded 3 = .ok (.if_icmp .le 8, 3) := by decide +kernel
theorem dX6_bounded_6 : decode cX6_bounded 6 = .ok (.bipush 100, 2) := by decide +kernel
theorem dX6_bounded_8 : decode cX6_bounded 8 = .ok (.goto 15, 3) := by decide +kernel
theorem dX6_bounded_11 : decode cX6_bounded 11 = .ok (.iload_n 0, 1) := by decide +kernel
theorem dX6_bounded_12 : decode cX6_bounded 12 = .ok (.bipush (-100), 2) := by decide +kernel
theorem dX6_bounded_14 : decode cX6_bounded 14 = .ok (.if_icmp .ge 8, 3) := by decide +kernel
theorem dX6_bounded_17 : decode cX6_bounded 17 = .ok (.bipush (-100), 2) := by decide +kernel
theorem dX6_bounded_19 : decode cX6_bounded 19 = .ok (.goto 4, 3) := by decide +kernel
theorem dX6_bounded_22 : decode cX6_bounded 22 = .ok (.iload_n 0, 1) := by decide +kernel
theorem dX6_bounded_23 : decode cX6_bounded 23 = .ok (.ireturn, 1) := by decide +kernel
set_option maxRecDepth 20000 in
theorem ggX6_add_X6_isRow : GoodIn wsX6_add wsX6_isRow := goodIn_r _ [8, 9, 10, 7, 11] (by decide +kernel) (by decide +kernel)
set_option maxRecDepth 20000 in
theorem gX6_add_X6_isRow : GoodIn wsX6_add (va_wsS RX6 51 yX6_isRow wsX6_isRow) := goodIn_app (goodIn_of _ (by decide +kernel)) ggX6_add_X6_isRow
set_option maxRecDepth 20000 in
theorem ggX6_add_X6_in : GoodIn wsX6_add wsX6_in := goodIn_r _ [11] (by decide +kernel) (by decide +kernel)
set_option maxRecDepth 20000 in
theorem gX6_add_X6_in : GoodIn wsX6_add (va_wsS RX6 35 yX6_in wsX6_in) := goodIn_app (goodIn_of _ (by decide +kernel)) ggX6_add_X6_in
set_option maxRecDepth 20000 in
theorem ggX6_add_X6_notes : GoodIn wsX6_add wsX6_notes := goodIn_r _ [15, 16, 17, 3, 22, 23, 24, 25, 26, 27, 28, 29, 30] (by decide +kernel) (by decide +kernel)
set_option maxRecDepth 20000 in
theorem gX6_add_X6_notes : GoodIn wsX6_add (wsV RX6 58 RX6 yX6_notes wsX6_notes) := goodIn_app (goodIn_of _ (by decide +kernel)) ggX6_add_X6_notes
set_option maxRecDepth 20000 in
theorem ggX6_add_X6_put : GoodIn wsX6_add wsX6_put := goodIn_r _ [21, 3, 22, 23, 24, 25, 26, 27, 28, 29, 30] (by decide +kernel) (by decide +kernel)
set_option maxRecDepth 20000 in
theorem gX6_add_X6_put : GoodIn wsX6_add (wsV RX6 61 RX6 yX6_put wsX6_put) := goodIn_app (goodIn_of _ (by decide +kernel)) ggX6_add_X6_put
theorem dX6_add_0 : decode cX6_add 0 = .ok (.iload_n 1, 1) := by decide +kernel
theorem dX6_add_1 : decode cX6_add 1 = .ok (.invokestatic 51, 3) := by decide +kernel
theorem dX6_add_4 : decode cX6_add 4 = .ok (.ifCond .ne 6, 3) := by decide +kernel
theorem dX6_add_7 : decode cX6_add 7 = .ok (.ldc 55, 2) := by decide +kernel
theorem dX6_add_9 : decode cX6_add 9 = .ok (.ireturn, 1) := by decide +kernel
theorem dX6_add_10 : decode cX6_add 10 = .ok (.iload_n 2, 1) := by decide +kernel
theorem dX6_add_11 : decode cX6_add 11 = .ok (.bipush (-100), 2) := by decide +kernel
theorem dX6_add_13 : decode cX6_add 13 = .ok (.bipush 100, 2) := by decide +kernel
theorem dX6_add_15 : decode cX6_add 15 = .ok (.invokestatic 35, 3) := by decide +kernel
theorem dX6_add_18 : decode cX6_add 18 = .ok (.ifCond .ne 6, 3) := by decide +kernel
theorem dX6_add_21 : decode cX6_add 21 = .ok (.ldc 56, 2) := by decide +kernel
theorem dX6_add_23 : decode cX6_add 23 = .ok (.ireturn, 1) := by decide +kernel
theorem dX6_add_24 : decode cX6_add 24 = .ok (.aload_n 0, 1) := by decide +kernel
theorem dX6_add_25 : decode cX6_add 25 = .ok (.getfield 7, 3) := by decide +kernel
theorem dX6_add_28 : decode cX6_add 28 = .ok (.iconst 2, 1) := by decide +kernel
theorem dX6_add_29 : decode cX6_add 29 = .ok (.iload_n 1, 1) := by decide +kernel
theorem dX6_add_30 : decode cX6_add 30 = .ok (.iadd, 1) := by decide +kernel
theorem dX6_add_31 : decode cX6_add 31 = .ok (.iaload, 1) := by decide +kernel
theorem dX6_add_32 : decode cX6_add 32 = .ok (.sipush 128, 3) := by decide +kernel
theorem dX6_add_35 : decode cX6_add 35 = .ok (.if_icmp .ne 6, 3) := by decide +kernel
theorem dX6_add_38 : decode cX6_add 38 = .ok (.ldc 57, 2) := by decide +kernel
theorem dX6_add_40 : decode cX6_add 40 = .ok (.ireturn, 1) := by decide +kernel
theorem dX6_add_41 : decode cX6_add 41 = .ok (.aload_n 0, 1) := by decide +kernel
theorem dX6_add_42 : decode cX6_add 42 = .ok (.invokevirtual 58, 3) := by decide +kernel
theorem dX6_add_45 : decode cX6_add 45 = .ok (.aload_n 0, 1) := by decide +kernel
theorem dX6_add_46 : decode cX6_add 46 = .ok (.iload_n 1, 1) := by decide +kernel
theorem dX6_add_47 : decode cX6_add 47 = .ok (.aload_n 0, 1) := by decide +kernel
theorem dX6_add_48 : decode cX6_add 48 = .ok (.getfield 7, 3) := by decide +kernel
theorem dX6_add_51 : decode cX6_add 51 = .ok (.iconst 2, 1) := by decide +kernel
theorem dX6_add_52 : decode cX6_add 52 = .ok (.iload_n 1, 1) := by decide +kernel
theorem dX6_add_53 : decode cX6_add 53 = .ok (.iadd, 1) := by decide +kernel
theorem dX6_add_54 : decode cX6_add 54 = .ok (.iaload, 1) := by decide +kernel
theorem dX6_add_55 : decode cX6_add 55 = .ok (.iload_n 2, 1) := by decide +kernel
theorem dX6_add_56 : decode cX6_add 56 = .ok (.invokevirtual 61, 3) := by decide +kernel
theorem dX6_add_59 : decode cX6_add 59 = .ok (.aload_n 0, 1) := by decide +kernel
theorem dX6_add_60 : decode cX6_add 60 = .ok (.getfield 7, 3) := by decide +kernel
theorem dX6_add_63 : decode cX6_add 63 = .ok (.iconst 2, 1) := by decide +kernel
theorem dX6_add_64 : decode cX6_add 64 = .ok (.iload_n 1, 1) := by decide +kernel
theorem dX6_add_65 : decode cX6_add 65 = .ok (.iadd, 1) := by decide +kernel
theorem dX6_add_66 : decode cX6_add 66 = .ok (.dup2, 1) := by decide +kernel
theorem dX6_add_67 : decode cX6_add 67 = .ok (.iaload, 1) := by decide +kernel
theorem dX6_add_68 : decode cX6_add 68 = .ok (.iconst 1, 1) := by decide +kernel
theorem dX6_add_69 : decode cX6_add 69 = .ok (.iadd, 1) := by decide +kernel
theorem dX6_add_70 : decode cX6_add 70 = .ok (.iastore, 1) := by decide +kernel
theorem dX6_add_71 : decode cX6_add 71 = .ok (.aload_n 0, 1) := by decide +kernel
theorem dX6_add_72 : decode cX6_add 72 = .ok (.getfield 7, 3) := by decide +kernel
theorem dX6_add_75 : decode cX6_add 75 = .ok (.iconst 2, 1) := by decide +kernel
theorem dX6_add_76 : decode cX6_add 76 = .ok (.iload_n 1, 1) := by decide +kernel
theorem dX6_add_77 : decode cX6_add 77 = .ok (.iadd, 1) := by decide +kernel
theorem dX6_add_78 : decode cX6_add 78 = .ok (.iaload, 1) := by decide +kernel
theorem dX6_add_79 : decode cX6_add 79 = .ok (.ireturn, 1) := by decide +kernel
set_option maxRecDepth 20000 in
theorem ggX6_wipe_X6_isRow : GoodIn wsX6_wipe wsX6_isRow := goodIn_r _ [6, 7, 8, 5, 9] (by decide +kernel) (by decide +kernel)
set_option maxRecDepth 20000 in
theorem gX6_wipe_X6_isRow : GoodIn wsX6_wipe (va_wsS RX6 51 yX6_isRow wsX6_isRow) := goodIn_app (goodIn_of _ (by decide +kernel)) ggX6_wipe_X6_isRow
set_option maxRecDepth 20000 in
theorem ggX6_wipe_X6_notes : GoodIn wsX6_wipe wsX6_notes := goodIn_r _ [13, 14, 15, 2, 16, 17, 18, 19, 20, 21, 22, 23, 24] (by decide +kernel) (by decide +kernel)
set_option maxRecDepth 20000 in
theorem gX6_wipe_X6_notes : GoodIn wsX6_wipe (wsV RX6 58 RX6 yX6_notes wsX6_notes) := goodIn_app (goodIn_of _ (by decide +kernel)) ggX6_wipe_X6_notes
theorem dX6_wipe_0 : decode cX6_wipe 0 = .ok (.iload_n 1, 1) := by decide +kernel
theorem dX6_wipe_1 : decode cX6_wipe 1 = .ok (.invokestatic 51, 3) := by decide +kernel
theorem dX6_wipe_4 : decode cX6_wipe 4 = .ok (.ifCond .ne 6, 3) := by decide +kernel
theorem dX6_wipe_7 : decode cX6_wipe 7 = .ok (.ldc 55, 2) := by decide +kernel
theorem dX6_wipe_9 : decode cX6_wipe 9 = .ok (.ireturn, 1) := by decide +kernel
theorem dX6_wipe_10 : decode cX6_wipe 10 = .ok (.aload_n 0, 1) := by decide +kernel
theorem dX6_wipe_11 : decode cX6_wipe 11 = .ok (.invokevirtual 58, 3) := by decide +kernel
theorem dX6_wipe_14 : decode cX6_wipe 14 = .ok (.aload_n 0, 1) := by decide +kernel
theorem dX6_wipe_15 : decode cX6_wipe 15 = .ok (.getfield 7, 3) := by decide +kernel
theorem dX6_wipe_18 : decode cX6_wipe 18 = .ok (.iconst 2, 1) := by decide +kernel
theorem dX6_wipe_19 : decode cX6_wipe 19 = .ok (.iload_n 1, 1) := by decide +kernel
theorem dX6_wipe_20 : decode cX6_wipe 20 = .ok (.iadd, 1) := by decide +kernel
theorem dX6_wipe_21 : decode cX6_wipe 21 = .ok (.iaload, 1) := by decide +kernel
theorem dX6_wipe_22 : decode cX6_wipe 22 = .ok (.istore_n 2, 1) := by decide +kernel
theorem dX6_wipe_23 : decode cX6_wipe 23 = .ok (.aload_n 0, 1) := by decide +kernel
theorem dX6_wipe_24 : decode cX6_wipe 24 = .ok (.getfield 7, 3) := by decide +kernel
theorem dX6_wipe_27 : decode cX6_wipe 27 = .ok (.iconst 2, 1) := by decide +kernel
theorem dX6_wipe_28 : decode cX6_wipe 28 = .ok (.iload_n 1, 1) := by decide +kernel
theorem dX6_wipe_29 : decode cX6_wipe 29 = .ok (.iadd, 1) := by decide +kernel
theorem dX6_wipe_30 : decode cX6_wipe 30 = .ok (.iconst 0, 1) := by decide +kernel
theorem dX6_wipe_31 : decode cX6_wipe 31 = .ok (.iastore, 1) := by decide +kernel
theorem dX6_wipe_32 : decode cX6_wipe 32 = .ok (.iload_n 2, 1) := by decide +kernel
theorem dX6_wipe_33 : decode cX6_wipe 33 = .ok (.ireturn, 1) := by decide +kernel
set_option maxRecDepth 20000 in
theorem ggX6_lots_X6_isRow : GoodIn wsX6_lots wsX6_isRow := goodIn_r _ [9, 10, 11, 8, 12] (by decide +kernel) (by decide +kernel)
set_option maxRecDepth 20000 in
theorem gX6_lots_X6_isRow : GoodIn wsX6_lots (va_wsS RX6 51 yX6_isRow wsX6_isRow) := goodIn_app (goodIn_of _ (by decide +kernel)) ggX6_lots_X6_isRow
set_option maxRecDepth 20000 in
theorem ggX6_lots_X6_in : GoodIn wsX6_lots wsX6_in := goodIn_r _ [12] (by decide +kernel) (by decide +kernel)
set_option maxRecDepth 20000 in
theorem gX6_lots_X6_in : GoodIn wsX6_lots (va_wsS RX6 35 yX6_in wsX6_in) := goodIn_app (goodIn_of _ (by decide +kernel)) ggX6_lots_X6_in
set_option maxRecDepth 20000 in
theorem ggX6_lots_X6_notes : GoodIn wsX6_lots wsX6_notes := goodIn_r _ [16, 17, 18, 5, 32, 33, 34, 35, 36, 37, 38, 39, 40] (by decide +kernel) (by decide +kernel)
set_option maxRecDepth 20000 in
theorem gX6_lots_X6_notes : GoodIn wsX6_lots (wsV RX6 58 RX6 yX6_notes wsX6_notes) := goodIn_app (goodIn_of _ (by decide +kernel)) ggX6_lots_X6_notes
set_option maxRecDepth 20000 in
theorem ggX6_lots_X6_drawn : GoodIn wsX6_lots wsX6_drawn := goodIn_r _ [21, 22, 23] (by decide +kernel) (by decide +kernel)
set_option maxRecDepth 20000 in
theorem gX6_lots_X6_drawn : GoodIn wsX6_lots (va_wsS RX6 66 yX6_drawn wsX6_drawn) := goodIn_app (goodIn_of _ (by decide +kernel)) ggX6_lots_X6_drawn
set_option maxRecDepth 20000 in
theorem ggX6_lots_X6_put : GoodIn wsX6_lots wsX6_put := goodIn_r _ [27, 5, 32, 33, 34, 35, 36, 37, 38, 39, 40] (by decide +kernel) (by decide +kernel)
set_option maxRecDepth 20000 in
theorem gX6_lots_X6_put : GoodIn wsX6_lots (wsV RX6 61 RX6 yX6_put wsX6_put) := goodIn_app (goodIn_of _ (by decide +kernel)) ggX6_lots_X6_put
set_option maxRecDepth 20000 in
theorem ggX6_lots_X6_windows : GoodIn wsX6_lots wsX6_windows := goodIn_r _ [31, 5, 32, 33, 34, 35, 36, 37, 38, 39, 40] (by decide +kernel) (by decide +kernel)
set_option maxRecDepth 20000 in
theorem gX6_lots_X6_windows : GoodIn wsX6_lots (wsV RX6 39 RX6 yX6_windows wsX6_windows) := goodIn_app (goodIn_of _ (by decide +kernel)) ggX6_lots_X6_windows
theorem dX6_lots_0 : decode cX6_lots 0 = .ok (.iload_n 1, 1) := by decide +kernel
theorem dX6_lots_1 : decode cX6_lots 1 = .ok (.invokestatic 51, 3) := by decide +kernel
theorem dX6_lots_4 : decode cX6_lots 4 = .ok (.ifCond .ne 6, 3) := by decide +kernel
theorem dX6_lots_7 : decode cX6_lots 7 = .ok (.ldc 55, 2) := by decide +kernel
theorem dX6_lots_9 : decode cX6_lots 9 = .ok (.ireturn, 1) := by decide +kernel
theorem dX6_lots_10 : decode cX6_lots 10 = .ok (.iload_n 2, 1) := by decide +kernel
theorem dX6_lots_11 : decode cX6_lots 11 = .ok (.iconst 1, 1) := by decide +kernel
theorem dX6_lots_12 : decode cX6_lots 12 = .ok (.sipush 128, 3) := by decide +kernel
theorem dX6_lots_15 : decode cX6_lots 15 = .ok (.invokestatic 35, 3) := by decide +kernel
theorem dX6_lots_18 : decode cX6_lots 18 = .ok (.ifCond .eq 13, 3) := by decide +kernel
theorem dX6_lots_21 : decode cX6_lots 21 = .ok (.iload_n 3, 1) := by decide +kernel
theorem dX6_lots_22 : decode cX6_lots 22 = .ok (.iconst 1, 1) := by decide +kernel
theorem dX6_lots_23 : decode cX6_lots 23 = .ok (.ldc 65, 2) := by decide +kernel
theorem dX6_lots_25 : decode cX6_lots 25 = .ok (.invokestatic 35, 3) := by decide +kernel
theorem dX6_lots_28 : decode cX6_lots 28 = .ok (.ifCond .ne 6, 3) := by decide +kernel
theorem dX6_lots_31 : decode cX6_lots 31 = .ok (.ldc 56, 2) := by decide +kernel
theorem dX6_lots_33 : decode cX6_lots 33 = .ok (.ireturn, 1) := by decide +kernel
theorem dX6_lots_34 : decode cX6_lots 34 = .ok (.aload_n 0, 1) := by decide +kernel
theorem dX6_lots_35 : decode cX6_lots 35 = .ok (.invokevirtual 58, 3) := by decide +kernel
theorem dX6_lots_38 : decode cX6_lots 38 = .ok (.iload_n 3, 1) := by decide +kernel
theorem dX6_lots_39 : decode cX6_lots 39 = .ok (.i2l, 1) := by decide +kernel
theorem dX6_lots_40 : decode cX6_lots 40 = .ok (.lstore 4, 2) := by decide +kernel
theorem dX6_lots_42 : decode cX6_lots 42 = .ok (.iconst 0, 1) := by decide +kernel
theorem dX6_lots_43 : decode cX6_lots 43 = .ok (.istore 6, 2) := by decide +kernel
theorem dX6_lots_45 : decode cX6_lots 45 = .ok (.iload 6, 2) := by decide +kernel
theorem dX6_lots_47 : decode cX6_lots 47 = .ok (.iload_n 2, 1) := by decide +kernel
theorem dX6_lots_48 : decode cX6_lots 48 = .ok (.if_icmp .ge 33, 3) := by decide +kernel
theorem dX6_lots_51 : decode cX6_lots 51 = .ok (.lload 4, 2) := by decide +kernel
theorem dX6_lots_53 : decode cX6_lots 53 = .ok (.invokestatic 66, 3) := by decide +kernel
theorem dX6_lots_56 : decode cX6_lots 56 = .ok (.lstore 4, 2) := by decide +kernel
theorem dX6_lots_58 : decode cX6_lots 58 = .ok (.aload_n 0, 1) := by decide +kernel
theorem dX6_lots_59 : decode cX6_lots 59 = .ok (.iload_n 1, 1) := by decide +kernel
theorem dX6_lots_60 : decode cX6_lots 60 = .ok (.iload 6, 2) := by decide +kernel
theorem dX6_lots_62 : decode cX6_lots 62 = .ok (.lload 4, 2) := by decide +kernel
theorem dX6_lots_64 : decode cX6_lots 64 = .ok (.ldc2_w 70, 3) := by decide +kernel
theorem dX6_lots_67 : decode cX6_lots 67 = .ok (.lrem, 1) := by decide +kernel
theorem dX6_lots_68 : decode cX6_lots 68 = .ok (.l2i, 1) := by decide +kernel
theorem dX6_lots_69 : decode cX6_lots 69 = .ok (.bipush 100, 2) := by decide +kernel
theorem dX6_lots_71 : decode cX6_lots 71 = .ok (.isub, 1) := by decide +kernel
theorem dX6_lots_72 : decode cX6_lots 72 = .ok (.invokevirtual 61, 3) := by decide +kernel
theorem dX6_lots_75 : decode cX6_lots 75 = .ok (.iinc 6 1, 3) := by decide +kernel
theorem dX6_lots_78 : decode cX6_lots 78 = .ok (.goto (-33), 3) := by decide +kernel
theorem dX6_lots_81 : decode cX6_lots 81 = .ok (.aload_n 0, 1) := by decide +kernel
theorem dX6_lots_82 : decode cX6_lots 82 = .ok (.getfield 7, 3) := by decide +kernel
theorem dX6_lots_85 : decode cX6_lots 85 = .ok (.iconst 2, 1) := by decide +kernel
theorem dX6_lots_86 : decode cX6_lots 86 = .ok (.iload_n 1, 1) := by decide +kernel
theorem dX6_lots_87 : decode cX6_lots 87 = .ok (.iadd, 1) := by decide +kernel
theorem dX6_lots_88 : decode cX6_lots 88 = .ok (.iload_n 2, 1) := by decide +kernel
theorem dX6_lots_89 : decode cX6_lots 89 = .ok (.iastore, 1) := by decide +kernel
theorem dX6_lots_90 : decode cX6_lots 90 = .ok (.aload_n 0, 1) := by decide +kernel
theorem dX6_lots_91 : decode cX6_lots 91 = .ok (.iload_n 1, 1) := by decide +kernel
theorem dX6_lots_92 : decode cX6_lots 92 = .ok (.invokevirtual 39, 3) := by decide +kernel
theorem dX6_lots_95 : decode cX6_lots 95 = .ok (.ireturn, 1) := by decide +kernel
set_option maxRecDepth 20000 in
theorem ggX6_becomes_X6_of : GoodIn wsX6_becomes wsX6_of := goodIn_r _ [5, 6, 14, 15, 16, 17, 18, 19, 20, 21, 22] (by decide +kernel) (by decide +kernel)
set_option maxRecDepth 20000 in
theorem gX6_becomes_X6_of : GoodIn wsX6_becomes (wsV RX6 72 RX6 yX6_of wsX6_of) := goodIn_app (goodIn_of _ (by decide +kernel)) ggX6_becomes_X6_of
set_option maxRecDepth 20000 in
theorem ggX6_becomes_X6_bounded : GoodIn wsX6_becomes wsX6_bounded := goodIn_r _ [9] (by decide +kernel) (by decide +kernel)
set_option maxRecDepth 20000 in
theorem gX6_becomes_X6_bounded : GoodIn wsX6_becomes (va_wsS RX6 76 yX6_bounded wsX6_bounded) := goodIn_app (goodIn_of _ (by decide +kernel)) ggX6_becomes_X6_bounded
set_option maxRecDepth 20000 in
theorem ggX6_becomes_X6_put : GoodIn wsX6_becomes wsX6_put := goodIn_r _ [13, 6, 14, 15, 16, 17, 18, 19, 20, 21, 22] (by decide +kernel) (by decide +kernel)
set_option maxRecDepth 20000 in
theorem gX6_becomes_X6_put : GoodIn wsX6_becomes (wsV RX6 61 RX6 yX6_put wsX6_put) := goodIn_app (goodIn_of _ (by decide +kernel)) ggX6_becomes_X6_put
theorem dX6_becomes_0 : decode cX6_becomes 0 = .ok (.aload_n 0, 1) := by decide +kernel
theorem dX6_becomes_1 : decode cX6_becomes 1 = .ok (.iload_n 1, 1) := by decide +kernel
theorem dX6_becomes_2 : decode cX6_becomes 2 = .ok (.iload_n 2, 1) := by decide +kernel
theorem dX6_becomes_3 : decode cX6_becomes 3 = .ok (.invokevirtual 72, 3) := by decide +kernel
theorem dX6_becomes_6 : decode cX6_becomes 6 = .ok (.istore 4, 2) := by decide +kernel
theorem dX6_becomes_8 : decode cX6_becomes 8 = .ok (.aload_n 0, 1) := by decide +kernel
theorem dX6_becomes_9 : decode cX6_becomes 9 = .ok (.iload_n 1, 1) := by decide +kernel
theorem dX6_becomes_10 : decode cX6_becomes 10 = .ok (.iload_n 2, 1) := by decide +kernel
theorem dX6_becomes_11 : decode cX6_becomes 11 = .ok (.iload_n 3, 1) := by decide +kernel
theorem dX6_becomes_12 : decode cX6_becomes 12 = .ok (.invokestatic 76, 3) := by decide +kernel
theorem dX6_becomes_15 : decode cX6_becomes 15 = .ok (.invokevirtual 61, 3) := by decide +kernel
theorem dX6_becomes_18 : decode cX6_becomes 18 = .ok (.aload_n 0, 1) := by decide +kernel
theorem dX6_becomes_19 : decode cX6_becomes 19 = .ok (.iload_n 1, 1) := by decide +kernel
theorem dX6_becomes_20 : decode cX6_becomes 20 = .ok (.iload_n 2, 1) := by decide +kernel
theorem dX6_becomes_21 : decode cX6_becomes 21 = .ok (.invokevirtual 72, 3) := by decide +kernel
theorem dX6_becomes_24 : decode cX6_becomes 24 = .ok (.iload 4, 2) := by decide +kernel
theorem dX6_becomes_26 : decode cX6_becomes 26 = .ok (.if_icmp .ne 7, 3) := by decide +kernel
theorem dX6_becomes_29 : decode cX6_becomes 29 = .ok (.iconst 0, 1) := by decide +kernel
theorem dX6_becomes_30 : decode cX6_becomes 30 = .ok (.goto 4, 3) := by decide +kernel
theorem dX6_becomes_33 : decode cX6_becomes 33 = .ok (.iconst 1, 1) := by decide +kernel
theorem dX6_becomes_34 : decode cX6_becomes 34 = .ok (.ireturn, 1) := by decide +kernel
set_option maxRecDepth 20000 in
theorem ggX6_noise_X6_isRow : GoodIn wsX6_noise wsX6_isRow := goodIn_r _ [9, 10, 11, 8, 12] (by decide +kernel) (by decide +kernel)
set_option maxRecDepth 20000 in
theorem gX6_noise_X6_isRow : GoodIn wsX6_noise (va_wsS RX6 51 yX6_isRow wsX6_isRow) := goodIn_app (goodIn_of _ (by decide +kernel)) ggX6_noise_X6_isRow
set_option maxRecDepth 20000 in
theorem ggX6_noise_X6_in : GoodIn wsX6_noise wsX6_in := goodIn_r _ [12] (by decide +kernel) (by decide +kernel)
set_option maxRecDepth 20000 in
theorem gX6_noise_X6_in : GoodIn wsX6_noise (va_wsS RX6 35 yX6_in wsX6_in) := goodIn_app (goodIn_of _ (by decide +kernel)) ggX6_noise_X6_in
set_option maxRecDepth 20000 in
theorem ggX6_noise_X6_notes : GoodIn wsX6_noise wsX6_notes := goodIn_r _ [16, 17, 18, 4, 39, 40, 41, 42, 43, 44, 45, 46, 47] (by decide +kernel) (by decide +kernel)
set_option maxRecDepth 20000 in
theorem gX6_noise_X6_notes : GoodIn wsX6_noise (wsV RX6 58 RX6 yX6_notes wsX6_notes) := goodIn_app (goodIn_of _ (by decide +kernel)) ggX6_noise_X6_notes
set_option maxRecDepth 20000 in
theorem ggX6_noise_X6_drawn : GoodIn wsX6_noise wsX6_drawn := goodIn_r _ [21, 22, 23] (by decide +kernel) (by decide +kernel)
set_option maxRecDepth 20000 in
theorem gX6_noise_X6_drawn : GoodIn wsX6_noise (va_wsS RX6 66 yX6_drawn wsX6_drawn) := goodIn_app (goodIn_of _ (by decide +kernel)) ggX6_noise_X6_drawn
set_option maxRecDepth 20000 in
theorem ggX6_noise_X6_of : GoodIn wsX6_noise wsX6_of := goodIn_r _ [27, 4, 39, 40, 41, 42, 43, 44, 45, 46, 47] (by decide +kernel) (by decide +kernel)
set_option maxRecDepth 20000 in
theorem gX6_noise_X6_of : GoodIn wsX6_noise (wsV RX6 72 RX6 yX6_of wsX6_of) := goodIn_app (goodIn_of _ (by decide +kernel)) ggX6_noise_X6_of
set_option maxRecDepth 20000 in
theorem ggX6_noise_X6_becomes : GoodIn wsX6_noise wsX6_becomes := goodIn_r _ [31, 24, 25, 26, 8, 27, 4, 32, 33, 34, 35, 36, 37, 38, 39, 40, 41, 42, 43, 44, 45, 46, 47] (by decide +kernel) (by decide +kernel)
set_option maxRecDepth 20000 in
theorem gX6_noise_X6_becomes : GoodIn wsX6_noise (wsV RX6 81 RX6 yX6_becomes wsX6_becomes) := goodIn_app (goodIn_of _ (by decide +kernel)) ggX6_noise_X6_becomes
theorem dX6_noise_0 : decode cX6_noise 0 = .ok (.iload_n 1, 1) := by decide +kernel
theorem dX6_noise_1 : decode cX6_noise 1 = .ok (.invokestatic 51, 3) := by decide +kernel
theorem dX6_noise_4 : decode cX6_noise 4 = .ok (.ifCond .ne 6, 3) := by decide +kernel
theorem dX6_noise_7 : decode cX6_noise 7 = .ok (.ldc 55, 2) := by decide +kernel
theorem dX6_noise_9 : decode cX6_noise 9 = .ok (.ireturn, 1) := by decide +kernel
theorem dX6_noise_10 : decode cX6_noise 10 = .ok (.iload_n 2, 1) := by decide +kernel
theorem dX6_noise_11 : decode cX6_noise 11 = .ok (.iconst 1, 1) := by decide +kernel
theorem dX6_noise_12 : decode cX6_noise 12 = .ok (.bipush 100, 2) := by decide +kernel
theorem dX6_noise_14 : decode cX6_noise 14 = .ok (.invokestatic 35, 3) := by decide +kernel
theorem dX6_noise_17 : decode cX6_noise 17 = .ok (.ifCond .eq 13, 3) := by decide +kernel
theorem dX6_noise_20 : decode cX6_noise 20 = .ok (.iload_n 3, 1) := by decide +kernel
theorem dX6_noise_21 : decode cX6_noise 21 = .ok (.iconst 1, 1) := by decide +kernel
theorem dX6_noise_22 : decode cX6_noise 22 = .ok (.ldc 65, 2) := by decide +kernel
theorem dX6_noise_24 : decode cX6_noise 24 = .ok (.invokestatic 35, 3) := by decide +kernel
theorem dX6_noise_27 : decode cX6_noise 27 = .ok (.ifCond .ne 6, 3) := by decide +kernel
theorem dX6_noise_30 : decode cX6_noise 30 = .ok (.ldc 56, 2) := by decide +kernel
theorem dX6_noise_32 : decode cX6_noise 32 = .ok (.ireturn, 1) := by decide +kernel
theorem dX6_noise_33 : decode cX6_noise 33 = .ok (.aload_n 0, 1) := by decide +kernel
theorem dX6_noise_34 : decode cX6_noise 34 = .ok (.invokevirtual 58, 3) := by decide +kernel
theorem dX6_noise_37 : decode cX6_noise 37 = .ok (.iload_n 3, 1) := by decide +kernel
theorem dX6_noise_38 : decode cX6_noise 38 = .ok (.i2l, 1) := by decide +kernel
theorem dX6_noise_39 : decode cX6_noise 39 = .ok (.lstore 4, 2) := by decide +kernel
theorem dX6_noise_41 : decode cX6_noise 41 = .ok (.iconst 0, 1) := by decide +kernel
theorem dX6_noise_42 : decode cX6_noise 42 = .ok (.istore 6, 2) := by decide +kernel
theorem dX6_noise_44 : decode cX6_noise 44 = .ok (.iconst 0, 1) := by decide +kernel
theorem dX6_noise_45 : decode cX6_noise 45 = .ok (.istore 7, 2) := by decide +kernel
theorem dX6_noise_47 : decode cX6_noise 47 = .ok (.iload 7, 2) := by decide +kernel
theorem dX6_noise_49 : decode cX6_noise 49 = .ok (.aload_n 0, 1) := by decide +kernel
theorem dX6_noise_50 : decode cX6_noise 50 = .ok (.getfield 7, 3) := by decide +kernel
theorem dX6_noise_53 : decode cX6_noise 53 = .ok (.iconst 2, 1) := by decide +kernel
theorem dX6_noise_54 : decode cX6_noise 54 = .ok (.iload_n 1, 1) := by decide +kernel
theorem dX6_noise_55 : decode cX6_noise 55 = .ok (.iadd, 1) := by decide +kernel
theorem dX6_noise_56 : decode cX6_noise 56 = .ok (.iaload, 1) := by decide +kernel
theorem dX6_noise_57 : decode cX6_noise 57 = .ok (.if_icmp .ge 50, 3) := by decide +kernel
theorem dX6_noise_60 : decode cX6_noise 60 = .ok (.lload 4, 2) := by decide +kernel
theorem dX6_noise_62 : decode cX6_noise 62 = .ok (.invokestatic 66, 3) := by decide +kernel
theorem dX6_noise_65 : decode cX6_noise 65 = .ok (.lstore 4, 2) := by decide +kernel
theorem dX6_noise_67 : decode cX6_noise 67 = .ok (.iload 6, 2) := by decide +kernel
theorem dX6_noise_69 : decode cX6_noise 69 = .ok (.aload_n 0, 1) := by decide +kernel
theorem dX6_noise_70 : decode cX6_noise 70 = .ok (.iload_n 1, 1) := by decide +kernel
theorem dX6_noise_71 : decode cX6_noise 71 = .ok (.iload 7, 2) := by decide +kernel
theorem dX6_noise_73 : decode cX6_noise 73 = .ok (.aload_n 0, 1) := by decide +kernel
theorem dX6_noise_74 : decode cX6_noise 74 = .ok (.iload_n 1, 1) := by decide +kernel
theorem dX6_noise_75 : decode cX6_noise 75 = .ok (.iload 7, 2) := by decide +kernel
theorem dX6_noise_77 : decode cX6_noise 77 = .ok (.invokevirtual 72, 3) := by decide +kernel
theorem dX6_noise_80 : decode cX6_noise 80 = .ok (.lload 4, 2) := by decide +kernel
theorem dX6_noise_82 : decode cX6_noise 82 = .ok (.ldc2_w 79, 3) := by decide +kernel
theorem dX6_noise_85 : decode cX6_noise 85 = .ok (.iload_n 2, 1) := by decide +kernel
theorem dX6_noise_86 : decode cX6_noise 86 = .ok (.i2l, 1) := by decide +kernel
theorem dX6_noise_87 : decode cX6_noise 87 = .ok (.lmul, 1) := by decide +kernel
theorem dX6_noise_88 : decode cX6_noise 88 = .ok (.lconst 1, 1) := by decide +kernel
theorem dX6_noise_89 : decode cX6_noise 89 = .ok (.ladd, 1) := by decide +kernel
theorem dX6_noise_90 : decode cX6_noise 90 = .ok (.lrem, 1) := by decide +kernel
theorem dX6_noise_91 : decode cX6_noise 91 = .ok (.l2i, 1) := by decide +kernel
theorem dX6_noise_92 : decode cX6_noise 92 = .ok (.iadd, 1) := by decide +kernel
theorem dX6_noise_93 : decode cX6_noise 93 = .ok (.iload_n 2, 1) := by decide +kernel
theorem dX6_noise_94 : decode cX6_noise 94 = .ok (.isub, 1) := by decide +kernel
theorem dX6_noise_95 : decode cX6_noise 95 = .ok (.invokevirtual 81, 3) := by decide +kernel
theorem dX6_noise_98 : decode cX6_noise 98 = .ok (.iadd, 1) := by decide +kernel
theorem dX6_noise_99 : decode cX6_noise 99 = .ok (.istore 6, 2) := by decide +kernel
theorem dX6_noise_101 : decode cX6_noise 101 = .ok (.iinc 7 1, 3) := by decide +kernel
theorem dX6_noise_104 : decode cX6_noise 104 = .ok (.goto (-57), 3) := by decide +kernel
theorem dX6_noise_107 : decode cX6_noise 107 = .ok (.iload 6, 2) := by decide +kernel
theorem dX6_noise_109 : decode cX6_noise 109 = .ok (.ireturn, 1) := by decide +kernel
set_option maxRecDepth 20000 in
theorem ggX6_louder_X6_isRow : GoodIn wsX6_louder wsX6_isRow := goodIn_r _ [7, 8, 9, 6, 10] (by decide +kernel) (by decide +kernel)
set_option maxRecDepth 20000 in
theorem gX6_louder_X6_isRow : GoodIn wsX6_louder (va_wsS RX6 51 yX6_isRow wsX6_isRow) := goodIn_app (goodIn_of _ (by decide +kernel)) ggX6_louder_X6_isRow
set_option maxRecDepth 20000 in
theorem ggX6_louder_X6_in : GoodIn wsX6_louder wsX6_in := goodIn_r _ [10] (by decide +kernel) (by decide +kernel)
set_option maxRecDepth 20000 in
theorem gX6_louder_X6_in : GoodIn wsX6_louder (va_wsS RX6 35 yX6_in wsX6_in) := goodIn_app (goodIn_of _ (by decide +kernel)) ggX6_louder_X6_in
set_option maxRecDepth 20000 in
theorem ggX6_louder_X6_notes : GoodIn wsX6_louder wsX6_notes := goodIn_r _ [14, 15, 16, 3, 32, 33, 34, 35, 36, 37, 38, 39, 40] (by decide +kernel) (by decide +kernel)
set_option maxRecDepth 20000 in
theorem gX6_louder_X6_notes : GoodIn wsX6_louder (wsV RX6 58 RX6 yX6_notes wsX6_notes) := goodIn_app (goodIn_of _ (by decide +kernel)) ggX6_louder_X6_notes
set_option maxRecDepth 20000 in
theorem ggX6_louder_X6_of : GoodIn wsX6_louder wsX6_of := goodIn_r _ [20, 3, 32, 33, 34, 35, 36, 37, 38, 39, 40] (by decide +kernel) (by decide +kernel)
set_option maxRecDepth 20000 in
theorem gX6_louder_X6_of : GoodIn wsX6_louder (wsV RX6 72 RX6 yX6_of wsX6_of) := goodIn_app (goodIn_of _ (by decide +kernel)) ggX6_louder_X6_of
set_option maxRecDepth 20000 in
theorem ggX6_louder_X6_becomes : GoodIn wsX6_louder wsX6_becomes := goodIn_r _ [24, 17, 18, 19, 6, 20, 3, 25, 26, 27, 28, 29, 30, 31, 32, 33, 34, 35, 36, 37, 38, 39, 40] (by decide +kernel) (by decide +kernel)
set_option maxRecDepth 20000 in
theorem gX6_louder_X6_becomes : GoodIn wsX6_louder (wsV RX6 81 RX6 yX6_becomes wsX6_becomes) := goodIn_app (goodIn_of _ (by decide +kernel)) ggX6_louder_X6_becomes
theorem dX6_louder_0 : decode cX6_louder 0 = .ok (.iload_n 1, 1) := by decide +kernel
theorem dX6_louder_1 : decode cX6_louder 1 = .ok (.invokestatic 51, 3) := by decide +kernel
theorem dX6_louder_4 : decode cX6_louder 4 = .ok (.ifCond .ne 6, 3) := by decide +kernel
theorem dX6_louder_7 : decode cX6_louder 7 = .ok (.ldc 55, 2) := by decide +kernel
theorem dX6_louder_9 : decode cX6_louder 9 = .ok (.ireturn, 1) := by decide +kernel
theorem dX6_louder_10 : decode cX6_louder 10 = .ok (.iload_n 2, 1) := by decide +kernel
theorem dX6_louder_11 : decode cX6_louder 11 = .ok (.iconst 1, 1) := by decide +kernel
theorem dX6_louder_12 : decode cX6_louder 12 = .ok (.bipush 9, 2) := by decide +kernel
theorem dX6_louder_14 : decode cX6_louder 14 = .ok (.invokestatic 35, 3) := by decide +kernel
theorem dX6_louder_17 : decode cX6_louder 17 = .ok (.ifCond .eq 13, 3) := by decide +kernel
theorem dX6_louder_20 : decode cX6_louder 20 = .ok (.iload_n 3, 1) := by decide +kernel
theorem dX6_louder_21 : decode cX6_louder 21 = .ok (.iconst 1, 1) := by decide +kernel
theorem dX6_louder_22 : decode cX6_louder 22 = .ok (.bipush 9, 2) := by decide +kernel
theorem dX6_louder_24 : decode cX6_louder 24 = .ok (.invokestatic 35, 3) := by decide +kernel
theorem dX6_louder_27 : decode cX6_louder 27 = .ok (.ifCond .ne 6, 3) := by decide +kernel
theorem dX6_louder_30 : decode cX6_louder 30 = .ok (.ldc 56, 2) := by decide +kernel
theorem dX6_louder_32 : decode cX6_louder 32 = .ok (.ireturn, 1) := by decide +kernel
theorem dX6_louder_33 : decode cX6_louder 33 = .ok (.aload_n 0, 1) := by decide +kernel
theorem dX6_louder_34 : decode cX6_louder 34 = .ok (.invokevirtual 58, 3) := by decide +kernel
theorem dX6_louder_37 : decode cX6_louder 37 = .ok (.iconst 0, 1) := by decide +kernel
theorem dX6_louder_38 : decode cX6_louder 38 = .ok (.istore 4, 2) := by decide +kernel
theorem dX6_louder_40 : decode cX6_louder 40 = .ok (.iconst 0, 1) := by decide +kernel
theorem dX6_louder_41 : decode cX6_louder 41 = .ok (.istore 5, 2) := by decide +kernel
theorem dX6_louder_43 : decode cX6_louder 43 = .ok (.iload 5, 2) := by decide +kernel
theorem dX6_louder_45 : decode cX6_louder 45 = .ok (.aload_n 0, 1) := by decide +kernel
theorem dX6_louder_46 : decode cX6_louder 46 = .ok (.getfield 7, 3) := by decide +kernel
theorem dX6_louder_49 : decode cX6_louder 49 = .ok (.iconst 2, 1) := by decide +kernel
theorem dX6_louder_50 : decode cX6_louder 50 = .ok (.iload_n 1, 1) := by decide +kernel
theorem dX6_louder_51 : decode cX6_louder 51 = .ok (.iadd, 1) := by decide +kernel
theorem dX6_louder_52 : decode cX6_louder 52 = .ok (.iaload, 1) := by decide +kernel
theorem dX6_louder_53 : decode cX6_louder 53 = .ok (.if_icmp .ge 32, 3) := by decide +kernel
theorem dX6_louder_56 : decode cX6_louder 56 = .ok (.iload 4, 2) := by decide +kernel
theorem dX6_louder_58 : decode cX6_louder 58 = .ok (.aload_n 0, 1) := by decide +kernel
theorem dX6_louder_59 : decode cX6_louder 59 = .ok (.iload_n 1, 1) := by decide +kernel
theorem dX6_louder_60 : decode cX6_louder 60 = .ok (.iload 5, 2) := by decide +kernel
theorem dX6_louder_62 : decode cX6_louder 62 = .ok (.aload_n 0, 1) := by decide +kernel
theorem dX6_louder_63 : decode cX6_louder 63 = .ok (.iload_n 1, 1) := by decide +kernel
theorem dX6_louder_64 : decode cX6_louder 64 = .ok (.iload 5, 2) := by decide +kernel
theorem dX6_louder_66 : decode cX6_louder 66 = .ok (.invokevirtual 72, 3) := by decide +kernel
theorem dX6_louder_69 : decode cX6_louder 69 = .ok (.iload_n 2, 1) := by decide +kernel
theorem dX6_louder_70 : decode cX6_louder 70 = .ok (.imul, 1) := by decide +kernel
theorem dX6_louder_71 : decode cX6_louder 71 = .ok (.iload_n 3, 1) := by decide +kernel
theorem dX6_louder_72 : decode cX6_louder 72 = .ok (.idiv, 1) := by decide +kernel
theorem dX6_louder_73 : decode cX6_louder 73 = .ok (.invokevirtual 81, 3) := by decide +kernel
theorem dX6_louder_76 : decode cX6_louder 76 = .ok (.iadd, 1) := by decide +kernel
theorem dX6_louder_77 : decode cX6_louder 77 = .ok (.istore 4, 2) := by decide +kernel
theorem dX6_louder_79 : decode cX6_louder 79 = .ok (.iinc 5 1, 3) := by decide +kernel
theorem dX6_louder_82 : decode cX6_louder 82 = .ok (.goto (-39), 3) := by decide +kernel
theorem dX6_louder_85 : decode cX6_louder 85 = .ok (.iload 4, 2) := by decide +kernel
theorem dX6_louder_87 : decode cX6_louder 87 = .ok (.ireturn, 1) := by decide +kernel
set_option maxRecDepth 20000 in
theorem ggX6_hear_X6_in : GoodIn wsX6_hear wsX6_in := goodIn_r _ [8] (by decide +kernel) (by decide +kernel)
set_option maxRecDepth 20000 in
theorem gX6_hear_X6_in : GoodIn wsX6_hear (va_wsS RX6 35 yX6_in wsX6_in) := goodIn_app (goodIn_of _ (by decide +kernel)) ggX6_hear_X6_in
set_option maxRecDepth 20000 in
theorem ggX6_hear_X6_notes : GoodIn wsX6_hear wsX6_notes := goodIn_r _ [12, 13, 14, 3, 23, 24, 25, 26, 27, 28, 29, 30, 31] (by decide +kernel) (by decide +kernel)
set_option maxRecDepth 20000 in
theorem gX6_hear_X6_notes : GoodIn wsX6_hear (wsV RX6 58 RX6 yX6_notes wsX6_notes) := goodIn_app (goodIn_of _ (by decide +kernel)) ggX6_hear_X6_notes
set_option maxRecDepth 20000 in
theorem ggX6_hear_X6_of : GoodIn wsX6_hear wsX6_of := goodIn_r _ [18, 3, 23, 24, 25, 26, 27, 28, 29, 30, 31] (by decide +kernel) (by decide +kernel)
set_option maxRecDepth 20000 in
theorem gX6_hear_X6_of : GoodIn wsX6_hear (wsV RX6 72 RX6 yX6_of wsX6_of) := goodIn_app (goodIn_of _ (by decide +kernel)) ggX6_hear_X6_of
set_option maxRecDepth 20000 in
theorem ggX6_hear_X6_put : GoodIn wsX6_hear wsX6_put := goodIn_r _ [22, 3, 23, 24, 25, 26, 27, 28, 29, 30, 31] (by decide +kernel) (by decide +kernel)
set_option maxRecDepth 20000 in
theorem gX6_hear_X6_put : GoodIn wsX6_hear (wsV RX6 61 RX6 yX6_put wsX6_put) := goodIn_app (goodIn_of _ (by decide +kernel)) ggX6_hear_X6_put
theorem dX6_hear_0 : decode cX6_hear 0 = .ok (.iload_n 1, 1) := by decide +kernel
theorem dX6_hear_1 : decode cX6_hear 1 = .ok (.iconst 0, 1) := by decide +kernel
theorem dX6_hear_2 : decode cX6_hear 2 = .ok (.iconst 3, 1) := by decide +kernel
theorem dX6_hear_3 : decode cX6_hear 3 = .ok (.invokestatic 35, 3) := by decide +kernel
theorem dX6_hear_6 : decode cX6_hear 6 = .ok (.ifCond .ne 6, 3) := by decide +kernel
theorem dX6_hear_9 : decode cX6_hear 9 = .ok (.ldc 55, 2) := by decide +kernel
theorem dX6_hear_11 : decode cX6_hear 11 = .ok (.ireturn, 1) := by decide +kernel
theorem dX6_hear_12 : decode cX6_hear 12 = .ok (.iload_n 2, 1) := by decide +kernel
theorem dX6_hear_13 : decode cX6_hear 13 = .ok (.iconst 0, 1) := by decide +kernel
theorem dX6_hear_14 : decode cX6_hear 14 = .ok (.bipush 127, 2) := by decide +kernel
theorem dX6_hear_16 : decode cX6_hear 16 = .ok (.invokestatic 35, 3) := by decide +kernel
theorem dX6_hear_19 : decode cX6_hear 19 = .ok (.ifCond .eq 14, 3) := by decide +kernel
theorem dX6_hear_22 : decode cX6_hear 22 = .ok (.iload_n 3, 1) := by decide +kernel
theorem dX6_hear_23 : decode cX6_hear 23 = .ok (.iconst 1, 1) := by decide +kernel
theorem dX6_hear_24 : decode cX6_hear 24 = .ok (.sipush 128, 3) := by decide +kernel
theorem dX6_hear_27 : decode cX6_hear 27 = .ok (.invokestatic 35, 3) := by decide +kernel
theorem dX6_hear_30 : decode cX6_hear 30 = .ok (.ifCond .ne 6, 3) := by decide +kernel
theorem dX6_hear_33 : decode cX6_hear 33 = .ok (.ldc 56, 2) := by decide +kernel
theorem dX6_hear_35 : decode cX6_hear 35 = .ok (.ireturn, 1) := by decide +kernel
theorem dX6_hear_36 : decode cX6_hear 36 = .ok (.aload_n 0, 1) := by decide +kernel
theorem dX6_hear_37 : decode cX6_hear 37 = .ok (.getfield 7, 3) := by decide +kernel
theorem dX6_hear_40 : decode cX6_hear 40 = .ok (.iconst 2, 1) := by decide +kernel
theorem dX6_hear_41 : decode cX6_hear 41 = .ok (.iload_n 1, 1) := by decide +kernel
theorem dX6_hear_42 : decode cX6_hear 42 = .ok (.iadd, 1) := by decide +kernel
theorem dX6_hear_43 : decode cX6_hear 43 = .ok (.iaload, 1) := by decide +kernel
theorem dX6_hear_44 : decode cX6_hear 44 = .ok (.iload_n 2, 1) := by decide +kernel
theorem dX6_hear_45 : decode cX6_hear 45 = .ok (.isub, 1) := by decide +kernel
theorem dX6_hear_46 : decode cX6_hear 46 = .ok (.istore 4, 2) := by decide +kernel
theorem dX6_hear_48 : decode cX6_hear 48 = .ok (.iload 4, 2) := by decide +kernel
theorem dX6_hear_50 : decode cX6_hear 50 = .ok (.ifCond .gt 6, 3) := by decide +kernel
theorem dX6_hear_53 : decode cX6_hear 53 = .ok (.ldc 85, 2) := by decide +kernel
theorem dX6_hear_55 : decode cX6_hear 55 = .ok (.ireturn, 1) := by decide +kernel
theorem dX6_hear_56 : decode cX6_hear 56 = .ok (.aload_n 0, 1) := by decide +kernel
theorem dX6_hear_57 : decode cX6_hear 57 = .ok (.invokevirtual 58, 3) := by decide +kernel
theorem dX6_hear_60 : decode cX6_hear 60 = .ok (.iload_n 3, 1) := by decide +kernel
theorem dX6_hear_61 : decode cX6_hear 61 = .ok (.iload 4, 2) := by decide +kernel
theorem dX6_hear_63 : decode cX6_hear 63 = .ok (.if_icmp .ge 7, 3) := by decide +kernel
theorem dX6_hear_66 : decode cX6_hear 66 = .ok (.iload_n 3, 1) := by decide +kernel
theorem dX6_hear_67 : decode cX6_hear 67 = .ok (.goto 5, 3) := by decide +kernel
theorem dX6_hear_70 : decode cX6_hear 70 = .ok (.iload 4, 2) := by decide +kernel
theorem dX6_hear_72 : decode cX6_hear 72 = .ok (.istore 5, 2) := by decide +kernel
theorem dX6_hear_74 : decode cX6_hear 74 = .ok (.iconst 0, 1) := by decide +kernel
theorem dX6_hear_75 : decode cX6_hear 75 = .ok (.istore 6, 2) := by decide +kernel
theorem dX6_hear_77 : decode cX6_hear 77 = .ok (.iload 6, 2) := by decide +kernel
theorem dX6_hear_79 : decode cX6_hear 79 = .ok (.iload 5, 2) := by decide +kernel
theorem dX6_hear_81 : decode cX6_hear 81 = .ok (.if_icmp .ge 25, 3) := by decide +kernel
theorem dX6_hear_84 : decode cX6_hear 84 = .ok (.aload_n 0, 1) := by decide +kernel
theorem dX6_hear_85 : decode cX6_hear 85 = .ok (.iconst 4, 1) := by decide +kernel
theorem dX6_hear_86 : decode cX6_hear 86 = .ok (.iload 6, 2) := by decide +kernel
theorem dX6_hear_88 : decode cX6_hear 88 = .ok (.aload_n 0, 1) := by decide +kernel
theorem dX6_hear_89 : decode cX6_hear 89 = .ok (.iload_n 1, 1) := by decide +kernel
theorem dX6_hear_90 : decode cX6_hear 90 = .ok (.iload_n 2, 1) := by decide +kernel
theorem dX6_hear_91 : decode cX6_hear 91 = .ok (.iload 6, 2) := by decide +kernel
theorem dX6_hear_93 : decode cX6_hear 93 = .ok (.iadd, 1) := by decide +kernel
theorem dX6_hear_94 : decode cX6_hear 94 = .ok (.invokevirtual 72, 3) := by decide +kernel
theorem dX6_hear_97 : decode cX6_hear 97 = .ok (.invokevirtual 61, 3) := by decide +kernel
theorem dX6_hear_100 : decode cX6_hear 100 = .ok (.iinc 6 1, 3) := by decide +kernel
theorem dX6_hear_103 : decode cX6_hear 103 = .ok (.goto (-26), 3) := by decide +kernel
theorem dX6_hear_106 : decode cX6_hear 106 = .ok (.aload_n 0, 1) := by decide +kernel
theorem dX6_hear_107 : decode cX6_hear 107 = .ok (.getfield 7, 3) := by decide +kernel
theorem dX6_hear_110 : decode cX6_hear 110 = .ok (.bipush 6, 2) := by decide +kernel
theorem dX6_hear_112 : decode cX6_hear 112 = .ok (.iload 5, 2) := by decide +kernel
theorem dX6_hear_114 : decode cX6_hear 114 = .ok (.iastore, 1) := by decide +kernel
theorem dX6_hear_115 : decode cX6_hear 115 = .ok (.iload 5, 2) := by decide +kernel
theorem dX6_hear_117 : decode cX6_hear 117 = .ok (.ireturn, 1) := by decide +kernel
set_option maxRecDepth 20000 in
theorem ggX6_bound_X6_in : GoodIn wsX6_bound wsX6_in := goodIn_r _ [7] (by decide +kernel) (by decide +kernel)
set_option maxRecDepth 20000 in
theorem gX6_bound_X6_in : GoodIn wsX6_bound (va_wsS RX6 35 yX6_in wsX6_in) := goodIn_app (goodIn_of _ (by decide +kernel)) ggX6_bound_X6_in
set_option maxRecDepth 20000 in
theorem ggX6_bound_X6_notes : GoodIn wsX6_bound wsX6_notes := goodIn_r _ [11, 12, 13, 3, 14, 15, 16, 17, 18, 19, 20, 21, 22] (by decide +kernel) (by decide +kernel)
set_option maxRecDepth 20000 in
theorem gX6_bound_X6_notes : GoodIn wsX6_bound (wsV RX6 58 RX6 yX6_notes wsX6_notes) := goodIn_app (goodIn_of _ (by decide +kernel)) ggX6_bound_X6_notes
theorem dX6_bound_0 : decode cX6_bound 0 = .ok (.iload_n 1, 1) := by decide +kernel
theorem dX6_bound_1 : decode cX6_bound 1 = .ok (.ifCond .ne 13, 3) := by decide +kernel
theorem dX6_bound_4 : decode cX6_bound 4 = .ok (.iload_n 2, 1) := by decide +kernel
theorem dX6_bound_5 : decode cX6_bound 5 = .ok (.iconst 0, 1) := by decide +kernel
theorem dX6_bound_6 : decode cX6_bound 6 = .ok (.ldc 86, 2) := by decide +kernel
theorem dX6_bound_8 : decode cX6_bound 8 = .ok (.invokestatic 35, 3) := by decide +kernel
theorem dX6_bound_11 : decode cX6_bound 11 = .ok (.ifCond .ne 17, 3) := by decide +kernel
theorem dX6_bound_14 : decode cX6_bound 14 = .ok (.iload_n 1, 1) := by decide +kernel
theorem dX6_bound_15 : decode cX6_bound 15 = .ok (.iconst 1, 1) := by decide +kernel
theorem dX6_bound_16 : decode cX6_bound 16 = .ok (.if_icmp .ne 16, 3) := by decide +kernel
theorem dX6_bound_19 : decode cX6_bound 19 = .ok (.iload_n 2, 1) := by decide +kernel
theorem dX6_bound_20 : decode cX6_bound 20 = .ok (.iconst 1, 1) := by decide +kernel
theorem dX6_bound_21 : decode cX6_bound 21 = .ok (.iconst 5, 1) := by decide +kernel
theorem dX6_bound_22 : decode cX6_bound 22 = .ok (.invokestatic 35, 3) := by decide +kernel
theorem dX6_bound_25 : decode cX6_bound 25 = .ok (.ifCond .eq 7, 3) := by decide +kernel
theorem dX6_bound_28 : decode cX6_bound 28 = .ok (.iconst 1, 1) := by decide +kernel
theorem dX6_bound_29 : decode cX6_bound 29 = .ok (.goto 4, 3) := by decide +kernel
theorem dX6_bound_32 : decode cX6_bound 32 = .ok (.iconst 0, 1) := by decide +kernel
theorem dX6_bound_33 : decode cX6_bound 33 = .ok (.istore_n 3, 1) := by decide +kernel
theorem dX6_bound_34 : decode cX6_bound 34 = .ok (.iload_n 3, 1) := by decide +kernel
theorem dX6_bound_35 : decode cX6_bound 35 = .ok (.ifCond .ne 6, 3) := by decide +kernel
theorem dX6_bound_38 : decode cX6_bound 38 = .ok (.ldc 56, 2) := by decide +kernel
theorem dX6_bound_40 : decode cX6_bound 40 = .ok (.ireturn, 1) := by decide +kernel
theorem dX6_bound_41 : decode cX6_bound 41 = .ok (.aload_n 0, 1) := by decide +kernel
theorem dX6_bound_42 : decode cX6_bound 42 = .ok (.invokevirtual 58, 3) := by decide +kernel
theorem dX6_bound_45 : decode cX6_bound 45 = .ok (.aload_n 0, 1) := by decide +kernel
theorem dX6_bound_46 : decode cX6_bound 46 = .ok (.getfield 7, 3) := by decide +kernel
theorem dX6_bound_49 : decode cX6_bound 49 = .ok (.iload_n 1, 1) := by decide +kernel
theorem dX6_bound_50 : decode cX6_bound 50 = .ok (.iaload, 1) := by decide +kernel
theorem dX6_bound_51 : decode cX6_bound 51 = .ok (.istore 4, 2) := by decide +kernel
theorem dX6_bound_53 : decode cX6_bound 53 = .ok (.aload_n 0, 1) := by decide +kernel
theorem dX6_bound_54 : decode cX6_bound 54 = .ok (.getfield 7, 3) := by decide +kernel
theorem dX6_bound_57 : decode cX6_bound 57 = .ok (.iload_n 1, 1) := by decide +kernel
theorem dX6_bound_58 : decode cX6_bound 58 = .ok (.iload_n 2, 1) := by decide +kernel
theorem dX6_bound_59 : decode cX6_bound 59 = .ok (.iastore, 1) := by decide +kernel
theorem dX6_bound_60 : decode cX6_bound 60 = .ok (.iload 4, 2) := by decide +kernel
theorem dX6_bound_62 : decode cX6_bound 62 = .ok (.ireturn, 1) := by decide +kernel
theorem dX6_undo_0 : decode cX6_undo 0 = .ok (.aload_n 0, 1) := by decide +kernel
theorem dX6_undo_1 : decode cX6_undo 1 = .ok (.getfield 43, 3) := by decide +kernel
theorem dX6_undo_4 : decode cX6_undo 4 = .ok (.ifCond .ne 6, 3) := by decide +kernel
theorem dX6_undo_7 : decode cX6_undo 7 = .ok (.ldc 85, 2) := by decide +kernel
theorem dX6_undo_9 : decode cX6_undo 9 = .ok (.ireturn, 1) := by decide +kernel
theorem dX6_undo_10 : decode cX6_undo 10 = .ok (.aload_n 0, 1) := by decide +kernel
theorem dX6_undo_11 : decode cX6_undo 11 = .ok (.dup, 1) := by decide +kernel
theorem dX6_undo_12 : decode cX6_undo 12 = .ok (.getfield 43, 3) := by decide +kernel
theorem dX6_undo_15 : decode cX6_undo 15 = .ok (.iconst 1, 1) := by decide +kernel
theorem dX6_undo_16 : decode cX6_undo 16 = .ok (.isub, 1) := by decide +kernel
theorem dX6_undo_17 : decode cX6_undo 17 = .ok (.putfield 43, 3) := by decide +kernel
theorem dX6_undo_20 : decode cX6_undo 20 = .ok (.iconst 0, 1) := by decide +kernel
theorem dX6_undo_21 : decode cX6_undo 21 = .ok (.istore_n 1, 1) := by decide +kernel
theorem dX6_undo_22 : decode cX6_undo 22 = .ok (.iload_n 1, 1) := by decide +kernel
theorem dX6_undo_23 : decode cX6_undo 23 = .ok (.sipush 647, 3) := by decide +kernel
theorem dX6_undo_26 : decode cX6_undo 26 = .ok (.if_icmp .ge 30, 3) := by decide +kernel
theorem dX6_undo_29 : decode cX6_undo 29 = .ok (.aload_n 0, 1) := by decide +kernel
theorem dX6_undo_30 : decode cX6_undo 30 = .ok (.getfield 7, 3) := by decide +kernel
theorem dX6_undo_33 : decode cX6_undo 33 = .ok (.iload_n 1, 1) := by decide +kernel
theorem dX6_undo_34 : decode cX6_undo 34 = .ok (.aload_n 0, 1) := by decide +kernel
theorem dX6_undo_35 : decode cX6_undo 35 = .ok (.getfield 13, 3) := by decide +kernel
theorem dX6_undo_38 : decode cX6_undo 38 = .ok (.sipush 647, 3) := by decide +kernel
theorem dX6_undo_41 : decode cX6_undo 41 = .ok (.aload_n 0, 1) := by decide +kernel
theorem dX6_undo_42 : decode cX6_undo 42 = .ok (.getfield 43, 3) := by decide +kernel
theorem dX6_undo_45 : decode cX6_undo 45 = .ok (.imul, 1) := by decide +kernel
theorem dX6_undo_46 : decode cX6_undo 46 = .ok (.iload_n 1, 1) := by decide +kernel
theorem dX6_undo_47 : decode cX6_undo 47 = .ok (.iadd, 1) := by decide +kernel
theorem dX6_undo_48 : decode cX6_undo 48 = .ok (.iaload, 1) := by decide +kernel
theorem dX6_undo_49 : decode cX6_undo 49 = .ok (.iastore, 1) := by decide +kernel
theorem dX6_undo_50 : decode cX6_undo 50 = .ok (.iinc 1 1, 3) := by decide +kernel
theorem dX6_undo_53 : decode cX6_undo 53 = .ok (.goto (-31), 3) := by decide +kernel
theorem dX6_undo_56 : decode cX6_undo 56 = .ok (.aload_n 0, 1) := by decide +kernel
theorem dX6_undo_57 : decode cX6_undo 57 = .ok (.getfield 43, 3) := by decide +kernel
theorem dX6_undo_60 : decode cX6_undo 60 = .ok (.ireturn, 1) := by decide +kernel
set_option maxRecDepth 20000 in
theorem ggX6_turns_X6_of : GoodIn wsX6_turns wsX6_of := goodIn_r _ [6, 7, 8, 9, 10, 11, 12, 13, 14, 15, 16] (by decide +kernel) (by decide +kernel)
set_option maxRecDepth 20000 in
theorem gX6_turns_X6_of : GoodIn wsX6_turns (wsV RX6 72 RX6 yX6_of wsX6_of) := goodIn_app (goodIn_of _ (by decide +kernel)) ggX6_turns_X6_of
theorem dX6_turns_0 : decode cX6_turns 0 = .ok (.iconst 0, 1) := by decide +kernel
theorem dX6_turns_1 : decode cX6_turns 1 = .ok (.istore_n 3, 1) := by decide +kernel
theorem dX6_turns_2 : decode cX6_turns 2 = .ok (.iload_n 3, 1) := by decide +kernel
theorem dX6_turns_3 : decode cX6_turns 3 = .ok (.bipush 8, 2) := by decide +kernel
theorem dX6_turns_5 : decode cX6_turns 5 = .ok (.if_icmp .ge 26, 3) := by decide +kernel
theorem dX6_turns_8 : decode cX6_turns 8 = .ok (.aload_n 0, 1) := by decide +kernel
theorem dX6_turns_9 : decode cX6_turns 9 = .ok (.getfield 23, 3) := by decide +kernel
theorem dX6_turns_12 : decode cX6_turns 12 = .ok (.iload_n 3, 1) := by decide +kernel
theorem dX6_turns_13 : decode cX6_turns 13 = .ok (.aload_n 0, 1) := by decide +kernel
theorem dX6_turns_14 : decode cX6_turns 14 = .ok (.iload_n 1, 1) := by decide +kernel
theorem dX6_turns_15 : decode cX6_turns 15 = .ok (.bipush 8, 2) := by decide +kernel
theorem dX6_turns_17 : decode cX6_turns 17 = .ok (.iload_n 2, 1) := by decide +kernel
theorem dX6_turns_18 : decode cX6_turns 18 = .ok (.imul, 1) := by decide +kernel
theorem dX6_turns_19 : decode cX6_turns 19 = .ok (.iload_n 3, 1) := by decide +kernel
theorem dX6_turns_20 : decode cX6_turns 20 = .ok (.iadd, 1) := by decide +kernel
theorem dX6_turns_21 : decode cX6_turns 21 = .ok (.invokevirtual 72, 3) := by decide +kernel
theorem dX6_turns_24 : decode cX6_turns 24 = .ok (.iastore, 1) := by decide +kernel
theorem dX6_turns_25 : decode cX6_turns 25 = .ok (.iinc 3 1, 3) := by decide +kernel
theorem dX6_turns_28 : decode cX6_turns 28 = .ok (.goto (-26), 3) := by decide +kernel
theorem dX6_turns_31 : decode cX6_turns 31 = .ok (.iconst 1, 1) := by decide +kernel
theorem dX6_turns_32 : decode cX6_turns 32 = .ok (.istore_n 3, 1) := by decide +kernel
theorem dX6_turns_33 : decode cX6_turns 33 = .ok (.iload_n 3, 1) := by decide +kernel
theorem dX6_turns_34 : decode cX6_turns 34 = .ok (.bipush 8, 2) := by decide +kernel
theorem dX6_turns_36 : decode cX6_turns 36 = .ok (.if_icmp .ge 79, 3) := by decide +kernel
theorem dX6_turns_39 : decode cX6_turns 39 = .ok (.iconst 0, 1) := by decide +kernel
theorem dX6_turns_40 : decode cX6_turns 40 = .ok (.istore 4, 2) := by decide +kernel
theorem dX6_turns_42 : decode cX6_turns 42 = .ok (.iload 4, 2) := by decide +kernel
theorem dX6_turns_44 : decode cX6_turns 44 = .ok (.bipush 8, 2) := by decide +kernel
theorem dX6_turns_46 : decode cX6_turns 46 = .ok (.if_icmp .ge 62, 3) := by decide +kernel
theorem dX6_turns_49 : decode cX6_turns 49 = .ok (.iload 4, 2) := by decide +kernel
theorem dX6_turns_51 : decode cX6_turns 51 = .ok (.iload_n 3, 1) := by decide +kernel
theorem dX6_turns_52 : decode cX6_turns 52 = .ok (.iand, 1) := by decide +kernel
theorem dX6_turns_53 : decode cX6_turns 53 = .ok (.ifCond .ne 49, 3) := by decide +kernel
theorem dX6_turns_56 : decode cX6_turns 56 = .ok (.aload_n 0, 1) := by decide +kernel
theorem dX6_turns_57 : decode cX6_turns 57 = .ok (.getfield 23, 3) := by decide +kernel
theorem dX6_turns_60 : decode cX6_turns 60 = .ok (.iload 4, 2) := by decide +kernel
theorem dX6_turns_62 : decode cX6_turns 62 = .ok (.iaload, 1) := by decide +kernel
theorem dX6_turns_63 : decode cX6_turns 63 = .ok (.istore 5, 2) := by decide +kernel
theorem dX6_turns_65 : decode cX6_turns 65 = .ok (.aload_n 0, 1) := by decide +kernel
theorem dX6_turns_66 : decode cX6_turns 66 = .ok (.getfield 23, 3) := by decide +kernel
theorem dX6_turns_69 : decode cX6_turns 69 = .ok (.iload 4, 2) := by decide +kernel
theorem dX6_turns_71 : decode cX6_turns 71 = .ok (.iload_n 3, 1) := by decide +kernel
end
section
theorem dX6_turns_72 : decode cX6_turns 72 = .ok (.iadd, 1) := by decide +kernel
theorem dX6_turns_73 : decode cX6_turns 73 = .ok (.iaload, 1) := by decide +kernel
theorem dX6_turns_74 : decode cX6_turns 74 = .ok (.istore 6, 2) := by decide +kernel
theorem dX6_turns_76 : decode cX6_turns 76 = .ok (.aload_n 0, 1) := by decide +kernel
theorem dX6_turns_77 : decode cX6_turns 77 = .ok (.getfield 23, 3) := by decide +kernel
theorem dX6_turns_80 : decode cX6_turns 80 = .ok (.iload 4, 2) := by decide +kernel
theorem dX6_turns_82 : decode cX6_turns 82 = .ok (.iload 5, 2) := by decide +kernel
theorem dX6_turns_84 : decode cX6_turns 84 = .ok (.iload 6, 2) := by decide +kernel
theorem dX6_turns_86 : decode cX6_turns 86 = .ok (.iadd, 1) := by decide +kernel
theorem dX6_turns_87 : decode cX6_turns 87 = .ok (.iastore, 1) := by decide +kernel
theorem dX6_turns_88 : decode cX6_turns 88 = .ok (.aload_n 0, 1) := by decide +kernel
theorem dX6_turns_89 : decode cX6_turns 89 = .ok (.getfield 23, 3) := by decide +kernel
theorem dX6_turns_92 : decode cX6_turns 92 = .ok (.iload 4, 2) := by decide +kernel
theorem dX6_turns_94 : decode cX6_turns 94 = .ok (.iload_n 3, 1) := by decide +kernel
theorem dX6_turns_95 : decode cX6_turns 95 = .ok (.iadd, 1) := by decide +kernel
theorem dX6_turns_96 : decode cX6_turns 96 = .ok (.iload 5, 2) := by decide +kernel
theorem dX6_turns_98 : decode cX6_turns 98 = .ok (.iload 6, 2) := by decide +kernel
theorem dX6_turns_100 : decode cX6_turns 100 = .ok (.isub, 1) := by decide +kernel
theorem dX6_turns_101 : decode cX6_turns 101 = .ok (.iastore, 1) := by decide +kernel
theorem dX6_turns_102 : decode cX6_turns 102 = .ok (.iinc 4 1, 3) := by decide +kernel
theorem dX6_turns_105 : decode cX6_turns 105 = .ok (.goto (-63), 3) := by decide +kernel
theorem dX6_turns_108 : decode cX6_turns 108 = .ok (.iload_n 3, 1) := by decide +kernel
theorem dX6_turns_109 : decode cX6_turns 109 = .ok (.iconst 2, 1) := by decide +kernel
theorem dX6_turns_110 : decode cX6_turns 110 = .ok (.imul, 1) := by decide +kernel
theorem dX6_turns_111 : decode cX6_turns 111 = .ok (.istore_n 3, 1) := by decide +kernel
theorem dX6_turns_112 : decode cX6_turns 112 = .ok (.goto (-79), 3) := by decide +kernel
theorem dX6_turns_115 : decode cX6_turns 115 = .ok (.return_, 1) := by decide +kernel
theorem dX6_shareOf_0 : decode cX6_shareOf 0 = .ok (.aload_n 0, 1) := by decide +kernel
theorem dX6_shareOf_1 : decode cX6_shareOf 1 = .ok (.getfield 23, 3) := by decide +kernel
theorem dX6_shareOf_4 : decode cX6_shareOf 4 = .ok (.iload_n 1, 1) := by decide +kernel
theorem dX6_shareOf_5 : decode cX6_shareOf 5 = .ok (.iaload, 1) := by decide +kernel
theorem dX6_shareOf_6 : decode cX6_shareOf 6 = .ok (.aload_n 0, 1) := by decide +kernel
theorem dX6_shareOf_7 : decode cX6_shareOf 7 = .ok (.getfield 23, 3) := by decide +kernel
theorem dX6_shareOf_10 : decode cX6_shareOf 10 = .ok (.iload_n 1, 1) := by decide +kernel
theorem dX6_shareOf_11 : decode cX6_shareOf 11 = .ok (.iaload, 1) := by decide +kernel
theorem dX6_shareOf_12 : decode cX6_shareOf 12 = .ok (.imul, 1) := by decide +kernel
theorem dX6_shareOf_13 : decode cX6_shareOf 13 = .ok (.bipush 64, 2) := by decide +kernel
theorem dX6_shareOf_15 : decode cX6_shareOf 15 = .ok (.idiv, 1) := by decide +kernel
theorem dX6_shareOf_16 : decode cX6_shareOf 16 = .ok (.ireturn, 1) := by decide +kernel
set_option maxRecDepth 20000 in
theorem ggX6_peakOf_X6_turns : GoodIn wsX6_peakOf wsX6_turns := goodIn_r _ [6, 7, 8, 9, 10, 5, 11, 1, 16, 17, 18, 19, 20, 21, 22, 23, 24] (by decide +kernel) (by decide +kernel)
set_option maxRecDepth 20000 in
theorem gX6_peakOf_X6_turns : GoodIn wsX6_peakOf (wsV RX6 87 RX6 yX6_turns wsX6_turns) := goodIn_app (goodIn_of _ (by decide +kernel)) ggX6_peakOf_X6_turns
set_option maxRecDepth 20000 in
theorem ggX6_peakOf_X6_shareOf : GoodIn wsX6_peakOf wsX6_shareOf := goodIn_r _ [15, 7, 16, 17, 18, 19, 20, 21, 22, 23, 24] (by decide +kernel) (by decide +kernel)
set_option maxRecDepth 20000 in
theorem gX6_peakOf_X6_shareOf : GoodIn wsX6_peakOf (wsV RX6 91 RX6 yX6_shareOf wsX6_shareOf) := goodIn_app (goodIn_of _ (by decide +kernel)) ggX6_peakOf_X6_shareOf
theorem dX6_peakOf_0 : decode cX6_peakOf 0 = .ok (.aload_n 0, 1) := by decide +kernel
theorem dX6_peakOf_1 : decode cX6_peakOf 1 = .ok (.iload_n 1, 1) := by decide +kernel
theorem dX6_peakOf_2 : decode cX6_peakOf 2 = .ok (.iload_n 2, 1) := by decide +kernel
theorem dX6_peakOf_3 : decode cX6_peakOf 3 = .ok (.invokevirtual 87, 3) := by decide +kernel
theorem dX6_peakOf_6 : decode cX6_peakOf 6 = .ok (.iconst 1, 1) := by decide +kernel
theorem dX6_peakOf_7 : decode cX6_peakOf 7 = .ok (.istore_n 3, 1) := by decide +kernel
theorem dX6_peakOf_8 : decode cX6_peakOf 8 = .ok (.iconst 2, 1) := by decide +kernel
theorem dX6_peakOf_9 : decode cX6_peakOf 9 = .ok (.istore 4, 2) := by decide +kernel
theorem dX6_peakOf_11 : decode cX6_peakOf 11 = .ok (.iload 4, 2) := by decide +kernel
theorem dX6_peakOf_13 : decode cX6_peakOf 13 = .ok (.bipush 8, 2) := by decide +kernel
theorem dX6_peakOf_15 : decode cX6_peakOf 15 = .ok (.if_icmp .ge 30, 3) := by decide +kernel
theorem dX6_peakOf_18 : decode cX6_peakOf 18 = .ok (.aload_n 0, 1) := by decide +kernel
theorem dX6_peakOf_19 : decode cX6_peakOf 19 = .ok (.iload 4, 2) := by decide +kernel
theorem dX6_peakOf_21 : decode cX6_peakOf 21 = .ok (.invokevirtual 91, 3) := by decide +kernel
theorem dX6_peakOf_24 : decode cX6_peakOf 24 = .ok (.aload_n 0, 1) := by decide +kernel
theorem dX6_peakOf_25 : decode cX6_peakOf 25 = .ok (.iload_n 3, 1) := by decide +kernel
theorem dX6_peakOf_26 : decode cX6_peakOf 26 = .ok (.invokevirtual 91, 3) := by decide +kernel
theorem dX6_peakOf_29 : decode cX6_peakOf 29 = .ok (.if_icmp .le 8, 3) := by decide +kernel
theorem dX6_peakOf_32 : decode cX6_peakOf 32 = .ok (.iload 4, 2) := by decide +kernel
theorem dX6_peakOf_34 : decode cX6_peakOf 34 = .ok (.goto 4, 3) := by decide +kernel
theorem dX6_peakOf_37 : decode cX6_peakOf 37 = .ok (.iload_n 3, 1) := by decide +kernel
theorem dX6_peakOf_38 : decode cX6_peakOf 38 = .ok (.istore_n 3, 1) := by decide +kernel
theorem dX6_peakOf_39 : decode cX6_peakOf 39 = .ok (.iinc 4 1, 3) := by decide +kernel
theorem dX6_peakOf_42 : decode cX6_peakOf 42 = .ok (.goto (-31), 3) := by decide +kernel
theorem dX6_peakOf_45 : decode cX6_peakOf 45 = .ok (.aload_n 0, 1) := by decide +kernel
theorem dX6_peakOf_46 : decode cX6_peakOf 46 = .ok (.iload_n 3, 1) := by decide +kernel
theorem dX6_peakOf_47 : decode cX6_peakOf 47 = .ok (.invokevirtual 91, 3) := by decide +kernel
theorem dX6_peakOf_50 : decode cX6_peakOf 50 = .ok (.aload_n 0, 1) := by decide +kernel
theorem dX6_peakOf_51 : decode cX6_peakOf 51 = .ok (.getfield 7, 3) := by decide +kernel
theorem dX6_peakOf_54 : decode cX6_peakOf 54 = .ok (.iconst 0, 1) := by decide +kernel
theorem dX6_peakOf_55 : decode cX6_peakOf 55 = .ok (.iaload, 1) := by decide +kernel
theorem dX6_peakOf_56 : decode cX6_peakOf 56 = .ok (.if_icmp .lt 7, 3) := by decide +kernel
theorem dX6_peakOf_59 : decode cX6_peakOf 59 = .ok (.iload_n 3, 1) := by decide +kernel
theorem dX6_peakOf_60 : decode cX6_peakOf 60 = .ok (.goto 4, 3) := by decide +kernel
theorem dX6_peakOf_63 : decode cX6_peakOf 63 = .ok (.iconst (-1), 1) := by decide +kernel
theorem dX6_peakOf_64 : decode cX6_peakOf 64 = .ok (.ireturn, 1) := by decide +kernel
set_option maxRecDepth 20000 in
theorem ggX6_findsPeaks_X6_windows : GoodIn wsX6_findsPeaks wsX6_windows := goodIn_r _ [6, 7, 25, 26, 27, 28, 29, 30, 31, 32, 33] (by decide +kernel) (by decide +kernel)
set_option maxRecDepth 20000 in
theorem gX6_findsPeaks_X6_windows : GoodIn wsX6_findsPeaks (wsV RX6 39 RX6 yX6_windows wsX6_windows) := goodIn_app (goodIn_of _ (by decide +kernel)) ggX6_findsPeaks_X6_windows
set_option maxRecDepth 20000 in
theorem ggX6_findsPeaks_X6_peakOf : GoodIn wsX6_findsPeaks wsX6_peakOf := goodIn_r _ [11, 7, 12, 13, 14, 5, 15, 16, 17, 18, 19, 20, 21, 22, 23, 24, 25, 26, 27, 28, 29, 30, 31, 32, 33] (by decide +kernel) (by decide +kernel)
set_option maxRecDepth 20000 in
theorem gX6_findsPeaks_X6_peakOf : GoodIn wsX6_findsPeaks (wsV RX6 94 RX6 yX6_peakOf wsX6_peakOf) := goodIn_app (goodIn_of _ (by decide +kernel)) ggX6_findsPeaks_X6_peakOf
theorem dX6_findsPeaks_0 : decode cX6_findsPeaks 0 = .ok (.iconst 0, 1) := by decide +kernel
theorem dX6_findsPeaks_1 : decode cX6_findsPeaks 1 = .ok (.istore_n 1, 1) := by decide +kernel
theorem dX6_findsPeaks_2 : decode cX6_findsPeaks 2 = .ok (.iload_n 1, 1) := by decide +kernel
theorem dX6_findsPeaks_3 : decode cX6_findsPeaks 3 = .ok (.iconst 5, 1) := by decide +kernel
theorem dX6_findsPeaks_4 : decode cX6_findsPeaks 4 = .ok (.if_icmp .ge 43, 3) := by decide +kernel
theorem dX6_findsPeaks_7 : decode cX6_findsPeaks 7 = .ok (.iconst 0, 1) := by decide +kernel
theorem dX6_findsPeaks_8 : decode cX6_findsPeaks 8 = .ok (.istore_n 2, 1) := by decide +kernel
theorem dX6_findsPeaks_9 : decode cX6_findsPeaks 9 = .ok (.iload_n 2, 1) := by decide +kernel
theorem dX6_findsPeaks_10 : decode cX6_findsPeaks 10 = .ok (.aload_n 0, 1) := by decide +kernel
theorem dX6_findsPeaks_11 : decode cX6_findsPeaks 11 = .ok (.iload_n 1, 1) := by decide +kernel
theorem dX6_findsPeaks_12 : decode cX6_findsPeaks 12 = .ok (.invokevirtual 39, 3) := by decide +kernel
theorem dX6_findsPeaks_15 : decode cX6_findsPeaks 15 = .ok (.if_icmp .ge 26, 3) := by decide +kernel
theorem dX6_findsPeaks_18 : decode cX6_findsPeaks 18 = .ok (.aload_n 0, 1) := by decide +kernel
theorem dX6_findsPeaks_19 : decode cX6_findsPeaks 19 = .ok (.getfield 26, 3) := by decide +kernel
theorem dX6_findsPeaks_22 : decode cX6_findsPeaks 22 = .ok (.bipush 16, 2) := by decide +kernel
theorem dX6_findsPeaks_24 : decode cX6_findsPeaks 24 = .ok (.iload_n 1, 1) := by decide +kernel
theorem dX6_findsPeaks_25 : decode cX6_findsPeaks 25 = .ok (.imul, 1) := by decide +kernel
theorem dX6_findsPeaks_26 : decode cX6_findsPeaks 26 = .ok (.iload_n 2, 1) := by decide +kernel
theorem dX6_findsPeaks_27 : decode cX6_findsPeaks 27 = .ok (.iadd, 1) := by decide +kernel
theorem dX6_findsPeaks_28 : decode cX6_findsPeaks 28 = .ok (.aload_n 0, 1) := by decide +kernel
theorem dX6_findsPeaks_29 : decode cX6_findsPeaks 29 = .ok (.iload_n 1, 1) := by decide +kernel
theorem dX6_findsPeaks_30 : decode cX6_findsPeaks 30 = .ok (.iload_n 2, 1) := by decide +kernel
theorem dX6_findsPeaks_31 : decode cX6_findsPeaks 31 = .ok (.invokevirtual 94, 3) := by decide +kernel
theorem dX6_findsPeaks_34 : decode cX6_findsPeaks 34 = .ok (.iastore, 1) := by decide +kernel
theorem dX6_findsPeaks_35 : decode cX6_findsPeaks 35 = .ok (.iinc 2 1, 3) := by decide +kernel
theorem dX6_findsPeaks_38 : decode cX6_findsPeaks 38 = .ok (.goto (-29), 3) := by decide +kernel
theorem dX6_findsPeaks_41 : decode cX6_findsPeaks 41 = .ok (.iinc 1 1, 3) := by decide +kernel
theorem dX6_findsPeaks_44 : decode cX6_findsPeaks 44 = .ok (.goto (-42), 3) := by decide +kernel
theorem dX6_findsPeaks_47 : decode cX6_findsPeaks 47 = .ok (.return_, 1) := by decide +kernel
set_option maxRecDepth 20000 in
theorem ggX6_keyOf_X6_isWindow : GoodIn wsX6_keyOf wsX6_isWindow := goodIn_r _ [7, 8, 9, 10, 6, 11, 1, 12, 13, 14, 15, 16, 17, 18, 19, 20, 21, 22, 23] (by decide +kernel) (by decide +kernel)
set_option maxRecDepth 20000 in
theorem gX6_keyOf_X6_isWindow : GoodIn wsX6_keyOf (wsV RX6 97 RX6 yX6_isWindow wsX6_isWindow) := goodIn_app (goodIn_of _ (by decide +kernel)) ggX6_keyOf_X6_isWindow
theorem dX6_keyOf_0 : decode cX6_keyOf 0 = .ok (.iload_n 2, 1) := by decide +kernel
theorem dX6_keyOf_1 : decode cX6_keyOf 1 = .ok (.iload_n 3, 1) := by decide +kernel
theorem dX6_keyOf_2 : decode cX6_keyOf 2 = .ok (.if_icmp .ge 37, 3) := by decide +kernel
theorem dX6_keyOf_5 : decode cX6_keyOf 5 = .ok (.iload_n 3, 1) := by decide +kernel
theorem dX6_keyOf_6 : decode cX6_keyOf 6 = .ok (.iload_n 2, 1) := by decide +kernel
theorem dX6_keyOf_7 : decode cX6_keyOf 7 = .ok (.isub, 1) := by decide +kernel
theorem dX6_keyOf_8 : decode cX6_keyOf 8 = .ok (.aload_n 0, 1) := by decide +kernel
theorem dX6_keyOf_9 : decode cX6_keyOf 9 = .ok (.getfield 7, 3) := by decide +kernel
theorem dX6_keyOf_12 : decode cX6_keyOf 12 = .ok (.iconst 1, 1) := by decide +kernel
theorem dX6_keyOf_13 : decode cX6_keyOf 13 = .ok (.iaload, 1) := by decide +kernel
theorem dX6_keyOf_14 : decode cX6_keyOf 14 = .ok (.if_icmp .gt 25, 3) := by decide +kernel
theorem dX6_keyOf_17 : decode cX6_keyOf 17 = .ok (.aload_n 0, 1) := by decide +kernel
theorem dX6_keyOf_18 : decode cX6_keyOf 18 = .ok (.iload_n 1, 1) := by decide +kernel
theorem dX6_keyOf_19 : decode cX6_keyOf 19 = .ok (.iload_n 2, 1) := by decide +kernel
theorem dX6_keyOf_20 : decode cX6_keyOf 20 = .ok (.invokevirtual 97, 3) := by decide +kernel
theorem dX6_keyOf_23 : decode cX6_keyOf 23 = .ok (.ifCond .eq 16, 3) := by decide +kernel
theorem dX6_keyOf_26 : decode cX6_keyOf 26 = .ok (.aload_n 0, 1) := by decide +kernel
theorem dX6_keyOf_27 : decode cX6_keyOf 27 = .ok (.iload_n 1, 1) := by decide +kernel
theorem dX6_keyOf_28 : decode cX6_keyOf 28 = .ok (.iload_n 3, 1) := by decide +kernel
theorem dX6_keyOf_29 : decode cX6_keyOf 29 = .ok (.invokevirtual 97, 3) := by decide +kernel
theorem dX6_keyOf_32 : decode cX6_keyOf 32 = .ok (.ifCond .eq 7, 3) := by decide +kernel
theorem dX6_keyOf_35 : decode cX6_keyOf 35 = .ok (.iconst 1, 1) := by decide +kernel
theorem dX6_keyOf_36 : decode cX6_keyOf 36 = .ok (.goto 4, 3) := by decide +kernel
theorem dX6_keyOf_39 : decode cX6_keyOf 39 = .ok (.iconst 0, 1) := by decide +kernel
theorem dX6_keyOf_40 : decode cX6_keyOf 40 = .ok (.istore 4, 2) := by decide +kernel
theorem dX6_keyOf_42 : decode cX6_keyOf 42 = .ok (.iload 4, 2) := by decide +kernel
theorem dX6_keyOf_44 : decode cX6_keyOf 44 = .ok (.ifCond .eq 33, 3) := by decide +kernel
theorem dX6_keyOf_47 : decode cX6_keyOf 47 = .ok (.aload_n 0, 1) := by decide +kernel
theorem dX6_keyOf_48 : decode cX6_keyOf 48 = .ok (.getfield 26, 3) := by decide +kernel
theorem dX6_keyOf_51 : decode cX6_keyOf 51 = .ok (.bipush 16, 2) := by decide +kernel
theorem dX6_keyOf_53 : decode cX6_keyOf 53 = .ok (.iload_n 1, 1) := by decide +kernel
theorem dX6_keyOf_54 : decode cX6_keyOf 54 = .ok (.imul, 1) := by decide +kernel
theorem dX6_keyOf_55 : decode cX6_keyOf 55 = .ok (.iload_n 2, 1) := by decide +kernel
theorem dX6_keyOf_56 : decode cX6_keyOf 56 = .ok (.iadd, 1) := by decide +kernel
theorem dX6_keyOf_57 : decode cX6_keyOf 57 = .ok (.iaload, 1) := by decide +kernel
theorem dX6_keyOf_58 : decode cX6_keyOf 58 = .ok (.iconst (-1), 1) := by decide +kernel
theorem dX6_keyOf_59 : decode cX6_keyOf 59 = .ok (.if_icmp .eq 18, 3) := by decide +kernel
theorem dX6_keyOf_62 : decode cX6_keyOf 62 = .ok (.aload_n 0, 1) := by decide +kernel
theorem dX6_keyOf_63 : decode cX6_keyOf 63 = .ok (.getfield 26, 3) := by decide +kernel
theorem dX6_keyOf_66 : decode cX6_keyOf 66 = .ok (.bipush 16, 2) := by decide +kernel
theorem dX6_keyOf_68 : decode cX6_keyOf 68 = .ok (.iload_n 1, 1) := by decide +kernel
theorem dX6_keyOf_69 : decode cX6_keyOf 69 = .ok (.imul, 1) := by decide +kernel
theorem dX6_keyOf_70 : decode cX6_keyOf 70 = .ok (.iload_n 3, 1) := by decide +kernel
theorem dX6_keyOf_71 : decode cX6_keyOf 71 = .ok (.iadd, 1) := by decide +kernel
theorem dX6_keyOf_72 : decode cX6_keyOf 72 = .ok (.iaload, 1) := by decide +kernel
theorem dX6_keyOf_73 : decode cX6_keyOf 73 = .ok (.iconst (-1), 1) := by decide +kernel
theorem dX6_keyOf_74 : decode cX6_keyOf 74 = .ok (.if_icmp .ne 5, 3) := by decide +kernel
theorem dX6_keyOf_77 : decode cX6_keyOf 77 = .ok (.iconst (-1), 1) := by decide +kernel
theorem dX6_keyOf_78 : decode cX6_keyOf 78 = .ok (.ireturn, 1) := by decide +kernel
theorem dX6_keyOf_79 : decode cX6_keyOf 79 = .ok (.bipush 64, 2) := by decide +kernel
theorem dX6_keyOf_81 : decode cX6_keyOf 81 = .ok (.iload_n 3, 1) := by decide +kernel
theorem dX6_keyOf_82 : decode cX6_keyOf 82 = .ok (.iload_n 2, 1) := by decide +kernel
theorem dX6_keyOf_83 : decode cX6_keyOf 83 = .ok (.isub, 1) := by decide +kernel
theorem dX6_keyOf_84 : decode cX6_keyOf 84 = .ok (.imul, 1) := by decide +kernel
theorem dX6_keyOf_85 : decode cX6_keyOf 85 = .ok (.bipush 8, 2) := by decide +kernel
theorem dX6_keyOf_87 : decode cX6_keyOf 87 = .ok (.aload_n 0, 1) := by decide +kernel
theorem dX6_keyOf_88 : decode cX6_keyOf 88 = .ok (.getfield 26, 3) := by decide +kernel
theorem dX6_keyOf_91 : decode cX6_keyOf 91 = .ok (.bipush 16, 2) := by decide +kernel
theorem dX6_keyOf_93 : decode cX6_keyOf 93 = .ok (.iload_n 1, 1) := by decide +kernel
theorem dX6_keyOf_94 : decode cX6_keyOf 94 = .ok (.imul, 1) := by decide +kernel
theorem dX6_keyOf_95 : decode cX6_keyOf 95 = .ok (.iload_n 2, 1) := by decide +kernel
theorem dX6_keyOf_96 : decode cX6_keyOf 96 = .ok (.iadd, 1) := by decide +kernel
theorem dX6_keyOf_97 : decode cX6_keyOf 97 = .ok (.iaload, 1) := by decide +kernel
theorem dX6_keyOf_98 : decode cX6_keyOf 98 = .ok (.imul, 1) := by decide +kernel
theorem dX6_keyOf_99 : decode cX6_keyOf 99 = .ok (.iadd, 1) := by decide +kernel
theorem dX6_keyOf_100 : decode cX6_keyOf 100 = .ok (.aload_n 0, 1) := by decide +kernel
theorem dX6_keyOf_101 : decode cX6_keyOf 101 = .ok (.getfield 26, 3) := by decide +kernel
theorem dX6_keyOf_104 : decode cX6_keyOf 104 = .ok (.bipush 16, 2) := by decide +kernel
theorem dX6_keyOf_106 : decode cX6_keyOf 106 = .ok (.iload_n 1, 1) := by decide +kernel
theorem dX6_keyOf_107 : decode cX6_keyOf 107 = .ok (.imul, 1) := by decide +kernel
theorem dX6_keyOf_108 : decode cX6_keyOf 108 = .ok (.iload_n 3, 1) := by decide +kernel
theorem dX6_keyOf_109 : decode cX6_keyOf 109 = .ok (.iadd, 1) := by decide +kernel
theorem dX6_keyOf_110 : decode cX6_keyOf 110 = .ok (.iaload, 1) := by decide +kernel
theorem dX6_keyOf_111 : decode cX6_keyOf 111 = .ok (.iadd, 1) := by decide +kernel
theorem dX6_keyOf_112 : decode cX6_keyOf 112 = .ok (.ireturn, 1) := by decide +kernel
set_option maxRecDepth 20000 in
theorem ggX6_stands_X6_keyOf : GoodIn wsX6_stands wsX6_keyOf := goodIn_r _ [5, 6, 7, 8, 9, 10, 4, 11, 12, 13, 14, 15, 16, 17, 18, 19, 20, 21, 22, 23, 24, 25, 26, 27] (by decide +kernel) (by decide +kernel)
set_option maxRecDepth 20000 in
theorem gX6_stands_X6_keyOf : GoodIn wsX6_stands (wsV RX6 101 RX6 yX6_keyOf wsX6_keyOf) := goodIn_app (goodIn_of _ (by decide +kernel)) ggX6_stands_X6_keyOf
theorem dX6_stands_0 : decode cX6_stands 0 = .ok (.aload_n 0, 1) := by decide +kernel
theorem dX6_stands_1 : decode cX6_stands 1 = .ok (.iload_n 1, 1) := by decide +kernel
theorem dX6_stands_2 : decode cX6_stands 2 = .ok (.iload_n 3, 1) := by decide +kernel
theorem dX6_stands_3 : decode cX6_stands 3 = .ok (.iload_n 3, 1) := by decide +kernel
theorem dX6_stands_4 : decode cX6_stands 4 = .ok (.iload_n 2, 1) := by decide +kernel
theorem dX6_stands_5 : decode cX6_stands 5 = .ok (.bipush 64, 2) := by decide +kernel
theorem dX6_stands_7 : decode cX6_stands 7 = .ok (.idiv, 1) := by decide +kernel
theorem dX6_stands_8 : decode cX6_stands 8 = .ok (.iadd, 1) := by decide +kernel
theorem dX6_stands_9 : decode cX6_stands 9 = .ok (.invokevirtual 101, 3) := by decide +kernel
theorem dX6_stands_12 : decode cX6_stands 12 = .ok (.iload_n 2, 1) := by decide +kernel
theorem dX6_stands_13 : decode cX6_stands 13 = .ok (.if_icmp .ne 7, 3) := by decide +kernel
theorem dX6_stands_16 : decode cX6_stands 16 = .ok (.iconst 1, 1) := by decide +kernel
theorem dX6_stands_17 : decode cX6_stands 17 = .ok (.goto 4, 3) := by decide +kernel
theorem dX6_stands_20 : decode cX6_stands 20 = .ok (.iconst 0, 1) := by decide +kernel
theorem dX6_stands_21 : decode cX6_stands 21 = .ok (.ireturn, 1) := by decide +kernel
set_option maxRecDepth 20000 in
theorem ggX6_placesOf_X6_stands : GoodIn wsX6_placesOf wsX6_stands := goodIn_r _ [5, 6, 7, 8, 4, 9, 10, 11, 12, 13, 14, 15, 16, 17, 18, 19, 20, 21, 22, 23, 24, 25, 26, 27, 28, 29, 30, 31] (by decide +kernel) (by decide +kernel)
set_option maxRecDepth 20000 in
theorem gX6_placesOf_X6_stands : GoodIn wsX6_placesOf (wsV RX6 104 RX6 yX6_stands wsX6_stands) := goodIn_app (goodIn_of _ (by decide +kernel)) ggX6_placesOf_X6_stands
theorem dX6_placesOf_0 : decode cX6_placesOf 0 = .ok (.iconst 0, 1) := by decide +kernel
theorem dX6_placesOf_1 : decode cX6_placesOf 1 = .ok (.istore_n 2, 1) := by decide +kernel
theorem dX6_placesOf_2 : decode cX6_placesOf 2 = .ok (.iconst 0, 1) := by decide +kernel
theorem dX6_placesOf_3 : decode cX6_placesOf 3 = .ok (.istore_n 3, 1) := by decide +kernel
theorem dX6_placesOf_4 : decode cX6_placesOf 4 = .ok (.iload_n 3, 1) := by decide +kernel
theorem dX6_placesOf_5 : decode cX6_placesOf 5 = .ok (.iconst 4, 1) := by decide +kernel
theorem dX6_placesOf_6 : decode cX6_placesOf 6 = .ok (.if_icmp .ge 44, 3) := by decide +kernel
theorem dX6_placesOf_9 : decode cX6_placesOf 9 = .ok (.iconst 0, 1) := by decide +kernel
theorem dX6_placesOf_10 : decode cX6_placesOf 10 = .ok (.istore 4, 2) := by decide +kernel
theorem dX6_placesOf_12 : decode cX6_placesOf 12 = .ok (.iload 4, 2) := by decide +kernel
theorem dX6_placesOf_14 : decode cX6_placesOf 14 = .ok (.bipush 16, 2) := by decide +kernel
theorem dX6_placesOf_16 : decode cX6_placesOf 16 = .ok (.if_icmp .ge 28, 3) := by decide +kernel
theorem dX6_placesOf_19 : decode cX6_placesOf 19 = .ok (.iload_n 2, 1) := by decide +kernel
theorem dX6_placesOf_20 : decode cX6_placesOf 20 = .ok (.aload_n 0, 1) := by decide +kernel
theorem dX6_placesOf_21 : decode cX6_placesOf 21 = .ok (.iload_n 3, 1) := by decide +kernel
theorem dX6_placesOf_22 : decode cX6_placesOf 22 = .ok (.iload_n 1, 1) := by decide +kernel
theorem dX6_placesOf_23 : decode cX6_placesOf 23 = .ok (.iload 4, 2) := by decide +kernel
theorem dX6_placesOf_25 : decode cX6_placesOf 25 = .ok (.invokevirtual 104, 3) := by decide +kernel
theorem dX6_placesOf_28 : decode cX6_placesOf 28 = .ok (.ifCond .eq 7, 3) := by decide +kernel
theorem dX6_placesOf_31 : decode cX6_placesOf 31 = .ok (.iconst 1, 1) := by decide +kernel
theorem dX6_placesOf_32 : decode cX6_placesOf 32 = .ok (.goto 4, 3) := by decide +kernel
theorem dX6_placesOf_35 : decode cX6_placesOf 35 = .ok (.iconst 0, 1) := by decide +kernel
theorem dX6_placesOf_36 : decode cX6_placesOf 36 = .ok (.iadd, 1) := by decide +kernel
theorem dX6_placesOf_37 : decode cX6_placesOf 37 = .ok (.istore_n 2, 1) := by decide +kernel
theorem dX6_placesOf_38 : decode cX6_placesOf 38 = .ok (.iinc 4 1, 3) := by decide +kernel
theorem dX6_placesOf_41 : decode cX6_placesOf 41 = .ok (.goto (-29), 3) := by decide +kernel
theorem dX6_placesOf_44 : decode cX6_placesOf 44 = .ok (.iinc 3 1, 3) := by decide +kernel
theorem dX6_placesOf_47 : decode cX6_placesOf 47 = .ok (.goto (-43), 3) := by decide +kernel
theorem dX6_placesOf_50 : decode cX6_placesOf 50 = .ok (.iload_n 2, 1) := by decide +kernel
theorem dX6_placesOf_51 : decode cX6_placesOf 51 = .ok (.ireturn, 1) := by decide +kernel
set_option maxRecDepth 20000 in
theorem ggX6_keysOf_X6_keyOf : GoodIn wsX6_keysOf wsX6_keyOf := goodIn_r _ [5, 6, 7, 8, 9, 10, 4, 11, 12, 13, 14, 15, 16, 17, 18, 19, 20, 21, 22, 23, 24, 25, 26, 27] (by decide +kernel) (by decide +kernel)
set_option maxRecDepth 20000 in
theorem gX6_keysOf_X6_keyOf : GoodIn wsX6_keysOf (wsV RX6 101 RX6 yX6_keyOf wsX6_keyOf) := goodIn_app (goodIn_of _ (by decide +kernel)) ggX6_keysOf_X6_keyOf
theorem dX6_keysOf_0 : decode cX6_keysOf 0 = .ok (.iconst 0, 1) := by decide +kernel
theorem dX6_keysOf_1 : decode cX6_keysOf 1 = .ok (.istore_n 2, 1) := by decide +kernel
theorem dX6_keysOf_2 : decode cX6_keysOf 2 = .ok (.iconst 0, 1) := by decide +kernel
theorem dX6_keysOf_3 : decode cX6_keysOf 3 = .ok (.istore_n 3, 1) := by decide +kernel
theorem dX6_keysOf_4 : decode cX6_keysOf 4 = .ok (.iload_n 3, 1) := by decide +kernel
theorem dX6_keysOf_5 : decode cX6_keysOf 5 = .ok (.bipush 16, 2) := by decide +kernel
theorem dX6_keysOf_7 : decode cX6_keysOf 7 = .ok (.if_icmp .ge 47, 3) := by decide +kernel
theorem dX6_keysOf_10 : decode cX6_keysOf 10 = .ok (.iload_n 3, 1) := by decide +kernel
theorem dX6_keysOf_11 : decode cX6_keysOf 11 = .ok (.iconst 1, 1) := by decide +kernel
theorem dX6_keysOf_12 : decode cX6_keysOf 12 = .ok (.iadd, 1) := by decide +kernel
theorem dX6_keysOf_13 : decode cX6_keysOf 13 = .ok (.istore 4, 2) := by decide +kernel
theorem dX6_keysOf_15 : decode cX6_keysOf 15 = .ok (.iload 4, 2) := by decide +kernel
theorem dX6_keysOf_17 : decode cX6_keysOf 17 = .ok (.bipush 16, 2) := by decide +kernel
theorem dX6_keysOf_19 : decode cX6_keysOf 19 = .ok (.if_icmp .ge 29, 3) := by decide +kernel
theorem dX6_keysOf_22 : decode cX6_keysOf 22 = .ok (.iload_n 2, 1) := by decide +kernel
theorem dX6_keysOf_23 : decode cX6_keysOf 23 = .ok (.aload_n 0, 1) := by decide +kernel
theorem dX6_keysOf_24 : decode cX6_keysOf 24 = .ok (.iload_n 1, 1) := by decide +kernel
theorem dX6_keysOf_25 : decode cX6_keysOf 25 = .ok (.iload_n 3, 1) := by decide +kernel
theorem dX6_keysOf_26 : decode cX6_keysOf 26 = .ok (.iload 4, 2) := by decide +kernel
theorem dX6_keysOf_28 : decode cX6_keysOf 28 = .ok (.invokevirtual 101, 3) := by decide +kernel
theorem dX6_keysOf_31 : decode cX6_keysOf 31 = .ok (.iconst (-1), 1) := by decide +kernel
theorem dX6_keysOf_32 : decode cX6_keysOf 32 = .ok (.if_icmp .ne 7, 3) := by decide +kernel
theorem dX6_keysOf_35 : decode cX6_keysOf 35 = .ok (.iconst 0, 1) := by decide +kernel
theorem dX6_keysOf_36 : decode cX6_keysOf 36 = .ok (.goto 4, 3) := by decide +kernel
theorem dX6_keysOf_39 : decode cX6_keysOf 39 = .ok (.iconst 1, 1) := by decide +kernel
theorem dX6_keysOf_40 : decode cX6_keysOf 40 = .ok (.iadd, 1) := by decide +kernel
theorem dX6_keysOf_41 : decode cX6_keysOf 41 = .ok (.istore_n 2, 1) := by decide +kernel
theorem dX6_keysOf_42 : decode cX6_keysOf 42 = .ok (.iinc 4 1, 3) := by decide +kernel
theorem dX6_keysOf_45 : decode cX6_keysOf 45 = .ok (.goto (-30), 3) := by decide +kernel
theorem dX6_keysOf_48 : decode cX6_keysOf 48 = .ok (.iinc 3 1, 3) := by decide +kernel
theorem dX6_keysOf_51 : decode cX6_keysOf 51 = .ok (.goto (-47), 3) := by decide +kernel
theorem dX6_keysOf_54 : decode cX6_keysOf 54 = .ok (.iload_n 2, 1) := by decide +kernel
theorem dX6_keysOf_55 : decode cX6_keysOf 55 = .ok (.ireturn, 1) := by decide +kernel
set_option maxRecDepth 20000 in
theorem ggX6_counts_X6_findsPeaks : GoodIn wsX6_counts wsX6_findsPeaks := goodIn_r _ [7, 8, 9, 10, 11, 6, 12, 13, 14, 15, 16, 17, 18, 19, 20, 21, 22, 23, 24, 25, 26, 27, 28, 29, 30, 46, 47, 48, 49, 50, 51, 52, 53, 54] (by decide +kernel) (by decide +kernel)
set_option maxRecDepth 20000 in
theorem gX6_counts_X6_findsPeaks : GoodIn wsX6_counts (wsV RX6 107 RX6 yX6_findsPeaks wsX6_findsPeaks) := goodIn_app (goodIn_of _ (by decide +kernel)) ggX6_counts_X6_findsPeaks
set_option maxRecDepth 20000 in
theorem ggX6_counts_X6_keyOf : GoodIn wsX6_counts wsX6_keyOf := goodIn_r _ [34, 13, 8, 35, 36, 37, 6, 38, 9, 10, 11, 12, 39, 40, 41, 46, 47, 48, 49, 50, 51, 52, 53, 54] (by decide +kernel) (by decide +kernel)
set_option maxRecDepth 20000 in
theorem gX6_counts_X6_keyOf : GoodIn wsX6_counts (wsV RX6 101 RX6 yX6_keyOf wsX6_keyOf) := goodIn_app (goodIn_of _ (by decide +kernel)) ggX6_counts_X6_keyOf
set_option maxRecDepth 20000 in
theorem ggX6_counts_X6_stands : GoodIn wsX6_counts wsX6_stands := goodIn_r _ [45, 31, 32, 33, 6, 34, 13, 8, 35, 36, 37, 38, 9, 10, 11, 12, 39, 40, 41, 46, 47, 48, 49, 50, 51, 52, 53, 54] (by decide +kernel) (by decide +kernel)
set_option maxRecDepth 20000 in
theorem gX6_counts_X6_stands : GoodIn wsX6_counts (wsV RX6 104 RX6 yX6_stands wsX6_stands) := goodIn_app (goodIn_of _ (by decide +kernel)) ggX6_counts_X6_stands
theorem dX6_counts_0 : decode cX6_counts 0 = .ok (.aload_n 0, 1) := by decide +kernel
theorem dX6_counts_1 : decode cX6_counts 1 = .ok (.invokevirtual 107, 3) := by decide +kernel
theorem dX6_counts_4 : decode cX6_counts 4 = .ok (.iconst 0, 1) := by decide +kernel
theorem dX6_counts_5 : decode cX6_counts 5 = .ok (.istore_n 1, 1) := by decide +kernel
theorem dX6_counts_6 : decode cX6_counts 6 = .ok (.iload_n 1, 1) := by decide +kernel
theorem dX6_counts_7 : decode cX6_counts 7 = .ok (.bipush 124, 2) := by decide +kernel
theorem dX6_counts_9 : decode cX6_counts 9 = .ok (.if_icmp .ge 23, 3) := by decide +kernel
theorem dX6_counts_12 : decode cX6_counts 12 = .ok (.aload_n 0, 1) := by decide +kernel
theorem dX6_counts_13 : decode cX6_counts 13 = .ok (.getfield 29, 3) := by decide +kernel
theorem dX6_counts_16 : decode cX6_counts 16 = .ok (.iload_n 1, 1) := by decide +kernel
theorem dX6_counts_17 : decode cX6_counts 17 = .ok (.iconst 0, 1) := by decide +kernel
theorem dX6_counts_18 : decode cX6_counts 18 = .ok (.iastore, 1) := by decide +kernel
theorem dX6_counts_19 : decode cX6_counts 19 = .ok (.aload_n 0, 1) := by decide +kernel
theorem dX6_counts_20 : decode cX6_counts 20 = .ok (.getfield 32, 3) := by decide +kernel
theorem dX6_counts_23 : decode cX6_counts 23 = .ok (.iload_n 1, 1) := by decide +kernel
theorem dX6_counts_24 : decode cX6_counts 24 = .ok (.iconst 0, 1) := by decide +kernel
theorem dX6_counts_25 : decode cX6_counts 25 = .ok (.bastore, 1) := by decide +kernel
theorem dX6_counts_26 : decode cX6_counts 26 = .ok (.iinc 1 1, 3) := by decide +kernel
theorem dX6_counts_29 : decode cX6_counts 29 = .ok (.goto (-23), 3) := by decide +kernel
theorem dX6_counts_32 : decode cX6_counts 32 = .ok (.iconst 0, 1) := by decide +kernel
theorem dX6_counts_33 : decode cX6_counts 33 = .ok (.istore_n 1, 1) := by decide +kernel
theorem dX6_counts_34 : decode cX6_counts 34 = .ok (.iload_n 1, 1) := by decide +kernel
theorem dX6_counts_35 : decode cX6_counts 35 = .ok (.bipush 16, 2) := by decide +kernel
theorem dX6_counts_37 : decode cX6_counts 37 = .ok (.if_icmp .ge 106, 3) := by decide +kernel
theorem dX6_counts_40 : decode cX6_counts 40 = .ok (.iload_n 1, 1) := by decide +kernel
theorem dX6_counts_41 : decode cX6_counts 41 = .ok (.iconst 1, 1) := by decide +kernel
theorem dX6_counts_42 : decode cX6_counts 42 = .ok (.iadd, 1) := by decide +kernel
theorem dX6_counts_43 : decode cX6_counts 43 = .ok (.istore_n 2, 1) := by decide +kernel
theorem dX6_counts_44 : decode cX6_counts 44 = .ok (.iload_n 2, 1) := by decide +kernel
theorem dX6_counts_45 : decode cX6_counts 45 = .ok (.bipush 16, 2) := by decide +kernel
theorem dX6_counts_47 : decode cX6_counts 47 = .ok (.if_icmp .ge 90, 3) := by decide +kernel
theorem dX6_counts_50 : decode cX6_counts 50 = .ok (.aload_n 0, 1) := by decide +kernel
theorem dX6_counts_51 : decode cX6_counts 51 = .ok (.iconst 4, 1) := by decide +kernel
theorem dX6_counts_52 : decode cX6_counts 52 = .ok (.iload_n 1, 1) := by decide +kernel
theorem dX6_counts_53 : decode cX6_counts 53 = .ok (.iload_n 2, 1) := by decide +kernel
theorem dX6_counts_54 : decode cX6_counts 54 = .ok (.invokevirtual 101, 3) := by decide +kernel
theorem dX6_counts_57 : decode cX6_counts 57 = .ok (.istore_n 3, 1) := by decide +kernel
theorem dX6_counts_58 : decode cX6_counts 58 = .ok (.iconst 0, 1) := by decide +kernel
theorem dX6_counts_59 : decode cX6_counts 59 = .ok (.istore 4, 2) := by decide +kernel
theorem dX6_counts_61 : decode cX6_counts 61 = .ok (.iload 4, 2) := by decide +kernel
theorem dX6_counts_63 : decode cX6_counts 63 = .ok (.bipush 64, 2) := by decide +kernel
theorem dX6_counts_65 : decode cX6_counts 65 = .ok (.if_icmp .ge 66, 3) := by decide +kernel
theorem dX6_counts_68 : decode cX6_counts 68 = .ok (.iload_n 3, 1) := by decide +kernel
theorem dX6_counts_69 : decode cX6_counts 69 = .ok (.iconst (-1), 1) := by decide +kernel
theorem dX6_counts_70 : decode cX6_counts 70 = .ok (.if_icmp .eq 61, 3) := by decide +kernel
theorem dX6_counts_73 : decode cX6_counts 73 = .ok (.iload 4, 2) := by decide +kernel
theorem dX6_counts_75 : decode cX6_counts 75 = .ok (.bipush 16, 2) := by decide +kernel
theorem dX6_counts_77 : decode cX6_counts 77 = .ok (.idiv, 1) := by decide +kernel
theorem dX6_counts_78 : decode cX6_counts 78 = .ok (.istore 5, 2) := by decide +kernel
theorem dX6_counts_80 : decode cX6_counts 80 = .ok (.iload 4, 2) := by decide +kernel
theorem dX6_counts_82 : decode cX6_counts 82 = .ok (.bipush 16, 2) := by decide +kernel
theorem dX6_counts_84 : decode cX6_counts 84 = .ok (.irem, 1) := by decide +kernel
theorem dX6_counts_85 : decode cX6_counts 85 = .ok (.istore 6, 2) := by decide +kernel
theorem dX6_counts_87 : decode cX6_counts 87 = .ok (.aload_n 0, 1) := by decide +kernel
theorem dX6_counts_88 : decode cX6_counts 88 = .ok (.getfield 29, 3) := by decide +kernel
theorem dX6_counts_91 : decode cX6_counts 91 = .ok (.bipush 31, 2) := by decide +kernel
theorem dX6_counts_93 : decode cX6_counts 93 = .ok (.iload 5, 2) := by decide +kernel
theorem dX6_counts_95 : decode cX6_counts 95 = .ok (.imul, 1) := by decide +kernel
theorem dX6_counts_96 : decode cX6_counts 96 = .ok (.iload 6, 2) := by decide +kernel
theorem dX6_counts_98 : decode cX6_counts 98 = .ok (.iadd, 1) := by decide +kernel
theorem dX6_counts_99 : decode cX6_counts 99 = .ok (.iload_n 1, 1) := by decide +kernel
theorem dX6_counts_100 : decode cX6_counts 100 = .ok (.isub, 1) := by decide +kernel
theorem dX6_counts_101 : decode cX6_counts 101 = .ok (.bipush 15, 2) := by decide +kernel
theorem dX6_counts_103 : decode cX6_counts 103 = .ok (.iadd, 1) := by decide +kernel
theorem dX6_counts_104 : decode cX6_counts 104 = .ok (.dup2, 1) := by decide +kernel
theorem dX6_counts_105 : decode cX6_counts 105 = .ok (.iaload, 1) := by decide +kernel
theorem dX6_counts_106 : decode cX6_counts 106 = .ok (.aload_n 0, 1) := by decide +kernel
theorem dX6_counts_107 : decode cX6_counts 107 = .ok (.iload 5, 2) := by decide +kernel
theorem dX6_counts_109 : decode cX6_counts 109 = .ok (.iload_n 3, 1) := by decide +kernel
theorem dX6_counts_110 : decode cX6_counts 110 = .ok (.iload 6, 2) := by decide +kernel
theorem dX6_counts_112 : decode cX6_counts 112 = .ok (.invokevirtual 104, 3) := by decide +kernel
theorem dX6_counts_115 : decode cX6_counts 115 = .ok (.ifCond .eq 7, 3) := by decide +kernel
theorem dX6_counts_118 : decode cX6_counts 118 = .ok (.iconst 1, 1) := by decide +kernel
theorem dX6_counts_119 : decode cX6_counts 119 = .ok (.goto 4, 3) := by decide +kernel
theorem dX6_counts_122 : decode cX6_counts 122 = .ok (.iconst 0, 1) := by decide +kernel
theorem dX6_counts_123 : decode cX6_counts 123 = .ok (.iadd, 1) := by decide +kernel
theorem dX6_counts_124 : decode cX6_counts 124 = .ok (.iastore, 1) := by decide +kernel
theorem dX6_counts_125 : decode cX6_counts 125 = .ok (.iinc 4 1, 3) := by decide +kernel
theorem dX6_counts_128 : decode cX6_counts 128 = .ok (.goto (-67), 3) := by decide +kernel
theorem dX6_counts_131 : decode cX6_counts 131 = .ok (.iinc 2 1, 3) := by decide +kernel
theorem dX6_counts_134 : decode cX6_counts 134 = .ok (.goto (-90), 3) := by decide +kernel
theorem dX6_counts_137 : decode cX6_counts 137 = .ok (.iinc 1 1, 3) := by decide +kernel
theorem dX6_counts_140 : decode cX6_counts 140 = .ok (.goto (-106), 3) := by decide +kernel
theorem dX6_counts_143 : decode cX6_counts 143 = .ok (.return_, 1) := by decide +kernel
theorem dX6_best_0 : decode cX6_best 0 = .ok (.iconst (-1), 1) := by decide +kernel
theorem dX6_best_1 : decode cX6_best 1 = .ok (.istore_n 2, 1) := by decide +kernel
theorem dX6_best_2 : decode cX6_best 2 = .ok (.iconst 0, 1) := by decide +kernel
theorem dX6_best_3 : decode cX6_best 3 = .ok (.istore_n 3, 1) := by decide +kernel
theorem dX6_best_4 : decode cX6_best 4 = .ok (.iload_n 3, 1) := by decide +kernel
theorem dX6_best_5 : decode cX6_best 5 = .ok (.bipush 124, 2) := by decide +kernel
theorem dX6_best_7 : decode cX6_best 7 = .ok (.if_icmp .ge 73, 3) := by decide +kernel
theorem dX6_best_10 : decode cX6_best 10 = .ok (.aload_n 0, 1) := by decide +kernel
theorem dX6_best_11 : decode cX6_best 11 = .ok (.getfield 29, 3) := by decide +kernel
theorem dX6_best_14 : decode cX6_best 14 = .ok (.iload_n 3, 1) := by decide +kernel
theorem dX6_best_15 : decode cX6_best 15 = .ok (.iaload, 1) := by decide +kernel
theorem dX6_best_16 : decode cX6_best 16 = .ok (.ifCond .le 24, 3) := by decide +kernel
theorem dX6_best_19 : decode cX6_best 19 = .ok (.aload_n 0, 1) := by decide +kernel
theorem dX6_best_20 : decode cX6_best 20 = .ok (.getfield 32, 3) := by decide +kernel
theorem dX6_best_23 : decode cX6_best 23 = .ok (.iload_n 3, 1) := by decide +kernel
theorem dX6_best_24 : decode cX6_best 24 = .ok (.baload, 1) := by decide +kernel
theorem dX6_best_25 : decode cX6_best 25 = .ok (.ifCond .ne 15, 3) := by decide +kernel
theorem dX6_best_28 : decode cX6_best 28 = .ok (.iload_n 3, 1) := by decide +kernel
theorem dX6_best_29 : decode cX6_best 29 = .ok (.bipush 31, 2) := by decide +kernel
theorem dX6_best_31 : decode cX6_best 31 = .ok (.idiv, 1) := by decide +kernel
theorem dX6_best_32 : decode cX6_best 32 = .ok (.iload_n 1, 1) := by decide +kernel
theorem dX6_best_33 : decode cX6_best 33 = .ok (.if_icmp .eq 7, 3) := by decide +kernel
theorem dX6_best_36 : decode cX6_best 36 = .ok (.iconst 1, 1) := by decide +kernel
theorem dX6_best_37 : decode cX6_best 37 = .ok (.goto 4, 3) := by decide +kernel
theorem dX6_best_40 : decode cX6_best 40 = .ok (.iconst 0, 1) := by decide +kernel
theorem dX6_best_41 : decode cX6_best 41 = .ok (.istore 4, 2) := by decide +kernel
theorem dX6_best_43 : decode cX6_best 43 = .ok (.iload 4, 2) := by decide +kernel
theorem dX6_best_45 : decode cX6_best 45 = .ok (.ifCond .eq 27, 3) := by decide +kernel
theorem dX6_best_48 : decode cX6_best 48 = .ok (.iload_n 2, 1) := by decide +kernel
theorem dX6_best_49 : decode cX6_best 49 = .ok (.iconst (-1), 1) := by decide +kernel
theorem dX6_best_50 : decode cX6_best 50 = .ok (.if_icmp .eq 18, 3) := by decide +kernel
theorem dX6_best_53 : decode cX6_best 53 = .ok (.aload_n 0, 1) := by decide +kernel
theorem dX6_best_54 : decode cX6_best 54 = .ok (.getfield 29, 3) := by decide +kernel
theorem dX6_best_57 : decode cX6_best 57 = .ok (.iload_n 3, 1) := by decide +kernel
theorem dX6_best_58 : decode cX6_best 58 = .ok (.iaload, 1) := by decide +kernel
theorem dX6_best_59 : decode cX6_best 59 = .ok (.aload_n 0, 1) := by decide +kernel
theorem dX6_best_60 : decode cX6_best 60 = .ok (.getfield 29, 3) := by decide +kernel
theorem dX6_best_63 : decode cX6_best 63 = .ok (.iload_n 2, 1) := by decide +kernel
theorem dX6_best_64 : decode cX6_best 64 = .ok (.iaload, 1) := by decide +kernel
theorem dX6_best_65 : decode cX6_best 65 = .ok (.if_icmp .le 7, 3) := by decide +kernel
theorem dX6_best_68 : decode cX6_best 68 = .ok (.iload_n 3, 1) := by decide +kernel
theorem dX6_best_69 : decode cX6_best 69 = .ok (.goto 4, 3) := by decide +kernel
theorem dX6_best_72 : decode cX6_best 72 = .ok (.iload_n 2, 1) := by decide +kernel
theorem dX6_best_73 : decode cX6_best 73 = .ok (.istore_n 2, 1) := by decide +kernel
theorem dX6_best_74 : decode cX6_best 74 = .ok (.iinc 3 1, 3) := by decide +kernel
theorem dX6_best_77 : decode cX6_best 77 = .ok (.goto (-73), 3) := by decide +kernel
theorem dX6_best_80 : decode cX6_best 80 = .ok (.iload_n 2, 1) := by decide +kernel
theorem dX6_best_81 : decode cX6_best 81 = .ok (.ireturn, 1) := by decide +kernel
set_option maxRecDepth 20000 in
theorem ggX6_doubt_X6_best : GoodIn wsX6_doubt wsX6_best := goodIn_r _ [6, 1, 7, 8, 9, 10, 11, 12, 13, 14, 15, 16] (by decide +kernel) (by decide +kernel)
set_option maxRecDepth 20000 in
theorem gX6_doubt_X6_best : GoodIn wsX6_doubt (wsV RX6 110 RX6 yX6_best wsX6_best) := goodIn_app (goodIn_of _ (by decide +kernel)) ggX6_doubt_X6_best
theorem dX6_doubt_0 : decode cX6_doubt 0 = .ok (.aload_n 0, 1) := by decide +kernel
theorem dX6_doubt_1 : decode cX6_doubt 1 = .ok (.iconst (-1), 1) := by decide +kernel
theorem dX6_doubt_2 : decode cX6_doubt 2 = .ok (.invokevirtual 110, 3) := by decide +kernel
theorem dX6_doubt_5 : decode cX6_doubt 5 = .ok (.istore_n 1, 1) := by decide +kernel
theorem dX6_doubt_6 : decode cX6_doubt 6 = .ok (.iload_n 1, 1) := by decide +kernel
theorem dX6_doubt_7 : decode cX6_doubt 7 = .ok (.iconst (-1), 1) := by decide +kernel
theorem dX6_doubt_8 : decode cX6_doubt 8 = .ok (.if_icmp .ne 6, 3) := by decide +kernel
theorem dX6_doubt_11 : decode cX6_doubt 11 = .ok (.bipush 100, 2) := by decide +kernel
theorem dX6_doubt_13 : decode cX6_doubt 13 = .ok (.ireturn, 1) := by decide +kernel
theorem dX6_doubt_14 : decode cX6_doubt 14 = .ok (.aload_n 0, 1) := by decide +kernel
theorem dX6_doubt_15 : decode cX6_doubt 15 = .ok (.iload_n 1, 1) := by decide +kernel
theorem dX6_doubt_16 : decode cX6_doubt 16 = .ok (.bipush 31, 2) := by decide +kernel
theorem dX6_doubt_18 : decode cX6_doubt 18 = .ok (.idiv, 1) := by decide +kernel
theorem dX6_doubt_19 : decode cX6_doubt 19 = .ok (.invokevirtual 110, 3) := by decide +kernel
theorem dX6_doubt_22 : decode cX6_doubt 22 = .ok (.istore_n 2, 1) := by decide +kernel
theorem dX6_doubt_23 : decode cX6_doubt 23 = .ok (.iload_n 2, 1) := by decide +kernel
theorem dX6_doubt_24 : decode cX6_doubt 24 = .ok (.iconst (-1), 1) := by decide +kernel
theorem dX6_doubt_25 : decode cX6_doubt 25 = .ok (.if_icmp .ne 7, 3) := by decide +kernel
theorem dX6_doubt_28 : decode cX6_doubt 28 = .ok (.iconst 0, 1) := by decide +kernel
theorem dX6_doubt_29 : decode cX6_doubt 29 = .ok (.goto 19, 3) := by decide +kernel
theorem dX6_doubt_32 : decode cX6_doubt 32 = .ok (.bipush 100, 2) := by decide +kernel
theorem dX6_doubt_34 : decode cX6_doubt 34 = .ok (.aload_n 0, 1) := by decide +kernel
theorem dX6_doubt_35 : decode cX6_doubt 35 = .ok (.getfield 29, 3) := by decide +kernel
theorem dX6_doubt_38 : decode cX6_doubt 38 = .ok (.iload_n 2, 1) := by decide +kernel
theorem dX6_doubt_39 : decode cX6_doubt 39 = .ok (.iaload, 1) := by decide +kernel
theorem dX6_doubt_40 : decode cX6_doubt 40 = .ok (.imul, 1) := by decide +kernel
theorem dX6_doubt_41 : decode cX6_doubt 41 = .ok (.aload_n 0, 1) := by decide +kernel
theorem dX6_doubt_42 : decode cX6_doubt 42 = .ok (.getfield 29, 3) := by decide +kernel
theorem dX6_doubt_45 : decode cX6_doubt 45 = .ok (.iload_n 1, 1) := by decide +kernel
theorem dX6_doubt_46 : decode cX6_doubt 46 = .ok (.iaload, 1) := by decide +kernel
theorem dX6_doubt_47 : decode cX6_doubt 47 = .ok (.idiv, 1) := by decide +kernel
theorem dX6_doubt_48 : decode cX6_doubt 48 = .ok (.ireturn, 1) := by decide +kernel
set_option maxRecDepth 20000 in
theorem ggX6_ledger_X6_placesOf : GoodIn wsX6_ledger wsX6_placesOf := goodIn_r _ [5, 6, 7, 8, 4, 9, 10, 11, 12, 13, 14, 15, 16, 17, 18, 19, 20, 21, 22, 23, 24, 25, 26, 27, 28, 29, 30, 31, 32, 33, 34, 35] (by decide +kernel) (by decide +kernel)
set_option maxRecDepth 20000 in
theorem gX6_ledger_X6_placesOf : GoodIn wsX6_ledger (wsV RX6 113 RX6 yX6_placesOf wsX6_placesOf) := goodIn_app (goodIn_of _ (by decide +kernel)) ggX6_ledger_X6_placesOf
theorem dX6_ledger_0 : decode cX6_ledger 0 = .ok (.iconst 0, 1) := by decide +kernel
theorem dX6_ledger_1 : decode cX6_ledger 1 = .ok (.istore_n 2, 1) := by decide +kernel
theorem dX6_ledger_2 : decode cX6_ledger 2 = .ok (.bipush 64, 2) := by decide +kernel
theorem dX6_ledger_4 : decode cX6_ledger 4 = .ok (.istore_n 3, 1) := by decide +kernel
theorem dX6_ledger_5 : decode cX6_ledger 5 = .ok (.iload_n 3, 1) := by decide +kernel
theorem dX6_ledger_6 : decode cX6_ledger 6 = .ok (.sipush 384, 3) := by decide +kernel
theorem dX6_ledger_9 : decode cX6_ledger 9 = .ok (.if_icmp .ge 38, 3) := by decide +kernel
theorem dX6_ledger_12 : decode cX6_ledger 12 = .ok (.aload_n 0, 1) := by decide +kernel
theorem dX6_ledger_13 : decode cX6_ledger 13 = .ok (.iload_n 3, 1) := by decide +kernel
theorem dX6_ledger_14 : decode cX6_ledger 14 = .ok (.invokevirtual 113, 3) := by decide +kernel
theorem dX6_ledger_17 : decode cX6_ledger 17 = .ok (.istore 4, 2) := by decide +kernel
theorem dX6_ledger_19 : decode cX6_ledger 19 = .ok (.iload_n 2, 1) := by decide +kernel
theorem dX6_ledger_20 : decode cX6_ledger 20 = .ok (.iload_n 1, 1) := by decide +kernel
theorem dX6_ledger_21 : decode cX6_ledger 21 = .ok (.ifCond .eq 8, 3) := by decide +kernel
theorem dX6_ledger_24 : decode cX6_ledger 24 = .ok (.iload 4, 2) := by decide +kernel
theorem dX6_ledger_26 : decode cX6_ledger 26 = .ok (.goto 13, 3) := by decide +kernel
theorem dX6_ledger_29 : decode cX6_ledger 29 = .ok (.iload 4, 2) := by decide +kernel
theorem dX6_ledger_31 : decode cX6_ledger 31 = .ok (.ifCond .le 7, 3) := by decide +kernel
theorem dX6_ledger_34 : decode cX6_ledger 34 = .ok (.iconst 1, 1) := by decide +kernel
theorem dX6_ledger_35 : decode cX6_ledger 35 = .ok (.goto 4, 3) := by decide +kernel
theorem dX6_ledger_38 : decode cX6_ledger 38 = .ok (.iconst 0, 1) := by decide +kernel
theorem dX6_ledger_39 : decode cX6_ledger 39 = .ok (.iadd, 1) := by decide +kernel
theorem dX6_ledger_40 : decode cX6_ledger 40 = .ok (.istore_n 2, 1) := by decide +kernel
theorem dX6_ledger_41 : decode cX6_ledger 41 = .ok (.iinc 3 1, 3) := by decide +kernel
theorem dX6_ledger_44 : decode cX6_ledger 44 = .ok (.goto (-39), 3) := by decide +kernel
theorem dX6_ledger_47 : decode cX6_ledger 47 = .ok (.iload_n 2, 1) := by decide +kernel
theorem dX6_ledger_48 : decode cX6_ledger 48 = .ok (.ireturn, 1) := by decide +kernel
set_option maxRecDepth 20000 in
theorem ggX6_known_X6_keyOf : GoodIn wsX6_known wsX6_keyOf := goodIn_r _ [5, 6, 7, 8, 9, 10, 4, 11, 12, 13, 14, 15, 16, 17, 18, 27, 28, 29, 30, 31, 32, 33, 34, 35] (by decide +kernel) (by decide +kernel)
set_option maxRecDepth 20000 in
theorem gX6_known_X6_keyOf : GoodIn wsX6_known (wsV RX6 101 RX6 yX6_keyOf wsX6_keyOf) := goodIn_app (goodIn_of _ (by decide +kernel)) ggX6_known_X6_keyOf
set_option maxRecDepth 20000 in
theorem ggX6_known_X6_placesOf : GoodIn wsX6_known wsX6_placesOf := goodIn_r _ [22, 23, 24, 25, 4, 26, 1, 2, 3, 5, 6, 7, 8, 9, 10, 11, 12, 13, 14, 15, 16, 17, 18, 27, 28, 29, 30, 31, 32, 33, 34, 35] (by decide +kernel) (by decide +kernel)
set_option maxRecDepth 20000 in
theorem gX6_known_X6_placesOf : GoodIn wsX6_known (wsV RX6 113 RX6 yX6_placesOf wsX6_placesOf) := goodIn_app (goodIn_of _ (by decide +kernel)) ggX6_known_X6_placesOf
theorem dX6_known_0 : decode cX6_known 0 = .ok (.iconst 0, 1) := by decide +kernel
theorem dX6_known_1 : decode cX6_known 1 = .ok (.istore_n 1, 1) := by decide +kernel
theorem dX6_known_2 : decode cX6_known 2 = .ok (.iconst 0, 1) := by decide +kernel
theorem dX6_known_3 : decode cX6_known 3 = .ok (.istore_n 2, 1) := by decide +kernel
theorem dX6_known_4 : decode cX6_known 4 = .ok (.iload_n 2, 1) := by decide +kernel
theorem dX6_known_5 : decode cX6_known 5 = .ok (.bipush 16, 2) := by decide +kernel
theorem dX6_known_7 : decode cX6_known 7 = .ok (.if_icmp .ge 57, 3) := by decide +kernel
theorem dX6_known_10 : decode cX6_known 10 = .ok (.iload_n 2, 1) := by decide +kernel
theorem dX6_known_11 : decode cX6_known 11 = .ok (.iconst 1, 1) := by decide +kernel
theorem dX6_known_12 : decode cX6_known 12 = .ok (.iadd, 1) := by decide +kernel
theorem dX6_known_13 : decode cX6_known 13 = .ok (.istore_n 3, 1) := by decide +kernel
theorem dX6_known_14 : decode cX6_known 14 = .ok (.iload_n 3, 1) := by decide +kernel
theorem dX6_known_15 : decode cX6_known 15 = .ok (.bipush 16, 2) := by decide +kernel
theorem dX6_known_17 : decode cX6_known 17 = .ok (.if_icmp .ge 41, 3) := by decide +kernel
theorem dX6_known_20 : decode cX6_known 20 = .ok (.aload_n 0, 1) := by decide +kernel
theorem dX6_known_21 : decode cX6_known 21 = .ok (.iconst 4, 1) := by decide +kernel
theorem dX6_known_22 : decode cX6_known 22 = .ok (.iload_n 2, 1) := by decide +kernel
theorem dX6_known_23 : decode cX6_known 23 = .ok (.iload_n 3, 1) := by decide +kernel
theorem dX6_known_24 : decode cX6_known 24 = .ok (.invokevirtual 101, 3) := by decide +kernel
theorem dX6_known_27 : decode cX6_known 27 = .ok (.istore 4, 2) := by decide +kernel
theorem dX6_known_29 : decode cX6_known 29 = .ok (.iload_n 1, 1) := by decide +kernel
theorem dX6_known_30 : decode cX6_known 30 = .ok (.iload 4, 2) := by decide +kernel
theorem dX6_known_32 : decode cX6_known 32 = .ok (.iconst (-1), 1) := by decide +kernel
theorem dX6_known_33 : decode cX6_known 33 = .ok (.if_icmp .eq 16, 3) := by decide +kernel
theorem dX6_known_36 : decode cX6_known 36 = .ok (.aload_n 0, 1) := by decide +kernel
theorem dX6_known_37 : decode cX6_known 37 = .ok (.iload 4, 2) := by decide +kernel
theorem dX6_known_39 : decode cX6_known 39 = .ok (.invokevirtual 113, 3) := by decide +kernel
theorem dX6_known_42 : decode cX6_known 42 = .ok (.ifCond .le 7, 3) := by decide +kernel
theorem dX6_known_45 : decode cX6_known 45 = .ok (.iconst 1, 1) := by decide +kernel
theorem dX6_known_46 : decode cX6_known 46 = .ok (.goto 4, 3) := by decide +kernel
theorem dX6_known_49 : decode cX6_known 49 = .ok (.iconst 0, 1) := by decide +kernel
theorem dX6_known_50 : decode cX6_known 50 = .ok (.iadd, 1) := by decide +kernel
theorem dX6_known_51 : decode cX6_known 51 = .ok (.istore_n 1, 1) := by decide +kernel
theorem dX6_known_52 : decode cX6_known 52 = .ok (.iinc 3 1, 3) := by decide +kernel
theorem dX6_known_55 : decode cX6_known 55 = .ok (.goto (-41), 3) := by decide +kernel
theorem dX6_known_58 : decode cX6_known 58 = .ok (.iinc 2 1, 3) := by decide +kernel
theorem dX6_known_61 : decode cX6_known 61 = .ok (.goto (-57), 3) := by decide +kernel
theorem dX6_known_64 : decode cX6_known 64 = .ok (.iload_n 1, 1) := by decide +kernel
theorem dX6_known_65 : decode cX6_known 65 = .ok (.ireturn, 1) := by decide +kernel
theorem dX6_allVotes_0 : decode cX6_allVotes 0 = .ok (.iconst 0, 1) := by decide +kernel
theorem dX6_allVotes_1 : decode cX6_allVotes 1 = .ok (.istore_n 2, 1) := by decide +kernel
theorem dX6_allVotes_2 : decode cX6_allVotes 2 = .ok (.iconst 0, 1) := by decide +kernel
theorem dX6_allVotes_3 : decode cX6_allVotes 3 = .ok (.istore_n 3, 1) := by decide +kernel
theorem dX6_allVotes_4 : decode cX6_allVotes 4 = .ok (.iload_n 3, 1) := by decide +kernel
theorem dX6_allVotes_5 : decode cX6_allVotes 5 = .ok (.bipush 124, 2) := by decide +kernel
theorem dX6_allVotes_7 : decode cX6_allVotes 7 = .ok (.if_icmp .ge 39, 3) := by decide +kernel
theorem dX6_allVotes_10 : decode cX6_allVotes 10 = .ok (.iload_n 2, 1) := by decide +kernel
theorem dX6_allVotes_11 : decode cX6_allVotes 11 = .ok (.iload_n 1, 1) := by decide +kernel
theorem dX6_allVotes_12 : decode cX6_allVotes 12 = .ok (.ifCond .eq 20, 3) := by decide +kernel
theorem dX6_allVotes_15 : decode cX6_allVotes 15 = .ok (.aload_n 0, 1) := by decide +kernel
theorem dX6_allVotes_16 : decode cX6_allVotes 16 = .ok (.getfield 29, 3) := by decide +kernel
theorem dX6_allVotes_19 : decode cX6_allVotes 19 = .ok (.iload_n 3, 1) := by decide +kernel
theorem dX6_allVotes_20 : decode cX6_allVotes 20 = .ok (.iaload, 1) := by decide +kernel
theorem dX6_allVotes_21 : decode cX6_allVotes 21 = .ok (.ifCond .le 7, 3) := by decide +kernel
theorem dX6_allVotes_24 : decode cX6_allVotes 24 = .ok (.iconst 1, 1) := by decide +kernel
theorem dX6_allVotes_25 : decode cX6_allVotes 25 = .ok (.goto 13, 3) := by decide +kernel
theorem dX6_allVotes_28 : decode cX6_allVotes 28 = .ok (.iconst 0, 1) := by decide +kernel
theorem dX6_allVotes_29 : decode cX6_allVotes 29 = .ok (.goto 9, 3) := by decide +kernel
theorem dX6_allVotes_32 : decode cX6_allVotes 32 = .ok (.aload_n 0, 1) := by decide +kernel
theorem dX6_allVotes_33 : decode cX6_allVotes 33 = .ok (.getfield 29, 3) := by decide +kernel
theorem dX6_allVotes_36 : decode cX6_allVotes 36 = .ok (.iload_n 3, 1) := by decide +kernel
theorem dX6_allVotes_37 : decode cX6_allVotes 37 = .ok (.iaload, 1) := by decide +kernel
theorem dX6_allVotes_38 : decode cX6_allVotes 38 = .ok (.iadd, 1) := by decide +kernel
theorem dX6_allVotes_39 : decode cX6_allVotes 39 = .ok (.istore_n 2, 1) := by decide +kernel
theorem dX6_allVotes_40 : decode cX6_allVotes 40 = .ok (.iinc 3 1, 3) := by decide +kernel
theorem dX6_allVotes_43 : decode cX6_allVotes 43 = .ok (.goto (-39), 3) := by decide +kernel
theorem dX6_allVotes_46 : decode cX6_allVotes 46 = .ok (.iload_n 2, 1) := by decide +kernel
theorem dX6_allVotes_47 : decode cX6_allVotes 47 = .ok (.ireturn, 1) := by decide +kernel
set_option maxRecDepth 20000 in
theorem ggX6_told_X6_counts : GoodIn wsX6_told wsX6_counts := goodIn_r _ [9, 2, 10, 11, 12, 13, 8, 14, 15, 16, 17, 18, 19, 1, 20, 21, 22, 23, 24, 25, 26, 27, 28, 29, 30, 31, 32, 33, 34, 35, 36, 37, 38, 39, 40, 41, 42, 43, 44, 45, 46, 47, 48, 49, 50, 51, 80, 81, 82, 83, 84, 85, 86, 87, 88] (by decide +kernel) (by decide +kernel)
set_option maxRecDepth 20000 in
theorem gX6_told_X6_counts : GoodIn wsX6_told (wsV RX6 116 RX6 yX6_counts wsX6_counts) := goodIn_app (goodIn_of _ (by decide +kernel)) ggX6_told_X6_counts
set_option maxRecDepth 20000 in
theorem ggX6_told_X6_best : GoodIn wsX6_told wsX6_best := goodIn_r _ [55, 2, 10, 80, 81, 82, 83, 84, 85, 86, 87, 88] (by decide +kernel) (by decide +kernel)
set_option maxRecDepth 20000 in
theorem gX6_told_X6_best : GoodIn wsX6_told (wsV RX6 110 RX6 yX6_best wsX6_best) := goodIn_app (goodIn_of _ (by decide +kernel)) ggX6_told_X6_best
set_option maxRecDepth 20000 in
theorem ggX6_told_X6_ledger : GoodIn wsX6_told wsX6_ledger := goodIn_r _ [59, 60, 61, 62, 8, 63, 48, 49, 50, 51, 37, 38, 39, 40, 1, 15, 41, 42, 43, 44, 16, 17, 18, 19, 45, 46, 47, 80, 81, 82, 83, 84, 85, 86, 87, 88] (by decide +kernel) (by decide +kernel)
set_option maxRecDepth 20000 in
theorem gX6_told_X6_ledger : GoodIn wsX6_told (wsV RX6 119 RX6 yX6_ledger wsX6_ledger) := goodIn_app (goodIn_of _ (by decide +kernel)) ggX6_told_X6_ledger
set_option maxRecDepth 20000 in
theorem ggX6_told_X6_keysOf : GoodIn wsX6_told wsX6_keysOf := goodIn_r _ [67, 37, 38, 39, 8, 40, 1, 15, 41, 42, 43, 44, 16, 17, 18, 19, 45, 46, 47, 80, 81, 82, 83, 84, 85, 86, 87, 88] (by decide +kernel) (by decide +kernel)
set_option maxRecDepth 20000 in
theorem gX6_told_X6_keysOf : GoodIn wsX6_told (wsV RX6 123 RX6 yX6_keysOf wsX6_keysOf) := goodIn_app (goodIn_of _ (by decide +kernel)) ggX6_told_X6_keysOf
set_option maxRecDepth 20000 in
theorem ggX6_told_X6_known : GoodIn wsX6_told wsX6_known := goodIn_r _ [71, 37, 38, 39, 8, 40, 1, 15, 41, 42, 43, 44, 16, 17, 18, 19, 45, 46, 47, 60, 61, 62, 63, 48, 49, 50, 51, 80, 81, 82, 83, 84, 85, 86, 87, 88] (by decide +kernel) (by decide +kernel)
set_option maxRecDepth 20000 in
theorem gX6_told_X6_known : GoodIn wsX6_told (wsV RX6 126 RX6 yX6_known wsX6_known) := goodIn_app (goodIn_of _ (by decide +kernel)) ggX6_told_X6_known
set_option maxRecDepth 20000 in
theorem ggX6_told_X6_doubt : GoodIn wsX6_told wsX6_doubt := goodIn_r _ [75, 2, 52, 53, 54, 8, 55, 10, 80, 81, 82, 83, 84, 85, 86, 87, 88] (by decide +kernel) (by decide +kernel)
set_option maxRecDepth 20000 in
theorem gX6_told_X6_doubt : GoodIn wsX6_told (wsV RX6 130 RX6 yX6_doubt wsX6_doubt) := goodIn_app (goodIn_of _ (by decide +kernel)) ggX6_told_X6_doubt
set_option maxRecDepth 20000 in
theorem ggX6_told_X6_allVotes : GoodIn wsX6_told wsX6_allVotes := goodIn_r _ [79, 2, 80, 81, 82, 83, 84, 85, 86, 87, 88] (by decide +kernel) (by decide +kernel)
set_option maxRecDepth 20000 in
theorem gX6_told_X6_allVotes : GoodIn wsX6_told (wsV RX6 133 RX6 yX6_allVotes wsX6_allVotes) := goodIn_app (goodIn_of _ (by decide +kernel)) ggX6_told_X6_allVotes
theorem dX6_told_0 : decode cX6_told 0 = .ok (.aload_n 0, 1) := by decide +kernel
theorem dX6_told_1 : decode cX6_told 1 = .ok (.invokevirtual 116, 3) := by decide +kernel
theorem dX6_told_4 : decode cX6_told 4 = .ok (.aload_n 0, 1) := by decide +kernel
theorem dX6_told_5 : decode cX6_told 5 = .ok (.iconst (-1), 1) := by decide +kernel
theorem dX6_told_6 : decode cX6_told 6 = .ok (.invokevirtual 110, 3) := by decide +kernel
theorem dX6_told_9 : decode cX6_told 9 = .ok (.istore_n 2, 1) := by decide +kernel
theorem dX6_told_10 : decode cX6_told 10 = .ok (.iload_n 1, 1) := by decide +kernel
theorem dX6_told_11 : decode cX6_told 11 = .ok (.tableswitch 164 0 12 #[65, 65, 72, 78, 84, 90, 95, 109, 126, 142, 147, 153, 159], 65) := by decide +kernel
theorem dX6_told_76 : decode cX6_told 76 = .ok (.aload_n 0, 1) := by decide +kernel
theorem dX6_told_77 : decode cX6_told 77 = .ok (.getfield 7, 3) := by decide +kernel
theorem dX6_told_80 : decode cX6_told 80 = .ok (.iload_n 1, 1) := by decide +kernel
theorem dX6_told_81 : decode cX6_told 81 = .ok (.iaload, 1) := by decide +kernel
theorem dX6_told_82 : decode cX6_told 82 = .ok (.ireturn, 1) := by decide +kernel
theorem dX6_told_83 : decode cX6_told 83 = .ok (.aload_n 0, 1) := by decide +kernel
theorem dX6_told_84 : decode cX6_told 84 = .ok (.iconst 0, 1) := by decide +kernel
theorem dX6_told_85 : decode cX6_told 85 = .ok (.invokevirtual 119, 3) := by decide +kernel
theorem dX6_told_88 : decode cX6_told 88 = .ok (.ireturn, 1) := by decide +kernel
theorem dX6_told_89 : decode cX6_told 89 = .ok (.aload_n 0, 1) := by decide +kernel
theorem dX6_told_90 : decode cX6_told 90 = .ok (.iconst 1, 1) := by decide +kernel
theorem dX6_told_91 : decode cX6_told 91 = .ok (.invokevirtual 119, 3) := by decide +kernel
theorem dX6_told_94 : decode cX6_told 94 = .ok (.ireturn, 1) := by decide +kernel
theorem dX6_told_95 : decode cX6_told 95 = .ok (.aload_n 0, 1) := by decide +kernel
theorem dX6_told_96 : decode cX6_told 96 = .ok (.iconst 4, 1) := by decide +kernel
theorem dX6_told_97 : decode cX6_told 97 = .ok (.invokevirtual 123, 3) := by decide +kernel
theorem dX6_told_100 : decode cX6_told 100 = .ok (.ireturn, 1) := by decide +kernel
theorem dX6_told_101 : decode cX6_told 101 = .ok (.aload_n 0, 1) := by decide +kernel
theorem dX6_told_102 : decode cX6_told 102 = .ok (.invokevirtual 126, 3) := by decide +kernel
theorem dX6_told_105 : decode cX6_told 105 = .ok (.ireturn, 1) := by decide +kernel
theorem dX6_told_106 : decode cX6_told 106 = .ok (.iload_n 2, 1) := by decide +kernel
theorem dX6_told_107 : decode cX6_told 107 = .ok (.iconst (-1), 1) := by decide +kernel
theorem dX6_told_108 : decode cX6_told 108 = .ok (.if_icmp .ne 7, 3) := by decide +kernel
theorem dX6_told_111 : decode cX6_told 111 = .ok (.iconst (-1), 1) := by decide +kernel
theorem dX6_told_112 : decode cX6_told 112 = .ok (.goto 7, 3) := by decide +kernel
theorem dX6_told_115 : decode cX6_told 115 = .ok (.iload_n 2, 1) := by decide +kernel
theorem dX6_told_116 : decode cX6_told 116 = .ok (.bipush 31, 2) := by decide +kernel
theorem dX6_told_118 : decode cX6_told 118 = .ok (.idiv, 1) := by decide +kernel
theorem dX6_told_119 : decode cX6_told 119 = .ok (.ireturn, 1) := by decide +kernel
theorem dX6_told_120 : decode cX6_told 120 = .ok (.iload_n 2, 1) := by decide +kernel
theorem dX6_told_121 : decode cX6_told 121 = .ok (.iconst (-1), 1) := by decide +kernel
theorem dX6_told_122 : decode cX6_told 122 = .ok (.if_icmp .ne 7, 3) := by decide +kernel
theorem dX6_told_125 : decode cX6_told 125 = .ok (.iconst 0, 1) := by decide +kernel
theorem dX6_told_126 : decode cX6_told 126 = .ok (.goto 10, 3) := by decide +kernel
theorem dX6_told_129 : decode cX6_told 129 = .ok (.iload_n 2, 1) := by decide +kernel
theorem dX6_told_130 : decode cX6_told 130 = .ok (.bipush 31, 2) := by decide +kernel
theorem dX6_told_132 : decode cX6_told 132 = .ok (.irem, 1) := by decide +kernel
theorem dX6_told_133 : decode cX6_told 133 = .ok (.bipush 15, 2) := by decide +kernel
theorem dX6_told_135 : decode cX6_told 135 = .ok (.isub, 1) := by decide +kernel
theorem dX6_told_136 : decode cX6_told 136 = .ok (.ireturn, 1) := by decide +kernel
theorem dX6_told_137 : decode cX6_told 137 = .ok (.iload_n 2, 1) := by decide +kernel
theorem dX6_told_138 : decode cX6_told 138 = .ok (.iconst (-1), 1) := by decide +kernel
theorem dX6_told_139 : decode cX6_told 139 = .ok (.if_icmp .ne 7, 3) := by decide +kernel
theorem dX6_told_142 : decode cX6_told 142 = .ok (.iconst 0, 1) := by decide +kernel
theorem dX6_told_143 : decode cX6_told 143 = .ok (.goto 9, 3) := by decide +kernel
theorem dX6_told_146 : decode cX6_told 146 = .ok (.aload_n 0, 1) := by decide +kernel
theorem dX6_told_147 : decode cX6_told 147 = .ok (.getfield 29, 3) := by decide +kernel
theorem dX6_told_150 : decode cX6_told 150 = .ok (.iload_n 2, 1) := by decide +kernel
theorem dX6_told_151 : decode cX6_told 151 = .ok (.iaload, 1) := by decide +kernel
theorem dX6_told_152 : decode cX6_told 152 = .ok (.ireturn, 1) := by decide +kernel
theorem dX6_told_153 : decode cX6_told 153 = .ok (.aload_n 0, 1) := by decide +kernel
theorem dX6_told_154 : decode cX6_told 154 = .ok (.invokevirtual 130, 3) := by decide +kernel
theorem dX6_told_157 : decode cX6_told 157 = .ok (.ireturn, 1) := by decide +kernel
theorem dX6_told_158 : decode cX6_told 158 = .ok (.aload_n 0, 1) := by decide +kernel
theorem dX6_told_159 : decode cX6_told 159 = .ok (.iconst 1, 1) := by decide +kernel
theorem dX6_told_160 : decode cX6_told 160 = .ok (.invokevirtual 133, 3) := by decide +kernel
theorem dX6_told_163 : decode cX6_told 163 = .ok (.ireturn, 1) := by decide +kernel
theorem dX6_told_164 : decode cX6_told 164 = .ok (.aload_n 0, 1) := by decide +kernel
theorem dX6_told_165 : decode cX6_told 165 = .ok (.iconst 0, 1) := by decide +kernel
theorem dX6_told_166 : decode cX6_told 166 = .ok (.invokevirtual 133, 3) := by decide +kernel
theorem dX6_told_169 : decode cX6_told 169 = .ok (.ireturn, 1) := by decide +kernel
theorem dX6_told_170 : decode cX6_told 170 = .ok (.aload_n 0, 1) := by decide +kernel
theorem dX6_told_171 : decode cX6_told 171 = .ok (.getfield 43, 3) := by decide +kernel
theorem dX6_told_174 : decode cX6_told 174 = .ok (.ireturn, 1) := by decide +kernel
theorem dX6_told_175 : decode cX6_told 175 = .ok (.ldc 56, 2) := by decide +kernel
theorem dX6_told_177 : decode cX6_told 177 = .ok (.ireturn, 1) := by decide +kernel
set_option maxRecDepth 20000 in
theorem ggX6_mostOften_X6_windows : GoodIn wsX6_mostOften wsX6_windows := goodIn_r _ [6, 7, 8, 9, 10, 11, 12, 13, 14, 15, 16] (by decide +kernel) (by decide +kernel)
set_option maxRecDepth 20000 in
theorem gX6_mostOften_X6_windows : GoodIn wsX6_mostOften (wsV RX6 39 RX6 yX6_windows wsX6_windows) := goodIn_app (goodIn_of _ (by decide +kernel)) ggX6_mostOften_X6_windows
theorem dX6_mostOften_0 : decode cX6_mostOften 0 = .ok (.iconst (-1), 1) := by decide +kernel
theorem dX6_mostOften_1 : decode cX6_mostOften 1 = .ok (.istore_n 2, 1) := by decide +kernel
theorem dX6_mostOften_2 : decode cX6_mostOften 2 = .ok (.iconst 0, 1) := by decide +kernel
theorem dX6_mostOften_3 : decode cX6_mostOften 3 = .ok (.istore_n 3, 1) := by decide +kernel
theorem dX6_mostOften_4 : decode cX6_mostOften 4 = .ok (.iconst 1, 1) := by decide +kernel
theorem dX6_mostOften_5 : decode cX6_mostOften 5 = .ok (.istore 4, 2) := by decide +kernel
theorem dX6_mostOften_7 : decode cX6_mostOften 7 = .ok (.iload 4, 2) := by decide +kernel
theorem dX6_mostOften_9 : decode cX6_mostOften 9 = .ok (.bipush 8, 2) := by decide +kernel
theorem dX6_mostOften_11 : decode cX6_mostOften 11 = .ok (.if_icmp .ge 84, 3) := by decide +kernel
theorem dX6_mostOften_14 : decode cX6_mostOften 14 = .ok (.iconst 0, 1) := by decide +kernel
theorem dX6_mostOften_15 : decode cX6_mostOften 15 = .ok (.istore 5, 2) := by decide +kernel
theorem dX6_mostOften_17 : decode cX6_mostOften 17 = .ok (.iconst 0, 1) := by decide +kernel
theorem dX6_mostOften_18 : decode cX6_mostOften 18 = .ok (.istore 6, 2) := by decide +kernel
theorem dX6_mostOften_20 : decode cX6_mostOften 20 = .ok (.iload 6, 2) := by decide +kernel
theorem dX6_mostOften_22 : decode cX6_mostOften 22 = .ok (.aload_n 0, 1) := by decide +kernel
theorem dX6_mostOften_23 : decode cX6_mostOften 23 = .ok (.iload_n 1, 1) := by decide +kernel
theorem dX6_mostOften_24 : decode cX6_mostOften 24 = .ok (.invokevirtual 39, 3) := by decide +kernel
theorem dX6_mostOften_27 : decode cX6_mostOften 27 = .ok (.if_icmp .ge 36, 3) := by decide +kernel
theorem dX6_mostOften_30 : decode cX6_mostOften 30 = .ok (.iload 5, 2) := by decide +kernel
theorem dX6_mostOften_32 : decode cX6_mostOften 32 = .ok (.aload_n 0, 1) := by decide +kernel
theorem dX6_mostOften_33 : decode cX6_mostOften 33 = .ok (.getfield 26, 3) := by decide +kernel
theorem dX6_mostOften_36 : decode cX6_mostOften 36 = .ok (.bipush 16, 2) := by decide +kernel
theorem dX6_mostOften_38 : decode cX6_mostOften 38 = .ok (.iload_n 1, 1) := by decide +kernel
theorem dX6_mostOften_39 : decode cX6_mostOften 39 = .ok (.imul, 1) := by decide +kernel
theorem dX6_mostOften_40 : decode cX6_mostOften 40 = .ok (.iload 6, 2) := by decide +kernel
theorem dX6_mostOften_42 : decode cX6_mostOften 42 = .ok (.iadd, 1) := by decide +kernel
theorem dX6_mostOften_43 : decode cX6_mostOften 43 = .ok (.iaload, 1) := by decide +kernel
theorem dX6_mostOften_44 : decode cX6_mostOften 44 = .ok (.iload 4, 2) := by decide +kernel
theorem dX6_mostOften_46 : decode cX6_mostOften 46 = .ok (.if_icmp .ne 7, 3) := by decide +kernel
theorem dX6_mostOften_49 : decode cX6_mostOften 49 = .ok (.iconst 1, 1) := by decide +kernel
theorem dX6_mostOften_50 : decode cX6_mostOften 50 = .ok (.goto 4, 3) := by decide +kernel
theorem dX6_mostOften_53 : decode cX6_mostOften 53 = .ok (.iconst 0, 1) := by decide +kernel
theorem dX6_mostOften_54 : decode cX6_mostOften 54 = .ok (.iadd, 1) := by decide +kernel
theorem dX6_mostOften_55 : decode cX6_mostOften 55 = .ok (.istore 5, 2) := by decide +kernel
theorem dX6_mostOften_57 : decode cX6_mostOften 57 = .ok (.iinc 6 1, 3) := by decide +kernel
theorem dX6_mostOften_60 : decode cX6_mostOften 60 = .ok (.goto (-40), 3) := by decide +kernel
theorem dX6_mostOften_63 : decode cX6_mostOften 63 = .ok (.iload 5, 2) := by decide +kernel
theorem dX6_mostOften_65 : decode cX6_mostOften 65 = .ok (.iload_n 3, 1) := by decide +kernel
theorem dX6_mostOften_66 : decode cX6_mostOften 66 = .ok (.if_icmp .le 8, 3) := by decide +kernel
theorem dX6_mostOften_69 : decode cX6_mostOften 69 = .ok (.iload 4, 2) := by decide +kernel
theorem dX6_mostOften_71 : decode cX6_mostOften 71 = .ok (.goto 4, 3) := by decide +kernel
theorem dX6_mostOften_74 : decode cX6_mostOften 74 = .ok (.iload_n 2, 1) := by decide +kernel
theorem dX6_mostOften_75 : decode cX6_mostOften 75 = .ok (.istore_n 2, 1) := by decide +kernel
theorem dX6_mostOften_76 : decode cX6_mostOften 76 = .ok (.iload 5, 2) := by decide +kernel
theorem dX6_mostOften_78 : decode cX6_mostOften 78 = .ok (.iload_n 3, 1) := by decide +kernel
theorem dX6_mostOften_79 : decode cX6_mostOften 79 = .ok (.if_icmp .le 8, 3) := by decide +kernel
theorem dX6_mostOften_82 : decode cX6_mostOften 82 = .ok (.iload 5, 2) := by decide +kernel
theorem dX6_mostOften_84 : decode cX6_mostOften 84 = .ok (.goto 4, 3) := by decide +kernel
theorem dX6_mostOften_87 : decode cX6_mostOften 87 = .ok (.iload_n 3, 1) := by decide +kernel
theorem dX6_mostOften_88 : decode cX6_mostOften 88 = .ok (.istore_n 3, 1) := by decide +kernel
theorem dX6_mostOften_89 : decode cX6_mostOften 89 = .ok (.iinc 4 1, 3) := by decide +kernel
theorem dX6_mostOften_92 : decode cX6_mostOften 92 = .ok (.goto (-85), 3) := by decide +kernel
theorem dX6_mostOften_95 : decode cX6_mostOften 95 = .ok (.iload_n 2, 1) := by decide +kernel
theorem dX6_mostOften_96 : decode cX6_mostOften 96 = .ok (.ireturn, 1) := by decide +kernel
set_option maxRecDepth 20000 in
theorem ggX6_row_X6_isRow : GoodIn wsX6_row wsX6_isRow := goodIn_r _ [8, 9, 10, 7, 11] (by decide +kernel) (by decide +kernel)
set_option maxRecDepth 20000 in
theorem gX6_row_X6_isRow : GoodIn wsX6_row (va_wsS RX6 51 yX6_isRow wsX6_isRow) := goodIn_app (goodIn_of _ (by decide +kernel)) ggX6_row_X6_isRow
set_option maxRecDepth 20000 in
theorem ggX6_row_X6_findsPeaks : GoodIn wsX6_row wsX6_findsPeaks := goodIn_r _ [15, 3, 16, 17, 18, 7, 19, 2, 20, 21, 22, 23, 24, 25, 26, 27, 28, 29, 30, 31, 32, 33, 34, 35, 36, 53, 54, 55, 56, 57, 58, 59, 60, 61] (by decide +kernel) (by decide +kernel)
set_option maxRecDepth 20000 in
theorem gX6_row_X6_findsPeaks : GoodIn wsX6_row (wsV RX6 107 RX6 yX6_findsPeaks wsX6_findsPeaks) := goodIn_app (goodIn_of _ (by decide +kernel)) ggX6_row_X6_findsPeaks
set_option maxRecDepth 20000 in
theorem ggX6_row_X6_windows : GoodIn wsX6_row wsX6_windows := goodIn_r _ [19, 2, 53, 54, 55, 56, 57, 58, 59, 60, 61] (by decide +kernel) (by decide +kernel)
set_option maxRecDepth 20000 in
theorem gX6_row_X6_windows : GoodIn wsX6_row (wsV RX6 39 RX6 yX6_windows wsX6_windows) := goodIn_app (goodIn_of _ (by decide +kernel)) ggX6_row_X6_windows
set_option maxRecDepth 20000 in
theorem ggX6_row_X6_keysOf : GoodIn wsX6_row wsX6_keysOf := goodIn_r _ [40, 41, 42, 43, 7, 44, 2, 3, 45, 46, 47, 48, 16, 17, 18, 19, 9, 10, 11, 53, 54, 55, 56, 57, 58, 59, 60, 61] (by decide +kernel) (by decide +kernel)
set_option maxRecDepth 20000 in
theorem gX6_row_X6_keysOf : GoodIn wsX6_row (wsV RX6 123 RX6 yX6_keysOf wsX6_keysOf) := goodIn_app (goodIn_of _ (by decide +kernel)) ggX6_row_X6_keysOf
set_option maxRecDepth 20000 in
theorem ggX6_row_X6_turns : GoodIn wsX6_row wsX6_turns := goodIn_r _ [27, 28, 29, 30, 31, 7, 32, 2, 53, 54, 55, 56, 57, 58, 59, 60, 61] (by decide +kernel) (by decide +kernel)
set_option maxRecDepth 20000 in
theorem gX6_row_X6_turns : GoodIn wsX6_row (wsV RX6 87 RX6 yX6_turns wsX6_turns) := goodIn_app (goodIn_of _ (by decide +kernel)) ggX6_row_X6_turns
set_option maxRecDepth 20000 in
theorem ggX6_row_X6_shareOf : GoodIn wsX6_row wsX6_shareOf := goodIn_r _ [36, 28, 53, 54, 55, 56, 57, 58, 59, 60, 61] (by decide +kernel) (by decide +kernel)
set_option maxRecDepth 20000 in
theorem gX6_row_X6_shareOf : GoodIn wsX6_row (wsV RX6 91 RX6 yX6_shareOf wsX6_shareOf) := goodIn_app (goodIn_of _ (by decide +kernel)) ggX6_row_X6_shareOf
set_option maxRecDepth 20000 in
theorem ggX6_row_X6_mostOften : GoodIn wsX6_row wsX6_mostOften := goodIn_r _ [52, 3, 16, 17, 18, 7, 19, 2, 53, 54, 55, 56, 57, 58, 59, 60, 61] (by decide +kernel) (by decide +kernel)
set_option maxRecDepth 20000 in
theorem gX6_row_X6_mostOften : GoodIn wsX6_row (wsV RX6 136 RX6 yX6_mostOften wsX6_mostOften) := goodIn_app (goodIn_of _ (by decide +kernel)) ggX6_row_X6_mostOften
theorem dX6_row_0 : decode cX6_row 0 = .ok (.iload_n 1, 1) := by decide +kernel
theorem dX6_row_1 : decode cX6_row 1 = .ok (.invokestatic 51, 3) := by decide +kernel
theorem dX6_row_4 : decode cX6_row 4 = .ok (.ifCond .ne 6, 3) := by decide +kernel
theorem dX6_row_7 : decode cX6_row 7 = .ok (.ldc 55, 2) := by decide +kernel
theorem dX6_row_9 : decode cX6_row 9 = .ok (.ireturn, 1) := by decide +kernel
theorem dX6_row_10 : decode cX6_row 10 = .ok (.aload_n 0, 1) := by decide +kernel
theorem dX6_row_11 : decode cX6_row 11 = .ok (.invokevirtual 107, 3) := by decide +kernel
theorem dX6_row_14 : decode cX6_row 14 = .ok (.iconst 0, 1) := by decide +kernel
theorem dX6_row_15 : decode cX6_row 15 = .ok (.istore_n 3, 1) := by decide +kernel
theorem dX6_row_16 : decode cX6_row 16 = .ok (.iload_n 2, 1) := by decide +kernel
theorem dX6_row_17 : decode cX6_row 17 = .ok (.tableswitch 164 0 5 #[39, 48, 54, 99, 105, 158], 39) := by decide +kernel
theorem dX6_row_56 : decode cX6_row 56 = .ok (.aload_n 0, 1) := by decide +kernel
theorem dX6_row_57 : decode cX6_row 57 = .ok (.getfield 7, 3) := by decide +kernel
theorem dX6_row_60 : decode cX6_row 60 = .ok (.iconst 2, 1) := by decide +kernel
theorem dX6_row_61 : decode cX6_row 61 = .ok (.iload_n 1, 1) := by decide +kernel
theorem dX6_row_62 : decode cX6_row 62 = .ok (.iadd, 1) := by decide +kernel
theorem dX6_row_63 : decode cX6_row 63 = .ok (.iaload, 1) := by decide +kernel
theorem dX6_row_64 : decode cX6_row 64 = .ok (.ireturn, 1) := by decide +kernel
theorem dX6_row_65 : decode cX6_row 65 = .ok (.aload_n 0, 1) := by decide +kernel
theorem dX6_row_66 : decode cX6_row 66 = .ok (.iload_n 1, 1) := by decide +kernel
theorem dX6_row_67 : decode cX6_row 67 = .ok (.invokevirtual 39, 3) := by decide +kernel
theorem dX6_row_70 : decode cX6_row 70 = .ok (.ireturn, 1) := by decide +kernel
theorem dX6_row_71 : decode cX6_row 71 = .ok (.iconst 0, 1) := by decide +kernel
theorem dX6_row_72 : decode cX6_row 72 = .ok (.istore 4, 2) := by decide +kernel
theorem dX6_row_74 : decode cX6_row 74 = .ok (.iload 4, 2) := by decide +kernel
theorem dX6_row_76 : decode cX6_row 76 = .ok (.aload_n 0, 1) := by decide +kernel
theorem dX6_row_77 : decode cX6_row 77 = .ok (.iload_n 1, 1) := by decide +kernel
theorem dX6_row_78 : decode cX6_row 78 = .ok (.invokevirtual 39, 3) := by decide +kernel
theorem dX6_row_81 : decode cX6_row 81 = .ok (.if_icmp .ge 33, 3) := by decide +kernel
theorem dX6_row_84 : decode cX6_row 84 = .ok (.iload_n 3, 1) := by decide +kernel
theorem dX6_row_85 : decode cX6_row 85 = .ok (.aload_n 0, 1) := by decide +kernel
theorem dX6_row_86 : decode cX6_row 86 = .ok (.getfield 26, 3) := by decide +kernel
theorem dX6_row_89 : decode cX6_row 89 = .ok (.bipush 16, 2) := by decide +kernel
theorem dX6_row_91 : decode cX6_row 91 = .ok (.iload_n 1, 1) := by decide +kernel
theorem dX6_row_92 : decode cX6_row 92 = .ok (.imul, 1) := by decide +kernel
theorem dX6_row_93 : decode cX6_row 93 = .ok (.iload 4, 2) := by decide +kernel
theorem dX6_row_95 : decode cX6_row 95 = .ok (.iadd, 1) := by decide +kernel
theorem dX6_row_96 : decode cX6_row 96 = .ok (.iaload, 1) := by decide +kernel
theorem dX6_row_97 : decode cX6_row 97 = .ok (.iconst (-1), 1) := by decide +kernel
theorem dX6_row_98 : decode cX6_row 98 = .ok (.if_icmp .ne 7, 3) := by decide +kernel
theorem dX6_row_101 : decode cX6_row 101 = .ok (.iconst 0, 1) := by decide +kernel
theorem dX6_row_102 : decode cX6_row 102 = .ok (.goto 4, 3) := by decide +kernel
theorem dX6_row_105 : decode cX6_row 105 = .ok (.iconst 1, 1) := by decide +kernel
theorem dX6_row_106 : decode cX6_row 106 = .ok (.iadd, 1) := by decide +kernel
theorem dX6_row_107 : decode cX6_row 107 = .ok (.istore_n 3, 1) := by decide +kernel
theorem dX6_row_108 : decode cX6_row 108 = .ok (.iinc 4 1, 3) := by decide +kernel
theorem dX6_row_111 : decode cX6_row 111 = .ok (.goto (-37), 3) := by decide +kernel
theorem dX6_row_114 : decode cX6_row 114 = .ok (.iload_n 3, 1) := by decide +kernel
theorem dX6_row_115 : decode cX6_row 115 = .ok (.ireturn, 1) := by decide +kernel
theorem dX6_row_116 : decode cX6_row 116 = .ok (.aload_n 0, 1) := by decide +kernel
theorem dX6_row_117 : decode cX6_row 117 = .ok (.iload_n 1, 1) := by decide +kernel
theorem dX6_row_118 : decode cX6_row 118 = .ok (.invokevirtual 123, 3) := by decide +kernel
theorem dX6_row_121 : decode cX6_row 121 = .ok (.ireturn, 1) := by decide +kernel
theorem dX6_row_122 : decode cX6_row 122 = .ok (.iconst 0, 1) := by decide +kernel
theorem dX6_row_123 : decode cX6_row 123 = .ok (.istore 4, 2) := by decide +kernel
theorem dX6_row_125 : decode cX6_row 125 = .ok (.iload 4, 2) := by decide +kernel
theorem dX6_row_127 : decode cX6_row 127 = .ok (.aload_n 0, 1) := by decide +kernel
theorem dX6_row_128 : decode cX6_row 128 = .ok (.iload_n 1, 1) := by decide +kernel
theorem dX6_row_129 : decode cX6_row 129 = .ok (.invokevirtual 39, 3) := by decide +kernel
theorem dX6_row_132 : decode cX6_row 132 = .ok (.if_icmp .ge 41, 3) := by decide +kernel
theorem dX6_row_135 : decode cX6_row 135 = .ok (.aload_n 0, 1) := by decide +kernel
theorem dX6_row_136 : decode cX6_row 136 = .ok (.iload_n 1, 1) := by decide +kernel
theorem dX6_row_137 : decode cX6_row 137 = .ok (.iload 4, 2) := by decide +kernel
theorem dX6_row_139 : decode cX6_row 139 = .ok (.invokevirtual 87, 3) := by decide +kernel
theorem dX6_row_142 : decode cX6_row 142 = .ok (.iconst 0, 1) := by decide +kernel
theorem dX6_row_143 : decode cX6_row 143 = .ok (.istore 5, 2) := by decide +kernel
theorem dX6_row_145 : decode cX6_row 145 = .ok (.iload 5, 2) := by decide +kernel
theorem dX6_row_147 : decode cX6_row 147 = .ok (.bipush 8, 2) := by decide +kernel
theorem dX6_row_149 : decode cX6_row 149 = .ok (.if_icmp .ge 18, 3) := by decide +kernel
theorem dX6_row_152 : decode cX6_row 152 = .ok (.iload_n 3, 1) := by decide +kernel
theorem dX6_row_153 : decode cX6_row 153 = .ok (.aload_n 0, 1) := by decide +kernel
theorem dX6_row_154 : decode cX6_row 154 = .ok (.iload 5, 2) := by decide +kernel
theorem dX6_row_156 : decode cX6_row 156 = .ok (.invokevirtual 91, 3) := by decide +kernel
theorem dX6_row_159 : decode cX6_row 159 = .ok (.iadd, 1) := by decide +kernel
theorem dX6_row_160 : decode cX6_row 160 = .ok (.istore_n 3, 1) := by decide +kernel
theorem dX6_row_161 : decode cX6_row 161 = .ok (.iinc 5 1, 3) := by decide +kernel
theorem dX6_row_164 : decode cX6_row 164 = .ok (.goto (-19), 3) := by decide +kernel
theorem dX6_row_167 : decode cX6_row 167 = .ok (.iinc 4 1, 3) := by decide +kernel
theorem dX6_row_170 : decode cX6_row 170 = .ok (.goto (-45), 3) := by decide +kernel
theorem dX6_row_173 : decode cX6_row 173 = .ok (.iload_n 3, 1) := by decide +kernel
theorem dX6_row_174 : decode cX6_row 174 = .ok (.ireturn, 1) := by decide +kernel
theorem dX6_row_175 : decode cX6_row 175 = .ok (.aload_n 0, 1) := by decide +kernel
theorem dX6_row_176 : decode cX6_row 176 = .ok (.iload_n 1, 1) := by decide +kernel
theorem dX6_row_177 : decode cX6_row 177 = .ok (.invokevirtual 136, 3) := by decide +kernel
theorem dX6_row_180 : decode cX6_row 180 = .ok (.ireturn, 1) := by decide +kernel
theorem dX6_row_181 : decode cX6_row 181 = .ok (.ldc 56, 2) := by decide +kernel
theorem dX6_row_183 : decode cX6_row 183 = .ok (.ireturn, 1) := by decide +kernel
set_option maxRecDepth 20000 in
theorem ggX6_at_X6_isRow : GoodIn wsX6_at wsX6_isRow := goodIn_r _ [7, 8, 9, 6, 10] (by decide +kernel) (by decide +kernel)
set_option maxRecDepth 20000 in
theorem gX6_at_X6_isRow : GoodIn wsX6_at (va_wsS RX6 51 yX6_isRow wsX6_isRow) := goodIn_app (goodIn_of _ (by decide +kernel)) ggX6_at_X6_isRow
set_option maxRecDepth 20000 in
theorem ggX6_at_X6_in : GoodIn wsX6_at wsX6_in := goodIn_r _ [10] (by decide +kernel) (by decide +kernel)
set_option maxRecDepth 20000 in
theorem gX6_at_X6_in : GoodIn wsX6_at (va_wsS RX6 35 yX6_in wsX6_in) := goodIn_app (goodIn_of _ (by decide +kernel)) ggX6_at_X6_in
set_option maxRecDepth 20000 in
theorem ggX6_at_X6_of : GoodIn wsX6_at wsX6_of := goodIn_r _ [14, 2, 15, 16, 17, 18, 19, 20, 21, 22, 23] (by decide +kernel) (by decide +kernel)
set_option maxRecDepth 20000 in
theorem gX6_at_X6_of : GoodIn wsX6_at (wsV RX6 72 RX6 yX6_of wsX6_of) := goodIn_app (goodIn_of _ (by decide +kernel)) ggX6_at_X6_of
theorem dX6_at_0 : decode cX6_at 0 = .ok (.iload_n 1, 1) := by decide +kernel
theorem dX6_at_1 : decode cX6_at 1 = .ok (.invokestatic 51, 3) := by decide +kernel
theorem dX6_at_4 : decode cX6_at 4 = .ok (.ifCond .ne 8, 3) := by decide +kernel
theorem dX6_at_7 : decode cX6_at 7 = .ok (.ldc 55, 2) := by decide +kernel
theorem dX6_at_9 : decode cX6_at 9 = .ok (.goto 32, 3) := by decide +kernel
theorem dX6_at_12 : decode cX6_at 12 = .ok (.iload_n 2, 1) := by decide +kernel
theorem dX6_at_13 : decode cX6_at 13 = .ok (.iconst 0, 1) := by decide +kernel
theorem dX6_at_14 : decode cX6_at 14 = .ok (.aload_n 0, 1) := by decide +kernel
theorem dX6_at_15 : decode cX6_at 15 = .ok (.getfield 7, 3) := by decide +kernel
theorem dX6_at_18 : decode cX6_at 18 = .ok (.iconst 2, 1) := by decide +kernel
theorem dX6_at_19 : decode cX6_at 19 = .ok (.iload_n 1, 1) := by decide +kernel
theorem dX6_at_20 : decode cX6_at 20 = .ok (.iadd, 1) := by decide +kernel
theorem dX6_at_21 : decode cX6_at 21 = .ok (.iaload, 1) := by decide +kernel
theorem dX6_at_22 : decode cX6_at 22 = .ok (.iconst 1, 1) := by decide +kernel
theorem dX6_at_23 : decode cX6_at 23 = .ok (.isub, 1) := by decide +kernel
theorem dX6_at_24 : decode cX6_at 24 = .ok (.invokestatic 35, 3) := by decide +kernel
theorem dX6_at_27 : decode cX6_at 27 = .ok (.ifCond .eq 12, 3) := by decide +kernel
theorem dX6_at_30 : decode cX6_at 30 = .ok (.aload_n 0, 1) := by decide +kernel
theorem dX6_at_31 : decode cX6_at 31 = .ok (.iload_n 1, 1) := by decide +kernel
theorem dX6_at_32 : decode cX6_at 32 = .ok (.iload_n 2, 1) := by decide +kernel
theorem dX6_at_33 : decode cX6_at 33 = .ok (.invokevirtual 72, 3) := by decide +kernel
theorem dX6_at_36 : decode cX6_at 36 = .ok (.goto 5, 3) := by decide +kernel
theorem dX6_at_39 : decode cX6_at 39 = .ok (.ldc 56, 2) := by decide +kernel
theorem dX6_at_41 : decode cX6_at 41 = .ok (.ireturn, 1) := by decide +kernel
set_option maxRecDepth 20000 in
theorem ggX6_share_X6_isRow : GoodIn wsX6_share wsX6_isRow := goodIn_r _ [6, 7, 8, 5, 9] (by decide +kernel) (by decide +kernel)
set_option maxRecDepth 20000 in
theorem gX6_share_X6_isRow : GoodIn wsX6_share (va_wsS RX6 51 yX6_isRow wsX6_isRow) := goodIn_app (goodIn_of _ (by decide +kernel)) ggX6_share_X6_isRow
set_option maxRecDepth 20000 in
theorem ggX6_share_X6_isWindow : GoodIn wsX6_share wsX6_isWindow := goodIn_r _ [13, 14, 15, 16, 5, 17, 18, 7, 8, 9, 32, 33, 34, 35, 36, 37, 38, 39, 40] (by decide +kernel) (by decide +kernel)
set_option maxRecDepth 20000 in
theorem gX6_share_X6_isWindow : GoodIn wsX6_share (wsV RX6 97 RX6 yX6_isWindow wsX6_isWindow) := goodIn_app (goodIn_of _ (by decide +kernel)) ggX6_share_X6_isWindow
set_option maxRecDepth 20000 in
theorem ggX6_share_X6_in : GoodIn wsX6_share wsX6_in := goodIn_r _ [9] (by decide +kernel) (by decide +kernel)
set_option maxRecDepth 20000 in
theorem gX6_share_X6_in : GoodIn wsX6_share (va_wsS RX6 35 yX6_in wsX6_in) := goodIn_app (goodIn_of _ (by decide +kernel)) ggX6_share_X6_in
set_option maxRecDepth 20000 in
theorem ggX6_share_X6_turns : GoodIn wsX6_share wsX6_turns := goodIn_r _ [22, 23, 24, 25, 26, 5, 27, 18, 32, 33, 34, 35, 36, 37, 38, 39, 40] (by decide +kernel) (by decide +kernel)
set_option maxRecDepth 20000 in
theorem gX6_share_X6_turns : GoodIn wsX6_share (wsV RX6 87 RX6 yX6_turns wsX6_turns) := goodIn_app (goodIn_of _ (by decide +kernel)) ggX6_share_X6_turns
set_option maxRecDepth 20000 in
theorem ggX6_share_X6_shareOf : GoodIn wsX6_share wsX6_shareOf := goodIn_r _ [31, 23, 32, 33, 34, 35, 36, 37, 38, 39, 40] (by decide +kernel) (by decide +kernel)
set_option maxRecDepth 20000 in
theorem gX6_share_X6_shareOf : GoodIn wsX6_share (wsV RX6 91 RX6 yX6_shareOf wsX6_shareOf) := goodIn_app (goodIn_of _ (by decide +kernel)) ggX6_share_X6_shareOf
theorem dX6_share_0 : decode cX6_share 0 = .ok (.iload_n 1, 1) := by decide +kernel
theorem dX6_share_1 : decode cX6_share 1 = .ok (.invokestatic 51, 3) := by decide +kernel
theorem dX6_share_4 : decode cX6_share 4 = .ok (.ifCond .eq 12, 3) := by decide +kernel
theorem dX6_share_7 : decode cX6_share 7 = .ok (.aload_n 0, 1) := by decide +kernel
theorem dX6_share_8 : decode cX6_share 8 = .ok (.iload_n 1, 1) := by decide +kernel
theorem dX6_share_9 : decode cX6_share 9 = .ok (.iload_n 2, 1) := by decide +kernel
theorem dX6_share_10 : decode cX6_share 10 = .ok (.invokevirtual 97, 3) := by decide +kernel
theorem dX6_share_13 : decode cX6_share 13 = .ok (.ifCond .ne 6, 3) := by decide +kernel
theorem dX6_share_16 : decode cX6_share 16 = .ok (.ldc 55, 2) := by decide +kernel
theorem dX6_share_18 : decode cX6_share 18 = .ok (.ireturn, 1) := by decide +kernel
theorem dX6_share_19 : decode cX6_share 19 = .ok (.iload_n 3, 1) := by decide +kernel
theorem dX6_share_20 : decode cX6_share 20 = .ok (.iconst 0, 1) := by decide +kernel
theorem dX6_share_21 : decode cX6_share 21 = .ok (.bipush 7, 2) := by decide +kernel
theorem dX6_share_23 : decode cX6_share 23 = .ok (.invokestatic 35, 3) := by decide +kernel
theorem dX6_share_26 : decode cX6_share 26 = .ok (.ifCond .ne 6, 3) := by decide +kernel
theorem dX6_share_29 : decode cX6_share 29 = .ok (.ldc 56, 2) := by decide +kernel
theorem dX6_share_31 : decode cX6_share 31 = .ok (.ireturn, 1) := by decide +kernel
theorem dX6_share_32 : decode cX6_share 32 = .ok (.aload_n 0, 1) := by decide +kernel
theorem dX6_share_33 : decode cX6_share 33 = .ok (.iload_n 1, 1) := by decide +kernel
theorem dX6_share_34 : decode cX6_share 34 = .ok (.iload_n 2, 1) := by decide +kernel
theorem dX6_share_35 : decode cX6_share 35 = .ok (.invokevirtual 87, 3) := by decide +kernel
theorem dX6_share_38 : decode cX6_share 38 = .ok (.aload_n 0, 1) := by decide +kernel
theorem dX6_share_39 : decode cX6_share 39 = .ok (.iload_n 3, 1) := by decide +kernel
theorem dX6_share_40 : decode cX6_share 40 = .ok (.invokevirtual 91, 3) := by decide +kernel
theorem dX6_share_43 : decode cX6_share 43 = .ok (.ireturn, 1) := by decide +kernel
set_option maxRecDepth 20000 in
theorem ggX6_peak_X6_isRow : GoodIn wsX6_peak wsX6_isRow := goodIn_r _ [5, 6, 7, 4, 8] (by decide +kernel) (by decide +kernel)
set_option maxRecDepth 20000 in
theorem gX6_peak_X6_isRow : GoodIn wsX6_peak (va_wsS RX6 51 yX6_isRow wsX6_isRow) := goodIn_app (goodIn_of _ (by decide +kernel)) ggX6_peak_X6_isRow
set_option maxRecDepth 20000 in
theorem ggX6_peak_X6_isWindow : GoodIn wsX6_peak wsX6_isWindow := goodIn_r _ [12, 13, 14, 15, 4, 16, 17, 6, 7, 8, 35, 36, 37, 38, 39, 40, 41, 42, 43] (by decide +kernel) (by decide +kernel)
set_option maxRecDepth 20000 in
theorem gX6_peak_X6_isWindow : GoodIn wsX6_peak (wsV RX6 97 RX6 yX6_isWindow wsX6_isWindow) := goodIn_app (goodIn_of _ (by decide +kernel)) ggX6_peak_X6_isWindow
set_option maxRecDepth 20000 in
theorem ggX6_peak_X6_peakOf : GoodIn wsX6_peak wsX6_peakOf := goodIn_r _ [21, 17, 22, 23, 24, 4, 25, 26, 27, 28, 29, 30, 31, 32, 33, 34, 35, 36, 37, 38, 39, 40, 41, 42, 43] (by decide +kernel) (by decide +kernel)
set_option maxRecDepth 20000 in
theorem gX6_peak_X6_peakOf : GoodIn wsX6_peak (wsV RX6 94 RX6 yX6_peakOf wsX6_peakOf) := goodIn_app (goodIn_of _ (by decide +kernel)) ggX6_peak_X6_peakOf
theorem dX6_peak_0 : decode cX6_peak 0 = .ok (.iload_n 1, 1) := by decide +kernel
theorem dX6_peak_1 : decode cX6_peak 1 = .ok (.invokestatic 51, 3) := by decide +kernel
theorem dX6_peak_4 : decode cX6_peak 4 = .ok (.ifCond .eq 21, 3) := by decide +kernel
theorem dX6_peak_7 : decode cX6_peak 7 = .ok (.aload_n 0, 1) := by decide +kernel
theorem dX6_peak_8 : decode cX6_peak 8 = .ok (.iload_n 1, 1) := by decide +kernel
theorem dX6_peak_9 : decode cX6_peak 9 = .ok (.iload_n 2, 1) := by decide +kernel
theorem dX6_peak_10 : decode cX6_peak 10 = .ok (.invokevirtual 97, 3) := by decide +kernel
theorem dX6_peak_13 : decode cX6_peak 13 = .ok (.ifCond .eq 12, 3) := by decide +kernel
theorem dX6_peak_16 : decode cX6_peak 16 = .ok (.aload_n 0, 1) := by decide +kernel
theorem dX6_peak_17 : decode cX6_peak 17 = .ok (.iload_n 1, 1) := by decide +kernel
theorem dX6_peak_18 : decode cX6_peak 18 = .ok (.iload_n 2, 1) := by decide +kernel
theorem dX6_peak_19 : decode cX6_peak 19 = .ok (.invokevirtual 94, 3) := by decide +kernel
theorem dX6_peak_22 : decode cX6_peak 22 = .ok (.goto 5, 3) := by decide +kernel
theorem dX6_peak_25 : decode cX6_peak 25 = .ok (.ldc 55, 2) := by decide +kernel
theorem dX6_peak_27 : decode cX6_peak 27 = .ok (.ireturn, 1) := by decide +kernel
set_option maxRecDepth 20000 in
theorem ggX6_key_X6_isRow : GoodIn wsX6_key wsX6_isRow := goodIn_r _ [5, 6, 7, 4, 8] (by decide +kernel) (by decide +kernel)
set_option maxRecDepth 20000 in
theorem gX6_key_X6_isRow : GoodIn wsX6_key (va_wsS RX6 51 yX6_isRow wsX6_isRow) := goodIn_app (goodIn_of _ (by decide +kernel)) ggX6_key_X6_isRow
set_option maxRecDepth 20000 in
theorem ggX6_key_X6_isWindow : GoodIn wsX6_key wsX6_isWindow := goodIn_r _ [12, 13, 14, 15, 4, 16, 17, 6, 7, 8, 44, 45, 46, 47, 48, 49, 50, 51, 52] (by decide +kernel) (by decide +kernel)
set_option maxRecDepth 20000 in
theorem gX6_key_X6_isWindow : GoodIn wsX6_key (wsV RX6 97 RX6 yX6_isWindow wsX6_isWindow) := goodIn_app (goodIn_of _ (by decide +kernel)) ggX6_key_X6_isWindow
set_option maxRecDepth 20000 in
theorem ggX6_key_X6_findsPeaks : GoodIn wsX6_key wsX6_findsPeaks := goodIn_r _ [21, 22, 13, 14, 15, 4, 16, 17, 23, 24, 25, 26, 27, 28, 29, 30, 31, 32, 33, 34, 35, 36, 37, 38, 39, 44, 45, 46, 47, 48, 49, 50, 51, 52] (by decide +kernel) (by decide +kernel)
set_option maxRecDepth 20000 in
theorem gX6_key_X6_findsPeaks : GoodIn wsX6_key (wsV RX6 107 RX6 yX6_findsPeaks wsX6_findsPeaks) := goodIn_app (goodIn_of _ (by decide +kernel)) ggX6_key_X6_findsPeaks
set_option maxRecDepth 20000 in
theorem ggX6_key_X6_keyOf : GoodIn wsX6_key wsX6_keyOf := goodIn_r _ [43, 17, 22, 9, 10, 11, 4, 12, 13, 14, 15, 16, 6, 7, 8, 44, 45, 46, 47, 48, 49, 50, 51, 52] (by decide +kernel) (by decide +kernel)
set_option maxRecDepth 20000 in
theorem gX6_key_X6_keyOf : GoodIn wsX6_key (wsV RX6 101 RX6 yX6_keyOf wsX6_keyOf) := goodIn_app (goodIn_of _ (by decide +kernel)) ggX6_key_X6_keyOf
theorem dX6_key_0 : decode cX6_key 0 = .ok (.iload_n 1, 1) := by decide +kernel
theorem dX6_key_1 : decode cX6_key 1 = .ok (.invokestatic 51, 3) := by decide +kernel
theorem dX6_key_4 : decode cX6_key 4 = .ok (.ifCond .eq 21, 3) := by decide +kernel
theorem dX6_key_7 : decode cX6_key 7 = .ok (.aload_n 0, 1) := by decide +kernel
theorem dX6_key_8 : decode cX6_key 8 = .ok (.iload_n 1, 1) := by decide +kernel
theorem dX6_key_9 : decode cX6_key 9 = .ok (.iload_n 2, 1) := by decide +kernel
theorem dX6_key_10 : decode cX6_key 10 = .ok (.invokevirtual 97, 3) := by decide +kernel
theorem dX6_key_13 : decode cX6_key 13 = .ok (.ifCond .eq 12, 3) := by decide +kernel
theorem dX6_key_16 : decode cX6_key 16 = .ok (.aload_n 0, 1) := by decide +kernel
theorem dX6_key_17 : decode cX6_key 17 = .ok (.iload_n 1, 1) := by decide +kernel
theorem dX6_key_18 : decode cX6_key 18 = .ok (.iload_n 3, 1) := by decide +kernel
theorem dX6_key_19 : decode cX6_key 19 = .ok (.invokevirtual 97, 3) := by decide +kernel
theorem dX6_key_22 : decode cX6_key 22 = .ok (.ifCond .ne 6, 3) := by decide +kernel
theorem dX6_key_25 : decode cX6_key 25 = .ok (.ldc 55, 2) := by decide +kernel
theorem dX6_key_27 : decode cX6_key 27 = .ok (.ireturn, 1) := by decide +kernel
theorem dX6_key_28 : decode cX6_key 28 = .ok (.aload_n 0, 1) := by decide +kernel
theorem dX6_key_29 : decode cX6_key 29 = .ok (.invokevirtual 107, 3) := by decide +kernel
theorem dX6_key_32 : decode cX6_key 32 = .ok (.aload_n 0, 1) := by decide +kernel
theorem dX6_key_33 : decode cX6_key 33 = .ok (.iload_n 1, 1) := by decide +kernel
theorem dX6_key_34 : decode cX6_key 34 = .ok (.iload_n 2, 1) := by decide +kernel
theorem dX6_key_35 : decode cX6_key 35 = .ok (.iload_n 3, 1) := by decide +kernel
theorem dX6_key_36 : decode cX6_key 36 = .ok (.invokevirtual 101, 3) := by decide +kernel
theorem dX6_key_39 : decode cX6_key 39 = .ok (.ireturn, 1) := by decide +kernel
set_option maxRecDepth 20000 in
theorem ggX6_keyAt_X6_findsPeaks : GoodIn wsX6_keyAt wsX6_findsPeaks := goodIn_r _ [6, 7, 8, 9, 10, 5, 11, 12, 13, 14, 15, 16, 17, 18, 19, 20, 21, 22, 23, 24, 25, 26, 27, 28, 29, 49, 50, 51, 52, 53, 54, 55, 56, 57] (by decide +kernel) (by decide +kernel)
set_option maxRecDepth 20000 in
theorem gX6_keyAt_X6_findsPeaks : GoodIn wsX6_keyAt (wsV RX6 107 RX6 yX6_findsPeaks wsX6_findsPeaks) := goodIn_app (goodIn_of _ (by decide +kernel)) ggX6_keyAt_X6_findsPeaks
set_option maxRecDepth 20000 in
theorem ggX6_keyAt_X6_placesOf : GoodIn wsX6_keyAt wsX6_placesOf := goodIn_r _ [33, 34, 35, 36, 5, 37, 38, 39, 40, 41, 12, 7, 42, 43, 44, 45, 8, 9, 10, 11, 46, 47, 48, 49, 50, 51, 52, 53, 54, 55, 56, 57] (by decide +kernel) (by decide +kernel)
set_option maxRecDepth 20000 in
theorem gX6_keyAt_X6_placesOf : GoodIn wsX6_keyAt (wsV RX6 113 RX6 yX6_placesOf wsX6_placesOf) := goodIn_app (goodIn_of _ (by decide +kernel)) ggX6_keyAt_X6_placesOf
theorem dX6_keyAt_0 : decode cX6_keyAt 0 = .ok (.iload_n 1, 1) := by decide +kernel
theorem dX6_keyAt_1 : decode cX6_keyAt 1 = .ok (.ifCond .ge 6, 3) := by decide +kernel
theorem dX6_keyAt_4 : decode cX6_keyAt 4 = .ok (.ldc 56, 2) := by decide +kernel
theorem dX6_keyAt_6 : decode cX6_keyAt 6 = .ok (.ireturn, 1) := by decide +kernel
theorem dX6_keyAt_7 : decode cX6_keyAt 7 = .ok (.aload_n 0, 1) := by decide +kernel
theorem dX6_keyAt_8 : decode cX6_keyAt 8 = .ok (.invokevirtual 107, 3) := by decide +kernel
theorem dX6_keyAt_11 : decode cX6_keyAt 11 = .ok (.iload_n 1, 1) := by decide +kernel
theorem dX6_keyAt_12 : decode cX6_keyAt 12 = .ok (.istore_n 2, 1) := by decide +kernel
theorem dX6_keyAt_13 : decode cX6_keyAt 13 = .ok (.bipush 64, 2) := by decide +kernel
theorem dX6_keyAt_15 : decode cX6_keyAt 15 = .ok (.istore_n 3, 1) := by decide +kernel
theorem dX6_keyAt_16 : decode cX6_keyAt 16 = .ok (.iload_n 3, 1) := by decide +kernel
theorem dX6_keyAt_17 : decode cX6_keyAt 17 = .ok (.sipush 384, 3) := by decide +kernel
theorem dX6_keyAt_20 : decode cX6_keyAt 20 = .ok (.if_icmp .ge 26, 3) := by decide +kernel
theorem dX6_keyAt_23 : decode cX6_keyAt 23 = .ok (.aload_n 0, 1) := by decide +kernel
theorem dX6_keyAt_24 : decode cX6_keyAt 24 = .ok (.iload_n 3, 1) := by decide +kernel
theorem dX6_keyAt_25 : decode cX6_keyAt 25 = .ok (.invokevirtual 113, 3) := by decide +kernel
theorem dX6_keyAt_28 : decode cX6_keyAt 28 = .ok (.ifCond .le 12, 3) := by decide +kernel
theorem dX6_keyAt_31 : decode cX6_keyAt 31 = .ok (.iload_n 2, 1) := by decide +kernel
theorem dX6_keyAt_32 : decode cX6_keyAt 32 = .ok (.ifCond .ne 5, 3) := by decide +kernel
theorem dX6_keyAt_35 : decode cX6_keyAt 35 = .ok (.iload_n 3, 1) := by decide +kernel
theorem dX6_keyAt_36 : decode cX6_keyAt 36 = .ok (.ireturn, 1) := by decide +kernel
theorem dX6_keyAt_37 : decode cX6_keyAt 37 = .ok (.iinc 2 (-1), 3) := by decide +kernel
theorem dX6_keyAt_40 : decode cX6_keyAt 40 = .ok (.iinc 3 1, 3) := by decide +kernel
theorem dX6_keyAt_43 : decode cX6_keyAt 43 = .ok (.goto (-27), 3) := by decide +kernel
theorem dX6_keyAt_46 : decode cX6_keyAt 46 = .ok (.iconst (-1), 1) := by decide +kernel
theorem dX6_keyAt_47 : decode cX6_keyAt 47 = .ok (.ireturn, 1) := by decide +kernel
set_option maxRecDepth 20000 in
theorem ggX6_places_X6_in : GoodIn wsX6_places wsX6_in := goodIn_r _ [5] (by decide +kernel) (by decide +kernel)
set_option maxRecDepth 20000 in
theorem gX6_places_X6_in : GoodIn wsX6_places (va_wsS RX6 35 yX6_in wsX6_in) := goodIn_app (goodIn_of _ (by decide +kernel)) ggX6_places_X6_in
set_option maxRecDepth 20000 in
theorem ggX6_places_X6_findsPeaks : GoodIn wsX6_places wsX6_findsPeaks := goodIn_r _ [9, 10, 11, 12, 13, 4, 14, 15, 16, 17, 18, 19, 20, 21, 22, 23, 24, 25, 26, 27, 28, 29, 30, 31, 32, 49, 50, 51, 52, 53, 54, 55, 56, 57] (by decide +kernel) (by decide +kernel)
set_option maxRecDepth 20000 in
theorem gX6_places_X6_findsPeaks : GoodIn wsX6_places (wsV RX6 107 RX6 yX6_findsPeaks wsX6_findsPeaks) := goodIn_app (goodIn_of _ (by decide +kernel)) ggX6_places_X6_findsPeaks
set_option maxRecDepth 20000 in
theorem ggX6_places_X6_placesOf : GoodIn wsX6_places wsX6_placesOf := goodIn_r _ [36, 37, 38, 39, 4, 40, 41, 42, 43, 44, 15, 10, 45, 46, 47, 48, 11, 12, 13, 14, 2, 3, 5, 49, 50, 51, 52, 53, 54, 55, 56, 57] (by decide +kernel) (by decide +kernel)
set_option maxRecDepth 20000 in
theorem gX6_places_X6_placesOf : GoodIn wsX6_places (wsV RX6 113 RX6 yX6_placesOf wsX6_placesOf) := goodIn_app (goodIn_of _ (by decide +kernel)) ggX6_places_X6_placesOf
theorem dX6_places_0 : decode cX6_places 0 = .ok (.iload_n 1, 1) := by decide +kernel
theorem dX6_places_1 : decode cX6_places 1 = .ok (.bipush 64, 2) := by decide +kernel
theorem dX6_places_3 : decode cX6_places 3 = .ok (.sipush 383, 3) := by decide +kernel
theorem dX6_places_6 : decode cX6_places 6 = .ok (.invokestatic 35, 3) := by decide +kernel
theorem dX6_places_9 : decode cX6_places 9 = .ok (.ifCond .ne 6, 3) := by decide +kernel
theorem dX6_places_12 : decode cX6_places 12 = .ok (.ldc 56, 2) := by decide +kernel
theorem dX6_places_14 : decode cX6_places 14 = .ok (.ireturn, 1) := by decide +kernel
theorem dX6_places_15 : decode cX6_places 15 = .ok (.aload_n 0, 1) := by decide +kernel
theorem dX6_places_16 : decode cX6_places 16 = .ok (.invokevirtual 107, 3) := by decide +kernel
theorem dX6_places_19 : decode cX6_places 19 = .ok (.aload_n 0, 1) := by decide +kernel
theorem dX6_places_20 : decode cX6_places 20 = .ok (.iload_n 1, 1) := by decide +kernel
theorem dX6_places_21 : decode cX6_places 21 = .ok (.invokevirtual 113, 3) := by decide +kernel
theorem dX6_places_24 : decode cX6_places 24 = .ok (.ireturn, 1) := by decide +kernel
set_option maxRecDepth 20000 in
theorem ggX6_place_X6_in : GoodIn wsX6_place wsX6_in := goodIn_r _ [5] (by decide +kernel) (by decide +kernel)
set_option maxRecDepth 20000 in
theorem gX6_place_X6_in : GoodIn wsX6_place (va_wsS RX6 35 yX6_in wsX6_in) := goodIn_app (goodIn_of _ (by decide +kernel)) ggX6_place_X6_in
set_option maxRecDepth 20000 in
theorem ggX6_place_X6_findsPeaks : GoodIn wsX6_place wsX6_findsPeaks := goodIn_r _ [9, 10, 11, 12, 13, 4, 14, 15, 16, 17, 18, 19, 20, 21, 22, 23, 24, 25, 26, 27, 28, 29, 30, 31, 32, 45, 46, 47, 48, 49, 50, 51, 52, 53] (by decide +kernel) (by decide +kernel)
set_option maxRecDepth 20000 in
theorem gX6_place_X6_findsPeaks : GoodIn wsX6_place (wsV RX6 107 RX6 yX6_findsPeaks wsX6_findsPeaks) := goodIn_app (goodIn_of _ (by decide +kernel)) ggX6_place_X6_findsPeaks
set_option maxRecDepth 20000 in
theorem ggX6_place_X6_stands : GoodIn wsX6_place wsX6_stands := goodIn_r _ [36, 37, 38, 39, 4, 40, 15, 10, 41, 42, 43, 44, 11, 12, 13, 14, 2, 3, 5, 45, 46, 47, 48, 49, 50, 51, 52, 53] (by decide +kernel) (by decide +kernel)
set_option maxRecDepth 20000 in
theorem gX6_place_X6_stands : GoodIn wsX6_place (wsV RX6 104 RX6 yX6_stands wsX6_stands) := goodIn_app (goodIn_of _ (by decide +kernel)) ggX6_place_X6_stands
theorem dX6_place_0 : decode cX6_place 0 = .ok (.iload_n 1, 1) := by decide +kernel
theorem dX6_place_1 : decode cX6_place 1 = .ok (.bipush 64, 2) := by decide +kernel
theorem dX6_place_3 : decode cX6_place 3 = .ok (.sipush 383, 3) := by decide +kernel
theorem dX6_place_6 : decode cX6_place 6 = .ok (.invokestatic 35, 3) := by decide +kernel
theorem dX6_place_9 : decode cX6_place 9 = .ok (.ifCond .eq 7, 3) := by decide +kernel
theorem dX6_place_12 : decode cX6_place 12 = .ok (.iload_n 2, 1) := by decide +kernel
theorem dX6_place_13 : decode cX6_place 13 = .ok (.ifCond .ge 6, 3) := by decide +kernel
theorem dX6_place_16 : decode cX6_place 16 = .ok (.ldc 56, 2) := by decide +kernel
theorem dX6_place_18 : decode cX6_place 18 = .ok (.ireturn, 1) := by decide +kernel
theorem dX6_place_19 : decode cX6_place 19 = .ok (.aload_n 0, 1) := by decide +kernel
theorem dX6_place_20 : decode cX6_place 20 = .ok (.invokevirtual 107, 3) := by decide +kernel
theorem dX6_place_23 : decode cX6_place 23 = .ok (.iload_n 2, 1) := by decide +kernel
theorem dX6_place_24 : decode cX6_place 24 = .ok (.istore_n 3, 1) := by decide +kernel
theorem dX6_place_25 : decode cX6_place 25 = .ok (.iconst 0, 1) := by decide +kernel
theorem dX6_place_26 : decode cX6_place 26 = .ok (.istore 4, 2) := by decide +kernel
theorem dX6_place_28 : decode cX6_place 28 = .ok (.iload 4, 2) := by decide +kernel
theorem dX6_place_30 : decode cX6_place 30 = .ok (.bipush 64, 2) := by decide +kernel
theorem dX6_place_32 : decode cX6_place 32 = .ok (.if_icmp .ge 50, 3) := by decide +kernel
theorem dX6_place_35 : decode cX6_place 35 = .ok (.aload_n 0, 1) := by decide +kernel
theorem dX6_place_36 : decode cX6_place 36 = .ok (.iload 4, 2) := by decide +kernel
theorem dX6_place_38 : decode cX6_place 38 = .ok (.bipush 16, 2) := by decide +kernel
theorem dX6_place_40 : decode cX6_place 40 = .ok (.idiv, 1) := by decide +kernel
theorem dX6_place_41 : decode cX6_place 41 = .ok (.iload_n 1, 1) := by decide +kernel
theorem dX6_place_42 : decode cX6_place 42 = .ok (.iload 4, 2) := by decide +kernel
theorem dX6_place_44 : decode cX6_place 44 = .ok (.bipush 16, 2) := by decide +kernel
theorem dX6_place_46 : decode cX6_place 46 = .ok (.irem, 1) := by decide +kernel
theorem dX6_place_47 : decode cX6_place 47 = .ok (.invokevirtual 104, 3) := by decide +kernel
theorem dX6_place_50 : decode cX6_place 50 = .ok (.ifCond .eq 26, 3) := by decide +kernel
theorem dX6_place_53 : decode cX6_place 53 = .ok (.iload_n 3, 1) := by decide +kernel
theorem dX6_place_54 : decode cX6_place 54 = .ok (.ifCond .ne 19, 3) := by decide +kernel
theorem dX6_place_57 : decode cX6_place 57 = .ok (.sipush 1000, 3) := by decide +kernel
theorem dX6_place_60 : decode cX6_place 60 = .ok (.iload 4, 2) := by decide +kernel
theorem dX6_place_62 : decode cX6_place 62 = .ok (.bipush 16, 2) := by decide +kernel
theorem dX6_place_64 : decode cX6_place 64 = .ok (.idiv, 1) := by decide +kernel
theorem dX6_place_65 : decode cX6_place 65 = .ok (.imul, 1) := by decide +kernel
theorem dX6_place_66 : decode cX6_place 66 = .ok (.iload 4, 2) := by decide +kernel
theorem dX6_place_68 : decode cX6_place 68 = .ok (.bipush 16, 2) := by decide +kernel
theorem dX6_place_70 : decode cX6_place 70 = .ok (.irem, 1) := by decide +kernel
theorem dX6_place_71 : decode cX6_place 71 = .ok (.iadd, 1) := by decide +kernel
theorem dX6_place_72 : decode cX6_place 72 = .ok (.ireturn, 1) := by decide +kernel
theorem dX6_place_73 : decode cX6_place 73 = .ok (.iinc 3 (-1), 3) := by decide +kernel
theorem dX6_place_76 : decode cX6_place 76 = .ok (.iinc 4 1, 3) := by decide +kernel
theorem dX6_place_79 : decode cX6_place 79 = .ok (.goto (-51), 3) := by decide +kernel
theorem dX6_place_82 : decode cX6_place 82 = .ok (.iconst (-1), 1) := by decide +kernel
theorem dX6_place_83 : decode cX6_place 83 = .ok (.ireturn, 1) := by decide +kernel
set_option maxRecDepth 20000 in
theorem ggX6_votes_X6_in : GoodIn wsX6_votes wsX6_in := goodIn_r _ [7] (by decide +kernel) (by decide +kernel)
set_option maxRecDepth 20000 in
theorem gX6_votes_X6_in : GoodIn wsX6_votes (va_wsS RX6 35 yX6_in wsX6_in) := goodIn_app (goodIn_of _ (by decide +kernel)) ggX6_votes_X6_in
set_option maxRecDepth 20000 in
theorem ggX6_votes_X6_counts : GoodIn wsX6_votes wsX6_counts := goodIn_r _ [11, 3, 12, 13, 14, 15, 6, 16, 17, 18, 19, 20, 21, 22, 23, 24, 25, 26, 27, 28, 29, 30, 31, 32, 33, 34, 35, 36, 37, 38, 39, 40, 41, 42, 43, 44, 45, 46, 47, 4, 5, 7, 48, 49, 50, 51, 52, 53, 54, 55, 56, 57, 58, 59, 60] (by decide +kernel) (by decide +kernel)
set_option maxRecDepth 20000 in
theorem gX6_votes_X6_counts : GoodIn wsX6_votes (wsV RX6 116 RX6 yX6_counts wsX6_counts) := goodIn_app (goodIn_of _ (by decide +kernel)) ggX6_votes_X6_counts
theorem dX6_votes_0 : decode cX6_votes 0 = .ok (.iload_n 1, 1) := by decide +kernel
theorem dX6_votes_1 : decode cX6_votes 1 = .ok (.iconst 0, 1) := by decide +kernel
theorem dX6_votes_2 : decode cX6_votes 2 = .ok (.iconst 3, 1) := by decide +kernel
theorem dX6_votes_3 : decode cX6_votes 3 = .ok (.invokestatic 35, 3) := by decide +kernel
theorem dX6_votes_6 : decode cX6_votes 6 = .ok (.ifCond .ne 6, 3) := by decide +kernel
theorem dX6_votes_9 : decode cX6_votes 9 = .ok (.ldc 55, 2) := by decide +kernel
theorem dX6_votes_11 : decode cX6_votes 11 = .ok (.ireturn, 1) := by decide +kernel
theorem dX6_votes_12 : decode cX6_votes 12 = .ok (.iload_n 2, 1) := by decide +kernel
theorem dX6_votes_13 : decode cX6_votes 13 = .ok (.bipush (-15), 2) := by decide +kernel
theorem dX6_votes_15 : decode cX6_votes 15 = .ok (.bipush 15, 2) := by decide +kernel
theorem dX6_votes_17 : decode cX6_votes 17 = .ok (.invokestatic 35, 3) := by decide +kernel
theorem dX6_votes_20 : decode cX6_votes 20 = .ok (.ifCond .ne 6, 3) := by decide +kernel
theorem dX6_votes_23 : decode cX6_votes 23 = .ok (.ldc 56, 2) := by decide +kernel
theorem dX6_votes_25 : decode cX6_votes 25 = .ok (.ireturn, 1) := by decide +kernel
theorem dX6_votes_26 : decode cX6_votes 26 = .ok (.aload_n 0, 1) := by decide +kernel
theorem dX6_votes_27 : decode cX6_votes 27 = .ok (.invokevirtual 116, 3) := by decide +kernel
theorem dX6_votes_30 : decode cX6_votes 30 = .ok (.aload_n 0, 1) := by decide +kernel
theorem dX6_votes_31 : decode cX6_votes 31 = .ok (.getfield 29, 3) := by decide +kernel
theorem dX6_votes_34 : decode cX6_votes 34 = .ok (.bipush 31, 2) := by decide +kernel
theorem dX6_votes_36 : decode cX6_votes 36 = .ok (.iload_n 1, 1) := by decide +kernel
theorem dX6_votes_37 : decode cX6_votes 37 = .ok (.imul, 1) := by decide +kernel
theorem dX6_votes_38 : decode cX6_votes 38 = .ok (.iload_n 2, 1) := by decide +kernel
theorem dX6_votes_39 : decode cX6_votes 39 = .ok (.iadd, 1) := by decide +kernel
theorem dX6_votes_40 : decode cX6_votes 40 = .ok (.bipush 15, 2) := by decide +kernel
theorem dX6_votes_42 : decode cX6_votes 42 = .ok (.iadd, 1) := by decide +kernel
theorem dX6_votes_43 : decode cX6_votes 43 = .ok (.iaload, 1) := by decide +kernel
theorem dX6_votes_44 : decode cX6_votes 44 = .ok (.ireturn, 1) := by decide +kernel
set_option maxRecDepth 20000 in
theorem ggX6_rank_X6_in : GoodIn wsX6_rank wsX6_in := goodIn_r _ [7] (by decide +kernel) (by decide +kernel)
set_option maxRecDepth 20000 in
theorem gX6_rank_X6_in : GoodIn wsX6_rank (va_wsS RX6 35 yX6_in wsX6_in) := goodIn_app (goodIn_of _ (by decide +kernel)) ggX6_rank_X6_in
set_option maxRecDepth 20000 in
theorem ggX6_rank_X6_counts : GoodIn wsX6_rank wsX6_counts := goodIn_r _ [11, 3, 2, 12, 13, 14, 6, 15, 16, 17, 18, 19, 20, 21, 22, 23, 24, 25, 26, 27, 28, 29, 30, 31, 32, 33, 34, 35, 36, 37, 38, 39, 40, 41, 42, 43, 44, 45, 46, 4, 5, 7, 47, 48, 49, 50, 55, 56, 57, 58, 59, 60, 61, 62, 63] (by decide +kernel) (by decide +kernel)
set_option maxRecDepth 20000 in
theorem gX6_rank_X6_counts : GoodIn wsX6_rank (wsV RX6 116 RX6 yX6_counts wsX6_counts) := goodIn_app (goodIn_of _ (by decide +kernel)) ggX6_rank_X6_counts
set_option maxRecDepth 20000 in
theorem ggX6_rank_X6_best : GoodIn wsX6_rank wsX6_best := goodIn_r _ [54, 3, 2, 55, 56, 57, 58, 59, 60, 61, 62, 63] (by decide +kernel) (by decide +kernel)
set_option maxRecDepth 20000 in
theorem gX6_rank_X6_best : GoodIn wsX6_rank (wsV RX6 110 RX6 yX6_best wsX6_best) := goodIn_app (goodIn_of _ (by decide +kernel)) ggX6_rank_X6_best
end
section
theorem dX6_rank_0 : decode cX6_rank 0 = .ok (.iload_n 1, 1) := by decide +kernel
theorem dX6_rank_1 : decode cX6_rank 1 = .ok (.ifCond .lt 12, 3) := by decide +kernel
theorem dX6_rank_4 : decode cX6_rank 4 = .ok (.iload_n 2, 1) := by decide +kernel
theorem dX6_rank_5 : decode cX6_rank 5 = .ok (.iconst 0, 1) := by decide +kernel
theorem dX6_rank_6 : decode cX6_rank 6 = .ok (.iconst 2, 1) := by decide +kernel
theorem dX6_rank_7 : decode cX6_rank 7 = .ok (.invokestatic 35, 3) := by decide +kernel
theorem dX6_rank_10 : decode cX6_rank 10 = .ok (.ifCond .ne 6, 3) := by decide +kernel
theorem dX6_rank_13 : decode cX6_rank 13 = .ok (.ldc 56, 2) := by decide +kernel
theorem dX6_rank_15 : decode cX6_rank 15 = .ok (.ireturn, 1) := by decide +kernel
theorem dX6_rank_16 : decode cX6_rank 16 = .ok (.aload_n 0, 1) := by decide +kernel
theorem dX6_rank_17 : decode cX6_rank 17 = .ok (.invokevirtual 116, 3) := by decide +kernel
theorem dX6_rank_20 : decode cX6_rank 20 = .ok (.aload_n 0, 1) := by decide +kernel
theorem dX6_rank_21 : decode cX6_rank 21 = .ok (.iconst (-1), 1) := by decide +kernel
theorem dX6_rank_22 : decode cX6_rank 22 = .ok (.invokevirtual 110, 3) := by decide +kernel
theorem dX6_rank_25 : decode cX6_rank 25 = .ok (.istore_n 3, 1) := by decide +kernel
theorem dX6_rank_26 : decode cX6_rank 26 = .ok (.iconst 0, 1) := by decide +kernel
theorem dX6_rank_27 : decode cX6_rank 27 = .ok (.istore 4, 2) := by decide +kernel
theorem dX6_rank_29 : decode cX6_rank 29 = .ok (.iload 4, 2) := by decide +kernel
theorem dX6_rank_31 : decode cX6_rank 31 = .ok (.iload_n 1, 1) := by decide +kernel
theorem dX6_rank_32 : decode cX6_rank 32 = .ok (.if_icmp .ge 27, 3) := by decide +kernel
theorem dX6_rank_35 : decode cX6_rank 35 = .ok (.iload_n 3, 1) := by decide +kernel
theorem dX6_rank_36 : decode cX6_rank 36 = .ok (.iconst (-1), 1) := by decide +kernel
theorem dX6_rank_37 : decode cX6_rank 37 = .ok (.if_icmp .eq 22, 3) := by decide +kernel
theorem dX6_rank_40 : decode cX6_rank 40 = .ok (.aload_n 0, 1) := by decide +kernel
theorem dX6_rank_41 : decode cX6_rank 41 = .ok (.getfield 32, 3) := by decide +kernel
theorem dX6_rank_44 : decode cX6_rank 44 = .ok (.iload_n 3, 1) := by decide +kernel
theorem dX6_rank_45 : decode cX6_rank 45 = .ok (.iconst 1, 1) := by decide +kernel
theorem dX6_rank_46 : decode cX6_rank 46 = .ok (.bastore, 1) := by decide +kernel
theorem dX6_rank_47 : decode cX6_rank 47 = .ok (.aload_n 0, 1) := by decide +kernel
theorem dX6_rank_48 : decode cX6_rank 48 = .ok (.iconst (-1), 1) := by decide +kernel
theorem dX6_rank_49 : decode cX6_rank 49 = .ok (.invokevirtual 110, 3) := by decide +kernel
theorem dX6_rank_52 : decode cX6_rank 52 = .ok (.istore_n 3, 1) := by decide +kernel
theorem dX6_rank_53 : decode cX6_rank 53 = .ok (.iinc 4 1, 3) := by decide +kernel
theorem dX6_rank_56 : decode cX6_rank 56 = .ok (.goto (-27), 3) := by decide +kernel
theorem dX6_rank_59 : decode cX6_rank 59 = .ok (.iload_n 3, 1) := by decide +kernel
theorem dX6_rank_60 : decode cX6_rank 60 = .ok (.iconst (-1), 1) := by decide +kernel
theorem dX6_rank_61 : decode cX6_rank 61 = .ok (.if_icmp .ne 5, 3) := by decide +kernel
theorem dX6_rank_64 : decode cX6_rank 64 = .ok (.iconst (-1), 1) := by decide +kernel
theorem dX6_rank_65 : decode cX6_rank 65 = .ok (.ireturn, 1) := by decide +kernel
theorem dX6_rank_66 : decode cX6_rank 66 = .ok (.iload_n 2, 1) := by decide +kernel
theorem dX6_rank_67 : decode cX6_rank 67 = .ok (.ifCond .ne 10, 3) := by decide +kernel
theorem dX6_rank_70 : decode cX6_rank 70 = .ok (.iload_n 3, 1) := by decide +kernel
theorem dX6_rank_71 : decode cX6_rank 71 = .ok (.bipush 31, 2) := by decide +kernel
theorem dX6_rank_73 : decode cX6_rank 73 = .ok (.idiv, 1) := by decide +kernel
theorem dX6_rank_74 : decode cX6_rank 74 = .ok (.goto 27, 3) := by decide +kernel
theorem dX6_rank_77 : decode cX6_rank 77 = .ok (.iload_n 2, 1) := by decide +kernel
theorem dX6_rank_78 : decode cX6_rank 78 = .ok (.iconst 1, 1) := by decide +kernel
theorem dX6_rank_79 : decode cX6_rank 79 = .ok (.if_icmp .ne 16, 3) := by decide +kernel
theorem dX6_rank_82 : decode cX6_rank 82 = .ok (.iload_n 3, 1) := by decide +kernel
theorem dX6_rank_83 : decode cX6_rank 83 = .ok (.bipush 31, 2) := by decide +kernel
theorem dX6_rank_85 : decode cX6_rank 85 = .ok (.irem, 1) := by decide +kernel
theorem dX6_rank_86 : decode cX6_rank 86 = .ok (.bipush 15, 2) := by decide +kernel
theorem dX6_rank_88 : decode cX6_rank 88 = .ok (.isub, 1) := by decide +kernel
theorem dX6_rank_89 : decode cX6_rank 89 = .ok (.bipush 100, 2) := by decide +kernel
theorem dX6_rank_91 : decode cX6_rank 91 = .ok (.iadd, 1) := by decide +kernel
theorem dX6_rank_92 : decode cX6_rank 92 = .ok (.goto 9, 3) := by decide +kernel
theorem dX6_rank_95 : decode cX6_rank 95 = .ok (.aload_n 0, 1) := by decide +kernel
theorem dX6_rank_96 : decode cX6_rank 96 = .ok (.getfield 29, 3) := by decide +kernel
theorem dX6_rank_99 : decode cX6_rank 99 = .ok (.iload_n 3, 1) := by decide +kernel
theorem dX6_rank_100 : decode cX6_rank 100 = .ok (.iaload, 1) := by decide +kernel
theorem dX6_rank_101 : decode cX6_rank 101 = .ok (.ireturn, 1) := by decide +kernel
set_option maxRecDepth 20000 in
theorem ggX6_keep_X6_in : GoodIn wsX6_keep wsX6_in := goodIn_r _ [9] (by decide +kernel) (by decide +kernel)
set_option maxRecDepth 20000 in
theorem gX6_keep_X6_in : GoodIn wsX6_keep (va_wsS RX6 35 yX6_in wsX6_in) := goodIn_app (goodIn_of _ (by decide +kernel)) ggX6_keep_X6_in
theorem dX6_keep_0 : decode cX6_keep 0 = .ok (.iload_n 1, 1) := by decide +kernel
theorem dX6_keep_1 : decode cX6_keep 1 = .ok (.iconst 0, 1) := by decide +kernel
theorem dX6_keep_2 : decode cX6_keep 2 = .ok (.iconst 1, 1) := by decide +kernel
theorem dX6_keep_3 : decode cX6_keep 3 = .ok (.invokestatic 35, 3) := by decide +kernel
theorem dX6_keep_6 : decode cX6_keep 6 = .ok (.ifCond .ne 6, 3) := by decide +kernel
theorem dX6_keep_9 : decode cX6_keep 9 = .ok (.ldc 55, 2) := by decide +kernel
theorem dX6_keep_11 : decode cX6_keep 11 = .ok (.ireturn, 1) := by decide +kernel
theorem dX6_keep_12 : decode cX6_keep 12 = .ok (.iconst 0, 1) := by decide +kernel
theorem dX6_keep_13 : decode cX6_keep 13 = .ok (.istore_n 2, 1) := by decide +kernel
theorem dX6_keep_14 : decode cX6_keep 14 = .ok (.iload_n 2, 1) := by decide +kernel
theorem dX6_keep_15 : decode cX6_keep 15 = .ok (.sipush 647, 3) := by decide +kernel
theorem dX6_keep_18 : decode cX6_keep 18 = .ok (.if_icmp .ge 27, 3) := by decide +kernel
theorem dX6_keep_21 : decode cX6_keep 21 = .ok (.aload_n 0, 1) := by decide +kernel
theorem dX6_keep_22 : decode cX6_keep 22 = .ok (.getfield 16, 3) := by decide +kernel
theorem dX6_keep_25 : decode cX6_keep 25 = .ok (.sipush 647, 3) := by decide +kernel
theorem dX6_keep_28 : decode cX6_keep 28 = .ok (.iload_n 1, 1) := by decide +kernel
theorem dX6_keep_29 : decode cX6_keep 29 = .ok (.imul, 1) := by decide +kernel
theorem dX6_keep_30 : decode cX6_keep 30 = .ok (.iload_n 2, 1) := by decide +kernel
theorem dX6_keep_31 : decode cX6_keep 31 = .ok (.iadd, 1) := by decide +kernel
theorem dX6_keep_32 : decode cX6_keep 32 = .ok (.aload_n 0, 1) := by decide +kernel
theorem dX6_keep_33 : decode cX6_keep 33 = .ok (.getfield 7, 3) := by decide +kernel
theorem dX6_keep_36 : decode cX6_keep 36 = .ok (.iload_n 2, 1) := by decide +kernel
theorem dX6_keep_37 : decode cX6_keep 37 = .ok (.iaload, 1) := by decide +kernel
theorem dX6_keep_38 : decode cX6_keep 38 = .ok (.iastore, 1) := by decide +kernel
theorem dX6_keep_39 : decode cX6_keep 39 = .ok (.iinc 2 1, 3) := by decide +kernel
theorem dX6_keep_42 : decode cX6_keep 42 = .ok (.goto (-28), 3) := by decide +kernel
theorem dX6_keep_45 : decode cX6_keep 45 = .ok (.aload_n 0, 1) := by decide +kernel
theorem dX6_keep_46 : decode cX6_keep 46 = .ok (.getfield 19, 3) := by decide +kernel
theorem dX6_keep_49 : decode cX6_keep 49 = .ok (.iload_n 1, 1) := by decide +kernel
theorem dX6_keep_50 : decode cX6_keep 50 = .ok (.iconst 1, 1) := by decide +kernel
theorem dX6_keep_51 : decode cX6_keep 51 = .ok (.bastore, 1) := by decide +kernel
theorem dX6_keep_52 : decode cX6_keep 52 = .ok (.aload_n 0, 1) := by decide +kernel
theorem dX6_keep_53 : decode cX6_keep 53 = .ok (.iconst 0, 1) := by decide +kernel
theorem dX6_keep_54 : decode cX6_keep 54 = .ok (.putfield 43, 3) := by decide +kernel
theorem dX6_keep_57 : decode cX6_keep 57 = .ok (.iconst 1, 1) := by decide +kernel
theorem dX6_keep_58 : decode cX6_keep 58 = .ok (.ireturn, 1) := by decide +kernel
set_option maxRecDepth 20000 in
theorem ggX6_goBack_X6_in : GoodIn wsX6_goBack wsX6_in := goodIn_r _ [10] (by decide +kernel) (by decide +kernel)
set_option maxRecDepth 20000 in
theorem gX6_goBack_X6_in : GoodIn wsX6_goBack (va_wsS RX6 35 yX6_in wsX6_in) := goodIn_app (goodIn_of _ (by decide +kernel)) ggX6_goBack_X6_in
theorem dX6_goBack_0 : decode cX6_goBack 0 = .ok (.iload_n 1, 1) := by decide +kernel
theorem dX6_goBack_1 : decode cX6_goBack 1 = .ok (.iconst 0, 1) := by decide +kernel
theorem dX6_goBack_2 : decode cX6_goBack 2 = .ok (.iconst 1, 1) := by decide +kernel
theorem dX6_goBack_3 : decode cX6_goBack 3 = .ok (.invokestatic 35, 3) := by decide +kernel
theorem dX6_goBack_6 : decode cX6_goBack 6 = .ok (.ifCond .ne 6, 3) := by decide +kernel
theorem dX6_goBack_9 : decode cX6_goBack 9 = .ok (.ldc 55, 2) := by decide +kernel
theorem dX6_goBack_11 : decode cX6_goBack 11 = .ok (.ireturn, 1) := by decide +kernel
theorem dX6_goBack_12 : decode cX6_goBack 12 = .ok (.aload_n 0, 1) := by decide +kernel
theorem dX6_goBack_13 : decode cX6_goBack 13 = .ok (.getfield 19, 3) := by decide +kernel
theorem dX6_goBack_16 : decode cX6_goBack 16 = .ok (.iload_n 1, 1) := by decide +kernel
theorem dX6_goBack_17 : decode cX6_goBack 17 = .ok (.baload, 1) := by decide +kernel
theorem dX6_goBack_18 : decode cX6_goBack 18 = .ok (.ifCond .ne 6, 3) := by decide +kernel
theorem dX6_goBack_21 : decode cX6_goBack 21 = .ok (.ldc 85, 2) := by decide +kernel
theorem dX6_goBack_23 : decode cX6_goBack 23 = .ok (.ireturn, 1) := by decide +kernel
theorem dX6_goBack_24 : decode cX6_goBack 24 = .ok (.iconst 0, 1) := by decide +kernel
theorem dX6_goBack_25 : decode cX6_goBack 25 = .ok (.istore_n 2, 1) := by decide +kernel
theorem dX6_goBack_26 : decode cX6_goBack 26 = .ok (.iload_n 2, 1) := by decide +kernel
theorem dX6_goBack_27 : decode cX6_goBack 27 = .ok (.sipush 647, 3) := by decide +kernel
theorem dX6_goBack_30 : decode cX6_goBack 30 = .ok (.if_icmp .ge 27, 3) := by decide +kernel
theorem dX6_goBack_33 : decode cX6_goBack 33 = .ok (.aload_n 0, 1) := by decide +kernel
theorem dX6_goBack_34 : decode cX6_goBack 34 = .ok (.getfield 7, 3) := by decide +kernel
theorem dX6_goBack_37 : decode cX6_goBack 37 = .ok (.iload_n 2, 1) := by decide +kernel
theorem dX6_goBack_38 : decode cX6_goBack 38 = .ok (.aload_n 0, 1) := by decide +kernel
theorem dX6_goBack_39 : decode cX6_goBack 39 = .ok (.getfield 16, 3) := by decide +kernel
theorem dX6_goBack_42 : decode cX6_goBack 42 = .ok (.sipush 647, 3) := by decide +kernel
theorem dX6_goBack_45 : decode cX6_goBack 45 = .ok (.iload_n 1, 1) := by decide +kernel
theorem dX6_goBack_46 : decode cX6_goBack 46 = .ok (.imul, 1) := by decide +kernel
theorem dX6_goBack_47 : decode cX6_goBack 47 = .ok (.iload_n 2, 1) := by decide +kernel
theorem dX6_goBack_48 : decode cX6_goBack 48 = .ok (.iadd, 1) := by decide +kernel
theorem dX6_goBack_49 : decode cX6_goBack 49 = .ok (.iaload, 1) := by decide +kernel
theorem dX6_goBack_50 : decode cX6_goBack 50 = .ok (.iastore, 1) := by decide +kernel
theorem dX6_goBack_51 : decode cX6_goBack 51 = .ok (.iinc 2 1, 3) := by decide +kernel
theorem dX6_goBack_54 : decode cX6_goBack 54 = .ok (.goto (-28), 3) := by decide +kernel
theorem dX6_goBack_57 : decode cX6_goBack 57 = .ok (.aload_n 0, 1) := by decide +kernel
theorem dX6_goBack_58 : decode cX6_goBack 58 = .ok (.iconst 0, 1) := by decide +kernel
theorem dX6_goBack_59 : decode cX6_goBack 59 = .ok (.putfield 43, 3) := by decide +kernel
theorem dX6_goBack_62 : decode cX6_goBack 62 = .ok (.iconst 1, 1) := by decide +kernel
theorem dX6_goBack_63 : decode cX6_goBack 63 = .ok (.ireturn, 1) := by decide +kernel
theorem dJ9_max_7cf53_0 : decode cJ9_max_7cf53 0 = .ok (.iload_n 0, 1) := by decide +kernel
theorem dJ9_max_7cf53_1 : decode cJ9_max_7cf53 1 = .ok (.iload_n 1, 1) := by decide +kernel
theorem dJ9_max_7cf53_2 : decode cJ9_max_7cf53 2 = .ok (.if_icmp .lt 7, 3) := by decide +kernel
theorem dJ9_max_7cf53_5 : decode cJ9_max_7cf53 5 = .ok (.iload_n 0, 1) := by decide +kernel
theorem dJ9_max_7cf53_6 : decode cJ9_max_7cf53 6 = .ok (.goto 4, 3) := by decide +kernel
theorem dJ9_max_7cf53_9 : decode cJ9_max_7cf53 9 = .ok (.iload_n 1, 1) := by decide +kernel
theorem dJ9_max_7cf53_10 : decode cJ9_max_7cf53 10 = .ok (.ireturn, 1) := by decide +kernel
theorem dJ9_min_7cf53_0 : decode cJ9_min_7cf53 0 = .ok (.iload_n 0, 1) := by decide +kernel
theorem dJ9_min_7cf53_1 : decode cJ9_min_7cf53 1 = .ok (.iload_n 1, 1) := by decide +kernel
theorem dJ9_min_7cf53_2 : decode cJ9_min_7cf53 2 = .ok (.if_icmp .gt 7, 3) := by decide +kernel
theorem dJ9_min_7cf53_5 : decode cJ9_min_7cf53 5 = .ok (.iload_n 0, 1) := by decide +kernel
theorem dJ9_min_7cf53_6 : decode cJ9_min_7cf53 6 = .ok (.goto 4, 3) := by decide +kernel
theorem dJ9_min_7cf53_9 : decode cJ9_min_7cf53 9 = .ok (.iload_n 1, 1) := by decide +kernel
theorem dJ9_min_7cf53_10 : decode cJ9_min_7cf53 10 = .ok (.ireturn, 1) := by decide +kernel
set_option maxRecDepth 20000 in
theorem ggL_law_X5_init : GoodIn wsL_law wsX5_init := goodIn_r _ [8, 9, 10, 11, 12, 13, 14, 15, 16, 17, 18, 19, 20, 21, 22, 23, 24, 25, 26, 27, 28, 29, 30, 31, 32, 33, 34, 35, 36, 37, 38, 39, 40, 41, 42, 43, 44, 45, 46, 47, 48, 49, 50, 51, 52, 53, 54, 55, 56, 57, 58, 59, 60, 61, 62, 63, 64, 65, 66, 67, 68, 69, 70, 71, 657, 658, 659, 660, 641, 642, 643, 644, 645, 646, 647, 661, 662, 663, 664, 665, 666, 667, 668, 669, 670, 671, 672, 673, 674, 675, 676, 677, 678, 679, 680] (by decide +kernel) (by decide +kernel)
set_option maxRecDepth 20000 in
theorem gL_law_X5_init : GoodIn wsL_law (wsX5_init) := ggL_law_X5_init
set_option maxRecDepth 20000 in
theorem ggL_law_X6_init : GoodIn wsL_law wsX6_init := goodIn_r _ [74, 75, 10, 11, 38, 76, 77, 78, 79, 80, 81, 82, 83, 84, 648, 649, 650, 651, 652, 653, 654, 655, 656] (by decide +kernel) (by decide +kernel)
set_option maxRecDepth 20000 in
theorem gL_law_X6_init : GoodIn wsL_law (wsX6_init) := ggL_law_X6_init
set_option maxRecDepth 20000 in
theorem ggL_law_X5_add : GoodIn wsL_law wsX5_add := goodIn_r _ [88, 89, 90, 15, 91, 92, 93, 2, 94, 95, 96, 97, 98, 99, 100, 14, 101, 40, 102, 103, 104, 105, 19, 33, 106, 107, 108, 18, 109, 47, 110, 48, 49, 50, 51, 111, 112, 113, 114, 115, 116, 117, 118, 119, 39, 120, 121, 122, 123, 124, 125, 126, 127, 128, 41, 129, 130, 131, 132, 42, 133, 134, 135, 136, 641, 642, 643, 644, 645, 646, 647, 657, 658, 659, 660, 661, 662, 663, 664, 665, 666, 667] (by decide +kernel) (by decide +kernel)
set_option maxRecDepth 20000 in
theorem gL_law_X5_add : GoodIn wsL_law (wsV RL 13 RX5 yX5_add wsX5_add) := goodIn_app (goodIn_of _ (by decide +kernel)) ggL_law_X5_add
set_option maxRecDepth 20000 in
theorem ggL_law_X6_add : GoodIn wsL_law wsX6_add := goodIn_r _ [140, 141, 142, 76, 143, 144, 145, 5, 146, 147, 148, 149, 150, 151, 152, 153, 154, 77, 155, 156, 157, 158, 648, 649, 650, 651, 652, 653, 654, 655, 656] (by decide +kernel) (by decide +kernel)
set_option maxRecDepth 20000 in
theorem gL_law_X6_add : GoodIn wsL_law (wsV RL 17 RX6 yX6_add wsX6_add) := goodIn_app (goodIn_of _ (by decide +kernel)) ggL_law_X6_add
set_option maxRecDepth 20000 in
theorem ggL_law_X5_wipe : GoodIn wsL_law wsX5_wipe := goodIn_r _ [162, 89, 15, 92, 93, 2, 94, 95, 96, 97, 102, 103, 104, 105, 19, 33, 106, 107, 108, 18, 109, 47, 110, 48, 49, 50, 51, 111, 112, 113, 114, 115, 116, 117, 118, 14, 119, 39, 120, 121, 122, 123, 124, 99, 100, 101, 40, 125, 126, 127, 128, 41, 129, 130, 131, 132, 42, 98, 163, 164, 165, 166, 641, 642, 643, 644, 645, 646, 647, 661, 662, 663, 664, 665, 666, 667, 657, 658, 659, 660] (by decide +kernel) (by decide +kernel)
set_option maxRecDepth 20000 in
theorem gL_law_X5_wipe : GoodIn wsL_law (wsV RL 18 RX5 yX5_wipe wsX5_wipe) := goodIn_app (goodIn_of _ (by decide +kernel)) ggL_law_X5_wipe
set_option maxRecDepth 20000 in
theorem ggL_law_X6_wipe : GoodIn wsL_law wsX6_wipe := goodIn_r _ [170, 141, 76, 144, 145, 5, 146, 147, 148, 149, 150, 151, 152, 153, 154, 77, 648, 649, 650, 651, 652, 653, 654, 655, 656] (by decide +kernel) (by decide +kernel)
set_option maxRecDepth 20000 in
theorem gL_law_X6_wipe : GoodIn wsL_law (wsV RL 22 RX6 yX6_wipe wsX6_wipe) := goodIn_app (goodIn_of _ (by decide +kernel)) ggL_law_X6_wipe
set_option maxRecDepth 20000 in
theorem ggL_law_X5_lots : GoodIn wsL_law wsX5_lots := goodIn_r _ [174, 89, 175, 90, 15, 92, 93, 2, 94, 95, 96, 97, 102, 103, 104, 105, 19, 33, 106, 107, 108, 18, 109, 47, 110, 48, 49, 50, 51, 111, 112, 113, 114, 115, 116, 117, 118, 14, 119, 39, 120, 121, 122, 123, 124, 99, 100, 101, 40, 125, 126, 127, 128, 41, 129, 130, 131, 132, 42, 163, 164, 165, 166, 176, 177, 178, 179, 180, 133, 134, 135, 136, 181, 182, 183, 184, 641, 642, 643, 644, 645, 646, 647, 661, 662, 663, 664, 665, 666, 667, 657, 658, 659, 660] (by decide +kernel) (by decide +kernel)
set_option maxRecDepth 20000 in
theorem gL_law_X5_lots : GoodIn wsL_law (wsV RL 23 RX5 yX5_lots wsX5_lots) := goodIn_app (goodIn_of _ (by decide +kernel)) ggL_law_X5_lots
set_option maxRecDepth 20000 in
theorem ggL_law_X6_lots : GoodIn wsL_law wsX6_lots := goodIn_r _ [188, 141, 189, 142, 190, 76, 144, 145, 5, 146, 147, 148, 149, 150, 151, 152, 153, 154, 77, 191, 192, 193, 194, 195, 155, 156, 157, 158, 196, 197, 198, 199, 648, 649, 650, 651, 652, 653, 654, 655, 656] (by decide +kernel) (by decide +kernel)
set_option maxRecDepth 20000 in
theorem gL_law_X6_lots : GoodIn wsL_law (wsV RL 27 RX6 yX6_lots wsX6_lots) := goodIn_app (goodIn_of _ (by decide +kernel)) ggL_law_X6_lots
set_option maxRecDepth 20000 in
theorem ggL_law_X5_noise : GoodIn wsL_law wsX5_noise := goodIn_r _ [203, 89, 175, 90, 15, 92, 93, 2, 94, 95, 96, 97, 102, 103, 104, 105, 19, 33, 106, 107, 108, 18, 109, 47, 110, 48, 49, 50, 51, 111, 112, 113, 114, 115, 116, 117, 118, 14, 119, 39, 120, 121, 122, 123, 124, 99, 100, 101, 40, 125, 126, 127, 128, 41, 129, 130, 131, 132, 42, 98, 176, 177, 178, 179, 180, 204, 205, 206, 207, 208, 209, 210, 211, 212, 213, 214, 215, 641, 642, 643, 644, 645, 646, 647, 661, 662, 663, 664, 665, 666, 667, 657, 658, 659, 660] (by decide +kernel) (by decide +kernel)
set_option maxRecDepth 20000 in
theorem gL_law_X5_noise : GoodIn wsL_law (wsV RL 28 RX5 yX5_noise wsX5_noise) := goodIn_app (goodIn_of _ (by decide +kernel)) ggL_law_X5_noise
set_option maxRecDepth 20000 in
theorem ggL_law_X6_noise : GoodIn wsL_law wsX6_noise := goodIn_r _ [219, 141, 189, 142, 76, 220, 144, 145, 5, 146, 147, 148, 149, 150, 151, 152, 153, 154, 77, 191, 192, 193, 194, 195, 221, 222, 223, 224, 225, 226, 227, 228, 229, 230, 231, 155, 156, 157, 158, 648, 649, 650, 651, 652, 653, 654, 655, 656] (by decide +kernel) (by decide +kernel)
set_option maxRecDepth 20000 in
theorem gL_law_X6_noise : GoodIn wsL_law (wsV RL 31 RX6 yX6_noise wsX6_noise) := goodIn_app (goodIn_of _ (by decide +kernel)) ggL_law_X6_noise
set_option maxRecDepth 20000 in
theorem ggL_law_X5_louder : GoodIn wsL_law wsX5_louder := goodIn_r _ [235, 89, 90, 15, 92, 93, 2, 94, 95, 96, 97, 102, 103, 104, 105, 19, 33, 106, 107, 108, 18, 109, 47, 110, 48, 49, 50, 51, 111, 112, 113, 114, 115, 116, 117, 118, 14, 119, 39, 120, 121, 122, 123, 124, 99, 100, 101, 40, 125, 126, 127, 128, 41, 129, 130, 131, 132, 42, 98, 204, 205, 206, 207, 208, 209, 210, 211, 212, 213, 214, 215, 641, 642, 643, 644, 645, 646, 647, 661, 662, 663, 664, 665, 666, 667, 657, 658, 659, 660] (by decide +kernel) (by decide +kernel)
set_option maxRecDepth 20000 in
theorem gL_law_X5_louder : GoodIn wsL_law (wsV RL 32 RX5 yX5_louder wsX5_louder) := goodIn_app (goodIn_of _ (by decide +kernel)) ggL_law_X5_louder
set_option maxRecDepth 20000 in
theorem ggL_law_X6_louder : GoodIn wsL_law wsX6_louder := goodIn_r _ [239, 141, 142, 76, 144, 145, 5, 146, 147, 148, 149, 150, 151, 152, 153, 154, 77, 221, 222, 223, 224, 225, 226, 227, 228, 229, 230, 231, 155, 156, 157, 158, 648, 649, 650, 651, 652, 653, 654, 655, 656] (by decide +kernel) (by decide +kernel)
set_option maxRecDepth 20000 in
theorem gL_law_X6_louder : GoodIn wsL_law (wsV RL 35 RX6 yX6_louder wsX6_louder) := goodIn_app (goodIn_of _ (by decide +kernel)) ggL_law_X6_louder
set_option maxRecDepth 20000 in
theorem ggL_law_X5_hear : GoodIn wsL_law wsX5_hear := goodIn_r _ [243, 89, 90, 15, 244, 245, 113, 114, 115, 246, 247, 2, 248, 95, 96, 97, 98, 99, 100, 14, 101, 40, 102, 103, 104, 105, 19, 33, 106, 107, 108, 18, 109, 47, 110, 48, 49, 50, 51, 111, 112, 116, 117, 118, 119, 39, 120, 121, 122, 123, 124, 125, 126, 127, 128, 41, 129, 130, 131, 132, 42, 163, 164, 165, 166, 204, 205, 206, 207, 133, 134, 135, 136, 641, 642, 643, 644, 645, 646, 647, 657, 658, 659, 660, 661, 662, 663, 664, 665, 666, 667] (by decide +kernel) (by decide +kernel)
set_option maxRecDepth 20000 in
theorem gL_law_X5_hear : GoodIn wsL_law (wsV RL 36 RX5 yX5_hear wsX5_hear) := goodIn_app (goodIn_of _ (by decide +kernel)) ggL_law_X5_hear
set_option maxRecDepth 20000 in
theorem ggL_law_X6_hear : GoodIn wsL_law wsX6_hear := goodIn_r _ [252, 141, 142, 76, 253, 147, 148, 5, 149, 150, 151, 152, 153, 154, 77, 221, 222, 223, 224, 155, 156, 157, 158, 648, 649, 650, 651, 652, 653, 654, 655, 656] (by decide +kernel) (by decide +kernel)
set_option maxRecDepth 20000 in
theorem gL_law_X6_hear : GoodIn wsL_law (wsV RL 39 RX6 yX6_hear wsX6_hear) := goodIn_app (goodIn_of _ (by decide +kernel)) ggL_law_X6_hear
set_option maxRecDepth 20000 in
theorem ggL_law_X5_bound : GoodIn wsL_law wsX5_bound := goodIn_r _ [257, 258, 90, 95, 96, 2, 97, 259, 260, 261, 262, 15, 102, 103, 104, 105, 19, 33, 106, 107, 108, 18, 109, 47, 110, 48, 49, 50, 51, 111, 112, 113, 114, 115, 116, 117, 118, 14, 119, 39, 120, 121, 122, 123, 124, 99, 100, 101, 40, 125, 126, 127, 128, 41, 129, 130, 131, 132, 42, 263, 264, 265, 266, 267, 268, 269, 270, 271, 272, 273, 274, 275, 276, 641, 642, 643, 644, 645, 646, 647, 661, 662, 663, 664, 665, 666, 667, 657, 658, 659, 660] (by decide +kernel) (by decide +kernel)
set_option maxRecDepth 20000 in
theorem gL_law_X5_bound : GoodIn wsL_law (wsV RL 40 RX5 yX5_bound wsX5_bound) := goodIn_app (goodIn_of _ (by decide +kernel)) ggL_law_X5_bound
set_option maxRecDepth 20000 in
theorem ggL_law_X6_bound : GoodIn wsL_law wsX6_bound := goodIn_r _ [280, 281, 142, 76, 147, 148, 5, 149, 150, 151, 152, 153, 154, 77, 648, 649, 650, 651, 652, 653, 654, 655, 656] (by decide +kernel) (by decide +kernel)
set_option maxRecDepth 20000 in
theorem gL_law_X6_bound : GoodIn wsL_law (wsV RL 43 RX6 yX6_bound wsX6_bound) := goodIn_app (goodIn_of _ (by decide +kernel)) ggL_law_X6_bound
set_option maxRecDepth 20000 in
theorem ggL_law_X5_undo : GoodIn wsL_law wsX5_undo := goodIn_r _ [285, 19, 244, 15, 33, 286, 287, 288, 18, 289, 111, 290, 291, 292, 293, 110, 48, 47, 49, 50, 51, 294, 295, 296, 14, 297, 39, 120, 121, 122, 123, 40, 298, 265, 266, 267, 41, 299, 274, 275, 276, 42, 641, 642, 643, 644, 645, 646, 647, 661, 662, 663, 664, 665, 666, 667, 657, 658, 659, 660] (by decide +kernel) (by decide +kernel)
set_option maxRecDepth 20000 in
theorem gL_law_X5_undo : GoodIn wsL_law (wsV RL 44 RX5 yX5_undo wsX5_undo) := goodIn_app (goodIn_of _ (by decide +kernel)) ggL_law_X5_undo
set_option maxRecDepth 20000 in
theorem ggL_law_X6_undo : GoodIn wsL_law wsX6_undo := goodIn_r _ [303, 154, 253, 76, 77, 648, 649, 650, 651, 652, 653, 654, 655, 656] (by decide +kernel) (by decide +kernel)
set_option maxRecDepth 20000 in
theorem gL_law_X6_undo : GoodIn wsL_law (wsV RL 48 RX6 yX6_undo wsX6_undo) := goodIn_app (goodIn_of _ (by decide +kernel)) ggL_law_X6_undo
set_option maxRecDepth 20000 in
theorem ggL_law_X5_told : GoodIn wsL_law wsX5_told := goodIn_r _ [307, 15, 28, 32, 19, 90, 308, 309, 310, 2, 311, 33, 24, 312, 313, 314, 23, 315, 57, 316, 182, 183, 14, 184, 40, 317, 318, 319, 320, 321, 322, 323, 324, 56, 325, 205, 206, 207, 39, 326, 327, 328, 329, 330, 331, 332, 333, 334, 126, 127, 128, 41, 272, 130, 131, 132, 42, 335, 336, 337, 27, 338, 339, 340, 341, 342, 64, 343, 344, 345, 346, 347, 348, 349, 350, 351, 352, 353, 354, 355, 63, 356, 357, 358, 359, 65, 360, 361, 362, 31, 363, 364, 365, 366, 367, 368, 70, 369, 370, 371, 372, 373, 374, 375, 376, 377, 378, 379, 380, 381, 382, 383, 384, 385, 386, 387, 388, 389, 71, 263, 390, 391, 392, 393, 394, 395, 396, 397, 398, 399, 400, 401, 402, 403, 404, 405, 406, 407, 408, 409, 410, 411, 412, 413, 414, 415, 416, 417, 418, 419, 420, 421, 422, 423, 424, 425, 426, 427, 428, 429, 430, 431, 286, 287, 288, 18, 289, 111, 641, 642, 643, 644, 645, 646, 647, 668, 669, 670, 657, 658, 659, 660, 671, 672, 673, 674, 675, 676, 677, 678, 679, 680, 661, 662, 663, 664, 665, 666, 667] (by decide +kernel) (by decide +kernel)
set_option maxRecDepth 20000 in
theorem gL_law_X5_told : GoodIn wsL_law (wsV RL 49 RX5 yX5_told wsX5_told) := goodIn_app (goodIn_of _ (by decide +kernel)) ggL_law_X5_told
set_option maxRecDepth 20000 in
theorem ggL_law_X6_told : GoodIn wsL_law wsX6_told := goodIn_r _ [435, 76, 83, 154, 142, 436, 437, 438, 5, 439, 84, 440, 441, 442, 443, 82, 196, 197, 198, 199, 444, 445, 446, 447, 448, 449, 450, 451, 81, 221, 222, 223, 224, 452, 453, 454, 455, 456, 457, 458, 459, 460, 461, 462, 463, 147, 148, 149, 464, 465, 466, 467, 468, 469, 470, 471, 472, 473, 474, 475, 476, 477, 478, 479, 480, 481, 482, 483, 484, 485, 486, 487, 488, 489, 490, 491, 492, 493, 494, 495, 648, 649, 650, 651, 652, 653, 654, 655, 656] (by decide +kernel) (by decide +kernel)
set_option maxRecDepth 20000 in
theorem gL_law_X6_told : GoodIn wsL_law (wsV RL 52 RX6 yX6_told wsX6_told) := goodIn_app (goodIn_of _ (by decide +kernel)) ggL_law_X6_told
set_option maxRecDepth 20000 in
theorem ggL_law_X5_row : GoodIn wsL_law wsX5_row := goodIn_r _ [499, 89, 15, 24, 90, 92, 93, 2, 94, 95, 96, 97, 308, 309, 310, 311, 33, 28, 32, 312, 313, 314, 23, 315, 57, 316, 182, 183, 14, 184, 40, 317, 318, 319, 320, 321, 322, 323, 324, 56, 325, 205, 206, 207, 39, 326, 327, 328, 329, 330, 331, 332, 333, 334, 126, 127, 128, 41, 272, 130, 131, 132, 42, 335, 336, 337, 27, 338, 339, 340, 341, 342, 64, 343, 344, 345, 346, 347, 348, 349, 350, 351, 352, 353, 354, 355, 63, 356, 357, 358, 359, 65, 360, 361, 362, 31, 363, 364, 365, 366, 367, 368, 70, 369, 370, 371, 372, 373, 374, 375, 376, 377, 378, 379, 380, 381, 382, 383, 384, 385, 386, 387, 388, 389, 71, 98, 99, 100, 101, 181, 500, 501, 502, 503, 504, 505, 506, 507, 508, 509, 510, 511, 512, 513, 514, 515, 516, 58, 641, 642, 643, 644, 645, 646, 647, 668, 669, 670, 657, 658, 659, 660, 671, 672, 673, 674, 675, 676, 677, 678, 679, 680] (by decide +kernel) (by decide +kernel)
set_option maxRecDepth 20000 in
theorem gL_law_X5_row : GoodIn wsL_law (wsV RL 53 RX5 yX5_row wsX5_row) := goodIn_app (goodIn_of _ (by decide +kernel)) ggL_law_X5_row
set_option maxRecDepth 20000 in
theorem ggL_law_X6_row : GoodIn wsL_law wsX6_row := goodIn_r _ [520, 141, 76, 82, 142, 144, 145, 5, 146, 147, 148, 149, 440, 441, 442, 443, 196, 197, 198, 199, 444, 445, 446, 447, 448, 449, 450, 451, 81, 221, 222, 223, 224, 452, 453, 454, 455, 480, 481, 482, 483, 456, 457, 458, 459, 460, 461, 462, 463, 521, 522, 523, 524, 648, 649, 650, 651, 652, 653, 654, 655, 656] (by decide +kernel) (by decide +kernel)
set_option maxRecDepth 20000 in
theorem gL_law_X6_row : GoodIn wsL_law (wsV RL 56 RX6 yX6_row wsX6_row) := goodIn_app (goodIn_of _ (by decide +kernel)) ggL_law_X6_row
set_option maxRecDepth 20000 in
theorem ggL_law_X5_at : GoodIn wsL_law wsX5_at := goodIn_r _ [528, 89, 15, 90, 92, 93, 2, 94, 95, 96, 97, 98, 99, 100, 14, 101, 40, 204, 205, 206, 207, 39, 641, 642, 643, 644, 645, 646, 647, 657, 658, 659, 660] (by decide +kernel) (by decide +kernel)
set_option maxRecDepth 20000 in
theorem gL_law_X5_at : GoodIn wsL_law (wsV RL 57 RX5 yX5_at wsX5_at) := goodIn_app (goodIn_of _ (by decide +kernel)) ggL_law_X5_at
set_option maxRecDepth 20000 in
theorem ggL_law_X6_at : GoodIn wsL_law wsX6_at := goodIn_r _ [532, 141, 76, 142, 144, 145, 5, 146, 147, 148, 149, 221, 222, 223, 224, 648, 649, 650, 651, 652, 653, 654, 655, 656] (by decide +kernel) (by decide +kernel)
set_option maxRecDepth 20000 in
theorem gL_law_X6_at : GoodIn wsL_law (wsV RL 60 RX6 yX6_at wsX6_at) := goodIn_app (goodIn_of _ (by decide +kernel)) ggL_law_X6_at
set_option maxRecDepth 20000 in
theorem ggL_law_X5_share : GoodIn wsL_law wsX5_share := goodIn_r _ [536, 89, 90, 24, 15, 537, 538, 539, 2, 540, 92, 93, 94, 95, 96, 97, 181, 182, 183, 14, 184, 40, 541, 542, 543, 23, 544, 321, 322, 323, 324, 56, 325, 205, 206, 207, 39, 326, 327, 328, 329, 330, 331, 332, 333, 641, 642, 643, 644, 645, 646, 647, 657, 658, 659, 660, 668, 669, 670] (by decide +kernel) (by decide +kernel)
set_option maxRecDepth 20000 in
theorem gL_law_X5_share : GoodIn wsL_law (wsV RL 61 RX5 yX5_share wsX5_share) := goodIn_app (goodIn_of _ (by decide +kernel)) ggL_law_X5_share
set_option maxRecDepth 20000 in
theorem ggL_law_X6_share : GoodIn wsL_law wsX6_share := goodIn_r _ [548, 141, 142, 144, 145, 5, 146, 147, 148, 149, 460, 461, 462, 463, 196, 197, 198, 199, 76, 448, 449, 450, 451, 81, 221, 222, 223, 224, 452, 453, 454, 455, 648, 649, 650, 651, 652, 653, 654, 655, 656] (by decide +kernel) (by decide +kernel)
set_option maxRecDepth 20000 in
theorem gL_law_X6_share : GoodIn wsL_law (wsV RL 64 RX6 yX6_share wsX6_share) := goodIn_app (goodIn_of _ (by decide +kernel)) ggL_law_X6_share
set_option maxRecDepth 20000 in
theorem ggL_law_X5_peak : GoodIn wsL_law wsX5_peak := goodIn_r _ [552, 89, 24, 537, 538, 539, 2, 540, 15, 92, 93, 94, 95, 96, 97, 181, 182, 183, 14, 184, 40, 308, 309, 310, 311, 33, 28, 32, 312, 313, 314, 23, 315, 57, 316, 317, 318, 319, 320, 321, 322, 323, 324, 56, 325, 205, 206, 207, 39, 326, 327, 328, 329, 330, 331, 332, 333, 334, 126, 127, 128, 41, 272, 130, 131, 132, 42, 335, 336, 337, 27, 338, 339, 340, 341, 342, 64, 343, 344, 345, 346, 347, 348, 349, 350, 351, 352, 353, 354, 355, 63, 356, 357, 358, 359, 65, 360, 361, 362, 31, 363, 364, 365, 366, 367, 368, 70, 369, 370, 371, 372, 373, 374, 375, 376, 377, 378, 379, 380, 381, 382, 383, 384, 385, 386, 387, 388, 389, 71, 553, 641, 642, 643, 644, 645, 646, 647, 657, 658, 659, 660, 668, 669, 670, 671, 672, 673, 674, 675, 676, 677, 678, 679, 680] (by decide +kernel) (by decide +kernel)
set_option maxRecDepth 20000 in
theorem gL_law_X5_peak : GoodIn wsL_law (wsV RL 65 RX5 yX5_peak wsX5_peak) := goodIn_app (goodIn_of _ (by decide +kernel)) ggL_law_X5_peak
set_option maxRecDepth 20000 in
theorem ggL_law_X6_peak : GoodIn wsL_law wsX6_peak := goodIn_r _ [557, 141, 144, 145, 5, 146, 147, 148, 149, 460, 461, 462, 463, 196, 197, 198, 199, 76, 444, 445, 446, 447, 448, 449, 450, 451, 81, 221, 222, 223, 224, 452, 453, 454, 455, 648, 649, 650, 651, 652, 653, 654, 655, 656] (by decide +kernel) (by decide +kernel)
set_option maxRecDepth 20000 in
theorem gL_law_X6_peak : GoodIn wsL_law (wsV RL 68 RX6 yX6_peak wsX6_peak) := goodIn_app (goodIn_of _ (by decide +kernel)) ggL_law_X6_peak
set_option maxRecDepth 20000 in
theorem ggL_law_X5_key : GoodIn wsL_law wsX5_key := goodIn_r _ [561, 89, 24, 15, 537, 538, 539, 2, 540, 92, 93, 94, 95, 96, 97, 181, 182, 183, 14, 184, 40, 308, 309, 310, 311, 33, 28, 32, 312, 313, 314, 23, 315, 57, 316, 317, 318, 319, 320, 321, 322, 323, 324, 56, 325, 205, 206, 207, 39, 326, 327, 328, 329, 330, 331, 332, 333, 334, 126, 127, 128, 41, 272, 130, 131, 132, 42, 335, 336, 337, 27, 338, 339, 340, 341, 342, 64, 343, 344, 345, 346, 347, 348, 349, 350, 351, 352, 353, 354, 355, 63, 356, 357, 358, 359, 65, 360, 361, 362, 31, 363, 364, 365, 366, 367, 368, 70, 369, 370, 371, 372, 373, 374, 375, 376, 377, 378, 379, 380, 381, 382, 383, 384, 385, 386, 387, 388, 389, 71, 562, 641, 642, 643, 644, 645, 646, 647, 657, 658, 659, 660, 668, 669, 670, 671, 672, 673, 674, 675, 676, 677, 678, 679, 680] (by decide +kernel) (by decide +kernel)
set_option maxRecDepth 20000 in
theorem gL_law_X5_key : GoodIn wsL_law (wsV RL 69 RX5 yX5_key wsX5_key) := goodIn_app (goodIn_of _ (by decide +kernel)) ggL_law_X5_key
set_option maxRecDepth 20000 in
theorem ggL_law_X6_key : GoodIn wsL_law wsX6_key := goodIn_r _ [566, 141, 144, 145, 5, 146, 147, 148, 149, 460, 461, 462, 463, 196, 197, 198, 199, 76, 440, 441, 442, 443, 82, 444, 445, 446, 447, 448, 449, 450, 451, 81, 221, 222, 223, 224, 452, 453, 454, 455, 456, 457, 458, 459, 648, 649, 650, 651, 652, 653, 654, 655, 656] (by decide +kernel) (by decide +kernel)
set_option maxRecDepth 20000 in
theorem gL_law_X6_key : GoodIn wsL_law (wsV RL 72 RX6 yX6_key wsX6_key) := goodIn_app (goodIn_of _ (by decide +kernel)) ggL_law_X6_key
set_option maxRecDepth 20000 in
theorem ggL_law_X5_keyAt : GoodIn wsL_law wsX5_keyAt := goodIn_r _ [570, 90, 28, 308, 309, 310, 2, 311, 33, 24, 15, 32, 312, 313, 314, 23, 315, 57, 316, 182, 183, 14, 184, 40, 317, 318, 319, 320, 321, 322, 323, 324, 56, 325, 205, 206, 207, 39, 326, 327, 328, 329, 330, 331, 332, 333, 334, 126, 127, 128, 41, 272, 130, 131, 132, 42, 335, 336, 337, 27, 338, 339, 340, 341, 342, 64, 343, 344, 345, 346, 347, 348, 349, 350, 351, 352, 353, 354, 355, 63, 356, 357, 358, 359, 65, 360, 361, 362, 31, 363, 364, 365, 366, 367, 368, 70, 369, 370, 371, 372, 373, 374, 375, 376, 377, 378, 379, 380, 381, 382, 383, 384, 385, 386, 387, 388, 389, 71, 571, 572, 573, 574, 641, 642, 643, 644, 645, 646, 647, 668, 669, 670, 657, 658, 659, 660, 671, 672, 673, 674, 675, 676, 677, 678, 679, 680] (by decide +kernel) (by decide +kernel)
set_option maxRecDepth 20000 in
theorem gL_law_X5_keyAt : GoodIn wsL_law (wsV RL 73 RX5 yX5_keyAt wsX5_keyAt) := goodIn_app (goodIn_of _ (by decide +kernel)) ggL_law_X5_keyAt
set_option maxRecDepth 20000 in
theorem ggL_law_X6_keyAt : GoodIn wsL_law wsX6_keyAt := goodIn_r _ [578, 142, 440, 441, 442, 5, 443, 82, 196, 197, 198, 199, 76, 444, 445, 446, 447, 448, 449, 450, 451, 81, 221, 222, 223, 224, 452, 453, 454, 455, 476, 477, 478, 479, 464, 465, 466, 467, 456, 457, 458, 459, 460, 461, 462, 463, 147, 148, 149, 648, 649, 650, 651, 652, 653, 654, 655, 656] (by decide +kernel) (by decide +kernel)
set_option maxRecDepth 20000 in
theorem gL_law_X6_keyAt : GoodIn wsL_law (wsV RL 76 RX6 yX6_keyAt wsX6_keyAt) := goodIn_app (goodIn_of _ (by decide +kernel)) ggL_law_X6_keyAt
set_option maxRecDepth 20000 in
theorem ggL_law_X5_places : GoodIn wsL_law wsX5_places := goodIn_r _ [582, 90, 28, 95, 96, 2, 97, 308, 309, 310, 311, 33, 24, 15, 32, 312, 313, 314, 23, 315, 57, 316, 182, 183, 14, 184, 40, 317, 318, 319, 320, 321, 322, 323, 324, 56, 325, 205, 206, 207, 39, 326, 327, 328, 329, 330, 331, 332, 333, 334, 126, 127, 128, 41, 272, 130, 131, 132, 42, 335, 336, 337, 27, 338, 339, 340, 341, 342, 64, 343, 344, 345, 346, 347, 348, 349, 350, 351, 352, 353, 354, 355, 63, 356, 357, 358, 359, 65, 360, 361, 362, 31, 363, 364, 365, 366, 367, 368, 70, 369, 370, 371, 372, 373, 374, 375, 376, 377, 378, 379, 380, 381, 382, 383, 384, 385, 386, 387, 388, 389, 71, 583, 641, 642, 643, 644, 645, 646, 647, 668, 669, 670, 657, 658, 659, 660, 671, 672, 673, 674, 675, 676, 677, 678, 679, 680] (by decide +kernel) (by decide +kernel)
set_option maxRecDepth 20000 in
theorem gL_law_X5_places : GoodIn wsL_law (wsV RL 77 RX5 yX5_places wsX5_places) := goodIn_app (goodIn_of _ (by decide +kernel)) ggL_law_X5_places
set_option maxRecDepth 20000 in
theorem ggL_law_X6_places : GoodIn wsL_law wsX6_places := goodIn_r _ [587, 142, 147, 148, 5, 149, 440, 441, 442, 443, 82, 196, 197, 198, 199, 76, 444, 445, 446, 447, 448, 449, 450, 451, 81, 221, 222, 223, 224, 452, 453, 454, 455, 476, 477, 478, 479, 464, 465, 466, 467, 456, 457, 458, 459, 460, 461, 462, 463, 648, 649, 650, 651, 652, 653, 654, 655, 656] (by decide +kernel) (by decide +kernel)
set_option maxRecDepth 20000 in
theorem gL_law_X6_places : GoodIn wsL_law (wsV RL 80 RX6 yX6_places wsX6_places) := goodIn_app (goodIn_of _ (by decide +kernel)) ggL_law_X6_places
set_option maxRecDepth 20000 in
theorem ggL_law_X5_place : GoodIn wsL_law wsX5_place := goodIn_r _ [591, 90, 28, 95, 96, 2, 97, 308, 309, 310, 311, 33, 24, 15, 32, 312, 313, 314, 23, 315, 57, 316, 182, 183, 14, 184, 40, 317, 318, 319, 320, 321, 322, 323, 324, 56, 325, 205, 206, 207, 39, 326, 327, 328, 329, 330, 331, 332, 333, 334, 126, 127, 128, 41, 272, 130, 131, 132, 42, 335, 336, 337, 27, 338, 339, 340, 341, 342, 64, 343, 344, 345, 346, 347, 348, 349, 350, 351, 352, 353, 354, 355, 63, 356, 357, 358, 359, 65, 360, 361, 362, 31, 363, 364, 365, 366, 367, 368, 70, 369, 370, 371, 372, 373, 374, 375, 376, 377, 378, 379, 380, 381, 382, 383, 384, 385, 386, 387, 388, 389, 71, 592, 641, 642, 643, 644, 645, 646, 647, 668, 669, 670, 657, 658, 659, 660, 671, 672, 673, 674, 675, 676, 677, 678, 679, 680] (by decide +kernel) (by decide +kernel)
set_option maxRecDepth 20000 in
theorem gL_law_X5_place : GoodIn wsL_law (wsV RL 81 RX5 yX5_place wsX5_place) := goodIn_app (goodIn_of _ (by decide +kernel)) ggL_law_X5_place
set_option maxRecDepth 20000 in
theorem ggL_law_X6_place : GoodIn wsL_law wsX6_place := goodIn_r _ [596, 142, 147, 148, 5, 149, 440, 441, 442, 443, 82, 196, 197, 198, 199, 76, 444, 445, 446, 447, 448, 449, 450, 451, 81, 221, 222, 223, 224, 452, 453, 454, 455, 464, 465, 466, 467, 456, 457, 458, 459, 460, 461, 462, 463, 648, 649, 650, 651, 652, 653, 654, 655, 656] (by decide +kernel) (by decide +kernel)
set_option maxRecDepth 20000 in
theorem gL_law_X6_place : GoodIn wsL_law (wsV RL 84 RX6 yX6_place wsX6_place) := goodIn_app (goodIn_of _ (by decide +kernel)) ggL_law_X6_place
set_option maxRecDepth 20000 in
theorem ggL_law_X5_votes : GoodIn wsL_law wsX5_votes := goodIn_r _ [600, 89, 90, 32, 246, 247, 2, 248, 95, 96, 97, 308, 309, 310, 311, 33, 24, 15, 28, 312, 313, 314, 23, 315, 57, 316, 182, 183, 14, 184, 40, 317, 318, 319, 320, 321, 322, 323, 324, 56, 325, 205, 206, 207, 39, 326, 327, 328, 329, 330, 331, 332, 333, 334, 126, 127, 128, 41, 272, 130, 131, 132, 42, 335, 336, 337, 27, 338, 339, 340, 341, 342, 64, 343, 344, 345, 346, 347, 348, 349, 350, 351, 352, 353, 354, 355, 63, 356, 357, 358, 359, 65, 360, 361, 362, 31, 363, 364, 365, 366, 367, 368, 70, 369, 370, 371, 372, 373, 374, 375, 376, 377, 378, 379, 380, 381, 382, 383, 384, 385, 386, 387, 388, 389, 71, 601, 602, 603, 604, 641, 642, 643, 644, 645, 646, 647, 668, 669, 670, 657, 658, 659, 660, 671, 672, 673, 674, 675, 676, 677, 678, 679, 680] (by decide +kernel) (by decide +kernel)
set_option maxRecDepth 20000 in
theorem gL_law_X5_votes : GoodIn wsL_law (wsV RL 85 RX5 yX5_votes wsX5_votes) := goodIn_app (goodIn_of _ (by decide +kernel)) ggL_law_X5_votes
set_option maxRecDepth 20000 in
theorem ggL_law_X6_votes : GoodIn wsL_law wsX6_votes := goodIn_r _ [608, 141, 142, 83, 147, 148, 5, 149, 436, 437, 438, 439, 84, 440, 441, 442, 443, 82, 196, 197, 198, 199, 76, 444, 445, 446, 447, 448, 449, 450, 451, 81, 221, 222, 223, 224, 452, 453, 454, 455, 456, 457, 458, 459, 460, 461, 462, 463, 464, 465, 466, 467, 648, 649, 650, 651, 652, 653, 654, 655, 656] (by decide +kernel) (by decide +kernel)
set_option maxRecDepth 20000 in
theorem gL_law_X6_votes : GoodIn wsL_law (wsV RL 88 RX6 yX6_votes wsX6_votes) := goodIn_app (goodIn_of _ (by decide +kernel)) ggL_law_X6_votes
set_option maxRecDepth 20000 in
theorem ggL_law_X5_rank : GoodIn wsL_law wsX5_rank := goodIn_r _ [612, 90, 32, 95, 96, 2, 97, 308, 309, 310, 311, 33, 24, 15, 28, 312, 313, 314, 23, 315, 57, 316, 182, 183, 14, 184, 40, 317, 318, 319, 320, 321, 322, 323, 324, 56, 325, 205, 206, 207, 39, 326, 327, 328, 329, 330, 331, 332, 333, 334, 126, 127, 128, 41, 272, 130, 131, 132, 42, 335, 336, 337, 27, 338, 339, 340, 341, 342, 64, 343, 344, 345, 346, 347, 348, 349, 350, 351, 352, 353, 354, 355, 63, 356, 357, 358, 359, 65, 360, 361, 362, 31, 363, 364, 365, 366, 367, 368, 70, 369, 370, 371, 372, 373, 374, 375, 376, 377, 378, 379, 380, 381, 382, 383, 384, 385, 386, 387, 388, 389, 71, 424, 425, 426, 427, 406, 407, 408, 409, 410, 411, 412, 413, 414, 415, 416, 417, 641, 642, 643, 644, 645, 646, 647, 668, 669, 670, 657, 658, 659, 660, 671, 672, 673, 674, 675, 676, 677, 678, 679, 680] (by decide +kernel) (by decide +kernel)
set_option maxRecDepth 20000 in
theorem gL_law_X5_rank : GoodIn wsL_law (wsV RL 89 RX5 yX5_rank wsX5_rank) := goodIn_app (goodIn_of _ (by decide +kernel)) ggL_law_X5_rank
set_option maxRecDepth 20000 in
theorem ggL_law_X6_rank : GoodIn wsL_law wsX6_rank := goodIn_r _ [616, 142, 84, 83, 147, 148, 5, 149, 436, 437, 438, 439, 440, 441, 442, 443, 82, 196, 197, 198, 199, 76, 444, 445, 446, 447, 448, 449, 450, 451, 81, 221, 222, 223, 224, 452, 453, 454, 455, 456, 457, 458, 459, 460, 461, 462, 463, 464, 465, 466, 467, 468, 469, 470, 471, 648, 649, 650, 651, 652, 653, 654, 655, 656] (by decide +kernel) (by decide +kernel)
set_option maxRecDepth 20000 in
theorem gL_law_X6_rank : GoodIn wsL_law (wsV RL 92 RX6 yX6_rank wsX6_rank) := goodIn_app (goodIn_of _ (by decide +kernel)) ggL_law_X6_rank
set_option maxRecDepth 20000 in
theorem ggL_law_X5_keep : GoodIn wsL_law wsX5_keep := goodIn_r _ [620, 89, 20, 12, 13, 14, 15, 19, 95, 96, 2, 97, 34, 35, 36, 37, 10, 11, 38, 39, 40, 41, 42, 621, 622, 623, 624, 120, 121, 122, 123, 625, 626, 627, 18, 628, 111, 641, 642, 643, 644, 645, 646, 647, 657, 658, 659, 660, 661, 662, 663, 664, 665, 666, 667] (by decide +kernel) (by decide +kernel)
set_option maxRecDepth 20000 in
theorem gL_law_X5_keep : GoodIn wsL_law (wsV RL 93 RX5 yX5_keep wsX5_keep) := goodIn_app (goodIn_of _ (by decide +kernel)) ggL_law_X5_keep
set_option maxRecDepth 20000 in
theorem ggL_law_X6_keep : GoodIn wsL_law wsX6_keep := goodIn_r _ [632, 141, 78, 76, 80, 154, 147, 148, 5, 149, 648, 649, 650, 651, 652, 653, 654, 655, 656] (by decide +kernel) (by decide +kernel)
set_option maxRecDepth 20000 in
theorem gL_law_X6_keep : GoodIn wsL_law (wsV RL 96 RX6 yX6_keep wsX6_keep) := goodIn_app (goodIn_of _ (by decide +kernel)) ggL_law_X6_keep
set_option maxRecDepth 20000 in
theorem ggL_law_X5_goBack : GoodIn wsL_law wsX5_goBack := goodIn_r _ [636, 89, 20, 244, 15, 19, 33, 95, 96, 2, 97, 621, 622, 623, 14, 624, 39, 120, 121, 122, 123, 40, 41, 42, 625, 626, 627, 18, 628, 111, 641, 642, 643, 644, 645, 646, 647, 657, 658, 659, 660, 661, 662, 663, 664, 665, 666, 667] (by decide +kernel) (by decide +kernel)
set_option maxRecDepth 20000 in
theorem gL_law_X5_goBack : GoodIn wsL_law (wsV RL 97 RX5 yX5_goBack wsX5_goBack) := goodIn_app (goodIn_of _ (by decide +kernel)) ggL_law_X5_goBack
set_option maxRecDepth 20000 in
theorem ggL_law_X6_goBack : GoodIn wsL_law wsX6_goBack := goodIn_r _ [640, 141, 80, 253, 76, 78, 154, 147, 148, 5, 149, 648, 649, 650, 651, 652, 653, 654, 655, 656] (by decide +kernel) (by decide +kernel)
set_option maxRecDepth 20000 in
theorem gL_law_X6_goBack : GoodIn wsL_law (wsV RL 100 RX6 yX6_goBack wsX6_goBack) := goodIn_app (goodIn_of _ (by decide +kernel)) ggL_law_X6_goBack
theorem dL_law_0 : decode cL_law 0 = .ok (.new 7, 3) := by decide +kernel
theorem dL_law_3 : decode cL_law 3 = .ok (.dup, 1) := by decide +kernel
theorem dL_law_4 : decode cL_law 4 = .ok (.invokespecial 9, 3) := by decide +kernel
theorem dL_law_7 : decode cL_law 7 = .ok (.astore_n 1, 1) := by decide +kernel
theorem dL_law_8 : decode cL_law 8 = .ok (.new 10, 3) := by decide +kernel
theorem dL_law_11 : decode cL_law 11 = .ok (.dup, 1) := by decide +kernel
theorem dL_law_12 : decode cL_law 12 = .ok (.invokespecial 12, 3) := by decide +kernel
theorem dL_law_15 : decode cL_law 15 = .ok (.astore_n 2, 1) := by decide +kernel
theorem dL_law_16 : decode cL_law 16 = .ok (.iconst 0, 1) := by decide +kernel
theorem dL_law_17 : decode cL_law 17 = .ok (.istore_n 3, 1) := by decide +kernel
theorem dL_law_18 : decode cL_law 18 = .ok (.iload_n 3, 1) := by decide +kernel
theorem dL_law_19 : decode cL_law 19 = .ok (.aload_n 0, 1) := by decide +kernel
theorem dL_law_20 : decode cL_law 20 = .ok (.arraylength, 1) := by decide +kernel
theorem dL_law_21 : decode cL_law 21 = .ok (.iconst 4, 1) := by decide +kernel
theorem dL_law_22 : decode cL_law 22 = .ok (.isub, 1) := by decide +kernel
theorem dL_law_23 : decode cL_law 23 = .ok (.if_icmp .gt 788, 3) := by decide +kernel
theorem dL_law_26 : decode cL_law 26 = .ok (.aload_n 0, 1) := by decide +kernel
theorem dL_law_27 : decode cL_law 27 = .ok (.iload_n 3, 1) := by decide +kernel
theorem dL_law_28 : decode cL_law 28 = .ok (.iaload, 1) := by decide +kernel
theorem dL_law_29 : decode cL_law 29 = .ok (.bipush 31, 2) := by decide +kernel
theorem dL_law_31 : decode cL_law 31 = .ok (.iand, 1) := by decide +kernel
theorem dL_law_32 : decode cL_law 32 = .ok (.tableswitch 773 0 20 #[100, 133, 156, 199, 242, 285, 328, 361, 374, 397, 430, 463, 506, 539, 582, 605, 628, 661, 694, 727, 750], 100) := by decide +kernel
theorem dL_law_132 : decode cL_law 132 = .ok (.aload_n 1, 1) := by decide +kernel
theorem dL_law_133 : decode cL_law 133 = .ok (.aload_n 0, 1) := by decide +kernel
theorem dL_law_134 : decode cL_law 134 = .ok (.iload_n 3, 1) := by decide +kernel
theorem dL_law_135 : decode cL_law 135 = .ok (.iconst 1, 1) := by decide +kernel
theorem dL_law_136 : decode cL_law 136 = .ok (.iadd, 1) := by decide +kernel
theorem dL_law_137 : decode cL_law 137 = .ok (.iaload, 1) := by decide +kernel
theorem dL_law_138 : decode cL_law 138 = .ok (.aload_n 0, 1) := by decide +kernel
theorem dL_law_139 : decode cL_law 139 = .ok (.iload_n 3, 1) := by decide +kernel
theorem dL_law_140 : decode cL_law 140 = .ok (.iconst 2, 1) := by decide +kernel
theorem dL_law_141 : decode cL_law 141 = .ok (.iadd, 1) := by decide +kernel
theorem dL_law_142 : decode cL_law 142 = .ok (.iaload, 1) := by decide +kernel
theorem dL_law_143 : decode cL_law 143 = .ok (.invokevirtual 13, 3) := by decide +kernel
theorem dL_law_146 : decode cL_law 146 = .ok (.aload_n 2, 1) := by decide +kernel
theorem dL_law_147 : decode cL_law 147 = .ok (.aload_n 0, 1) := by decide +kernel
theorem dL_law_148 : decode cL_law 148 = .ok (.iload_n 3, 1) := by decide +kernel
theorem dL_law_149 : decode cL_law 149 = .ok (.iconst 1, 1) := by decide +kernel
theorem dL_law_150 : decode cL_law 150 = .ok (.iadd, 1) := by decide +kernel
theorem dL_law_151 : decode cL_law 151 = .ok (.iaload, 1) := by decide +kernel
theorem dL_law_152 : decode cL_law 152 = .ok (.aload_n 0, 1) := by decide +kernel
theorem dL_law_153 : decode cL_law 153 = .ok (.iload_n 3, 1) := by decide +kernel
theorem dL_law_154 : decode cL_law 154 = .ok (.iconst 2, 1) := by decide +kernel
theorem dL_law_155 : decode cL_law 155 = .ok (.iadd, 1) := by decide +kernel
theorem dL_law_156 : decode cL_law 156 = .ok (.iaload, 1) := by decide +kernel
theorem dL_law_157 : decode cL_law 157 = .ok (.invokevirtual 17, 3) := by decide +kernel
theorem dL_law_160 : decode cL_law 160 = .ok (.if_icmp .eq 645, 3) := by decide +kernel
theorem dL_law_163 : decode cL_law 163 = .ok (.iconst 0, 1) := by decide +kernel
theorem dL_law_164 : decode cL_law 164 = .ok (.ireturn, 1) := by decide +kernel
theorem dL_law_165 : decode cL_law 165 = .ok (.aload_n 1, 1) := by decide +kernel
theorem dL_law_166 : decode cL_law 166 = .ok (.aload_n 0, 1) := by decide +kernel
theorem dL_law_167 : decode cL_law 167 = .ok (.iload_n 3, 1) := by decide +kernel
theorem dL_law_168 : decode cL_law 168 = .ok (.iconst 1, 1) := by decide +kernel
theorem dL_law_169 : decode cL_law 169 = .ok (.iadd, 1) := by decide +kernel
theorem dL_law_170 : decode cL_law 170 = .ok (.iaload, 1) := by decide +kernel
theorem dL_law_171 : decode cL_law 171 = .ok (.invokevirtual 18, 3) := by decide +kernel
theorem dL_law_174 : decode cL_law 174 = .ok (.aload_n 2, 1) := by decide +kernel
theorem dL_law_175 : decode cL_law 175 = .ok (.aload_n 0, 1) := by decide +kernel
theorem dL_law_176 : decode cL_law 176 = .ok (.iload_n 3, 1) := by decide +kernel
theorem dL_law_177 : decode cL_law 177 = .ok (.iconst 1, 1) := by decide +kernel
theorem dL_law_178 : decode cL_law 178 = .ok (.iadd, 1) := by decide +kernel
theorem dL_law_179 : decode cL_law 179 = .ok (.iaload, 1) := by decide +kernel
theorem dL_law_180 : decode cL_law 180 = .ok (.invokevirtual 22, 3) := by decide +kernel
theorem dL_law_183 : decode cL_law 183 = .ok (.if_icmp .eq 622, 3) := by decide +kernel
theorem dL_law_186 : decode cL_law 186 = .ok (.iconst 0, 1) := by decide +kernel
theorem dL_law_187 : decode cL_law 187 = .ok (.ireturn, 1) := by decide +kernel
theorem dL_law_188 : decode cL_law 188 = .ok (.aload_n 1, 1) := by decide +kernel
theorem dL_law_189 : decode cL_law 189 = .ok (.aload_n 0, 1) := by decide +kernel
theorem dL_law_190 : decode cL_law 190 = .ok (.iload_n 3, 1) := by decide +kernel
theorem dL_law_191 : decode cL_law 191 = .ok (.iconst 1, 1) := by decide +kernel
theorem dL_law_192 : decode cL_law 192 = .ok (.iadd, 1) := by decide +kernel
theorem dL_law_193 : decode cL_law 193 = .ok (.iaload, 1) := by decide +kernel
theorem dL_law_194 : decode cL_law 194 = .ok (.aload_n 0, 1) := by decide +kernel
theorem dL_law_195 : decode cL_law 195 = .ok (.iload_n 3, 1) := by decide +kernel
theorem dL_law_196 : decode cL_law 196 = .ok (.iconst 2, 1) := by decide +kernel
theorem dL_law_197 : decode cL_law 197 = .ok (.iadd, 1) := by decide +kernel
theorem dL_law_198 : decode cL_law 198 = .ok (.iaload, 1) := by decide +kernel
theorem dL_law_199 : decode cL_law 199 = .ok (.aload_n 0, 1) := by decide +kernel
theorem dL_law_200 : decode cL_law 200 = .ok (.iload_n 3, 1) := by decide +kernel
theorem dL_law_201 : decode cL_law 201 = .ok (.iconst 3, 1) := by decide +kernel
theorem dL_law_202 : decode cL_law 202 = .ok (.iadd, 1) := by decide +kernel
theorem dL_law_203 : decode cL_law 203 = .ok (.iaload, 1) := by decide +kernel
theorem dL_law_204 : decode cL_law 204 = .ok (.invokevirtual 23, 3) := by decide +kernel
theorem dL_law_207 : decode cL_law 207 = .ok (.aload_n 2, 1) := by decide +kernel
theorem dL_law_208 : decode cL_law 208 = .ok (.aload_n 0, 1) := by decide +kernel
theorem dL_law_209 : decode cL_law 209 = .ok (.iload_n 3, 1) := by decide +kernel
theorem dL_law_210 : decode cL_law 210 = .ok (.iconst 1, 1) := by decide +kernel
theorem dL_law_211 : decode cL_law 211 = .ok (.iadd, 1) := by decide +kernel
theorem dL_law_212 : decode cL_law 212 = .ok (.iaload, 1) := by decide +kernel
theorem dL_law_213 : decode cL_law 213 = .ok (.aload_n 0, 1) := by decide +kernel
theorem dL_law_214 : decode cL_law 214 = .ok (.iload_n 3, 1) := by decide +kernel
theorem dL_law_215 : decode cL_law 215 = .ok (.iconst 2, 1) := by decide +kernel
theorem dL_law_216 : decode cL_law 216 = .ok (.iadd, 1) := by decide +kernel
theorem dL_law_217 : decode cL_law 217 = .ok (.iaload, 1) := by decide +kernel
theorem dL_law_218 : decode cL_law 218 = .ok (.aload_n 0, 1) := by decide +kernel
theorem dL_law_219 : decode cL_law 219 = .ok (.iload_n 3, 1) := by decide +kernel
theorem dL_law_220 : decode cL_law 220 = .ok (.iconst 3, 1) := by decide +kernel
theorem dL_law_221 : decode cL_law 221 = .ok (.iadd, 1) := by decide +kernel
theorem dL_law_222 : decode cL_law 222 = .ok (.iaload, 1) := by decide +kernel
theorem dL_law_223 : decode cL_law 223 = .ok (.invokevirtual 27, 3) := by decide +kernel
theorem dL_law_226 : decode cL_law 226 = .ok (.if_icmp .eq 579, 3) := by decide +kernel
theorem dL_law_229 : decode cL_law 229 = .ok (.iconst 0, 1) := by decide +kernel
theorem dL_law_230 : decode cL_law 230 = .ok (.ireturn, 1) := by decide +kernel
theorem dL_law_231 : decode cL_law 231 = .ok (.aload_n 1, 1) := by decide +kernel
theorem dL_law_232 : decode cL_law 232 = .ok (.aload_n 0, 1) := by decide +kernel
theorem dL_law_233 : decode cL_law 233 = .ok (.iload_n 3, 1) := by decide +kernel
theorem dL_law_234 : decode cL_law 234 = .ok (.iconst 1, 1) := by decide +kernel
theorem dL_law_235 : decode cL_law 235 = .ok (.iadd, 1) := by decide +kernel
theorem dL_law_236 : decode cL_law 236 = .ok (.iaload, 1) := by decide +kernel
theorem dL_law_237 : decode cL_law 237 = .ok (.aload_n 0, 1) := by decide +kernel
theorem dL_law_238 : decode cL_law 238 = .ok (.iload_n 3, 1) := by decide +kernel
theorem dL_law_239 : decode cL_law 239 = .ok (.iconst 2, 1) := by decide +kernel
theorem dL_law_240 : decode cL_law 240 = .ok (.iadd, 1) := by decide +kernel
theorem dL_law_241 : decode cL_law 241 = .ok (.iaload, 1) := by decide +kernel
theorem dL_law_242 : decode cL_law 242 = .ok (.aload_n 0, 1) := by decide +kernel
theorem dL_law_243 : decode cL_law 243 = .ok (.iload_n 3, 1) := by decide +kernel
theorem dL_law_244 : decode cL_law 244 = .ok (.iconst 3, 1) := by decide +kernel
theorem dL_law_245 : decode cL_law 245 = .ok (.iadd, 1) := by decide +kernel
theorem dL_law_246 : decode cL_law 246 = .ok (.iaload, 1) := by decide +kernel
theorem dL_law_247 : decode cL_law 247 = .ok (.invokevirtual 28, 3) := by decide +kernel
theorem dL_law_250 : decode cL_law 250 = .ok (.aload_n 2, 1) := by decide +kernel
theorem dL_law_251 : decode cL_law 251 = .ok (.aload_n 0, 1) := by decide +kernel
theorem dL_law_252 : decode cL_law 252 = .ok (.iload_n 3, 1) := by decide +kernel
theorem dL_law_253 : decode cL_law 253 = .ok (.iconst 1, 1) := by decide +kernel
theorem dL_law_254 : decode cL_law 254 = .ok (.iadd, 1) := by decide +kernel
theorem dL_law_255 : decode cL_law 255 = .ok (.iaload, 1) := by decide +kernel
theorem dL_law_256 : decode cL_law 256 = .ok (.aload_n 0, 1) := by decide +kernel
theorem dL_law_257 : decode cL_law 257 = .ok (.iload_n 3, 1) := by decide +kernel
theorem dL_law_258 : decode cL_law 258 = .ok (.iconst 2, 1) := by decide +kernel
theorem dL_law_259 : decode cL_law 259 = .ok (.iadd, 1) := by decide +kernel
theorem dL_law_260 : decode cL_law 260 = .ok (.iaload, 1) := by decide +kernel
theorem dL_law_261 : decode cL_law 261 = .ok (.aload_n 0, 1) := by decide +kernel
theorem dL_law_262 : decode cL_law 262 = .ok (.iload_n 3, 1) := by decide +kernel
theorem dL_law_263 : decode cL_law 263 = .ok (.iconst 3, 1) := by decide +kernel
theorem dL_law_264 : decode cL_law 264 = .ok (.iadd, 1) := by decide +kernel
theorem dL_law_265 : decode cL_law 265 = .ok (.iaload, 1) := by decide +kernel
theorem dL_law_266 : decode cL_law 266 = .ok (.invokevirtual 31, 3) := by decide +kernel
theorem dL_law_269 : decode cL_law 269 = .ok (.if_icmp .eq 536, 3) := by decide +kernel
theorem dL_law_272 : decode cL_law 272 = .ok (.iconst 0, 1) := by decide +kernel
theorem dL_law_273 : decode cL_law 273 = .ok (.ireturn, 1) := by decide +kernel
theorem dL_law_274 : decode cL_law 274 = .ok (.aload_n 1, 1) := by decide +kernel
theorem dL_law_275 : decode cL_law 275 = .ok (.aload_n 0, 1) := by decide +kernel
theorem dL_law_276 : decode cL_law 276 = .ok (.iload_n 3, 1) := by decide +kernel
theorem dL_law_277 : decode cL_law 277 = .ok (.iconst 1, 1) := by decide +kernel
theorem dL_law_278 : decode cL_law 278 = .ok (.iadd, 1) := by decide +kernel
theorem dL_law_279 : decode cL_law 279 = .ok (.iaload, 1) := by decide +kernel
theorem dL_law_280 : decode cL_law 280 = .ok (.aload_n 0, 1) := by decide +kernel
theorem dL_law_281 : decode cL_law 281 = .ok (.iload_n 3, 1) := by decide +kernel
theorem dL_law_282 : decode cL_law 282 = .ok (.iconst 2, 1) := by decide +kernel
theorem dL_law_283 : decode cL_law 283 = .ok (.iadd, 1) := by decide +kernel
theorem dL_law_284 : decode cL_law 284 = .ok (.iaload, 1) := by decide +kernel
theorem dL_law_285 : decode cL_law 285 = .ok (.aload_n 0, 1) := by decide +kernel
theorem dL_law_286 : decode cL_law 286 = .ok (.iload_n 3, 1) := by decide +kernel
theorem dL_law_287 : decode cL_law 287 = .ok (.iconst 3, 1) := by decide +kernel
theorem dL_law_288 : decode cL_law 288 = .ok (.iadd, 1) := by decide +kernel
theorem dL_law_289 : decode cL_law 289 = .ok (.iaload, 1) := by decide +kernel
theorem dL_law_290 : decode cL_law 290 = .ok (.invokevirtual 32, 3) := by decide +kernel
theorem dL_law_293 : decode cL_law 293 = .ok (.aload_n 2, 1) := by decide +kernel
theorem dL_law_294 : decode cL_law 294 = .ok (.aload_n 0, 1) := by decide +kernel
theorem dL_law_295 : decode cL_law 295 = .ok (.iload_n 3, 1) := by decide +kernel
theorem dL_law_296 : decode cL_law 296 = .ok (.iconst 1, 1) := by decide +kernel
theorem dL_law_297 : decode cL_law 297 = .ok (.iadd, 1) := by decide +kernel
theorem dL_law_298 : decode cL_law 298 = .ok (.iaload, 1) := by decide +kernel
theorem dL_law_299 : decode cL_law 299 = .ok (.aload_n 0, 1) := by decide +kernel
theorem dL_law_300 : decode cL_law 300 = .ok (.iload_n 3, 1) := by decide +kernel
theorem dL_law_301 : decode cL_law 301 = .ok (.iconst 2, 1) := by decide +kernel
theorem dL_law_302 : decode cL_law 302 = .ok (.iadd, 1) := by decide +kernel
theorem dL_law_303 : decode cL_law 303 = .ok (.iaload, 1) := by decide +kernel
theorem dL_law_304 : decode cL_law 304 = .ok (.aload_n 0, 1) := by decide +kernel
theorem dL_law_305 : decode cL_law 305 = .ok (.iload_n 3, 1) := by decide +kernel
theorem dL_law_306 : decode cL_law 306 = .ok (.iconst 3, 1) := by decide +kernel
theorem dL_law_307 : decode cL_law 307 = .ok (.iadd, 1) := by decide +kernel
theorem dL_law_308 : decode cL_law 308 = .ok (.iaload, 1) := by decide +kernel
theorem dL_law_309 : decode cL_law 309 = .ok (.invokevirtual 35, 3) := by decide +kernel
theorem dL_law_312 : decode cL_law 312 = .ok (.if_icmp .eq 493, 3) := by decide +kernel
theorem dL_law_315 : decode cL_law 315 = .ok (.iconst 0, 1) := by decide +kernel
theorem dL_law_316 : decode cL_law 316 = .ok (.ireturn, 1) := by decide +kernel
theorem dL_law_317 : decode cL_law 317 = .ok (.aload_n 1, 1) := by decide +kernel
theorem dL_law_318 : decode cL_law 318 = .ok (.aload_n 0, 1) := by decide +kernel
theorem dL_law_319 : decode cL_law 319 = .ok (.iload_n 3, 1) := by decide +kernel
theorem dL_law_320 : decode cL_law 320 = .ok (.iconst 1, 1) := by decide +kernel
theorem dL_law_321 : decode cL_law 321 = .ok (.iadd, 1) := by decide +kernel
theorem dL_law_322 : decode cL_law 322 = .ok (.iaload, 1) := by decide +kernel
theorem dL_law_323 : decode cL_law 323 = .ok (.aload_n 0, 1) := by decide +kernel
theorem dL_law_324 : decode cL_law 324 = .ok (.iload_n 3, 1) := by decide +kernel
theorem dL_law_325 : decode cL_law 325 = .ok (.iconst 2, 1) := by decide +kernel
theorem dL_law_326 : decode cL_law 326 = .ok (.iadd, 1) := by decide +kernel
theorem dL_law_327 : decode cL_law 327 = .ok (.iaload, 1) := by decide +kernel
theorem dL_law_328 : decode cL_law 328 = .ok (.aload_n 0, 1) := by decide +kernel
theorem dL_law_329 : decode cL_law 329 = .ok (.iload_n 3, 1) := by decide +kernel
theorem dL_law_330 : decode cL_law 330 = .ok (.iconst 3, 1) := by decide +kernel
theorem dL_law_331 : decode cL_law 331 = .ok (.iadd, 1) := by decide +kernel
theorem dL_law_332 : decode cL_law 332 = .ok (.iaload, 1) := by decide +kernel
theorem dL_law_333 : decode cL_law 333 = .ok (.invokevirtual 36, 3) := by decide +kernel
theorem dL_law_336 : decode cL_law 336 = .ok (.aload_n 2, 1) := by decide +kernel
theorem dL_law_337 : decode cL_law 337 = .ok (.aload_n 0, 1) := by decide +kernel
theorem dL_law_338 : decode cL_law 338 = .ok (.iload_n 3, 1) := by decide +kernel
theorem dL_law_339 : decode cL_law 339 = .ok (.iconst 1, 1) := by decide +kernel
theorem dL_law_340 : decode cL_law 340 = .ok (.iadd, 1) := by decide +kernel
theorem dL_law_341 : decode cL_law 341 = .ok (.iaload, 1) := by decide +kernel
theorem dL_law_342 : decode cL_law 342 = .ok (.aload_n 0, 1) := by decide +kernel
theorem dL_law_343 : decode cL_law 343 = .ok (.iload_n 3, 1) := by decide +kernel
theorem dL_law_344 : decode cL_law 344 = .ok (.iconst 2, 1) := by decide +kernel
theorem dL_law_345 : decode cL_law 345 = .ok (.iadd, 1) := by decide +kernel
theorem dL_law_346 : decode cL_law 346 = .ok (.iaload, 1) := by decide +kernel
theorem dL_law_347 : decode cL_law 347 = .ok (.aload_n 0, 1) := by decide +kernel
theorem dL_law_348 : decode cL_law 348 = .ok (.iload_n 3, 1) := by decide +kernel
theorem dL_law_349 : decode cL_law 349 = .ok (.iconst 3, 1) := by decide +kernel
theorem dL_law_350 : decode cL_law 350 = .ok (.iadd, 1) := by decide +kernel
theorem dL_law_351 : decode cL_law 351 = .ok (.iaload, 1) := by decide +kernel
theorem dL_law_352 : decode cL_law 352 = .ok (.invokevirtual 39, 3) := by decide +kernel
theorem dL_law_355 : decode cL_law 355 = .ok (.if_icmp .eq 450, 3) := by decide +kernel
theorem dL_law_358 : decode cL_law 358 = .ok (.iconst 0, 1) := by decide +kernel
theorem dL_law_359 : decode cL_law 359 = .ok (.ireturn, 1) := by decide +kernel
theorem dL_law_360 : decode cL_law 360 = .ok (.aload_n 1, 1) := by decide +kernel
theorem dL_law_361 : decode cL_law 361 = .ok (.aload_n 0, 1) := by decide +kernel
theorem dL_law_362 : decode cL_law 362 = .ok (.iload_n 3, 1) := by decide +kernel
theorem dL_law_363 : decode cL_law 363 = .ok (.iconst 1, 1) := by decide +kernel
theorem dL_law_364 : decode cL_law 364 = .ok (.iadd, 1) := by decide +kernel
theorem dL_law_365 : decode cL_law 365 = .ok (.iaload, 1) := by decide +kernel
theorem dL_law_366 : decode cL_law 366 = .ok (.aload_n 0, 1) := by decide +kernel
theorem dL_law_367 : decode cL_law 367 = .ok (.iload_n 3, 1) := by decide +kernel
theorem dL_law_368 : decode cL_law 368 = .ok (.iconst 2, 1) := by decide +kernel
theorem dL_law_369 : decode cL_law 369 = .ok (.iadd, 1) := by decide +kernel
theorem dL_law_370 : decode cL_law 370 = .ok (.iaload, 1) := by decide +kernel
theorem dL_law_371 : decode cL_law 371 = .ok (.invokevirtual 40, 3) := by decide +kernel
theorem dL_law_374 : decode cL_law 374 = .ok (.aload_n 2, 1) := by decide +kernel
theorem dL_law_375 : decode cL_law 375 = .ok (.aload_n 0, 1) := by decide +kernel
theorem dL_law_376 : decode cL_law 376 = .ok (.iload_n 3, 1) := by decide +kernel
theorem dL_law_377 : decode cL_law 377 = .ok (.iconst 1, 1) := by decide +kernel
theorem dL_law_378 : decode cL_law 378 = .ok (.iadd, 1) := by decide +kernel
theorem dL_law_379 : decode cL_law 379 = .ok (.iaload, 1) := by decide +kernel
theorem dL_law_380 : decode cL_law 380 = .ok (.aload_n 0, 1) := by decide +kernel
theorem dL_law_381 : decode cL_law 381 = .ok (.iload_n 3, 1) := by decide +kernel
theorem dL_law_382 : decode cL_law 382 = .ok (.iconst 2, 1) := by decide +kernel
theorem dL_law_383 : decode cL_law 383 = .ok (.iadd, 1) := by decide +kernel
theorem dL_law_384 : decode cL_law 384 = .ok (.iaload, 1) := by decide +kernel
theorem dL_law_385 : decode cL_law 385 = .ok (.invokevirtual 43, 3) := by decide +kernel
theorem dL_law_388 : decode cL_law 388 = .ok (.if_icmp .eq 417, 3) := by decide +kernel
theorem dL_law_391 : decode cL_law 391 = .ok (.iconst 0, 1) := by decide +kernel
theorem dL_law_392 : decode cL_law 392 = .ok (.ireturn, 1) := by decide +kernel
theorem dL_law_393 : decode cL_law 393 = .ok (.aload_n 1, 1) := by decide +kernel
theorem dL_law_394 : decode cL_law 394 = .ok (.invokevirtual 44, 3) := by decide +kernel
theorem dL_law_397 : decode cL_law 397 = .ok (.aload_n 2, 1) := by decide +kernel
theorem dL_law_398 : decode cL_law 398 = .ok (.invokevirtual 48, 3) := by decide +kernel
theorem dL_law_401 : decode cL_law 401 = .ok (.if_icmp .eq 404, 3) := by decide +kernel
theorem dL_law_404 : decode cL_law 404 = .ok (.iconst 0, 1) := by decide +kernel
theorem dL_law_405 : decode cL_law 405 = .ok (.ireturn, 1) := by decide +kernel
theorem dL_law_406 : decode cL_law 406 = .ok (.aload_n 1, 1) := by decide +kernel
theorem dL_law_407 : decode cL_law 407 = .ok (.aload_n 0, 1) := by decide +kernel
theorem dL_law_408 : decode cL_law 408 = .ok (.iload_n 3, 1) := by decide +kernel
theorem dL_law_409 : decode cL_law 409 = .ok (.iconst 1, 1) := by decide +kernel
theorem dL_law_410 : decode cL_law 410 = .ok (.iadd, 1) := by decide +kernel
theorem dL_law_411 : decode cL_law 411 = .ok (.iaload, 1) := by decide +kernel
theorem dL_law_412 : decode cL_law 412 = .ok (.invokevirtual 49, 3) := by decide +kernel
theorem dL_law_415 : decode cL_law 415 = .ok (.aload_n 2, 1) := by decide +kernel
theorem dL_law_416 : decode cL_law 416 = .ok (.aload_n 0, 1) := by decide +kernel
theorem dL_law_417 : decode cL_law 417 = .ok (.iload_n 3, 1) := by decide +kernel
theorem dL_law_418 : decode cL_law 418 = .ok (.iconst 1, 1) := by decide +kernel
theorem dL_law_419 : decode cL_law 419 = .ok (.iadd, 1) := by decide +kernel
theorem dL_law_420 : decode cL_law 420 = .ok (.iaload, 1) := by decide +kernel
theorem dL_law_421 : decode cL_law 421 = .ok (.invokevirtual 52, 3) := by decide +kernel
theorem dL_law_424 : decode cL_law 424 = .ok (.if_icmp .eq 381, 3) := by decide +kernel
theorem dL_law_427 : decode cL_law 427 = .ok (.iconst 0, 1) := by decide +kernel
theorem dL_law_428 : decode cL_law 428 = .ok (.ireturn, 1) := by decide +kernel
theorem dL_law_429 : decode cL_law 429 = .ok (.aload_n 1, 1) := by decide +kernel
theorem dL_law_430 : decode cL_law 430 = .ok (.aload_n 0, 1) := by decide +kernel
theorem dL_law_431 : decode cL_law 431 = .ok (.iload_n 3, 1) := by decide +kernel
theorem dL_law_432 : decode cL_law 432 = .ok (.iconst 1, 1) := by decide +kernel
theorem dL_law_433 : decode cL_law 433 = .ok (.iadd, 1) := by decide +kernel
theorem dL_law_434 : decode cL_law 434 = .ok (.iaload, 1) := by decide +kernel
theorem dL_law_435 : decode cL_law 435 = .ok (.aload_n 0, 1) := by decide +kernel
theorem dL_law_436 : decode cL_law 436 = .ok (.iload_n 3, 1) := by decide +kernel
theorem dL_law_437 : decode cL_law 437 = .ok (.iconst 2, 1) := by decide +kernel
theorem dL_law_438 : decode cL_law 438 = .ok (.iadd, 1) := by decide +kernel
theorem dL_law_439 : decode cL_law 439 = .ok (.iaload, 1) := by decide +kernel
theorem dL_law_440 : decode cL_law 440 = .ok (.invokevirtual 53, 3) := by decide +kernel
theorem dL_law_443 : decode cL_law 443 = .ok (.aload_n 2, 1) := by decide +kernel
theorem dL_law_444 : decode cL_law 444 = .ok (.aload_n 0, 1) := by decide +kernel
theorem dL_law_445 : decode cL_law 445 = .ok (.iload_n 3, 1) := by decide +kernel
theorem dL_law_446 : decode cL_law 446 = .ok (.iconst 1, 1) := by decide +kernel
theorem dL_law_447 : decode cL_law 447 = .ok (.iadd, 1) := by decide +kernel
theorem dL_law_448 : decode cL_law 448 = .ok (.iaload, 1) := by decide +kernel
theorem dL_law_449 : decode cL_law 449 = .ok (.aload_n 0, 1) := by decide +kernel
theorem dL_law_450 : decode cL_law 450 = .ok (.iload_n 3, 1) := by decide +kernel
theorem dL_law_451 : decode cL_law 451 = .ok (.iconst 2, 1) := by decide +kernel
theorem dL_law_452 : decode cL_law 452 = .ok (.iadd, 1) := by decide +kernel
theorem dL_law_453 : decode cL_law 453 = .ok (.iaload, 1) := by decide +kernel
theorem dL_law_454 : decode cL_law 454 = .ok (.invokevirtual 56, 3) := by decide +kernel
theorem dL_law_457 : decode cL_law 457 = .ok (.if_icmp .eq 348, 3) := by decide +kernel
theorem dL_law_460 : decode cL_law 460 = .ok (.iconst 0, 1) := by decide +kernel
theorem dL_law_461 : decode cL_law 461 = .ok (.ireturn, 1) := by decide +kernel
theorem dL_law_462 : decode cL_law 462 = .ok (.aload_n 1, 1) := by decide +kernel
theorem dL_law_463 : decode cL_law 463 = .ok (.aload_n 0, 1) := by decide +kernel
theorem dL_law_464 : decode cL_law 464 = .ok (.iload_n 3, 1) := by decide +kernel
theorem dL_law_465 : decode cL_law 465 = .ok (.iconst 1, 1) := by decide +kernel
theorem dL_law_466 : decode cL_law 466 = .ok (.iadd, 1) := by decide +kernel
theorem dL_law_467 : decode cL_law 467 = .ok (.iaload, 1) := by decide +kernel
theorem dL_law_468 : decode cL_law 468 = .ok (.aload_n 0, 1) := by decide +kernel
theorem dL_law_469 : decode cL_law 469 = .ok (.iload_n 3, 1) := by decide +kernel
theorem dL_law_470 : decode cL_law 470 = .ok (.iconst 2, 1) := by decide +kernel
theorem dL_law_471 : decode cL_law 471 = .ok (.iadd, 1) := by decide +kernel
theorem dL_law_472 : decode cL_law 472 = .ok (.iaload, 1) := by decide +kernel
theorem dL_law_473 : decode cL_law 473 = .ok (.invokevirtual 57, 3) := by decide +kernel
theorem dL_law_476 : decode cL_law 476 = .ok (.aload_n 2, 1) := by decide +kernel
theorem dL_law_477 : decode cL_law 477 = .ok (.aload_n 0, 1) := by decide +kernel
theorem dL_law_478 : decode cL_law 478 = .ok (.iload_n 3, 1) := by decide +kernel
theorem dL_law_479 : decode cL_law 479 = .ok (.iconst 1, 1) := by decide +kernel
theorem dL_law_480 : decode cL_law 480 = .ok (.iadd, 1) := by decide +kernel
theorem dL_law_481 : decode cL_law 481 = .ok (.iaload, 1) := by decide +kernel
theorem dL_law_482 : decode cL_law 482 = .ok (.aload_n 0, 1) := by decide +kernel
theorem dL_law_483 : decode cL_law 483 = .ok (.iload_n 3, 1) := by decide +kernel
theorem dL_law_484 : decode cL_law 484 = .ok (.iconst 2, 1) := by decide +kernel
theorem dL_law_485 : decode cL_law 485 = .ok (.iadd, 1) := by decide +kernel
theorem dL_law_486 : decode cL_law 486 = .ok (.iaload, 1) := by decide +kernel
theorem dL_law_487 : decode cL_law 487 = .ok (.invokevirtual 60, 3) := by decide +kernel
theorem dL_law_490 : decode cL_law 490 = .ok (.if_icmp .eq 315, 3) := by decide +kernel
theorem dL_law_493 : decode cL_law 493 = .ok (.iconst 0, 1) := by decide +kernel
theorem dL_law_494 : decode cL_law 494 = .ok (.ireturn, 1) := by decide +kernel
theorem dL_law_495 : decode cL_law 495 = .ok (.aload_n 1, 1) := by decide +kernel
theorem dL_law_496 : decode cL_law 496 = .ok (.aload_n 0, 1) := by decide +kernel
theorem dL_law_497 : decode cL_law 497 = .ok (.iload_n 3, 1) := by decide +kernel
theorem dL_law_498 : decode cL_law 498 = .ok (.iconst 1, 1) := by decide +kernel
theorem dL_law_499 : decode cL_law 499 = .ok (.iadd, 1) := by decide +kernel
theorem dL_law_500 : decode cL_law 500 = .ok (.iaload, 1) := by decide +kernel
theorem dL_law_501 : decode cL_law 501 = .ok (.aload_n 0, 1) := by decide +kernel
theorem dL_law_502 : decode cL_law 502 = .ok (.iload_n 3, 1) := by decide +kernel
theorem dL_law_503 : decode cL_law 503 = .ok (.iconst 2, 1) := by decide +kernel
theorem dL_law_504 : decode cL_law 504 = .ok (.iadd, 1) := by decide +kernel
theorem dL_law_505 : decode cL_law 505 = .ok (.iaload, 1) := by decide +kernel
theorem dL_law_506 : decode cL_law 506 = .ok (.aload_n 0, 1) := by decide +kernel
theorem dL_law_507 : decode cL_law 507 = .ok (.iload_n 3, 1) := by decide +kernel
theorem dL_law_508 : decode cL_law 508 = .ok (.iconst 3, 1) := by decide +kernel
theorem dL_law_509 : decode cL_law 509 = .ok (.iadd, 1) := by decide +kernel
theorem dL_law_510 : decode cL_law 510 = .ok (.iaload, 1) := by decide +kernel
theorem dL_law_511 : decode cL_law 511 = .ok (.invokevirtual 61, 3) := by decide +kernel
theorem dL_law_514 : decode cL_law 514 = .ok (.aload_n 2, 1) := by decide +kernel
theorem dL_law_515 : decode cL_law 515 = .ok (.aload_n 0, 1) := by decide +kernel
theorem dL_law_516 : decode cL_law 516 = .ok (.iload_n 3, 1) := by decide +kernel
theorem dL_law_517 : decode cL_law 517 = .ok (.iconst 1, 1) := by decide +kernel
theorem dL_law_518 : decode cL_law 518 = .ok (.iadd, 1) := by decide +kernel
theorem dL_law_519 : decode cL_law 519 = .ok (.iaload, 1) := by decide +kernel
theorem dL_law_520 : decode cL_law 520 = .ok (.aload_n 0, 1) := by decide +kernel
theorem dL_law_521 : decode cL_law 521 = .ok (.iload_n 3, 1) := by decide +kernel
theorem dL_law_522 : decode cL_law 522 = .ok (.iconst 2, 1) := by decide +kernel
theorem dL_law_523 : decode cL_law 523 = .ok (.iadd, 1) := by decide +kernel
theorem dL_law_524 : decode cL_law 524 = .ok (.iaload, 1) := by decide +kernel
theorem dL_law_525 : decode cL_law 525 = .ok (.aload_n 0, 1) := by decide +kernel
theorem dL_law_526 : decode cL_law 526 = .ok (.iload_n 3, 1) := by decide +kernel
theorem dL_law_527 : decode cL_law 527 = .ok (.iconst 3, 1) := by decide +kernel
theorem dL_law_528 : decode cL_law 528 = .ok (.iadd, 1) := by decide +kernel
theorem dL_law_529 : decode cL_law 529 = .ok (.iaload, 1) := by decide +kernel
theorem dL_law_530 : decode cL_law 530 = .ok (.invokevirtual 64, 3) := by decide +kernel
theorem dL_law_533 : decode cL_law 533 = .ok (.if_icmp .eq 272, 3) := by decide +kernel
theorem dL_law_536 : decode cL_law 536 = .ok (.iconst 0, 1) := by decide +kernel
theorem dL_law_537 : decode cL_law 537 = .ok (.ireturn, 1) := by decide +kernel
theorem dL_law_538 : decode cL_law 538 = .ok (.aload_n 1, 1) := by decide +kernel
theorem dL_law_539 : decode cL_law 539 = .ok (.aload_n 0, 1) := by decide +kernel
theorem dL_law_540 : decode cL_law 540 = .ok (.iload_n 3, 1) := by decide +kernel
theorem dL_law_541 : decode cL_law 541 = .ok (.iconst 1, 1) := by decide +kernel
theorem dL_law_542 : decode cL_law 542 = .ok (.iadd, 1) := by decide +kernel
theorem dL_law_543 : decode cL_law 543 = .ok (.iaload, 1) := by decide +kernel
theorem dL_law_544 : decode cL_law 544 = .ok (.aload_n 0, 1) := by decide +kernel
theorem dL_law_545 : decode cL_law 545 = .ok (.iload_n 3, 1) := by decide +kernel
theorem dL_law_546 : decode cL_law 546 = .ok (.iconst 2, 1) := by decide +kernel
theorem dL_law_547 : decode cL_law 547 = .ok (.iadd, 1) := by decide +kernel
theorem dL_law_548 : decode cL_law 548 = .ok (.iaload, 1) := by decide +kernel
theorem dL_law_549 : decode cL_law 549 = .ok (.invokevirtual 65, 3) := by decide +kernel
theorem dL_law_552 : decode cL_law 552 = .ok (.aload_n 2, 1) := by decide +kernel
theorem dL_law_553 : decode cL_law 553 = .ok (.aload_n 0, 1) := by decide +kernel
theorem dL_law_554 : decode cL_law 554 = .ok (.iload_n 3, 1) := by decide +kernel
theorem dL_law_555 : decode cL_law 555 = .ok (.iconst 1, 1) := by decide +kernel
theorem dL_law_556 : decode cL_law 556 = .ok (.iadd, 1) := by decide +kernel
theorem dL_law_557 : decode cL_law 557 = .ok (.iaload, 1) := by decide +kernel
theorem dL_law_558 : decode cL_law 558 = .ok (.aload_n 0, 1) := by decide +kernel
theorem dL_law_559 : decode cL_law 559 = .ok (.iload_n 3, 1) := by decide +kernel
theorem dL_law_560 : decode cL_law 560 = .ok (.iconst 2, 1) := by decide +kernel
theorem dL_law_561 : decode cL_law 561 = .ok (.iadd, 1) := by decide +kernel
theorem dL_law_562 : decode cL_law 562 = .ok (.iaload, 1) := by decide +kernel
theorem dL_law_563 : decode cL_law 563 = .ok (.invokevirtual 68, 3) := by decide +kernel
theorem dL_law_566 : decode cL_law 566 = .ok (.if_icmp .eq 239, 3) := by decide +kernel
theorem dL_law_569 : decode cL_law 569 = .ok (.iconst 0, 1) := by decide +kernel
theorem dL_law_570 : decode cL_law 570 = .ok (.ireturn, 1) := by decide +kernel
theorem dL_law_571 : decode cL_law 571 = .ok (.aload_n 1, 1) := by decide +kernel
theorem dL_law_572 : decode cL_law 572 = .ok (.aload_n 0, 1) := by decide +kernel
theorem dL_law_573 : decode cL_law 573 = .ok (.iload_n 3, 1) := by decide +kernel
theorem dL_law_574 : decode cL_law 574 = .ok (.iconst 1, 1) := by decide +kernel
theorem dL_law_575 : decode cL_law 575 = .ok (.iadd, 1) := by decide +kernel
theorem dL_law_576 : decode cL_law 576 = .ok (.iaload, 1) := by decide +kernel
theorem dL_law_577 : decode cL_law 577 = .ok (.aload_n 0, 1) := by decide +kernel
theorem dL_law_578 : decode cL_law 578 = .ok (.iload_n 3, 1) := by decide +kernel
theorem dL_law_579 : decode cL_law 579 = .ok (.iconst 2, 1) := by decide +kernel
theorem dL_law_580 : decode cL_law 580 = .ok (.iadd, 1) := by decide +kernel
theorem dL_law_581 : decode cL_law 581 = .ok (.iaload, 1) := by decide +kernel
theorem dL_law_582 : decode cL_law 582 = .ok (.aload_n 0, 1) := by decide +kernel
theorem dL_law_583 : decode cL_law 583 = .ok (.iload_n 3, 1) := by decide +kernel
theorem dL_law_584 : decode cL_law 584 = .ok (.iconst 3, 1) := by decide +kernel
theorem dL_law_585 : decode cL_law 585 = .ok (.iadd, 1) := by decide +kernel
theorem dL_law_586 : decode cL_law 586 = .ok (.iaload, 1) := by decide +kernel
theorem dL_law_587 : decode cL_law 587 = .ok (.invokevirtual 69, 3) := by decide +kernel
theorem dL_law_590 : decode cL_law 590 = .ok (.aload_n 2, 1) := by decide +kernel
theorem dL_law_591 : decode cL_law 591 = .ok (.aload_n 0, 1) := by decide +kernel
theorem dL_law_592 : decode cL_law 592 = .ok (.iload_n 3, 1) := by decide +kernel
theorem dL_law_593 : decode cL_law 593 = .ok (.iconst 1, 1) := by decide +kernel
theorem dL_law_594 : decode cL_law 594 = .ok (.iadd, 1) := by decide +kernel
theorem dL_law_595 : decode cL_law 595 = .ok (.iaload, 1) := by decide +kernel
theorem dL_law_596 : decode cL_law 596 = .ok (.aload_n 0, 1) := by decide +kernel
theorem dL_law_597 : decode cL_law 597 = .ok (.iload_n 3, 1) := by decide +kernel
theorem dL_law_598 : decode cL_law 598 = .ok (.iconst 2, 1) := by decide +kernel
theorem dL_law_599 : decode cL_law 599 = .ok (.iadd, 1) := by decide +kernel
theorem dL_law_600 : decode cL_law 600 = .ok (.iaload, 1) := by decide +kernel
theorem dL_law_601 : decode cL_law 601 = .ok (.aload_n 0, 1) := by decide +kernel
theorem dL_law_602 : decode cL_law 602 = .ok (.iload_n 3, 1) := by decide +kernel
theorem dL_law_603 : decode cL_law 603 = .ok (.iconst 3, 1) := by decide +kernel
theorem dL_law_604 : decode cL_law 604 = .ok (.iadd, 1) := by decide +kernel
theorem dL_law_605 : decode cL_law 605 = .ok (.iaload, 1) := by decide +kernel
theorem dL_law_606 : decode cL_law 606 = .ok (.invokevirtual 72, 3) := by decide +kernel
theorem dL_law_609 : decode cL_law 609 = .ok (.if_icmp .eq 196, 3) := by decide +kernel
theorem dL_law_612 : decode cL_law 612 = .ok (.iconst 0, 1) := by decide +kernel
theorem dL_law_613 : decode cL_law 613 = .ok (.ireturn, 1) := by decide +kernel
theorem dL_law_614 : decode cL_law 614 = .ok (.aload_n 1, 1) := by decide +kernel
theorem dL_law_615 : decode cL_law 615 = .ok (.aload_n 0, 1) := by decide +kernel
theorem dL_law_616 : decode cL_law 616 = .ok (.iload_n 3, 1) := by decide +kernel
theorem dL_law_617 : decode cL_law 617 = .ok (.iconst 1, 1) := by decide +kernel
theorem dL_law_618 : decode cL_law 618 = .ok (.iadd, 1) := by decide +kernel
theorem dL_law_619 : decode cL_law 619 = .ok (.iaload, 1) := by decide +kernel
theorem dL_law_620 : decode cL_law 620 = .ok (.invokevirtual 73, 3) := by decide +kernel
theorem dL_law_623 : decode cL_law 623 = .ok (.aload_n 2, 1) := by decide +kernel
theorem dL_law_624 : decode cL_law 624 = .ok (.aload_n 0, 1) := by decide +kernel
theorem dL_law_625 : decode cL_law 625 = .ok (.iload_n 3, 1) := by decide +kernel
theorem dL_law_626 : decode cL_law 626 = .ok (.iconst 1, 1) := by decide +kernel
theorem dL_law_627 : decode cL_law 627 = .ok (.iadd, 1) := by decide +kernel
theorem dL_law_628 : decode cL_law 628 = .ok (.iaload, 1) := by decide +kernel
theorem dL_law_629 : decode cL_law 629 = .ok (.invokevirtual 76, 3) := by decide +kernel
theorem dL_law_632 : decode cL_law 632 = .ok (.if_icmp .eq 173, 3) := by decide +kernel
theorem dL_law_635 : decode cL_law 635 = .ok (.iconst 0, 1) := by decide +kernel
theorem dL_law_636 : decode cL_law 636 = .ok (.ireturn, 1) := by decide +kernel
theorem dL_law_637 : decode cL_law 637 = .ok (.aload_n 1, 1) := by decide +kernel
theorem dL_law_638 : decode cL_law 638 = .ok (.aload_n 0, 1) := by decide +kernel
theorem dL_law_639 : decode cL_law 639 = .ok (.iload_n 3, 1) := by decide +kernel
theorem dL_law_640 : decode cL_law 640 = .ok (.iconst 1, 1) := by decide +kernel
theorem dL_law_641 : decode cL_law 641 = .ok (.iadd, 1) := by decide +kernel
theorem dL_law_642 : decode cL_law 642 = .ok (.iaload, 1) := by decide +kernel
theorem dL_law_643 : decode cL_law 643 = .ok (.invokevirtual 77, 3) := by decide +kernel
theorem dL_law_646 : decode cL_law 646 = .ok (.aload_n 2, 1) := by decide +kernel
theorem dL_law_647 : decode cL_law 647 = .ok (.aload_n 0, 1) := by decide +kernel
theorem dL_law_648 : decode cL_law 648 = .ok (.iload_n 3, 1) := by decide +kernel
theorem dL_law_649 : decode cL_law 649 = .ok (.iconst 1, 1) := by decide +kernel
theorem dL_law_650 : decode cL_law 650 = .ok (.iadd, 1) := by decide +kernel
theorem dL_law_651 : decode cL_law 651 = .ok (.iaload, 1) := by decide +kernel
theorem dL_law_652 : decode cL_law 652 = .ok (.invokevirtual 80, 3) := by decide +kernel
theorem dL_law_655 : decode cL_law 655 = .ok (.if_icmp .eq 150, 3) := by decide +kernel
theorem dL_law_658 : decode cL_law 658 = .ok (.iconst 0, 1) := by decide +kernel
theorem dL_law_659 : decode cL_law 659 = .ok (.ireturn, 1) := by decide +kernel
theorem dL_law_660 : decode cL_law 660 = .ok (.aload_n 1, 1) := by decide +kernel
theorem dL_law_661 : decode cL_law 661 = .ok (.aload_n 0, 1) := by decide +kernel
theorem dL_law_662 : decode cL_law 662 = .ok (.iload_n 3, 1) := by decide +kernel
theorem dL_law_663 : decode cL_law 663 = .ok (.iconst 1, 1) := by decide +kernel
theorem dL_law_664 : decode cL_law 664 = .ok (.iadd, 1) := by decide +kernel
theorem dL_law_665 : decode cL_law 665 = .ok (.iaload, 1) := by decide +kernel
theorem dL_law_666 : decode cL_law 666 = .ok (.aload_n 0, 1) := by decide +kernel
theorem dL_law_667 : decode cL_law 667 = .ok (.iload_n 3, 1) := by decide +kernel
theorem dL_law_668 : decode cL_law 668 = .ok (.iconst 2, 1) := by decide +kernel
theorem dL_law_669 : decode cL_law 669 = .ok (.iadd, 1) := by decide +kernel
theorem dL_law_670 : decode cL_law 670 = .ok (.iaload, 1) := by decide +kernel
theorem dL_law_671 : decode cL_law 671 = .ok (.invokevirtual 81, 3) := by decide +kernel
theorem dL_law_674 : decode cL_law 674 = .ok (.aload_n 2, 1) := by decide +kernel
theorem dL_law_675 : decode cL_law 675 = .ok (.aload_n 0, 1) := by decide +kernel
theorem dL_law_676 : decode cL_law 676 = .ok (.iload_n 3, 1) := by decide +kernel
theorem dL_law_677 : decode cL_law 677 = .ok (.iconst 1, 1) := by decide +kernel
theorem dL_law_678 : decode cL_law 678 = .ok (.iadd, 1) := by decide +kernel
theorem dL_law_679 : decode cL_law 679 = .ok (.iaload, 1) := by decide +kernel
theorem dL_law_680 : decode cL_law 680 = .ok (.aload_n 0, 1) := by decide +kernel
theorem dL_law_681 : decode cL_law 681 = .ok (.iload_n 3, 1) := by decide +kernel
theorem dL_law_682 : decode cL_law 682 = .ok (.iconst 2, 1) := by decide +kernel
theorem dL_law_683 : decode cL_law 683 = .ok (.iadd, 1) := by decide +kernel
theorem dL_law_684 : decode cL_law 684 = .ok (.iaload, 1) := by decide +kernel
theorem dL_law_685 : decode cL_law 685 = .ok (.invokevirtual 84, 3) := by decide +kernel
theorem dL_law_688 : decode cL_law 688 = .ok (.if_icmp .eq 117, 3) := by decide +kernel
theorem dL_law_691 : decode cL_law 691 = .ok (.iconst 0, 1) := by decide +kernel
theorem dL_law_692 : decode cL_law 692 = .ok (.ireturn, 1) := by decide +kernel
theorem dL_law_693 : decode cL_law 693 = .ok (.aload_n 1, 1) := by decide +kernel
theorem dL_law_694 : decode cL_law 694 = .ok (.aload_n 0, 1) := by decide +kernel
theorem dL_law_695 : decode cL_law 695 = .ok (.iload_n 3, 1) := by decide +kernel
theorem dL_law_696 : decode cL_law 696 = .ok (.iconst 1, 1) := by decide +kernel
theorem dL_law_697 : decode cL_law 697 = .ok (.iadd, 1) := by decide +kernel
theorem dL_law_698 : decode cL_law 698 = .ok (.iaload, 1) := by decide +kernel
theorem dL_law_699 : decode cL_law 699 = .ok (.aload_n 0, 1) := by decide +kernel
theorem dL_law_700 : decode cL_law 700 = .ok (.iload_n 3, 1) := by decide +kernel
theorem dL_law_701 : decode cL_law 701 = .ok (.iconst 2, 1) := by decide +kernel
theorem dL_law_702 : decode cL_law 702 = .ok (.iadd, 1) := by decide +kernel
theorem dL_law_703 : decode cL_law 703 = .ok (.iaload, 1) := by decide +kernel
theorem dL_law_704 : decode cL_law 704 = .ok (.invokevirtual 85, 3) := by decide +kernel
theorem dL_law_707 : decode cL_law 707 = .ok (.aload_n 2, 1) := by decide +kernel
theorem dL_law_708 : decode cL_law 708 = .ok (.aload_n 0, 1) := by decide +kernel
theorem dL_law_709 : decode cL_law 709 = .ok (.iload_n 3, 1) := by decide +kernel
theorem dL_law_710 : decode cL_law 710 = .ok (.iconst 1, 1) := by decide +kernel
theorem dL_law_711 : decode cL_law 711 = .ok (.iadd, 1) := by decide +kernel
theorem dL_law_712 : decode cL_law 712 = .ok (.iaload, 1) := by decide +kernel
theorem dL_law_713 : decode cL_law 713 = .ok (.aload_n 0, 1) := by decide +kernel
theorem dL_law_714 : decode cL_law 714 = .ok (.iload_n 3, 1) := by decide +kernel
theorem dL_law_715 : decode cL_law 715 = .ok (.iconst 2, 1) := by decide +kernel
theorem dL_law_716 : decode cL_law 716 = .ok (.iadd, 1) := by decide +kernel
theorem dL_law_717 : decode cL_law 717 = .ok (.iaload, 1) := by decide +kernel
theorem dL_law_718 : decode cL_law 718 = .ok (.invokevirtual 88, 3) := by decide +kernel
theorem dL_law_721 : decode cL_law 721 = .ok (.if_icmp .eq 84, 3) := by decide +kernel
theorem dL_law_724 : decode cL_law 724 = .ok (.iconst 0, 1) := by decide +kernel
theorem dL_law_725 : decode cL_law 725 = .ok (.ireturn, 1) := by decide +kernel
theorem dL_law_726 : decode cL_law 726 = .ok (.aload_n 1, 1) := by decide +kernel
theorem dL_law_727 : decode cL_law 727 = .ok (.aload_n 0, 1) := by decide +kernel
theorem dL_law_728 : decode cL_law 728 = .ok (.iload_n 3, 1) := by decide +kernel
theorem dL_law_729 : decode cL_law 729 = .ok (.iconst 1, 1) := by decide +kernel
theorem dL_law_730 : decode cL_law 730 = .ok (.iadd, 1) := by decide +kernel
theorem dL_law_731 : decode cL_law 731 = .ok (.iaload, 1) := by decide +kernel
theorem dL_law_732 : decode cL_law 732 = .ok (.aload_n 0, 1) := by decide +kernel
theorem dL_law_733 : decode cL_law 733 = .ok (.iload_n 3, 1) := by decide +kernel
theorem dL_law_734 : decode cL_law 734 = .ok (.iconst 2, 1) := by decide +kernel
theorem dL_law_735 : decode cL_law 735 = .ok (.iadd, 1) := by decide +kernel
theorem dL_law_736 : decode cL_law 736 = .ok (.iaload, 1) := by decide +kernel
theorem dL_law_737 : decode cL_law 737 = .ok (.invokevirtual 89, 3) := by decide +kernel
theorem dL_law_740 : decode cL_law 740 = .ok (.aload_n 2, 1) := by decide +kernel
theorem dL_law_741 : decode cL_law 741 = .ok (.aload_n 0, 1) := by decide +kernel
theorem dL_law_742 : decode cL_law 742 = .ok (.iload_n 3, 1) := by decide +kernel
theorem dL_law_743 : decode cL_law 743 = .ok (.iconst 1, 1) := by decide +kernel
theorem dL_law_744 : decode cL_law 744 = .ok (.iadd, 1) := by decide +kernel
theorem dL_law_745 : decode cL_law 745 = .ok (.iaload, 1) := by decide +kernel
theorem dL_law_746 : decode cL_law 746 = .ok (.aload_n 0, 1) := by decide +kernel
theorem dL_law_747 : decode cL_law 747 = .ok (.iload_n 3, 1) := by decide +kernel
theorem dL_law_748 : decode cL_law 748 = .ok (.iconst 2, 1) := by decide +kernel
theorem dL_law_749 : decode cL_law 749 = .ok (.iadd, 1) := by decide +kernel
theorem dL_law_750 : decode cL_law 750 = .ok (.iaload, 1) := by decide +kernel
theorem dL_law_751 : decode cL_law 751 = .ok (.invokevirtual 92, 3) := by decide +kernel
theorem dL_law_754 : decode cL_law 754 = .ok (.if_icmp .eq 51, 3) := by decide +kernel
theorem dL_law_757 : decode cL_law 757 = .ok (.iconst 0, 1) := by decide +kernel
theorem dL_law_758 : decode cL_law 758 = .ok (.ireturn, 1) := by decide +kernel
theorem dL_law_759 : decode cL_law 759 = .ok (.aload_n 1, 1) := by decide +kernel
theorem dL_law_760 : decode cL_law 760 = .ok (.aload_n 0, 1) := by decide +kernel
theorem dL_law_761 : decode cL_law 761 = .ok (.iload_n 3, 1) := by decide +kernel
theorem dL_law_762 : decode cL_law 762 = .ok (.iconst 1, 1) := by decide +kernel
theorem dL_law_763 : decode cL_law 763 = .ok (.iadd, 1) := by decide +kernel
theorem dL_law_764 : decode cL_law 764 = .ok (.iaload, 1) := by decide +kernel
theorem dL_law_765 : decode cL_law 765 = .ok (.invokevirtual 93, 3) := by decide +kernel
theorem dL_law_768 : decode cL_law 768 = .ok (.aload_n 2, 1) := by decide +kernel
theorem dL_law_769 : decode cL_law 769 = .ok (.aload_n 0, 1) := by decide +kernel
theorem dL_law_770 : decode cL_law 770 = .ok (.iload_n 3, 1) := by decide +kernel
theorem dL_law_771 : decode cL_law 771 = .ok (.iconst 1, 1) := by decide +kernel
theorem dL_law_772 : decode cL_law 772 = .ok (.iadd, 1) := by decide +kernel
theorem dL_law_773 : decode cL_law 773 = .ok (.iaload, 1) := by decide +kernel
theorem dL_law_774 : decode cL_law 774 = .ok (.invokevirtual 96, 3) := by decide +kernel
theorem dL_law_777 : decode cL_law 777 = .ok (.if_icmp .eq 28, 3) := by decide +kernel
theorem dL_law_780 : decode cL_law 780 = .ok (.iconst 0, 1) := by decide +kernel
theorem dL_law_781 : decode cL_law 781 = .ok (.ireturn, 1) := by decide +kernel
theorem dL_law_782 : decode cL_law 782 = .ok (.aload_n 1, 1) := by decide +kernel
theorem dL_law_783 : decode cL_law 783 = .ok (.aload_n 0, 1) := by decide +kernel
theorem dL_law_784 : decode cL_law 784 = .ok (.iload_n 3, 1) := by decide +kernel
theorem dL_law_785 : decode cL_law 785 = .ok (.iconst 1, 1) := by decide +kernel
theorem dL_law_786 : decode cL_law 786 = .ok (.iadd, 1) := by decide +kernel
theorem dL_law_787 : decode cL_law 787 = .ok (.iaload, 1) := by decide +kernel
theorem dL_law_788 : decode cL_law 788 = .ok (.invokevirtual 97, 3) := by decide +kernel
theorem dL_law_791 : decode cL_law 791 = .ok (.aload_n 2, 1) := by decide +kernel
theorem dL_law_792 : decode cL_law 792 = .ok (.aload_n 0, 1) := by decide +kernel
theorem dL_law_793 : decode cL_law 793 = .ok (.iload_n 3, 1) := by decide +kernel
theorem dL_law_794 : decode cL_law 794 = .ok (.iconst 1, 1) := by decide +kernel
theorem dL_law_795 : decode cL_law 795 = .ok (.iadd, 1) := by decide +kernel
theorem dL_law_796 : decode cL_law 796 = .ok (.iaload, 1) := by decide +kernel
theorem dL_law_797 : decode cL_law 797 = .ok (.invokevirtual 100, 3) := by decide +kernel
theorem dL_law_800 : decode cL_law 800 = .ok (.if_icmp .eq 5, 3) := by decide +kernel
theorem dL_law_803 : decode cL_law 803 = .ok (.iconst 0, 1) := by decide +kernel
theorem dL_law_804 : decode cL_law 804 = .ok (.ireturn, 1) := by decide +kernel
theorem dL_law_805 : decode cL_law 805 = .ok (.iinc 3 4, 3) := by decide +kernel
theorem dL_law_808 : decode cL_law 808 = .ok (.goto (-790), 3) := by decide +kernel
theorem dL_law_811 : decode cL_law 811 = .ok (.iconst 1, 1) := by decide +kernel
theorem dL_law_812 : decode cL_law 812 = .ok (.ireturn, 1) := by decide +kernel
abbrev vwCl : List vw_C := [(RX0, TX0, 6), (RX1, TX1, 4), (RX2, TX2, 7), (RX3, TX3, 3), (RX4, TX4, 4), (RX5, TX5, 7), (RX6, TX6, 9)]
end
section
/-! numbers of the machine as whole numbers: every int is iI z, every long lI z -/
def iI (z : Int) : Int32 := Int32.ofInt z
def lI (z : Int) : Int64 := Int64.ofInt z
theorem iI_of (x : Int32) : iI x.toInt = x := Int32.ofInt_toInt x
theorem iI_to {z : Int} (h1 : -2147483648 ≤ z) (h2 : z < 2147483648) : (iI z).toInt = z := Int32.toInt_ofInt_of_le (by omega) (by omega)
theorem iI_add (a b : Int) : iI a + iI b = iI (a + b) := (Int32.ofInt_add a b).symm
theorem iI_sub (a b : Int) : iI a - iI b = iI (a - b) := (Int32.ofInt_sub a b).symm
theorem iI_mul (a b : Int) : iI a * iI b = iI (a * b) := (Int32.ofInt_mul a b).symm
theorem iI_neg (a : Int) : -iI a = iI (-a) := (Int32.ofInt_neg a).symm
theorem iI_eq {a b : Int} (ha : -2147483648 ≤ a ∧ a < 2147483648) (hb : -2147483648 ≤ b ∧ b < 2147483648) : iI a = iI b ↔ a = b := by
  rw [← Int32.toInt_inj, iI_to ha.1 ha.2, iI_to hb.1 hb.2]
theorem iI_lt {a b : Int} (ha : -2147483648 ≤ a ∧ a < 2147483648) (hb : -2147483648 ≤ b ∧ b < 2147483648) : iI a < iI b ↔ a < b := by
  rw [Int32.lt_iff_toInt_lt, iI_to ha.1 ha.2, iI_to hb.1 hb.2]
theorem iI_le {a b : Int} (ha : -2147483648 ≤ a ∧ a < 2147483648) (hb : -2147483648 ≤ b ∧ b < 2147483648) : iI a ≤ iI b ↔ a ≤ b := by
  rw [Int32.le_iff_toInt_le, iI_to ha.1 ha.2, iI_to hb.1 hb.2]
theorem iI_0 : iI 0 = 0 := rfl
/-- a number wrapped into the ints -/
def zr (z : Int) : Int := (iI z).toInt
theorem zr_rg (z : Int) : -2147483648 ≤ zr z ∧ zr z < 2147483648 := ⟨Int32.le_toInt (iI z), Int32.toInt_lt (iI z)⟩
theorem iI_zr (z : Int) : iI (zr z) = iI z := iI_of (iI z)
theorem zr_of {z : Int} (h1 : -2147483648 ≤ z) (h2 : z < 2147483648) : zr z = z := iI_to h1 h2
def zdiv (a b : Int) : Int := (iI a / iI b).toInt
theorem zdiv_rg (a b : Int) : -2147483648 ≤ zdiv a b ∧ zdiv a b < 2147483648 := ⟨Int32.le_toInt _, Int32.toInt_lt _⟩
theorem iI_div (a b : Int) : iI a / iI b = iI (zdiv a b) := (iI_of _).symm
theorem iI_divN {a b : Int} (h1 : 0 ≤ a) (h2 : a < 2147483648) (h3 : 0 < b) (h4 : b < 2147483648) : iI a / iI b = iI (a / b) := by
  have h := Int32.ofInt_tdiv (a := a) (b := b) (by simp [Int32.toInt_minValue]; omega) (by simp [Int32.toInt_maxValue]; omega) (by simp [Int32.toInt_minValue]; omega) (by simp [Int32.toInt_maxValue]; omega)
  rw [Int.tdiv_eq_ediv_of_nonneg h1] at h
  exact h.symm
theorem iI_remN {a b : Int} (h1 : 0 ≤ a) (h2 : a < 2147483648) (h3 : 0 < b) (h4 : b < 2147483648) : iI a - iI a / iI b * iI b = iI (a % b) := by
  rw [iI_divN h1 h2 h3 h4, iI_mul, iI_sub]
  congr 1
  have := Int.mul_ediv_add_emod a b
  rw [Int.mul_comm] at this
  omega
theorem lI_add (a b : Int) : lI a + lI b = lI (a + b) := (Int64.ofInt_add a b).symm
theorem lI_mul (a b : Int) : lI a * lI b = lI (a * b) := (Int64.ofInt_mul a b).symm
theorem lI_sub (a b : Int) : lI a - lI b = lI (a - b) := (Int64.ofInt_sub a b).symm
theorem lI_remN {a b : Int} (h1 : 0 ≤ a) (h2 : a < 9223372036854775808) (h3 : 0 < b) (h4 : b < 9223372036854775808) : lI a - lI a / lI b * lI b = lI (a % b) := by
  have h := Int64.ofInt_tdiv (a := a) (b := b) (by simp [Int64.toInt_minValue]; omega) (by simp [Int64.toInt_maxValue]; omega) (by simp [Int64.toInt_minValue]; omega) (by simp [Int64.toInt_maxValue]; omega)
  rw [Int.tdiv_eq_ediv_of_nonneg h1] at h
  have h' : lI a / lI b = lI (a / b) := h.symm
  rw [h', lI_mul, lI_sub]
  congr 1
  have := Int.mul_ediv_add_emod a b
  rw [Int.mul_comm] at this
  omega
theorem iI_l {a : Int} (h1 : -2147483648 ≤ a) (h2 : a < 2147483648) : (iI a).toInt64 = lI a := Int32.toInt64_ofInt (by simp [Int32.toInt_minValue]; omega) (by simp [Int32.toInt_maxValue]; omega)
theorem lI_i (a : Int) : (lI a).toInt32 = iI a := Int64.toInt32_ofInt
theorem lI_to {z : Int} (h1 : -9223372036854775808 ≤ z) (h2 : z < 9223372036854775808) : (lI z).toInt = z := Int64.toInt_ofInt_of_le (by omega) (by omega)
theorem lI_ne0 {a : Int} (h1 : 0 < a) (h2 : a < 9223372036854775808) : ¬ lI a = 0 := by
  intro h
  have := congrArg Int64.toInt h
  rw [lI_to (by omega) h2] at this
  simp at this
  omega
theorem iI_ne0 {a : Int} (h1 : 0 < a) (h2 : a < 2147483648) : ¬ iI a = 0 := by
  rw [← iI_0, iI_eq (by omega) (by omega)]; omega
theorem iI_clamp {z : Int} (h1 : 0 ≤ z) (h2 : z < 2147483648) : (iI z).toNatClampNeg = z.toNat := Int32.toNatClampNeg_ofInt_of_le (by omega) (by omega)
theorem iI_in {z : Int} {n : Nat} (h0 : 0 ≤ z) (h1 : z < n) (hn : n < 2147483648) : vp_in (iI z) n := by
  rw [vp_in_iff, iI_to (by omega) (by omega)]; omega
/-! an array's contents: a function of whole numbers -/
def za (F : Int → Int) : Nat → Int32 := fun k => iI (F (k : Int))
def ups (F : Int → Int) (z v : Int) : Int → Int := fun j => if j = z then v else F j
theorem za_at (F : Int → Int) {z : Int} (h : 0 ≤ z) : za F z.toNat = iI (F z) := by
  show iI (F (z.toNat : Int)) = _
  rw [Int.toNat_of_nonneg h]
theorem za_ups (F : Int → Int) {z : Int} (v : Int) (h : 0 ≤ z) : upd (za F) z.toNat (iI v) = za (ups F z v) := by
  funext k
  by_cases hk : k = z.toNat
  · have e9 : (k : Int) = z := by omega
    show (if k = z.toNat then iI v else za F k) = iI (if (k : Int) = z then v else F k)
    rw [if_pos hk, if_pos e9]
  · have e9 : ¬ (k : Int) = z := by omega
    show (if k = z.toNat then iI v else za F k) = iI (if (k : Int) = z then v else F k)
    rw [if_neg hk, if_neg e9]
    rfl
theorem ups_s (F : Int → Int) (z v : Int) : ups F z v z = v := by simp [ups]
theorem ups_n (F : Int → Int) {z j : Int} (v : Int) (h : j ≠ z) : ups F z v j = F j := by simp [ups, h]
def bI (P : Prop) [Decidable P] : Int := if P then 1 else 0
theorem bI_t {P : Prop} [Decidable P] (h : P) : bI P = 1 := by simp [bI, h]
theorem bI_f {P : Prop} [Decidable P] (h : ¬ P) : bI P = 0 := by simp [bI, h]
theorem bI_01 (P : Prop) [Decidable P] : bI P = 0 ∨ bI P = 1 := by unfold bI; split <;> simp
theorem bI_rg (P : Prop) [Decidable P] : 0 ≤ bI P ∧ bI P ≤ 1 := by rcases bI_01 P with h | h <;> rw [h] <;> omega
theorem bI_iff {P Q : Prop} [Decidable P] [Decidable Q] (h : P ↔ Q) : bI P = bI Q := by unfold bI; simp [h]
/-! the worlds: one list of array classes for all -/
abbrev zG : Type := va_G × ClassId × ClassId × ClassId
abbrev zTy (g : zG) : List (ClassId × FieldType) := [(g.2.1, .int), (g.2.2.1, .boolean), (g.2.2.2, .object "SoundPictures$State")]
abbrev zK (g : zG) (U : State) : Prop := va_K g.1 vwCl (zTy g) U
abbrev zP (g : zG) (ws : va_W) (H : Heap) : Prop := va_P g.1 vwCl ws H
abbrev zI (g : zG) (a n : Nat) (F : Int → Int) : Nat × va_E := (a, .inl (g.2.1, n, .inl (za F)))
abbrev zB (g : zG) (a n : Nat) (F : Int → Int) : Nat × va_E := (a, .inl (g.2.2.1, n, .inl (za F)))
/-- an array's contents count within its length alone -/
theorem zI_congr {g : zG} {a n : Nat} {F G : Int → Int} {H : Heap} (h : ∀ j : Int, 0 ≤ j → j < n → F j = G j) (hF : va_at g.1 vwCl (zI g a n F) H) : va_at g.1 vwCl (zI g a n G) H := by
  show H[a]? = some (vp_cell g.2.1 (n, .inl (za G)))
  rw [show H[a]? = some (vp_cell g.2.1 (n, .inl (za F))) from hF]
  rw [vp_cell_i, vp_cell_i]
  congr 1
  unfold arrV
  congr 1
  apply congrArg
  funext j
  show Value.int (iI (F (j.val : Int))) = Value.int (iI (G (j.val : Int)))
  rw [h _ (by omega) (by have := j.isLt; omega)]
theorem zB_congr {g : zG} {a n : Nat} {F G : Int → Int} {H : Heap} (h : ∀ j : Int, 0 ≤ j → j < n → F j = G j) (hF : va_at g.1 vwCl (zB g a n F) H) : va_at g.1 vwCl (zB g a n G) H := by
  show H[a]? = some (vp_cell g.2.2.1 (n, .inl (za G)))
  rw [show H[a]? = some (vp_cell g.2.2.1 (n, .inl (za F))) from hF]
  rw [vp_cell_i, vp_cell_i]
  congr 1
  unfold arrV
  congr 1
  apply congrArg
  funext j
  show Value.int (iI (F (j.val : Int))) = Value.int (iI (G (j.val : Int)))
  rw [h _ (by omega) (by have := j.isLt; omega)]
theorem zP_set {g : zG} {ws : va_W} {H : Heap} (hP : zP g ws H) (q0 : Nat) {a : Nat} {c0 c1 : va_E} (h0 : ws[q0]? = some (a, c0)) (h : va_at g.1 vwCl (a, c0) H → va_at g.1 vwCl (a, c1) H) : zP g (ws.set q0 (a, c1)) H := by
  have hl := (List.getElem?_eq_some_iff.mp h0).1
  intro k q hk
  by_cases hkp : k = q0
  · subst hkp
    rw [List.getElem?_set_self hl] at hk
    cases hk
    exact h (hP k _ h0)
  · rw [List.getElem?_set_ne (Ne.symm hkp)] at hk
    exact hP k q hk
theorem zP_arr {g : zG} {ws : va_W} {H : Heap} (hP : zP g ws H) (q0 : Nat) {a n : Nat} {F : Int → Int} (G : Int → Int) (h0 : ws[q0]? = some (zI g a n F)) (h : ∀ j : Int, 0 ≤ j → j < n → F j = G j) : zP g (ws.set q0 (zI g a n G)) H := zP_set hP q0 h0 (zI_congr h)
theorem zP_arrB {g : zG} {ws : va_W} {H : Heap} (hP : zP g ws H) (q0 : Nat) {a n : Nat} {F : Int → Int} (G : Int → Int) (h0 : ws[q0]? = some (zB g a n F)) (h : ∀ j : Int, 0 ≤ j → j < n → F j = G j) : zP g (ws.set q0 (zB g a n G)) H := zP_set hP q0 h0 (zB_congr h)
theorem zD_set {A : Nat → Prop} {ws : va_W} (hD : va_D A ws) (q0 : Nat) {a : Nat} {c0 c1 : va_E} (h0 : ws[q0]? = some (a, c0)) : va_D A (ws.set q0 (a, c1)) := hD.set h0
end
section
/-! contracts: zS reads alone and answers an int; zE may write its world's cells and answers an int; zV answers nothing -/
def zS (l : Launch) (y : MethodName) (w : List Cond) (rm : Room) (g : zG) (av : List Value) (ws : va_W) (r : Int) : Prop :=
  Met l y w rm (va_Pc av (fun U => zP g ws U.heap ∧ zK g U)) (vp_Si (fun x => x = iI r)) 0 0 (fun _ => False)
def zSl (l : Launch) (y : MethodName) (w : List Cond) (rm : Room) (g : zG) (av : List Value) (ws : va_W) (r : Int) : Prop :=
  Met l y w rm (va_Pc av (fun U => zP g ws U.heap ∧ zK g U)) (vp_Sl (fun x => x = lI r)) 0 0 (fun _ => False)
abbrev zPre (g : zG) (ws : va_W) (sz : Nat) (U : State) : Prop := U.heap.size = sz ∧ zP g ws U.heap ∧ zK g U ∧ va_D (fun _ => True) ws
def zE (l : Launch) (y : MethodName) (w : List Cond) (rm : Room) (g : zG) (av : List Value) (ws : va_W) {S : Type} (post : Int → S → Prop) (wf : S → va_W) : Prop :=
  ∀ sz : Nat, Met l y w rm (va_Pc av (zPre g ws sz)) (va_Qi (fun x u => ∃ r : Int, x = iI r ∧ post r u) (fun u t => zP g (wf u) t.heap) (va_A ws sz)) 0 0 (va_A ws sz)
def zV (l : Launch) (y : MethodName) (w : List Cond) (rm : Room) (g : zG) (av : List Value) (ws : va_W) {S : Type} (post : S → Prop) (wf : S → va_W) : Prop :=
  ∀ sz : Nat, Met l y w rm (va_Pc av (zPre g ws sz)) (va_Qv post (fun u t => zP g (wf u) t.heap) (va_A ws sz)) 0 0 (va_A ws sz)
theorem zS_blind {g : zG} {av : List Value} {ws : va_W} : FrameBlind (va_Pc av (fun U => zP g ws U.heap ∧ zK g U)) := fun a U f mk q => by
  obtain ⟨q0, qP, qK⟩ := q
  exact ⟨q0, qP, va_K.moved (u := U) (U := U.calling f mk a) (Vm.Alike.refl U.vm) qK⟩
theorem zE_blind {g : zG} {av : List Value} {ws : va_W} {sz : Nat} : FrameBlind (va_Pc av (zPre g ws sz)) := fun a U f mk q => by
  obtain ⟨q0, q1, qP, qK, qD⟩ := q
  exact ⟨q0, q1, qP, va_K.moved (u := U) (U := U.calling f mk a) (Vm.Alike.refl U.vm) qK, qD⟩
/-! entries -/
theorem z_entS {l : Launch} {y : MethodName} {w w' : List Cond} {rm : Room} {g : zG} {av : List Value} {ws : va_W} {r : Int} {cc : ByteArray} {nL : Nat} {ret : Option FieldType} {own : String} (hy : plainName y.cls = true) (ho : y.cls = own) (hw : w = Cond.code y cc nL ret :: w') (hn : (lg_sl av).length ≤ nL)
    (body : ∀ (p : Program) (e : Env) (s : State) (m : MethodId) (below : List Frame) (meth : Method) (c : Code) (Q : State → Prop) (ls : Array Slot), CallFix p m c cc nL s av.toArray w own → meth.locks = false → meth.sig.returnType = ret → Q = MQ below (vp_Si (fun x => x = iI r)) av.toArray s 0 0 (fun _ => False) → zP g ws s.heap → zK g s → lv_has ls nL (lv_args 0 av) → W p l e rm s m av.toArray below meth c s.heap [] 0 0 Q (F0 m 0 ls [])) : zS l y w rm g av ws r := by
  refine Met.ofW (cc := cc) (maxL := nL) (ret := ret) hy hw ?_
  intro p e s m args below meth c s₁ B hml hv
  obtain ⟨rfl, hP, hK⟩ := hv
  rw [lg_entry_eq]
  exact body p e s m below meth c _ _ ⟨B.exec, B.bytes, hml, by rw [← ho]; exact findClass_of_methodNamed B.named, atoms_spec (ws := w) B.pre⟩ B.notSynchronized B.returns rfl hP hK (lv_entry av hn)
theorem z_entSl {l : Launch} {y : MethodName} {w w' : List Cond} {rm : Room} {g : zG} {av : List Value} {ws : va_W} {r : Int} {cc : ByteArray} {nL : Nat} {ret : Option FieldType} {own : String} (hy : plainName y.cls = true) (ho : y.cls = own) (hw : w = Cond.code y cc nL ret :: w') (hn : (lg_sl av).length ≤ nL)
    (body : ∀ (p : Program) (e : Env) (s : State) (m : MethodId) (below : List Frame) (meth : Method) (c : Code) (Q : State → Prop) (ls : Array Slot), CallFix p m c cc nL s av.toArray w own → meth.locks = false → meth.sig.returnType = ret → Q = MQ below (vp_Sl (fun x => x = lI r)) av.toArray s 0 0 (fun _ => False) → zP g ws s.heap → zK g s → lv_has ls nL (lv_args 0 av) → W p l e rm s m av.toArray below meth c s.heap [] 0 0 Q (F0 m 0 ls [])) : zSl l y w rm g av ws r := by
  refine Met.ofW (cc := cc) (maxL := nL) (ret := ret) hy hw ?_
  intro p e s m args below meth c s₁ B hml hv
  obtain ⟨rfl, hP, hK⟩ := hv
  rw [lg_entry_eq]
  exact body p e s m below meth c _ _ ⟨B.exec, B.bytes, hml, by rw [← ho]; exact findClass_of_methodNamed B.named, atoms_spec (ws := w) B.pre⟩ B.notSynchronized B.returns rfl hP hK (lv_entry av hn)
theorem z_entE {l : Launch} {y : MethodName} {w w' : List Cond} {rm : Room} {g : zG} {av : List Value} {ws : va_W} {S : Type} {post : Int → S → Prop} {wf : S → va_W} {cc : ByteArray} {nL : Nat} {ret : Option FieldType} {own : String} (hy : plainName y.cls = true) (ho : y.cls = own) (hw : w = Cond.code y cc nL ret :: w') (hn : (lg_sl av).length ≤ nL)
    (body : ∀ (p : Program) (e : Env) (s : State) (m : MethodId) (below : List Frame) (meth : Method) (c : Code) (Q : State → Prop) (ls : Array Slot) (A : Nat → Prop), CallFix p m c cc nL s av.toArray w own → meth.locks = false → meth.sig.returnType = ret → Q = MQ below (va_Qi (fun x u => ∃ r : Int, x = iI r ∧ post r u) (fun u t => zP g (wf u) t.heap) A) av.toArray s 0 0 A → zP g ws s.heap → zK g s → va_D A ws → (∀ q : Nat, s.heap.size ≤ q → A q) → va_S A s.heap s.heap [] → lv_has ls nL (lv_args 0 av) → W p l e rm s m av.toArray below meth c s.heap [] 0 0 Q (F0 m 0 ls [])) : zE l y w rm g av ws post wf := by
  intro sz
  refine Met.ofW (cc := cc) (maxL := nL) (ret := ret) hy hw ?_
  intro p e s m args below meth c s₁ B hml hv
  obtain ⟨rfl, hsz, hP, hK, hD⟩ := hv
  subst hsz
  rw [lg_entry_eq]
  exact body p e s m below meth c _ _ (va_A ws s.heap.size) ⟨B.exec, B.bytes, hml, by rw [← ho]; exact findClass_of_methodNamed B.named, atoms_spec (ws := w) B.pre⟩ B.notSynchronized B.returns rfl hP hK hD.self (fun _ h => Or.inr h) va_S.rf (lv_entry av hn)
theorem z_entV {l : Launch} {y : MethodName} {w w' : List Cond} {rm : Room} {g : zG} {av : List Value} {ws : va_W} {S : Type} {post : S → Prop} {wf : S → va_W} {cc : ByteArray} {nL : Nat} {ret : Option FieldType} {own : String} (hy : plainName y.cls = true) (ho : y.cls = own) (hw : w = Cond.code y cc nL ret :: w') (hn : (lg_sl av).length ≤ nL)
    (body : ∀ (p : Program) (e : Env) (s : State) (m : MethodId) (below : List Frame) (meth : Method) (c : Code) (Q : State → Prop) (ls : Array Slot) (A : Nat → Prop), CallFix p m c cc nL s av.toArray w own → meth.locks = false → meth.sig.returnType = ret → Q = MQ below (va_Qv post (fun u t => zP g (wf u) t.heap) A) av.toArray s 0 0 A → zP g ws s.heap → zK g s → va_D A ws → (∀ q : Nat, s.heap.size ≤ q → A q) → va_S A s.heap s.heap [] → lv_has ls nL (lv_args 0 av) → W p l e rm s m av.toArray below meth c s.heap [] 0 0 Q (F0 m 0 ls [])) : zV l y w rm g av ws post wf := by
  intro sz
  refine Met.ofW (cc := cc) (maxL := nL) (ret := ret) hy hw ?_
  intro p e s m args below meth c s₁ B hml hv
  obtain ⟨rfl, hsz, hP, hK, hD⟩ := hv
  subst hsz
  rw [lg_entry_eq]
  exact body p e s m below meth c _ _ (va_A ws s.heap.size) ⟨B.exec, B.bytes, hml, by rw [← ho]; exact findClass_of_methodNamed B.named, atoms_spec (ws := w) B.pre⟩ B.notSynchronized B.returns rfl hP hK hD.self (fun _ h => Or.inr h) va_S.rf (lv_entry av hn)
/-! a world in which some cells have new contents -/
def zm : va_W → List Nat → va_W → va_W
  | w, i :: is, c :: cs => zm (w.set i c) is cs
  | w, _, _ => w
theorem zm_get : ∀ (is : List Nat) (cs w : va_W) (k : Nat) (q : Nat × va_E), is.length = cs.length → (zm w is cs)[k]? = some q → (k ∉ is ∧ w[k]? = some q) ∨ q ∈ cs
  | [], cs, w, k, q, _, h => by
    unfold zm at h
    exact Or.inl ⟨List.not_mem_nil, h⟩
  | i :: is, [], w, k, q, hl, h => by simp at hl
  | i :: is, c :: cs, w, k, q, hl, h => by
    have h' : (zm (w.set i c) is cs)[k]? = some q := h
    rcases zm_get is cs (w.set i c) k q (by simpa using hl) h' with ⟨h1, h2⟩ | h1
    · by_cases hk : k = i
      · subst hk
        by_cases hlt : k < w.length
        · rw [List.getElem?_set_self hlt] at h2
          cases h2
          exact Or.inr List.mem_cons_self
        · rw [List.getElem?_eq_none (by simp; omega)] at h2
          cases h2
      · rw [List.getElem?_set_ne (Ne.symm hk)] at h2
        exact Or.inl ⟨fun z => (List.mem_cons.mp z).elim hk h1, h2⟩
    · exact Or.inr (List.mem_cons_of_mem _ h1)
theorem zm_addr : ∀ (is : List Nat) (cs w wc : va_W), is.map (fun i => w[i]?) = wc.map some → cs.map Prod.fst = wc.map Prod.fst → ∀ k : Nat, ((zm w is cs)[k]?).map Prod.fst = (w[k]?).map Prod.fst
  | [], cs, w, wc, _, _, k => by unfold zm; rfl
  | i :: is, [], w, wc, _, _, k => by unfold zm; rfl
  | i :: is, c :: cs, w, [], h, _, k => by simp at h
  | i :: is, c :: cs, w, d :: wc, h, ha, k => by
    simp only [List.map_cons, List.cons.injEq] at h ha
    obtain ⟨h1, h2⟩ := h
    obtain ⟨a1, a2⟩ := ha
    show ((zm (w.set i c) is cs)[k]?).map Prod.fst = _
    have hset : ∀ j : Nat, ((w.set i c)[j]?).map Prod.fst = (w[j]?).map Prod.fst := by
      intro j
      by_cases hj : j = i
      · subst hj
        have hlt := (List.getElem?_eq_some_iff.mp h1).1
        rw [List.getElem?_set_self hlt, h1]
        simp [a1]
      · rw [List.getElem?_set_ne (Ne.symm hj)]
    -- the callee's other cells, as the changed world has them
    have key : ∀ (is' : List Nat) (cs' w1 w2 : va_W), (∀ j : Nat, (w1[j]?).map Prod.fst = (w2[j]?).map Prod.fst) → (∀ (n : Nat) (x : Nat × va_E) (j : Nat), cs'[n]? = some x → is'[n]? = some j → (w2[j]?).map Prod.fst = some x.1) → ∀ k : Nat, ((zm w1 is' cs')[k]?).map Prod.fst = (w2[k]?).map Prod.fst := by
      intro is'
      induction is' with
      | nil => intro cs' w1 w2 e1 _ k; unfold zm; exact e1 k
      | cons i' is' ih =>
        intro cs' w1 w2 e1 e2 k
        cases cs' with
        | nil => unfold zm; exact e1 k
        | cons c' cs' =>
          show ((zm (w1.set i' c') is' cs')[k]?).map Prod.fst = _
          refine ih cs' _ w2 (fun j => ?_) (fun n x j hx hj => e2 (n + 1) x j (by simpa using hx) (by simpa using hj)) k
          by_cases hj : j = i'
          · subst hj
            have h3 := e2 0 c' j rfl rfl
            have hlt : j < w1.length := by
              rcases Nat.lt_or_ge j w1.length with z | z
              · exact z
              · have := e1 j
                rw [List.getElem?_eq_none z, h3] at this
                cases this
            rw [List.getElem?_set_self hlt, h3]
            rfl
          · rw [List.getElem?_set_ne (Ne.symm hj)]
            exact e1 j
    refine key is cs (w.set i c) w hset (fun n x j hx hj => ?_) k
    have h3 : (is.map (fun i => w[i]?))[n]? = some (w[j]?) := by rw [List.getElem?_map, hj]; rfl
    rw [h2, List.getElem?_map] at h3
    have h4 : (cs.map Prod.fst)[n]? = some x.1 := by rw [List.getElem?_map, hx]; rfl
    rw [a2, List.getElem?_map] at h4
    cases hy : wc[n]? with
    | none => rw [hy] at h4; cases h4
    | some y =>
      rw [hy] at h3 h4
      have e5 : y.1 = x.1 := Option.some.inj h4
      have e6 : some y = w[j]? := Option.some.inj h3
      rw [← e6, ← e5]
      rfl
theorem zD_addr {A : Nat → Prop} {w1 w2 : va_W} (h : ∀ k : Nat, (w2[k]?).map Prod.fst = (w1[k]?).map Prod.fst) (hD : va_D A w1) : va_D A w2 := by
  have key : ∀ (k : Nat) (q : Nat × va_E), w2[k]? = some q → ∃ q0, w1[k]? = some q0 ∧ q0.1 = q.1 := by
    intro k q hk
    have := h k
    rw [hk] at this
    cases hz : w1[k]? with
    | none => rw [hz] at this; cases this
    | some q0 => rw [hz] at this; exact ⟨q0, rfl, (Option.some.inj this).symm⟩
  refine ⟨fun i j x y hi hj hxy => ?_, fun k q hk => ?_⟩
  · obtain ⟨x0, h1, h2⟩ := key i x hi
    obtain ⟨y0, h3, h4⟩ := key j y hj
    exact hD.1 i j x0 y0 h1 h3 (h2.trans (hxy.trans h4.symm))
  · obtain ⟨q0, h1, h2⟩ := key k q hk
    rw [← h2]
    exact hD.2 k q0 h1
theorem zm_join {A0 : Nat → Prop} {D : va_G} {cl : List vw_C} {ws wc cs : va_W} {H H1 : Heap} (hP : va_P D cl ws H) (hD : va_D A0 ws) (is : List Nat) (hC : is.map (fun i => ws[i]?) = wc.map some) (ha : cs.map Prod.fst = wc.map Prod.fst)
    (hk : ∀ q : Nat, q < H.size → ¬ va_A wc H.size q → H1[q]? = H[q]?) (hP1 : va_P D cl cs H1) : va_P D cl (zm ws is cs) H1 ∧ va_D A0 (zm ws is cs) := by
  have hlen : is.length = cs.length := by
    have h1 := congrArg List.length hC
    have h2 := congrArg List.length ha
    simp at h1 h2
    omega
  refine ⟨fun k q hq => ?_, zD_addr (zm_addr is cs ws wc hC ha) hD⟩
  rcases zm_get is cs ws k q hlen hq with ⟨h1, h2⟩ | h1
  · have hl := (hP k q h2).lt
    refine (hP k q h2).kept (hk q.1 hl (fun h => ?_))
    rcases h with ⟨j, ee, h⟩ | h
    · have h3 : (is.map (fun i => ws[i]?))[j]? = some (some (q.1, ee)) := by rw [hC, List.getElem?_map, h]; rfl
      rw [List.getElem?_map] at h3
      cases hi : is[j]? with
      | none => rw [hi] at h3; cases h3
      | some i =>
        rw [hi] at h3
        have h4 : ws[i]? = some (q.1, ee) := Option.some.inj h3
        have h5 := hD.1 k i q (q.1, ee) h2 h4 rfl
        subst h5
        exact h1 (List.mem_of_getElem? hi)
    · omega
  · obtain ⟨j, hj⟩ := List.getElem?_of_mem h1
    exact hP1 j q hj
end
section
/-- a local's number under another name -/
theorem lv_chg {ls : Array Slot} {nL : Nat} {l : List (Nat × Value)} (h : lv_has ls nL l) (k : Nat) {i : Nat} {a b : Int} (hk : l[k]? = some (i, .int (iI a))) (e : a = b) : lv_has ls nL (l.set k (i, .int (iI b))) := by
  subst e
  have hl := (List.getElem?_eq_some_iff.mp hk)
  obtain ⟨h1, h2⟩ := hl
  rw [← h2, List.set_getElem_self]
  exact h
/-! one-instruction rows over whole numbers -/
section ZR
variable {p : Program} {l : Launch} {e : Env} {R : Room} {s : State} {m : MethodId} {args : Array Value} {below : List Frame} {meth : Method} {c : Code} {H : Heap} {locs : List Loc} {cells slots : Nat} {Q : State → Prop}
variable {cc : ByteArray} {pc : Nat} {ls : Array Slot} {rest : List Value} {g : zG} {ws : va_W} {A : Nat → Prop} {H0 : Heap} {own : String} {Ts : List Cond} {nL : Nat}
def zand (a b : Int) : Int := (iI a &&& iI b).toInt
theorem zand_rg (a b : Int) : -2147483648 ≤ zand a b ∧ zand a b < 2147483648 := ⟨Int32.le_toInt _, Int32.toInt_lt _⟩
theorem iI_and (a b : Int) : iI a &&& iI b = iI (zand a b) := (iI_of _).symm
theorem z_iadd (hx : p.tables.exec = Jvm.exec) (hb : c.code = cc) {a b : Int} (hd : decode cc pc = .ok (.iadd, 1))  (k : W p l e R s m args below meth c H locs cells slots Q (F0 m (pc + 1) ls (.int (iI (a + b)) :: rest))) : W p l e R s m args below meth c H locs cells slots Q (F0 m pc ls (.int (iI b) :: .int (iI a) :: rest)) := lv_iadd hx hb hd  (by rw [iI_add]; exact k)
theorem z_isub (hx : p.tables.exec = Jvm.exec) (hb : c.code = cc) {a b : Int} (hd : decode cc pc = .ok (.isub, 1))  (k : W p l e R s m args below meth c H locs cells slots Q (F0 m (pc + 1) ls (.int (iI (a - b)) :: rest))) : W p l e R s m args below meth c H locs cells slots Q (F0 m pc ls (.int (iI b) :: .int (iI a) :: rest)) := lv_isub hx hb hd  (by rw [iI_sub]; exact k)
theorem z_imul (hx : p.tables.exec = Jvm.exec) (hb : c.code = cc) {a b : Int} (hd : decode cc pc = .ok (.imul, 1))  (k : W p l e R s m args below meth c H locs cells slots Q (F0 m (pc + 1) ls (.int (iI (a * b)) :: rest))) : W p l e R s m args below meth c H locs cells slots Q (F0 m pc ls (.int (iI b) :: .int (iI a) :: rest)) := lv_imul hx hb hd  (by rw [iI_mul]; exact k)
theorem z_iand (hx : p.tables.exec = Jvm.exec) (hb : c.code = cc) {a b : Int} (hd : decode cc pc = .ok (.iand, 1))  (k : W p l e R s m args below meth c H locs cells slots Q (F0 m (pc + 1) ls (.int (iI (zand a b)) :: rest))) : W p l e R s m args below meth c H locs cells slots Q (F0 m pc ls (.int (iI b) :: .int (iI a) :: rest)) := lv_iand hx hb hd  (by rw [iI_and]; exact k)
theorem z_idiv (hx : p.tables.exec = Jvm.exec) (hb : c.code = cc) {a b : Int} (hd : decode cc pc = .ok (.idiv, 1)) (h3 : 0 < b) (h4 : b < 2147483648) (k : W p l e R s m args below meth c H locs cells slots Q (F0 m (pc + 1) ls (.int (iI (zdiv a b)) :: rest))) : W p l e R s m args below meth c H locs cells slots Q (F0 m pc ls (.int (iI b) :: .int (iI a) :: rest)) := lv_idiv hx hb hd (iI_ne0 h3 h4) (by rw [iI_div]; exact k)
theorem z_idivN (hx : p.tables.exec = Jvm.exec) (hb : c.code = cc) {a b : Int} (hd : decode cc pc = .ok (.idiv, 1)) (h1 : 0 ≤ a) (h2 : a < 2147483648) (h3 : 0 < b) (h4 : b < 2147483648) (k : W p l e R s m args below meth c H locs cells slots Q (F0 m (pc + 1) ls (.int (iI (a / b)) :: rest))) : W p l e R s m args below meth c H locs cells slots Q (F0 m pc ls (.int (iI b) :: .int (iI a) :: rest)) := lv_idiv hx hb hd (iI_ne0 h3 h4) (by rw [iI_divN h1 h2 h3 h4]; exact k)
theorem z_iremN (hx : p.tables.exec = Jvm.exec) (hb : c.code = cc) {a b : Int} (hd : decode cc pc = .ok (.irem, 1)) (h1 : 0 ≤ a) (h2 : a < 2147483648) (h3 : 0 < b) (h4 : b < 2147483648) (k : W p l e R s m args below meth c H locs cells slots Q (F0 m (pc + 1) ls (.int (iI (a % b)) :: rest))) : W p l e R s m args below meth c H locs cells slots Q (F0 m pc ls (.int (iI b) :: .int (iI a) :: rest)) := lv_irem hx hb hd (iI_ne0 h3 h4) (by rw [iI_remN h1 h2 h3 h4]; exact k)
theorem z_lmul (hx : p.tables.exec = Jvm.exec) (hb : c.code = cc) {a b : Int} (hd : decode cc pc = .ok (.lmul, 1))  (k : W p l e R s m args below meth c H locs cells slots Q (F0 m (pc + 1) ls (.long (lI (a * b)) :: rest))) : W p l e R s m args below meth c H locs cells slots Q (F0 m pc ls (.long (lI b) :: .long (lI a) :: rest)) := lv_lmul hx hb hd  (by rw [lI_mul]; exact k)
theorem z_ladd (hx : p.tables.exec = Jvm.exec) (hb : c.code = cc) {a b : Int} (hd : decode cc pc = .ok (.ladd, 1))  (k : W p l e R s m args below meth c H locs cells slots Q (F0 m (pc + 1) ls (.long (lI (a + b)) :: rest))) : W p l e R s m args below meth c H locs cells slots Q (F0 m pc ls (.long (lI b) :: .long (lI a) :: rest)) := lv_ladd hx hb hd  (by rw [lI_add]; exact k)
theorem z_lremN (hx : p.tables.exec = Jvm.exec) (hb : c.code = cc) {a b : Int} (hd : decode cc pc = .ok (.lrem, 1)) (h1 : 0 ≤ a) (h2 : a < 9223372036854775808) (h3 : 0 < b) (h4 : b < 9223372036854775808) (k : W p l e R s m args below meth c H locs cells slots Q (F0 m (pc + 1) ls (.long (lI (a % b)) :: rest))) : W p l e R s m args below meth c H locs cells slots Q (F0 m pc ls (.long (lI b) :: .long (lI a) :: rest)) := lv_lrem hx hb hd (lI_ne0 h3 h4) (by rw [lI_remN h1 h2 h3 h4]; exact k)
theorem z_ineg (hx : p.tables.exec = Jvm.exec) (hb : c.code = cc) {a : Int} (hd : decode cc pc = .ok (.ineg, 1)) (k : W p l e R s m args below meth c H locs cells slots Q (F0 m (pc + 1) ls (.int (iI (-a)) :: rest))) : W p l e R s m args below meth c H locs cells slots Q (F0 m pc ls (.int (iI a) :: rest)) := lv_ineg hx hb hd (by rw [iI_neg]; exact k)
theorem z_i2l (hx : p.tables.exec = Jvm.exec) (hb : c.code = cc) {a : Int} (hd : decode cc pc = .ok (.i2l, 1)) (h1 : -2147483648 ≤ a) (h2 : a < 2147483648) (k : W p l e R s m args below meth c H locs cells slots Q (F0 m (pc + 1) ls (.long (lI a) :: rest))) : W p l e R s m args below meth c H locs cells slots Q (F0 m pc ls (.int (iI a) :: rest)) := lv_i2l hx hb hd (iI_l h1 h2) k
theorem z_l2i (hx : p.tables.exec = Jvm.exec) (hb : c.code = cc) {a : Int} (hd : decode cc pc = .ok (.l2i, 1)) (k : W p l e R s m args below meth c H locs cells slots Q (F0 m (pc + 1) ls (.int (iI a) :: rest))) : W p l e R s m args below meth c H locs cells slots Q (F0 m pc ls (.long (lI a) :: rest)) := lv_l2i hx hb hd (lI_i a) k
theorem z_top {a b : Int} (h : a = b) (k : W p l e R s m args below meth c H locs cells slots Q (F0 m pc ls (.int (iI b) :: rest))) : W p l e R s m args below meth c H locs cells slots Q (F0 m pc ls (.int (iI a) :: rest)) := h ▸ k
theorem z_topI {a b : Int} (h : iI a = iI b) (k : W p l e R s m args below meth c H locs cells slots Q (F0 m pc ls (.int (iI b) :: rest))) : W p l e R s m args below meth c H locs cells slots Q (F0 m pc ls (.int (iI a) :: rest)) := h ▸ k
theorem z_topL {a b : Int} (h : a = b) (k : W p l e R s m args below meth c H locs cells slots Q (F0 m pc ls (.long (lI b) :: rest))) : W p l e R s m args below meth c H locs cells slots Q (F0 m pc ls (.long (lI a) :: rest)) := h ▸ k
theorem z_ldc (C : CallFix p m c cc nL s args Ts own) {index : Nat} {v : Int32} (hm : Jvm.Cond.constant own index v ∈ Ts) (z : Int) (hv : v = iI z) (hd : decode cc pc = .ok (.ldc index, 2)) (k : W p l e R s m args below meth c H locs cells slots Q (F0 m (pc + 2) ls (.int (iI z) :: rest))) : W p l e R s m args below meth c H locs cells slots Q (F0 m pc ls rest) := lv_ldc C.1 C.2.1 C.2.2.2.1 (C.2.2.2.2 _ hm) hd (by rw [hv]; exact k)
theorem z_ldc2 (C : CallFix p m c cc nL s args Ts own) {index : Nat} {v : Int64} (hm : Jvm.Cond.constantLong own index v ∈ Ts) (z : Int) (hv : v = lI z) (hd : decode cc pc = .ok (.ldc2_w index, 3)) (k : W p l e R s m args below meth c H locs cells slots Q (F0 m (pc + 3) ls (.long (lI z) :: rest))) : W p l e R s m args below meth c H locs cells slots Q (F0 m pc ls rest) := lv_ldc2 C.1 C.2.1 C.2.2.2.1 (C.2.2.2.2 _ hm) hd (by rw [hv]; exact k)
theorem z_iinc (hx : p.tables.exec = Jvm.exec) (hb : c.code = cc) {i nL k : Nat} {n a b : Int} {lv lv' : List (Nat × Value)} (hd : decode cc pc = .ok (.iinc i n, 3)) (h : lv_has ls nL lv) (hk : lv[k]? = some (i, .int (iI a))) (hv : a + n = b) (hn : i < nL) (hl : (i, Value.int (iI b)) :: lv.filter (fun q => !(q.1 == i) && !(q.1 + 1 == i && q.2.category == 2)) = lv') (kk : ∀ ls' : Array Slot, lv_has ls' nL lv' → W p l e R s m args below meth c H locs cells slots Q (F0 m (pc + 3) ls' rest)) : W p l e R s m args below meth c H locs cells slots Q (F0 m pc ls rest) := lv_iinc (v := iI b) hx hb hd h hk (by rw [← hv]; exact iI_add a n) hn hl kk
theorem z_icmp_eq (hx : p.tables.exec = Jvm.exec) (hb : c.code = cc) {a b : Int} {off : Int} {tgt : Nat} (hd : decode cc pc = .ok (.if_icmp .eq off, 3)) (ht : (pc : Int) + off = (tgt : Int)) (ha : -2147483648 ≤ a ∧ a < 2147483648) (hb2 : -2147483648 ≤ b ∧ b < 2147483648) (kt : a = b → W p l e R s m args below meth c H locs cells slots Q (F0 m tgt ls rest)) (kf : a ≠ b → W p l e R s m args below meth c H locs cells slots Q (F0 m (pc + 3) ls rest)) : W p l e R s m args below meth c H locs cells slots Q (F0 m pc ls (.int (iI b) :: .int (iI a) :: rest)) := lv_icmp_eq hx hb hd ht (fun h => kt (by rw [iI_eq ha hb2] at h; omega)) (fun h => kf (by rw [iI_eq ha hb2] at h; omega))
theorem z_if_eq (hx : p.tables.exec = Jvm.exec) (hb : c.code = cc) {a : Int} {off : Int} {tgt : Nat} (hd : decode cc pc = .ok (.ifCond .eq off, 3)) (ht : (pc : Int) + off = (tgt : Int)) (ha : -2147483648 ≤ a ∧ a < 2147483648) (kt : a = 0 → W p l e R s m args below meth c H locs cells slots Q (F0 m tgt ls rest)) (kf : a ≠ 0 → W p l e R s m args below meth c H locs cells slots Q (F0 m (pc + 3) ls rest)) : W p l e R s m args below meth c H locs cells slots Q (F0 m pc ls (.int (iI a) :: rest)) := lv_if_eq hx hb hd ht (fun h => kt (by rw [← iI_0] at h; rw [iI_eq (ha) (by omega)] at h; omega)) (fun h => kf (by rw [← iI_0] at h; rw [iI_eq (ha) (by omega)] at h; omega))
theorem z_icmp_ne (hx : p.tables.exec = Jvm.exec) (hb : c.code = cc) {a b : Int} {off : Int} {tgt : Nat} (hd : decode cc pc = .ok (.if_icmp .ne off, 3)) (ht : (pc : Int) + off = (tgt : Int)) (ha : -2147483648 ≤ a ∧ a < 2147483648) (hb2 : -2147483648 ≤ b ∧ b < 2147483648) (kt : a ≠ b → W p l e R s m args below meth c H locs cells slots Q (F0 m tgt ls rest)) (kf : a = b → W p l e R s m args below meth c H locs cells slots Q (F0 m (pc + 3) ls rest)) : W p l e R s m args below meth c H locs cells slots Q (F0 m pc ls (.int (iI b) :: .int (iI a) :: rest)) := lv_icmp_ne hx hb hd ht (fun h => kt (by rw [iI_eq ha hb2] at h; omega)) (fun h => kf (by rw [iI_eq ha hb2] at h; omega))
theorem z_if_ne (hx : p.tables.exec = Jvm.exec) (hb : c.code = cc) {a : Int} {off : Int} {tgt : Nat} (hd : decode cc pc = .ok (.ifCond .ne off, 3)) (ht : (pc : Int) + off = (tgt : Int)) (ha : -2147483648 ≤ a ∧ a < 2147483648) (kt : a ≠ 0 → W p l e R s m args below meth c H locs cells slots Q (F0 m tgt ls rest)) (kf : a = 0 → W p l e R s m args below meth c H locs cells slots Q (F0 m (pc + 3) ls rest)) : W p l e R s m args below meth c H locs cells slots Q (F0 m pc ls (.int (iI a) :: rest)) := lv_if_ne hx hb hd ht (fun h => kt (by rw [← iI_0] at h; rw [iI_eq (ha) (by omega)] at h; omega)) (fun h => kf (by rw [← iI_0] at h; rw [iI_eq (ha) (by omega)] at h; omega))
theorem z_icmp_lt (hx : p.tables.exec = Jvm.exec) (hb : c.code = cc) {a b : Int} {off : Int} {tgt : Nat} (hd : decode cc pc = .ok (.if_icmp .lt off, 3)) (ht : (pc : Int) + off = (tgt : Int)) (ha : -2147483648 ≤ a ∧ a < 2147483648) (hb2 : -2147483648 ≤ b ∧ b < 2147483648) (kt : a < b → W p l e R s m args below meth c H locs cells slots Q (F0 m tgt ls rest)) (kf : b ≤ a → W p l e R s m args below meth c H locs cells slots Q (F0 m (pc + 3) ls rest)) : W p l e R s m args below meth c H locs cells slots Q (F0 m pc ls (.int (iI b) :: .int (iI a) :: rest)) := lv_icmp_lt hx hb hd ht (fun h => kt (by rw [iI_lt ha hb2] at h; omega)) (fun h => kf (by rw [iI_lt ha hb2] at h; omega))
theorem z_if_lt (hx : p.tables.exec = Jvm.exec) (hb : c.code = cc) {a : Int} {off : Int} {tgt : Nat} (hd : decode cc pc = .ok (.ifCond .lt off, 3)) (ht : (pc : Int) + off = (tgt : Int)) (ha : -2147483648 ≤ a ∧ a < 2147483648) (kt : a < 0 → W p l e R s m args below meth c H locs cells slots Q (F0 m tgt ls rest)) (kf : 0 ≤ a → W p l e R s m args below meth c H locs cells slots Q (F0 m (pc + 3) ls rest)) : W p l e R s m args below meth c H locs cells slots Q (F0 m pc ls (.int (iI a) :: rest)) := lv_if_lt hx hb hd ht (fun h => kt (by rw [← iI_0] at h; rw [iI_lt (ha) (by omega)] at h; omega)) (fun h => kf (by rw [← iI_0] at h; rw [iI_lt (ha) (by omega)] at h; omega))
theorem z_icmp_ge (hx : p.tables.exec = Jvm.exec) (hb : c.code = cc) {a b : Int} {off : Int} {tgt : Nat} (hd : decode cc pc = .ok (.if_icmp .ge off, 3)) (ht : (pc : Int) + off = (tgt : Int)) (ha : -2147483648 ≤ a ∧ a < 2147483648) (hb2 : -2147483648 ≤ b ∧ b < 2147483648) (kt : b ≤ a → W p l e R s m args below meth c H locs cells slots Q (F0 m tgt ls rest)) (kf : a < b → W p l e R s m args below meth c H locs cells slots Q (F0 m (pc + 3) ls rest)) : W p l e R s m args below meth c H locs cells slots Q (F0 m pc ls (.int (iI b) :: .int (iI a) :: rest)) := lv_icmp_ge hx hb hd ht (fun h => kt (by rw [iI_le hb2 ha] at h; omega)) (fun h => kf (by rw [iI_le hb2 ha] at h; omega))
theorem z_if_ge (hx : p.tables.exec = Jvm.exec) (hb : c.code = cc) {a : Int} {off : Int} {tgt : Nat} (hd : decode cc pc = .ok (.ifCond .ge off, 3)) (ht : (pc : Int) + off = (tgt : Int)) (ha : -2147483648 ≤ a ∧ a < 2147483648) (kt : 0 ≤ a → W p l e R s m args below meth c H locs cells slots Q (F0 m tgt ls rest)) (kf : a < 0 → W p l e R s m args below meth c H locs cells slots Q (F0 m (pc + 3) ls rest)) : W p l e R s m args below meth c H locs cells slots Q (F0 m pc ls (.int (iI a) :: rest)) := lv_if_ge hx hb hd ht (fun h => kt (by rw [← iI_0] at h; rw [iI_le (by omega) (ha)] at h; omega)) (fun h => kf (by rw [← iI_0] at h; rw [iI_le (by omega) (ha)] at h; omega))
theorem z_icmp_gt (hx : p.tables.exec = Jvm.exec) (hb : c.code = cc) {a b : Int} {off : Int} {tgt : Nat} (hd : decode cc pc = .ok (.if_icmp .gt off, 3)) (ht : (pc : Int) + off = (tgt : Int)) (ha : -2147483648 ≤ a ∧ a < 2147483648) (hb2 : -2147483648 ≤ b ∧ b < 2147483648) (kt : b < a → W p l e R s m args below meth c H locs cells slots Q (F0 m tgt ls rest)) (kf : a ≤ b → W p l e R s m args below meth c H locs cells slots Q (F0 m (pc + 3) ls rest)) : W p l e R s m args below meth c H locs cells slots Q (F0 m pc ls (.int (iI b) :: .int (iI a) :: rest)) := lv_icmp_gt hx hb hd ht (fun h => kt (by rw [iI_lt hb2 ha] at h; omega)) (fun h => kf (by rw [iI_lt hb2 ha] at h; omega))
theorem z_if_gt (hx : p.tables.exec = Jvm.exec) (hb : c.code = cc) {a : Int} {off : Int} {tgt : Nat} (hd : decode cc pc = .ok (.ifCond .gt off, 3)) (ht : (pc : Int) + off = (tgt : Int)) (ha : -2147483648 ≤ a ∧ a < 2147483648) (kt : 0 < a → W p l e R s m args below meth c H locs cells slots Q (F0 m tgt ls rest)) (kf : a ≤ 0 → W p l e R s m args below meth c H locs cells slots Q (F0 m (pc + 3) ls rest)) : W p l e R s m args below meth c H locs cells slots Q (F0 m pc ls (.int (iI a) :: rest)) := lv_if_gt hx hb hd ht (fun h => kt (by rw [← iI_0] at h; rw [iI_lt (by omega) (ha)] at h; omega)) (fun h => kf (by rw [← iI_0] at h; rw [iI_lt (by omega) (ha)] at h; omega))
theorem z_icmp_le (hx : p.tables.exec = Jvm.exec) (hb : c.code = cc) {a b : Int} {off : Int} {tgt : Nat} (hd : decode cc pc = .ok (.if_icmp .le off, 3)) (ht : (pc : Int) + off = (tgt : Int)) (ha : -2147483648 ≤ a ∧ a < 2147483648) (hb2 : -2147483648 ≤ b ∧ b < 2147483648) (kt : a ≤ b → W p l e R s m args below meth c H locs cells slots Q (F0 m tgt ls rest)) (kf : b < a → W p l e R s m args below meth c H locs cells slots Q (F0 m (pc + 3) ls rest)) : W p l e R s m args below meth c H locs cells slots Q (F0 m pc ls (.int (iI b) :: .int (iI a) :: rest)) := lv_icmp_le hx hb hd ht (fun h => kt (by rw [iI_le ha hb2] at h; omega)) (fun h => kf (by rw [iI_le ha hb2] at h; omega))
theorem z_if_le (hx : p.tables.exec = Jvm.exec) (hb : c.code = cc) {a : Int} {off : Int} {tgt : Nat} (hd : decode cc pc = .ok (.ifCond .le off, 3)) (ht : (pc : Int) + off = (tgt : Int)) (ha : -2147483648 ≤ a ∧ a < 2147483648) (kt : a ≤ 0 → W p l e R s m args below meth c H locs cells slots Q (F0 m tgt ls rest)) (kf : 0 < a → W p l e R s m args below meth c H locs cells slots Q (F0 m (pc + 3) ls rest)) : W p l e R s m args below meth c H locs cells slots Q (F0 m pc ls (.int (iI a) :: rest)) := lv_if_le hx hb hd ht (fun h => kt (by rw [← iI_0] at h; rw [iI_le (ha) (by omega)] at h; omega)) (fun h => kf (by rw [← iI_0] at h; rw [iI_le (ha) (by omega)] at h; omega))
theorem z_ifb_ne (hx : p.tables.exec = Jvm.exec) (hb : c.code = cc) {B : Prop} [hB : Decidable B] {off : Int} {tgt : Nat} (hd : decode cc pc = .ok (.ifCond .ne off, 3)) (ht : (pc : Int) + off = (tgt : Int)) (kt : B → W p l e R s m args below meth c H locs cells slots Q (F0 m tgt ls rest)) (kf : ¬ B → W p l e R s m args below meth c H locs cells slots Q (F0 m (pc + 3) ls rest)) : W p l e R s m args below meth c H locs cells slots Q (F0 m pc ls (.int (iI (bI B)) :: rest)) := by
  refine z_if_ne hx hb hd ht (by have := bI_rg B; omega) (fun h => kt ?_) (fun h => kf ?_)
  · exact Decidable.byContradiction (fun h2 => h (bI_f h2))
  · intro h2; rw [bI_t h2] at h; omega
theorem z_ifb_eq (hx : p.tables.exec = Jvm.exec) (hb : c.code = cc) {B : Prop} [hB : Decidable B] {off : Int} {tgt : Nat} (hd : decode cc pc = .ok (.ifCond .eq off, 3)) (ht : (pc : Int) + off = (tgt : Int)) (kt : ¬ B → W p l e R s m args below meth c H locs cells slots Q (F0 m tgt ls rest)) (kf : B → W p l e R s m args below meth c H locs cells slots Q (F0 m (pc + 3) ls rest)) : W p l e R s m args below meth c H locs cells slots Q (F0 m pc ls (.int (iI (bI B)) :: rest)) := by
  refine z_if_eq hx hb hd ht (by have := bI_rg B; omega) (fun h => kt ?_) (fun h => kf ?_)
  · intro h2; rw [bI_t h2] at h; omega
  · exact Decidable.byContradiction (fun h2 => h (bI_f h2))
theorem z_iald (hx : p.tables.exec = Jvm.exec) (hb : c.code = cc) (hK : zK g s) (hP : zP g ws H) (q0 : Nat) {a n : Nat} {F : Int → Int} (ha : ws[q0]? = some (a, .inl (g.2.1, n, .inl (za F)))) {z : Int} (h0 : 0 ≤ z) (h1 : z < n) (hn : n < 2147483648) (hd : decode cc pc = .ok (.iaload, 1)) (k : W p l e R s m args below meth c H locs cells slots Q (F0 m (pc + 1) ls (.int (iI (F z)) :: rest))) : W p l e R s m args below meth c H locs cells slots Q (F0 m pc ls (.int (iI z) :: .ref a :: rest)) := va_iald hx hb hK hP q0 0 ha rfl (iI_in h0 h1 hn) hd (by rw [iI_clamp h0 (by omega), za_at F h0]; exact k)
theorem z_bald (hx : p.tables.exec = Jvm.exec) (hb : c.code = cc) (hK : zK g s) (hP : zP g ws H) (q0 : Nat) {a n : Nat} {F : Int → Int} (ha : ws[q0]? = some (a, .inl (g.2.2.1, n, .inl (za F)))) {z : Int} (h0 : 0 ≤ z) (h1 : z < n) (hn : n < 2147483648) (hd : decode cc pc = .ok (.baload, 1)) (k : W p l e R s m args below meth c H locs cells slots Q (F0 m (pc + 1) ls (.int (iI (F z)) :: rest))) : W p l e R s m args below meth c H locs cells slots Q (F0 m pc ls (.int (iI z) :: .ref a :: rest)) := va_zald hx hb hK hP q0 1 ha rfl (iI_in h0 h1 hn) hd (by rw [iI_clamp h0 (by omega), za_at F h0]; exact k)
theorem z_iast (hx : p.tables.exec = Jvm.exec) (hb : c.code = cc) (hK : zK g s) (hP : zP g ws H) (hD : va_D A ws) (hS : va_S A H0 H locs) (q0 : Nat) {a n : Nat} {F : Int → Int} (ha : ws[q0]? = some (a, .inl (g.2.1, n, .inl (za F)))) {z v : Int} (h0 : 0 ≤ z) (h1 : z < n) (hn : n < 2147483648) (hd : decode cc pc = .ok (.iastore, 1)) (k : ∀ (H1 : Heap) (locs1 : List Loc), zP g (ws.set q0 (a, .inl (g.2.1, n, .inl (za (ups F z v))))) H1 → va_D A (ws.set q0 (a, .inl (g.2.1, n, .inl (za (ups F z v))))) → va_S A H0 H1 locs1 → W p l e R s m args below meth c H1 locs1 cells slots Q (F0 m (pc + 1) ls rest)) : W p l e R s m args below meth c H locs cells slots Q (F0 m pc ls (.int (iI v) :: .int (iI z) :: .ref a :: rest)) := va_iast hx hb hK hP hD hS q0 0 ha rfl (iI_in h0 h1 hn) hd (by rw [iI_clamp h0 (by omega), za_ups F v h0]; exact k)
theorem z_bast (hx : p.tables.exec = Jvm.exec) (hb : c.code = cc) (hK : zK g s) (hP : zP g ws H) (hD : va_D A ws) (hS : va_S A H0 H locs) (q0 : Nat) {a n : Nat} {F : Int → Int} (ha : ws[q0]? = some (a, .inl (g.2.2.1, n, .inl (za F)))) {z v : Int} (h0 : 0 ≤ z) (h1 : z < n) (hn : n < 2147483648) (hv : v = 0 ∨ v = 1) (hd : decode cc pc = .ok (.bastore, 1)) (k : ∀ (H1 : Heap) (locs1 : List Loc), zP g (ws.set q0 (a, .inl (g.2.2.1, n, .inl (za (ups F z v))))) H1 → va_D A (ws.set q0 (a, .inl (g.2.2.1, n, .inl (za (ups F z v))))) → va_S A H0 H1 locs1 → W p l e R s m args below meth c H1 locs1 cells slots Q (F0 m (pc + 1) ls rest)) : W p l e R s m args below meth c H locs cells slots Q (F0 m pc ls (.int (iI v) :: .int (iI z) :: .ref a :: rest)) := va_zast hx hb hK hP hD hS q0 1 ha rfl (iI_in h0 h1 hn) hd (by
  have hnar : vp_nar .boolean (iI v) = iI v := by rcases hv with rfl | rfl <;> decide +kernel
  rw [iI_clamp h0 (by omega), hnar, za_ups F v h0]; exact k)
theorem z_get (C : CallFix p m c cc nL s args Ts own) {Cn : String} {T : u_T} {N ci index a : Nat} (hin : ∀ w ∈ u_ws Cn T N, w ∈ Ts) (hK : zK g s) (hP : zP g ws H) (q0 : Nat) {fs : List Value} (he : ws[q0]? = some (a, .inr (ci, fs))) (hc : vwCl[ci]? = some (Cn, T, N)) (k : Nat) (hk : k < N) (hm : Cond.fieldLink own index (T k).1 (T k).2.1 (T k).2.2.1 ∈ Ts) {v : Value} (hv : fs[k]? = some v) (hd : decode cc pc = .ok (.getfield index, 3)) (kk : W p l e R s m args below meth c H locs cells slots Q (F0 m (pc + 3) ls (v :: rest))) : W p l e R s m args below meth c H locs cells slots Q (F0 m pc ls (.ref a :: rest)) := va_get C.1 C.2.1 C.2.2.2.2 hin C.2.2.2.1 hK hP q0 he hc k hk (C.2.2.2.2 _ hm) (fun _ h9 => h9) hv hd kk
theorem z_put (C : CallFix p m c cc nL s args Ts own) {Cn : String} {T : u_T} {N ci index a : Nat} (hin : ∀ w ∈ u_ws Cn T N, w ∈ Ts) (ty0 : Nat → FieldType) (hty : ∀ k, k < N → parseFieldDescriptor (T k).2.2.1 = some (ty0 k)) (hnm : ∀ a, a < N → ∀ b, b < N → a ≠ b → (T a).2.1 ≠ (T b).2.1) (hK : zK g s) (hP : zP g ws H) (hD : va_D A ws) (hS : va_S A H0 H locs) (q0 : Nat) {fs : List Value} (he : ws[q0]? = some (a, .inr (ci, fs))) (hc : vwCl[ci]? = some (Cn, T, N)) (k : Nat) (hk : k < N) (hm : Cond.fieldLink own index (T k).1 (T k).2.1 (T k).2.2.1 ∈ Ts) (hfin : (T k).2.2.2 = false) {v : Value} (hn : narrow (ty0 k) v = v) (hfit : fits (ty0 k) v = true) (hl : k < fs.length) (hd : decode cc pc = .ok (.putfield index, 3)) (kk : ∀ (H1 : Heap) (locs1 : List Loc), zP g (ws.set q0 (a, .inr (ci, fs.set k v))) H1 → va_D A (ws.set q0 (a, .inr (ci, fs.set k v))) → va_S A H0 H1 locs1 → W p l e R s m args below meth c H1 locs1 cells slots Q (F0 m (pc + 3) ls rest)) : W p l e R s m args below meth c H locs cells slots Q (F0 m pc ls (v :: .ref a :: rest)) := va_put C.1 C.2.1 C.2.2.2.2 hin ty0 hty hnm C.2.2.2.1 hK hP hD hS q0 he hc k hk (C.2.2.2.2 _ hm) (fun _ h9 => h9) hfin (hty k hk) hn hfit hl hd kk
theorem z_mmax (C : CallFix p m c cc nL s args Ts own) (hz : ls.size = nL) {index : Nat} (h1 : Cond.methodLink own index Lib.Math.max.name ∈ Ts) (h2 : Cond.static Lib.Math.max.name ∈ Ts) (h3 : Cond.initialized "java/lang/Math" ∈ Ts) (h4 : Cond.code Lib.Math.max.name Lib.Math.max.code 2 (some .int) ∈ Ts) (hf : 1 ≤ R.frames) (hlo : (rest.map fun v => v.category).sum + 13 ≤ R.locals) (hc : cells ≤ R.cells) (hs : slots ≤ R.slots) {a b : Int} (hd : decode cc pc = .ok (.invokestatic index, 3)) (k : W p l e R s m args below meth c H locs cells slots Q (F0 m (pc + 3) ls (.int (iI (if zr a < zr b then b else a)) :: rest))) : W p l e R s m args below meth c H locs cells slots Q (F0 m pc ls (.int (iI b) :: .int (iI a) :: rest)) := va_mmax C.1 C.2.1 (C.2.2.1.trans hz.symm) C.2.2.2.1 (C.2.2.2.2 _ h1) (C.2.2.2.2 _ h2) (C.2.2.2.2 _ h3) (C.2.2.2.2 _ h4) hf hlo hc hs hd (by
  have e9 : (if iI a < iI b then iI b else iI a) = iI (if zr a < zr b then b else a) := by
    have hq : iI a < iI b ↔ zr a < zr b := Int32.lt_iff_toInt_lt
    by_cases h9 : iI a < iI b
    · rw [if_pos h9, if_pos (hq.mp h9)]
    · rw [if_neg h9, if_neg (fun z => h9 (hq.mpr z))]
  rw [e9]; exact k)
theorem z_mmin (C : CallFix p m c cc nL s args Ts own) (hz : ls.size = nL) {index : Nat} (h1 : Cond.methodLink own index Lib.Math.min.name ∈ Ts) (h2 : Cond.static Lib.Math.min.name ∈ Ts) (h3 : Cond.initialized "java/lang/Math" ∈ Ts) (h4 : Cond.code Lib.Math.min.name Lib.Math.min.code 2 (some .int) ∈ Ts) (hf : 1 ≤ R.frames) (hlo : (rest.map fun v => v.category).sum + 13 ≤ R.locals) (hc : cells ≤ R.cells) (hs : slots ≤ R.slots) {a b : Int} (hd : decode cc pc = .ok (.invokestatic index, 3)) (k : W p l e R s m args below meth c H locs cells slots Q (F0 m (pc + 3) ls (.int (iI (if zr b < zr a then b else a)) :: rest))) : W p l e R s m args below meth c H locs cells slots Q (F0 m pc ls (.int (iI b) :: .int (iI a) :: rest)) := va_mmin C.1 C.2.1 (C.2.2.1.trans hz.symm) C.2.2.2.1 (C.2.2.2.2 _ h1) (C.2.2.2.2 _ h2) (C.2.2.2.2 _ h3) (C.2.2.2.2 _ h4) hf hlo hc hs hd (by
  have e9 : (if iI b < iI a then iI b else iI a) = iI (if zr b < zr a then b else a) := by
    have hq : iI b < iI a ↔ zr b < zr a := Int32.lt_iff_toInt_lt
    by_cases h9 : iI b < iI a
    · rw [if_pos h9, if_pos (hq.mp h9)]
    · rw [if_neg h9, if_neg (fun z => h9 (hq.mpr z))]
  rw [e9]; exact k)
theorem za_cpy (F G : Int → Int) {sp dp n : Int} (h1 : 0 ≤ sp) (h2 : 0 ≤ dp) (h3 : 0 ≤ n) : va_cpy (za F) (za G) sp.toNat dp.toNat n.toNat = za (fun j => if dp ≤ j ∧ j < dp + n then F (sp + (j - dp)) else G j) := by
  funext k
  show (if dp.toNat ≤ k ∧ k < dp.toNat + n.toNat then iI (F ((sp.toNat + (k - dp.toNat) : Nat) : Int)) else iI (G (k : Int))) = iI (if dp ≤ (k : Int) ∧ (k : Int) < dp + n then F (sp + ((k : Int) - dp)) else G (k : Int))
  by_cases h : dp.toNat ≤ k ∧ k < dp.toNat + n.toNat
  · have h' : dp ≤ (k : Int) ∧ (k : Int) < dp + n := by omega
    rw [if_pos h, if_pos h']
    have e9 : ((sp.toNat + (k - dp.toNat) : Nat) : Int) = sp + ((k : Int) - dp) := by omega
    rw [e9]
  · have h' : ¬ (dp ≤ (k : Int) ∧ (k : Int) < dp + n) := by omega
    rw [if_neg h, if_neg h']
theorem z_copy (C : CallFix p m c cc nL s args Ts own) (hz : ls.size = nL) {index : Nat} (m1 : Cond.methodLink own index arraycopyName ∈ Ts) (m2 : Cond.native arraycopyName ∈ Ts) (m3 : Cond.static arraycopyName ∈ Ts) (m4 : Cond.initialized "java/lang/System" ∈ Ts) (hK : zK g s) (hP : zP g ws H) (hD : va_D A ws) (hS : va_S A H0 H locs) (q0 q1 : Nat) {a0 a n0 n1 : Nat} {F G : Int → Int} (ha0 : ws[q0]? = some (a0, .inl (g.2.1, n0, .inl (za F)))) (ha1 : ws[q1]? = some (a, .inl (g.2.1, n1, .inl (za G)))) {sp dp n : Int} (h1 : 0 ≤ sp) (h2 : 0 ≤ dp) (h3 : 0 ≤ n) (h4 : sp + n ≤ n0) (h5 : dp + n ≤ n1) (h6 : n0 < 2147483648) (h7 : n1 < 2147483648) (hf : 1 ≤ R.frames) (hlo : (rest.map fun v => v.category).sum + (nativeFrameWords "java/lang/System" "arraycopy" 5 + 11) ≤ R.locals) (hd : decode cc pc = .ok (.invokestatic index, 3))
    (k : ∀ (H1 : Heap) (locs1 : List Loc), zP g (ws.set q1 (a, .inl (g.2.1, n1, .inl (za (fun j => if dp ≤ j ∧ j < dp + n then F (sp + (j - dp)) else G j))))) H1 → va_D A (ws.set q1 (a, .inl (g.2.1, n1, .inl (za (fun j => if dp ≤ j ∧ j < dp + n then F (sp + (j - dp)) else G j))))) → va_S A H0 H1 locs1 → W p l e R s m args below meth c H1 locs1 cells slots Q (F0 m (pc + 3) ls rest)) : W p l e R s m args below meth c H locs cells slots Q (F0 m pc ls (.int (iI n) :: .int (iI dp) :: .ref a :: .int (iI sp) :: .ref a0 :: rest)) := by
  have nn : ∀ z : Int, 0 ≤ z → z < 2147483648 → ¬ iI z < 0 := fun z g1 g2 => by rw [← iI_0, iI_lt (by omega) (by omega)]; omega
  refine va_copyi C.1 C.2.1 (C.2.2.1.trans hz.symm) C.2.2.2.1 (C.2.2.2.2 _ m1) (C.2.2.2.2 _ m2) (C.2.2.2.2 _ m3) (C.2.2.2.2 _ m4) hK hP hD hS q0 q1 0 0 (ty := .int) ha0 ha1 rfl rfl rfl (nn sp h1 (by omega)) (nn dp h2 (by omega)) (nn n h3 (by omega)) ?_ ?_ ?_ hf hlo hd ?_
  · rw [iI_clamp h1 (by omega), iI_clamp h3 (by omega)]; omega
  · rw [iI_clamp h2 (by omega), iI_clamp h3 (by omega)]; omega
  · intro i _; rfl
  · rw [iI_clamp h1 (by omega), iI_clamp h2 (by omega), iI_clamp h3 (by omega), za_cpy F G h1 h2 h3]; exact k
theorem z_retS (hx : p.tables.exec = Jvm.exec) (hb : c.code = cc) (hlk : meth.locks = false) (hr : meth.sig.returnType = some .int) {r r2 : Int} (hQ : Q = MQ below (vp_Si (fun x => x = iI r)) args s cells slots (fun _ => False)) (hd : decode cc pc = .ok (.ireturn, 1)) (he : r2 = r) : W p l e R s m args below meth c s.heap [] cells slots Q (F0 m pc ls [.int (iI r2)]) := by
  subst hQ; subst he
  exact W.iret hx hb hr (fun t ht _ => ⟨_, rfl, rfl, ht⟩) (fun q h => by cases h) hd hlk
theorem z_retSb (hx : p.tables.exec = Jvm.exec) (hb : c.code = cc) (hlk : meth.locks = false) (hr : meth.sig.returnType = some .boolean) {r r2 : Int} (hQ : Q = MQ below (vp_Si (fun x => x = iI r)) args s cells slots (fun _ => False)) (hd : decode cc pc = .ok (.ireturn, 1)) (h01 : r2 = 0 ∨ r2 = 1) (he : r2 = r) : W p l e R s m args below meth c s.heap [] cells slots Q (F0 m pc ls [.int (iI r2)]) := by
  subst hQ; subst he
  exact W.zret hx hb hr (by rcases h01 with h | h <;> rw [h] <;> decide +kernel) (fun t ht _ => ⟨_, rfl, rfl, ht⟩) (fun q h => by cases h) hd hlk
theorem z_retSl (hx : p.tables.exec = Jvm.exec) (hb : c.code = cc) (hlk : meth.locks = false) (hr : meth.sig.returnType = some .long) {r r2 : Int} (hQ : Q = MQ below (vp_Sl (fun x => x = lI r)) args s cells slots (fun _ => False)) (hd : decode cc pc = .ok (.lreturn, 1)) (he : r2 = r) : W p l e R s m args below meth c s.heap [] cells slots Q (F0 m pc ls [.long (lI r2)]) := by
  subst hQ; subst he
  exact W.lret hx hb hr (fun t ht _ => ⟨_, rfl, rfl, ht⟩) (fun q h => by cases h) hd hlk
theorem z_retE (hx : p.tables.exec = Jvm.exec) (hb : c.code = cc) (hlk : meth.locks = false) (hr : meth.sig.returnType = some .int) {S : Type} {post : Int → S → Prop} {wf : S → va_W} {r2 : Int} (hQ : Q = MQ below (va_Qi (fun x u => ∃ r : Int, x = iI r ∧ post r u) (fun u t => zP g (wf u) t.heap) A) args s cells slots A) (hd : decode cc pc = .ok (.ireturn, 1)) (hS : va_S A s.heap H locs) (u : S) (hp : post r2 u) (hP : zP g (wf u) H) : W p l e R s m args below meth c H locs cells slots Q (F0 m pc ls [.int (iI r2)]) := by
  subst hQ
  exact W.iret hx hb hr (fun t ht _ => ⟨⟨_, u, rfl, ⟨r2, rfl, hp⟩, by show zP g (wf u) t.heap; rw [ht]; exact hP⟩, hS.F ht⟩) hS.2.2 hd hlk
theorem z_retEb (hx : p.tables.exec = Jvm.exec) (hb : c.code = cc) (hlk : meth.locks = false) (hr : meth.sig.returnType = some .boolean) {S : Type} {post : Int → S → Prop} {wf : S → va_W} {r2 : Int} (hQ : Q = MQ below (va_Qi (fun x u => ∃ r : Int, x = iI r ∧ post r u) (fun u t => zP g (wf u) t.heap) A) args s cells slots A) (hd : decode cc pc = .ok (.ireturn, 1)) (h01 : r2 = 0 ∨ r2 = 1) (hS : va_S A s.heap H locs) (u : S) (hp : post r2 u) (hP : zP g (wf u) H) : W p l e R s m args below meth c H locs cells slots Q (F0 m pc ls [.int (iI r2)]) := by
  subst hQ
  exact W.zret hx hb hr (by rcases h01 with h | h <;> rw [h] <;> decide +kernel) (fun t ht _ => ⟨⟨_, u, rfl, ⟨r2, rfl, hp⟩, by show zP g (wf u) t.heap; rw [ht]; exact hP⟩, hS.F ht⟩) hS.2.2 hd hlk
theorem z_retV (hx : p.tables.exec = Jvm.exec) (hb : c.code = cc) (hlk : meth.locks = false) (hr : meth.sig.returnType = none) {S : Type} {post : S → Prop} {wf : S → va_W} (hQ : Q = MQ below (va_Qv post (fun u t => zP g (wf u) t.heap) A) args s cells slots A) (hd : decode cc pc = .ok (.return_, 1)) (hS : va_S A s.heap H locs) (u : S) (hp : post u) (hP : zP g (wf u) H) : W p l e R s m args below meth c H locs cells slots Q (F0 m pc ls []) := by
  subst hQ
  exact W.vret hx hb hr (fun t ht _ => ⟨⟨u, rfl, hp, by show zP g (wf u) t.heap; rw [ht]; exact hP⟩, hS.F ht⟩) hS.2.2 hd hlk
variable {y : MethodName} {bytes : ByteArray} {maxL n index : Nat} {ret : Option FieldType} {cw : List Cond} {rm : Room} {Cn : String} {b : Nat} {As st0 : List Value} {wc : va_W}
theorem z_cS (C : CallFix p m c cc nL s args Ts own) {r : Int} (hM : zS l y cw rm g (.ref b :: As) wc r) (hw : CallW R s args own Cn index y bytes maxL ret cw rm 0 0 n) (hK : zK g s) (hP : zP g ws H) (is : List Nat) (hi : is.filterMap (fun i => ws[i]?) = wc) (q0 : Nat) {ci : Nat} {T : u_T} {N : Nat} {fs : List Value} (hq : ws[q0]? = some (b, .inr (ci, fs))) (hc : vwCl[ci]? = some (Cn, T, N)) (hn : As.length = n) (hz : ls.size = nL) (hst : st0 = As.reverse ++ .ref b :: rest) (hro : (rest.map fun v => v.category).sum ≤ 8) (hd : decode cc pc = .ok (.invokevirtual index, 3)) (hf : cells ≤ R.cells ∧ slots ≤ R.slots) (k : W p l e R s m args below meth c H locs cells slots Q (F0 m (pc + 3) ls (.int (iI r) :: rest))) : W p l e R s m args below meth c H locs cells slots Q (F0 m pc ls st0) := by
  refine vp_callSi (va_runV (g := F0 m pc ls st0) (As := As) (rest := rest) C hM hw ⟨zS_blind, va_recv hK hP hc hq, fun U hU hW => ⟨rfl, by rw [hU]; exact hP.sub is hi, va_K.moved hW.alike hK⟩⟩ rfl hn hz hst (lv_room hro) hd hf).run (fun x hx => ?_)
  rw [hx]; exact k
theorem z_cSS (C : CallFix p m c cc nL s args Ts own) {r : Int} (hM : zS l y cw rm g As wc r) (hw : CallB R s args own index y bytes maxL ret cw rm 0 0 n ∧ (Cond.static y).before args s = true) (hK : zK g s) (hP : zP g ws H) (is : List Nat) (hi : is.filterMap (fun i => ws[i]?) = wc) (hn : As.length = n) (hz : ls.size = nL) (hst : st0 = As.reverse ++ rest) (hro : (rest.map fun v => v.category).sum ≤ 8) (hd : decode cc pc = .ok (.invokestatic index, 3)) (hf : cells ≤ R.cells ∧ slots ≤ R.slots) (k : W p l e R s m args below meth c H locs cells slots Q (F0 m (pc + 3) ls (.int (iI r) :: rest))) : W p l e R s m args below meth c H locs cells slots Q (F0 m pc ls st0) := by
  refine vp_callSi (va_runS (g := F0 m pc ls st0) (As := As) (rest := rest) C hM hw ⟨zS_blind, fun U hU hW => ⟨rfl, by rw [hU]; exact hP.sub is hi, va_K.moved hW.alike hK⟩⟩ rfl hn hz hst (lv_room hro) hd hf).run (fun x hx => ?_)
  rw [hx]; exact k
theorem z_cSSl (C : CallFix p m c cc nL s args Ts own) {r : Int} (hM : zSl l y cw rm g As wc r) (hw : CallB R s args own index y bytes maxL ret cw rm 0 0 n ∧ (Cond.static y).before args s = true) (hK : zK g s) (hP : zP g ws H) (is : List Nat) (hi : is.filterMap (fun i => ws[i]?) = wc) (hn : As.length = n) (hz : ls.size = nL) (hst : st0 = As.reverse ++ rest) (hro : (rest.map fun v => v.category).sum ≤ 8) (hd : decode cc pc = .ok (.invokestatic index, 3)) (hf : cells ≤ R.cells ∧ slots ≤ R.slots) (k : W p l e R s m args below meth c H locs cells slots Q (F0 m (pc + 3) ls (.long (lI r) :: rest))) : W p l e R s m args below meth c H locs cells slots Q (F0 m pc ls st0) := by
  refine vp_callSl (va_runS (g := F0 m pc ls st0) (As := As) (rest := rest) C hM hw ⟨zS_blind, fun U hU hW => ⟨rfl, by rw [hU]; exact hP.sub is hi, va_K.moved hW.alike hK⟩⟩ rfl hn hz hst (lv_room hro) hd hf).run (fun x hx => ?_)
  rw [hx]; exact k
theorem z_cE (C : CallFix p m c cc nL s args Ts own) {S : Type} {post : Int → S → Prop} {wf : S → va_W} (hM : zE l y cw rm g (.ref b :: As) wc post wf) (hw : CallW R s args own Cn index y bytes maxL ret cw rm 0 0 n) (hK : zK g s) (hP : zP g ws H) (hD : va_D A ws) (hS : va_S A H0 H locs) (hA : ∀ q : Nat, H0.size ≤ q → A q) (is : List Nat) (hnd : va_nd is = true) (hi : is.map (fun i => ws[i]?) = wc.map some) (ha : ∀ u, (wf u).map Prod.fst = wc.map Prod.fst) (q0 : Nat) {ci : Nat} {T : u_T} {N : Nat} {fs : List Value} (hq : ws[q0]? = some (b, .inr (ci, fs))) (hc : vwCl[ci]? = some (Cn, T, N)) (hn : As.length = n) (hz : ls.size = nL) (hst : st0 = As.reverse ++ .ref b :: rest) (hro : (rest.map fun v => v.category).sum ≤ 8) (hd : decode cc pc = .ok (.invokevirtual index, 3)) (hf : cells ≤ R.cells ∧ slots ≤ R.slots)
    (k : ∀ (r : Int) (u : S) (H1 : Heap) (locs1 : List Loc), post r u → zP g (zm ws is (wf u)) H1 → va_D A (zm ws is (wf u)) → va_S A H0 H1 locs1 → W p l e R s m args below meth c H1 locs1 cells slots Q (F0 m (pc + 3) ls (.int (iI r) :: rest))) : W p l e R s m args below meth c H locs cells slots Q (F0 m pc ls st0) := by
  have hF := va_free (wc := wc) hD hS hA is hi
  have hDc : va_D A wc := hD.sub is hnd hi
  refine va_calli (va_runV (g := F0 m pc ls st0) (As := As) (rest := rest) C (hM H.size) hw ⟨zE_blind, va_recv hK hP hc hq, fun U hU hW => ⟨rfl, by rw [hU], by rw [hU]; exact (fun kk qq hh => by
    have h1 : (is.map (fun i => ws[i]?))[kk]? = some (some qq) := by rw [hi, List.getElem?_map, hh]; rfl
    rw [List.getElem?_map] at h1
    cases hik : is[kk]? with
    | none => rw [hik] at h1; cases h1
    | some i => rw [hik] at h1; exact hP i qq (Option.some.inj h1)), va_K.moved hW.alike hK, hDc.weaken (fun _ _ _ _ => trivial)⟩⟩ rfl hn hz hst (lv_room hro) hd hf) hS (fun q _ h => hF q h) hF (fun x u t H1 locs1 ht hvm hw2 hB hz1 hk1 hS1 => ?_)
  obtain ⟨r, hx, hp⟩ := hw2
  rw [ht] at hB
  obtain ⟨hP2, hD2⟩ := zm_join hP hD is hi (ha u) hk1 hB
  rw [hx]
  exact k r u H1 locs1 hp hP2 hD2 hS1
theorem z_cV (C : CallFix p m c cc nL s args Ts own) {S : Type} {post : S → Prop} {wf : S → va_W} (hM : zV l y cw rm g (.ref b :: As) wc post wf) (hw : CallW R s args own Cn index y bytes maxL ret cw rm 0 0 n) (hK : zK g s) (hP : zP g ws H) (hD : va_D A ws) (hS : va_S A H0 H locs) (hA : ∀ q : Nat, H0.size ≤ q → A q) (is : List Nat) (hnd : va_nd is = true) (hi : is.map (fun i => ws[i]?) = wc.map some) (ha : ∀ u, (wf u).map Prod.fst = wc.map Prod.fst) (q0 : Nat) {ci : Nat} {T : u_T} {N : Nat} {fs : List Value} (hq : ws[q0]? = some (b, .inr (ci, fs))) (hc : vwCl[ci]? = some (Cn, T, N)) (hn : As.length = n) (hz : ls.size = nL) (hst : st0 = As.reverse ++ .ref b :: rest) (hro : (rest.map fun v => v.category).sum ≤ 8) (hd : decode cc pc = .ok (.invokevirtual index, 3)) (hf : cells ≤ R.cells ∧ slots ≤ R.slots)
    (k : ∀ (u : S) (H1 : Heap) (locs1 : List Loc), post u → zP g (zm ws is (wf u)) H1 → va_D A (zm ws is (wf u)) → va_S A H0 H1 locs1 → W p l e R s m args below meth c H1 locs1 cells slots Q (F0 m (pc + 3) ls rest)) : W p l e R s m args below meth c H locs cells slots Q (F0 m pc ls st0) := by
  have hF := va_free (wc := wc) hD hS hA is hi
  have hDc : va_D A wc := hD.sub is hnd hi
  refine va_callv (va_runV (g := F0 m pc ls st0) (As := As) (rest := rest) C (hM H.size) hw ⟨zE_blind, va_recv hK hP hc hq, fun U hU hW => ⟨rfl, by rw [hU], by rw [hU]; exact (fun kk qq hh => by
    have h1 : (is.map (fun i => ws[i]?))[kk]? = some (some qq) := by rw [hi, List.getElem?_map, hh]; rfl
    rw [List.getElem?_map] at h1
    cases hik : is[kk]? with
    | none => rw [hik] at h1; cases h1
    | some i => rw [hik] at h1; exact hP i qq (Option.some.inj h1)), va_K.moved hW.alike hK, hDc.weaken (fun _ _ _ _ => trivial)⟩⟩ rfl hn hz hst (lv_room hro) hd hf) hS (fun q _ h => hF q h) hF (fun u t H1 locs1 ht hvm hp hB hz1 hk1 hS1 => ?_)
  rw [ht] at hB
  obtain ⟨hP2, hD2⟩ := zm_join hP hD is hi (ha u) hk1 hB
  exact k u H1 locs1 hp hP2 hD2 hS1
end ZR
end
section
/-! the numbers of the document, as functions of whole numbers -/
/-- the nearest of -100 .. 100 -/
def cl (v : Int) : Int := if 100 < zr v then 100 else if zr v < -100 then -100 else zr v
theorem cl_rg (v : Int) : -100 ≤ cl v ∧ cl v ≤ 100 := by
  unfold cl
  by_cases h1 : 100 < zr v
  · rw [if_pos h1]; omega
  · rw [if_neg h1]
    by_cases h2 : zr v < -100
    · rw [if_pos h2]; omega
    · rw [if_neg h2]; omega
theorem cl_mm (v : Int) : iI (if zr (-100) < zr (if zr v < zr 100 then v else 100) then if zr v < zr 100 then v else 100 else -100) = iI (cl v) := by
  have e1 : zr 100 = 100 := zr_of (by omega) (by omega)
  have e2 : zr (-100) = -100 := zr_of (by omega) (by omega)
  rw [e1, e2]
  unfold cl
  by_cases h1 : zr v < 100
  · rw [if_pos h1, if_neg (show ¬ 100 < zr v by omega)]
    by_cases h2 : -100 < zr v
    · rw [if_pos h2, if_neg (show ¬ zr v < -100 by omega), iI_zr]
    · rw [if_neg h2]
      by_cases h3 : zr v < -100
      · rw [if_pos h3]
      · rw [if_neg h3, show zr v = -100 by omega]
  · rw [if_neg h1, e1, if_pos (show (-100 : Int) < 100 by omega)]
    by_cases h3 : 100 < zr v
    · rw [if_pos h3]
    · rw [if_neg h3, if_neg (show ¬ zr v < -100 by omega), show zr v = 100 by omega]
/-- f 0 + .. + f (n - 1) -/
def sumN (f : Int → Int) : Nat → Int
  | 0 => 0
  | n + 1 => sumN f n + f (n : Int)
def sumZ (f : Int → Int) (n : Int) : Int := sumN f n.toNat
theorem sumZ_0 (f : Int → Int) : sumZ f 0 = 0 := rfl
theorem sumZ_s (f : Int → Int) {n : Int} (h : 0 ≤ n) : sumZ f (n + 1) = sumZ f n + f n := by
  unfold sumZ
  have e1 : (n + 1).toNat = n.toNat + 1 := by omega
  rw [e1]
  show sumN f n.toNat + f (n.toNat : Int) = _
  rw [Int.toNat_of_nonneg h]
theorem sumN_cong {f g : Int → Int} : ∀ (n : Nat), (∀ j : Int, 0 ≤ j → j < n → f j = g j) → sumN f n = sumN g n
  | 0, _ => rfl
  | n + 1, h => by
    show sumN f n + f n = sumN g n + g n
    rw [sumN_cong n (fun j h1 h2 => h j h1 (by omega)), h n (by omega) (by omega)]
theorem sumZ_cong {f g : Int → Int} {n : Int} (h : ∀ j : Int, 0 ≤ j → j < n → f j = g j) : sumZ f n = sumZ g n := by
  unfold sumZ
  by_cases h0 : 0 ≤ n
  · exact sumN_cong _ (fun j h1 h2 => h j h1 (by omega))
  · rw [show n.toNat = 0 by omega]; rfl
theorem sumN_rg {f : Int → Int} {a b : Int} : ∀ (n : Nat), (∀ j : Int, 0 ≤ j → j < n → a ≤ f j ∧ f j ≤ b) → n * a ≤ sumN f n ∧ sumN f n ≤ n * b
  | 0, _ => by simp [sumN]
  | n + 1, h => by
    have h1 := sumN_rg n (fun j g1 g2 => h j g1 (by omega))
    have h2 := h n (by omega) (by omega)
    show ((n + 1 : Nat) : Int) * a ≤ sumN f n + f n ∧ sumN f n + f n ≤ ((n + 1 : Nat) : Int) * b
    have e1 : ((n + 1 : Nat) : Int) = (n : Int) + 1 := by omega
    rw [e1, Int.add_mul, Int.add_mul, Int.one_mul, Int.one_mul]
    omega
theorem sumZ_01 {f : Int → Int} {n : Int} (h0 : 0 ≤ n) (h : ∀ j : Int, 0 ≤ j → j < n → 0 ≤ f j ∧ f j ≤ 1) : 0 ≤ sumZ f n ∧ sumZ f n ≤ n := by
  have h1 := sumN_rg (a := 0) (b := 1) n.toNat (fun j g1 g2 => h j g1 (by omega))
  unfold sumZ
  omega
theorem sumZ_zero {f : Int → Int} {n : Int} (h : ∀ j : Int, 0 ≤ j → j < n → f j = 0) : sumZ f n = 0 := by
  rw [sumZ_cong (g := fun _ => 0) h]
  unfold sumZ
  generalize n.toNat = k
  induction k with
  | zero => rfl
  | succ k ih => show sumN (fun _ => 0) k + 0 = 0; rw [ih]; rfl
theorem sumN_add (f g : Int → Int) : ∀ n : Nat, sumN (fun j => f j + g j) n = sumN f n + sumN g n
  | 0 => rfl
  | n + 1 => by
    show sumN (fun j => f j + g j) n + (f n + g n) = sumN f n + f n + (sumN g n + g n)
    rw [sumN_add f g n]; omega
theorem sumZ_add (f g : Int → Int) (n : Int) : sumZ (fun j => f j + g j) n = sumZ f n + sumZ g n := sumN_add f g n.toNat
/-- from a point on there is nothing -/
theorem sumZ_tail {f : Int → Int} {m n : Int} (h0 : 0 ≤ m) (h1 : m ≤ n) (h : ∀ j : Int, m ≤ j → j < n → f j = 0) : sumZ f n = sumZ f m := by
  obtain ⟨k, hk⟩ : ∃ k : Nat, n = m + k := ⟨(n - m).toNat, by omega⟩
  subst hk
  clear h1
  induction k with
  | zero => rw [show m + ((0 : Nat) : Int) = m by omega]
  | succ k ih =>
    rw [show m + ((k + 1 : Nat) : Int) = (m + k) + 1 by omega, sumZ_s f (by omega), h (m + k) (by omega) (by omega), ih (fun j g1 g2 => h j g1 (by omega))]
    omega
theorem sumZ_ups (f : Int → Int) (i v : Int) {n : Int} (h0 : 0 ≤ i) (h1 : i < n) : sumZ (ups f i v) n = sumZ f n - f i + v := by
  obtain ⟨k, hk⟩ : ∃ k : Nat, n = k := ⟨n.toNat, by omega⟩
  subst hk
  induction k with
  | zero => omega
  | succ k ih =>
    rw [show ((k + 1 : Nat) : Int) = (k : Int) + 1 by omega, sumZ_s _ (by omega), sumZ_s _ (by omega)]
    by_cases hi : i = (k : Int)
    · subst hi
      rw [ups_s, sumZ_cong (f := ups f (k : Int) v) (g := f) (fun j _ g2 => ups_n f v (by omega))]
      omega
    · rw [ih (by omega), ups_n f v (by omega)]
      omega
/-- what a window's turn does at h: pairs a, a + h of which a has no bit h -/
def fpN (h : Int) (w : Int → Int) : Nat → Int → Int
  | 0 => w
  | a + 1 => if zand (a : Int) h = 0 then ups (ups (fpN h w a) a (fpN h w a a + fpN h w a (a + h))) (a + h) (fpN h w a a - fpN h w a (a + h)) else fpN h w a
def fp (h : Int) (w : Int → Int) (a : Int) : Int → Int := fpN h w a.toNat
theorem fp_0 (h : Int) (w : Int → Int) : fp h w 0 = w := rfl
theorem fp_t {h a : Int} (w : Int → Int) (h0 : 0 ≤ a) (hz : zand a h = 0) : fp h w (a + 1) = ups (ups (fp h w a) a (fp h w a a + fp h w a (a + h))) (a + h) (fp h w a a - fp h w a (a + h)) := by
  unfold fp
  rw [show (a + 1).toNat = a.toNat + 1 by omega]
  show (if zand (a.toNat : Int) h = 0 then _ else _) = _
  rw [Int.toNat_of_nonneg h0, if_pos hz]
theorem fp_f {h a : Int} (w : Int → Int) (h0 : 0 ≤ a) (hz : ¬ zand a h = 0) : fp h w (a + 1) = fp h w a := by
  unfold fp
  rw [show (a + 1).toNat = a.toNat + 1 by omega]
  show (if zand (a.toNat : Int) h = 0 then _ else _) = _
  rw [Int.toNat_of_nonneg h0, if_neg hz]
/-- the bits -/
theorem zand_8 {a h : Int} (h0 : 0 ≤ a) (h1 : a < 8) (hh : h = 1 ∨ h = 2 ∨ h = 4) : (zand a h = 0 → a + h < 8) ∧ (8 ≤ a + h → ¬ zand a h = 0) := by
  have k1 : ∀ a' : Nat, a' < 8 → (zand (a' : Int) 1 = 0 → (a' : Int) + 1 < 8) ∧ (8 ≤ (a' : Int) + 1 → ¬ zand (a' : Int) 1 = 0) := by decide +kernel
  have k2 : ∀ a' : Nat, a' < 8 → (zand (a' : Int) 2 = 0 → (a' : Int) + 2 < 8) ∧ (8 ≤ (a' : Int) + 2 → ¬ zand (a' : Int) 2 = 0) := by decide +kernel
  have k4 : ∀ a' : Nat, a' < 8 → (zand (a' : Int) 4 = 0 → (a' : Int) + 4 < 8) ∧ (8 ≤ (a' : Int) + 4 → ¬ zand (a' : Int) 4 = 0) := by decide +kernel
  obtain ⟨b, rfl⟩ : ∃ b : Nat, a = b := ⟨a.toNat, by omega⟩
  rcases hh with rfl | rfl | rfl
  · exact k1 b (by omega)
  · exact k2 b (by omega)
  · exact k4 b (by omega)
/-- the class's end of the walk is the reference's -/
theorem fp_end {h : Int} (w : Int → Int) (hh : h = 1 ∨ h = 2 ∨ h = 4) : ∀ k : Nat, (k : Int) ≤ h → fp h w (8 - h + k) = fp h w (8 - h)
  | 0, _ => by rw [show (8 : Int) - h + ((0 : Nat) : Int) = 8 - h by omega]
  | k + 1, hk => by
    rw [show (8 : Int) - h + ((k + 1 : Nat) : Int) = (8 - h + k) + 1 by omega, fp_f w (by omega) ((zand_8 (by omega) (by omega) hh).2 (by omega))]
    exact fp_end w hh k (by omega)
theorem fp_8 {h : Int} (w : Int → Int) (hh : h = 1 ∨ h = 2 ∨ h = 4) : fp h w (8 - h) = fp h w 8 := by
  have := fp_end w hh h.toNat (by omega)
  rw [show (8 : Int) - h + (h.toNat : Int) = 8 by omega] at this
  exact this.symm
/-- the eight numbers of a window, turned -/
def wv (x : Int → Int) : Int → Int := fp 4 (fp 2 (fp 1 x 8) 8) 8
def sh (w : Int → Int) (k : Int) : Int := zdiv (w k * w k) 64
theorem sh_rg (w : Int → Int) (k : Int) : -2147483648 ≤ sh w k ∧ sh w k < 2147483648 := zdiv_rg _ _
/-- the best of waves 1 .. n + 1 -/
def bsN (s : Int → Int) : Nat → Int
  | 0 => 1
  | n + 1 => if s (bsN s n) < s ((n : Int) + 2) then (n : Int) + 2 else bsN s n
def bs (s : Int → Int) (k : Int) : Int := bsN s (k - 2).toNat
theorem bs_2 (s : Int → Int) : bs s 2 = 1 := rfl
theorem bs_t {s : Int → Int} {k : Int} (h0 : 2 ≤ k) (h : s (bs s k) < s k) : bs s (k + 1) = k := by
  unfold bs at h ⊢
  rw [show (k + 1 - 2).toNat = (k - 2).toNat + 1 by omega]
  show (if s (bsN s (k - 2).toNat) < s (((k - 2).toNat : Int) + 2) then (((k - 2).toNat : Int) + 2) else _) = _
  rw [show ((k - 2).toNat : Int) + 2 = k by omega, if_pos h]
theorem bs_f {s : Int → Int} {k : Int} (h0 : 2 ≤ k) (h : s k ≤ s (bs s k)) : bs s (k + 1) = bs s k := by
  unfold bs at h ⊢
  rw [show (k + 1 - 2).toNat = (k - 2).toNat + 1 by omega]
  show (if s (bsN s (k - 2).toNat) < s (((k - 2).toNat : Int) + 2) then (((k - 2).toNat : Int) + 2) else _) = _
  rw [show ((k - 2).toNat : Int) + 2 = k by omega, if_neg (by omega)]
theorem bsN_rg (s : Int → Int) : ∀ n : Nat, 1 ≤ bsN s n ∧ bsN s n ≤ (n : Int) + 1
  | 0 => ⟨Int.le_refl _, Int.le_refl _⟩
  | n + 1 => by
    have := bsN_rg s n
    show 1 ≤ (if s (bsN s n) < s ((n : Int) + 2) then (n : Int) + 2 else bsN s n) ∧ (if s (bsN s n) < s ((n : Int) + 2) then (n : Int) + 2 else bsN s n) ≤ ((n + 1 : Nat) : Int) + 1
    by_cases h : s (bsN s n) < s ((n : Int) + 2)
    · rw [if_pos h]; omega
    · rw [if_neg h]; omega
theorem bs_rg (s : Int → Int) {k : Int} (h : 2 ≤ k) : 1 ≤ bs s k ∧ bs s k < k := by
  have := bsN_rg s (k - 2).toNat
  unfold bs
  omega
/-- the peak of eight numbers over a floor -/
def pk8 (x : Int → Int) (fl : Int) : Int := if fl ≤ sh (wv x) (bs (sh (wv x)) 8) then bs (sh (wv x)) 8 else -1
theorem pk8_rg (x : Int → Int) (fl : Int) : -1 ≤ pk8 x fl ∧ pk8 x fl ≤ 7 ∧ pk8 x fl ≠ 0 := by
  have := bs_rg (sh (wv x)) (k := 8) (by omega)
  unfold pk8
  by_cases h : fl ≤ sh (wv x) (bs (sh (wv x)) 8)
  · rw [if_pos h]; omega
  · rw [if_neg h]; omega
/-- the key of windows v, w of a row by its peaks FD (16 a row); none -/
def kyf (FD : Int → Int) (re row v w : Int) : Int := if (0 ≤ v ∧ v < w ∧ w < 16 ∧ w - v ≤ re) ∧ FD (row * 16 + v) ≠ -1 ∧ FD (row * 16 + w) ≠ -1 then 64 * (w - v) + 8 * FD (row * 16 + v) + FD (row * 16 + w) else -1
theorem kyf_no {FD : Int → Int} {re row v w : Int} (h : ¬ ((0 ≤ v ∧ v < w ∧ w < 16 ∧ w - v ≤ re) ∧ FD (row * 16 + v) ≠ -1 ∧ FD (row * 16 + w) ≠ -1)) : kyf FD re row v w = -1 := by
  unfold kyf; rw [if_neg h]
theorem kyf_yes {FD : Int → Int} {re row v w : Int} (h : (0 ≤ v ∧ v < w ∧ w < 16 ∧ w - v ≤ re) ∧ FD (row * 16 + v) ≠ -1 ∧ FD (row * 16 + w) ≠ -1) : kyf FD re row v w = 64 * (w - v) + 8 * FD (row * 16 + v) + FD (row * 16 + w) := by
  unfold kyf; rw [if_pos h]
/-- a key's bounds, and how far apart its windows are -/
theorem kyf_rg {FD : Int → Int} (hF : ∀ j, -1 ≤ FD j ∧ FD j ≤ 7 ∧ FD j ≠ 0) (re row v w : Int) (hr : re ≤ 5) : kyf FD re row v w = -1 ∨ (64 ≤ kyf FD re row v w ∧ kyf FD re row v w ≤ 383 ∧ kyf FD re row v w / 64 = w - v ∧ 1 ≤ w - v ∧ w - v ≤ re ∧ 0 ≤ v ∧ w < 16) := by
  have h1 := hF (row * 16 + v)
  have h2 := hF (row * 16 + w)
  by_cases h : (0 ≤ v ∧ v < w ∧ w < 16 ∧ w - v ≤ re) ∧ FD (row * 16 + v) ≠ -1 ∧ FD (row * 16 + w) ≠ -1
  · right
    rw [kyf_yes h]
    generalize FD (row * 16 + v) = p at *
    generalize FD (row * 16 + w) = q at *
    omega
  · left; exact kyf_no h
/-- the peaks of a state's rows, 16 a row: windows that there are not have none -/
def pf (NU SZ : Int → Int) (fl j : Int) : Int := if j % 16 < SZ (j / 16) / 8 then pk8 (fun i => NU (j / 16 * 128 + (j % 16 * 8 + i))) fl else -1
theorem pf_rg (NU SZ : Int → Int) (fl j : Int) : -1 ≤ pf NU SZ fl j ∧ pf NU SZ fl j ≤ 7 ∧ pf NU SZ fl j ≠ 0 := by
  have := pk8_rg (fun i => NU (j / 16 * 128 + (j % 16 * 8 + i))) fl
  unfold pf
  by_cases h : j % 16 < SZ (j / 16) / 8
  · rw [if_pos h]; exact this
  · rw [if_neg h]; omega
theorem pf_t {NU SZ : Int → Int} {fl row w : Int} (h0 : 0 ≤ w) (h1 : w < 16) (h : w < SZ row / 8) : pf NU SZ fl (row * 16 + w) = pk8 (fun i => NU (row * 128 + (w * 8 + i))) fl := by
  unfold pf
  rw [show (row * 16 + w) / 16 = row by omega, show (row * 16 + w) % 16 = w by omega, if_pos h]
theorem pf_f {NU SZ : Int → Int} {fl row w : Int} (h0 : 0 ≤ w) (h1 : w < 16) (h : SZ row / 8 ≤ w) : pf NU SZ fl (row * 16 + w) = -1 := by
  unfold pf
  rw [show (row * 16 + w) / 16 = row by omega, show (row * 16 + w) % 16 = w by omega, if_neg (by omega)]
/-- the number that comes most often: the best so far, and how often -/
def moN (c : Int → Int) : Nat → Int × Int
  | 0 => (-1, 0)
  | n + 1 => if (moN c n).2 < c (n : Int) then ((n : Int), c (n : Int)) else moN c n
def mo (c : Int → Int) (k : Int) : Int × Int := moN c k.toNat
theorem mo_0 (c : Int → Int) : mo c 0 = (-1, 0) := rfl
theorem mo_t {c : Int → Int} {k : Int} (h0 : 0 ≤ k) (h : (mo c k).2 < c k) : mo c (k + 1) = (k, c k) := by
  unfold mo at h ⊢
  rw [show (k + 1).toNat = k.toNat + 1 by omega]
  show (if (moN c k.toNat).2 < c (k.toNat : Int) then ((k.toNat : Int), c (k.toNat : Int)) else moN c k.toNat) = _
  rw [Int.toNat_of_nonneg h0, if_pos h]
theorem mo_f {c : Int → Int} {k : Int} (h0 : 0 ≤ k) (h : c k ≤ (mo c k).2) : mo c (k + 1) = mo c k := by
  unfold mo at h ⊢
  rw [show (k + 1).toNat = k.toNat + 1 by omega]
  show (if (moN c k.toNat).2 < c (k.toNat : Int) then ((k.toNat : Int), c (k.toNat : Int)) else moN c k.toNat) = _
  rw [Int.toNat_of_nonneg h0, if_neg (by omega)]
theorem moN_rg {c : Int → Int} {b : Int} (hb : 0 ≤ b) (h : ∀ j, 0 ≤ c j ∧ c j ≤ b) : ∀ n : Nat, -1 ≤ (moN c n).1 ∧ (moN c n).1 < n ∧ 0 ≤ (moN c n).2 ∧ (moN c n).2 ≤ b
  | 0 => ⟨Int.le_refl _, by show (-1 : Int) < ((0 : Nat) : Int); omega, Int.le_refl _, hb⟩
  | n + 1 => by
    have h1 := moN_rg hb h n
    have h2 := h n
    show -1 ≤ (if (moN c n).2 < c (n : Int) then ((n : Int), c (n : Int)) else moN c n).1 ∧ (if (moN c n).2 < c (n : Int) then ((n : Int), c (n : Int)) else moN c n).1 < ((n + 1 : Nat) : Int) ∧ 0 ≤ (if (moN c n).2 < c (n : Int) then ((n : Int), c (n : Int)) else moN c n).2 ∧ (if (moN c n).2 < c (n : Int) then ((n : Int), c (n : Int)) else moN c n).2 ≤ b
    by_cases h3 : (moN c n).2 < c (n : Int)
    · rw [if_pos h3]; show -1 ≤ (n : Int) ∧ (n : Int) < ((n + 1 : Nat) : Int) ∧ 0 ≤ c (n : Int) ∧ c (n : Int) ≤ b; omega
    · rw [if_neg h3]; omega
theorem mo_rg {c : Int → Int} {b k : Int} (hb : 0 ≤ b) (h0 : 0 ≤ k) (h : ∀ j, 0 ≤ c j ∧ c j ≤ b) : -1 ≤ (mo c k).1 ∧ (mo c k).1 < k ∧ 0 ≤ (mo c k).2 ∧ (mo c k).2 ≤ b := by
  have := moN_rg hb h k.toNat
  unfold mo
  omega
end
section
set_option maxRecDepth 20000 in
theorem in_X4_floor_X4 : ∀ w ∈ u_ws RX4 TX4 4, w ∈ wsX4_floor := zmem_of _ [2, 3, 4, 5] (by decide +kernel)
set_option maxHeartbeats 4000000 in
set_option maxRecDepth 100000 in
theorem m_X4_floor (l : Launch) (g : zG) (h hn hs : Nat) (fl re : Int)  : zS l yX4_floor wsX4_floor ({ frames := 0, cells := 0, slots := 0, locals := 0 }) g [.ref h] [(h, .inr (4, [.ref hn, .ref hs, .int (iI fl), .int (iI re)]))] fl := by
  refine z_entS (cc := cX4_floor) (nL := 1) (ret := (some .int)) (own := RX4) (by decide) rfl rfl (Nat.le_of_ble_eq_true rfl) ?_
  intro p e s m below meth c Q ls C hlk hr hQ hP hK hl
  have hx := C.1
  have hb := C.2.1
  have hl : lv_has ls 1 [(0, .ref h)] := hl
  refine lv_aload_n hx hb dX4_floor_0 rfl (lv_at hl 0 rfl) ?_
  refine z_get (v := .int (iI fl)) (Cn := RX4) (T := TX4) (N := 4) (ci := 4) C in_X4_floor_X4 hK hP 0 rfl rfl 2 (by decide) (List.mem_of_getElem? (i := 1) rfl) rfl dX4_floor_1 ?_
  exact z_retS hx hb hlk hr hQ dX4_floor_4 (rfl)
set_option maxRecDepth 20000 in
theorem in_X4_reach_X4 : ∀ w ∈ u_ws RX4 TX4 4, w ∈ wsX4_reach := zmem_of _ [2, 3, 4, 5] (by decide +kernel)
set_option maxHeartbeats 4000000 in
set_option maxRecDepth 100000 in
theorem m_X4_reach (l : Launch) (g : zG) (h hn hs : Nat) (fl re : Int)  : zS l yX4_reach wsX4_reach ({ frames := 0, cells := 0, slots := 0, locals := 0 }) g [.ref h] [(h, .inr (4, [.ref hn, .ref hs, .int (iI fl), .int (iI re)]))] re := by
  refine z_entS (cc := cX4_reach) (nL := 1) (ret := (some .int)) (own := RX4) (by decide) rfl rfl (Nat.le_of_ble_eq_true rfl) ?_
  intro p e s m below meth c Q ls C hlk hr hQ hP hK hl
  have hx := C.1
  have hb := C.2.1
  have hl : lv_has ls 1 [(0, .ref h)] := hl
  refine lv_aload_n hx hb dX4_reach_0 rfl (lv_at hl 0 rfl) ?_
  refine z_get (v := .int (iI re)) (Cn := RX4) (T := TX4) (N := 4) (ci := 4) C in_X4_reach_X4 hK hP 0 rfl rfl 3 (by decide) (List.mem_of_getElem? (i := 1) rfl) rfl dX4_reach_1 ?_
  exact z_retS hx hb hlk hr hQ dX4_reach_4 (rfl)
set_option maxRecDepth 20000 in
theorem in_X4_sizeOf_X4 : ∀ w ∈ u_ws RX4 TX4 4, w ∈ wsX4_sizeOf := zmem_of _ [2, 3, 4, 5] (by decide +kernel)
set_option maxHeartbeats 4000000 in
set_option maxRecDepth 100000 in
theorem m_X4_sizeOf (l : Launch) (g : zG) (h hn hs : Nat) (fl re : Int) (SZ : Int → Int) (row : Int) (h1 : 0 ≤ row) (h2 : row < 5) : zS l yX4_sizeOf wsX4_sizeOf ({ frames := 0, cells := 0, slots := 0, locals := 0 }) g [.ref h, .int (iI row)] [(h, .inr (4, [.ref hn, .ref hs, .int (iI fl), .int (iI re)])), zI g hs 5 SZ] (SZ row) := by
  refine z_entS (cc := cX4_sizeOf) (nL := 2) (ret := (some .int)) (own := RX4) (by decide) rfl rfl (Nat.le_of_ble_eq_true rfl) ?_
  intro p e s m below meth c Q ls C hlk hr hQ hP hK hl
  have hx := C.1
  have hb := C.2.1
  have hl : lv_has ls 2 [(0, .ref h), (1, .int (iI row))] := hl
  refine lv_aload_n hx hb dX4_sizeOf_0 rfl (lv_at hl 0 rfl) ?_
  refine z_get (v := .ref hs) (Cn := RX4) (T := TX4) (N := 4) (ci := 4) C in_X4_sizeOf_X4 hK hP 0 rfl rfl 1 (by decide) (List.mem_of_getElem? (i := 1) rfl) rfl dX4_sizeOf_1 ?_
  refine lv_iload_n hx hb dX4_sizeOf_4 rfl (lv_at hl 1 rfl) ?_
  refine z_iald hx hb hK hP 1 rfl (by omega) (by omega) (Nat.le_of_ble_eq_true rfl) dX4_sizeOf_5 ?_
  exact z_retS hx hb hlk hr hQ dX4_sizeOf_6 (rfl)
set_option maxRecDepth 20000 in
theorem in_X4_windowsOf_X4 : ∀ w ∈ u_ws RX4 TX4 4, w ∈ wsX4_windowsOf := zmem_of _ [2, 3, 4, 5] (by decide +kernel)
set_option maxHeartbeats 4000000 in
set_option maxRecDepth 100000 in
theorem m_X4_windowsOf (l : Launch) (g : zG) (h hn hs : Nat) (fl re : Int) (SZ : Int → Int) (row : Int) (h1 : 0 ≤ row) (h2 : row < 5) (h3 : 0 ≤ SZ row) (h4 : SZ row ≤ 128) : zS l yX4_windowsOf wsX4_windowsOf ({ frames := 0, cells := 0, slots := 0, locals := 0 }) g [.ref h, .int (iI row)] [(h, .inr (4, [.ref hn, .ref hs, .int (iI fl), .int (iI re)])), zI g hs 5 SZ] (SZ row / 8) := by
  refine z_entS (cc := cX4_windowsOf) (nL := 2) (ret := (some .int)) (own := RX4) (by decide) rfl rfl (Nat.le_of_ble_eq_true rfl) ?_
  intro p e s m below meth c Q ls C hlk hr hQ hP hK hl
  have hx := C.1
  have hb := C.2.1
  have hl : lv_has ls 2 [(0, .ref h), (1, .int (iI row))] := hl
  refine lv_aload_n hx hb dX4_windowsOf_0 rfl (lv_at hl 0 rfl) ?_
  refine z_get (v := .ref hs) (Cn := RX4) (T := TX4) (N := 4) (ci := 4) C in_X4_windowsOf_X4 hK hP 0 rfl rfl 1 (by decide) (List.mem_of_getElem? (i := 1) rfl) rfl dX4_windowsOf_1 ?_
  refine lv_iload_n hx hb dX4_windowsOf_4 rfl (lv_at hl 1 rfl) ?_
  refine z_iald hx hb hK hP 1 rfl (by omega) (by omega) (Nat.le_of_ble_eq_true rfl) dX4_windowsOf_5 ?_
  refine lv_bipush (v := iI 8) hx hb dX4_windowsOf_6 (by decide +kernel) ?_
  refine z_idivN hx hb dX4_windowsOf_8 (by omega) (by omega) (by omega) (by omega) ?_
  exact z_retS hx hb hlk hr hQ dX4_windowsOf_9 (rfl)
set_option maxRecDepth 20000 in
theorem in_X4_numberAt_X4 : ∀ w ∈ u_ws RX4 TX4 4, w ∈ wsX4_numberAt := zmem_of _ [2, 3, 4, 5] (by decide +kernel)
set_option maxHeartbeats 4000000 in
set_option maxRecDepth 100000 in
theorem m_X4_numberAt (l : Launch) (g : zG) (h hn hs : Nat) (fl re : Int) (NU : Int → Int) (row i : Int) (h1 : 0 ≤ row) (h2 : row < 5) (h3 : 0 ≤ i) (h4 : i < 128) : zS l yX4_numberAt wsX4_numberAt ({ frames := 0, cells := 0, slots := 0, locals := 0 }) g [.ref h, .int (iI row), .int (iI i)] [(h, .inr (4, [.ref hn, .ref hs, .int (iI fl), .int (iI re)])), zI g hn 640 NU] (NU (row * 128 + i)) := by
  refine z_entS (cc := cX4_numberAt) (nL := 3) (ret := (some .int)) (own := RX4) (by decide) rfl rfl (Nat.le_of_ble_eq_true rfl) ?_
  intro p e s m below meth c Q ls C hlk hr hQ hP hK hl
  have hx := C.1
  have hb := C.2.1
  have hl : lv_has ls 3 [(0, .ref h), (1, .int (iI row)), (2, .int (iI i))] := hl
  refine lv_aload_n hx hb dX4_numberAt_0 rfl (lv_at hl 0 rfl) ?_
  refine z_get (v := .ref hn) (Cn := RX4) (T := TX4) (N := 4) (ci := 4) C in_X4_numberAt_X4 hK hP 0 rfl rfl 0 (by decide) (List.mem_of_getElem? (i := 1) rfl) rfl dX4_numberAt_1 ?_
  refine lv_iload_n hx hb dX4_numberAt_4 rfl (lv_at hl 1 rfl) ?_
  refine lv_sipush (v := iI 128) hx hb dX4_numberAt_5 (by decide +kernel) ?_
  refine z_imul hx hb dX4_numberAt_8 ?_
  refine lv_iload_n hx hb dX4_numberAt_9 rfl (lv_at hl 2 rfl) ?_
  refine z_iadd hx hb dX4_numberAt_10 ?_
  refine z_iald hx hb hK hP 1 rfl (by omega) (by omega) (Nat.le_of_ble_eq_true rfl) dX4_numberAt_11 ?_
  exact z_retS hx hb hlk hr hQ dX4_numberAt_12 (rfl)
set_option maxRecDepth 20000 in
theorem in_X4_setFloor_X4 : ∀ w ∈ u_ws RX4 TX4 4, w ∈ wsX4_setFloor := zmem_of _ [2, 3, 4, 5] (by decide +kernel)
set_option maxHeartbeats 4000000 in
set_option maxRecDepth 100000 in
theorem m_X4_setFloor (l : Launch) (g : zG) (h hn hs : Nat) (fl re : Int) (v : Int)  : zV l yX4_setFloor wsX4_setFloor ({ frames := 0, cells := 0, slots := 0, locals := 0 }) g [.ref h, .int (iI v)] [(h, .inr (4, [.ref hn, .ref hs, .int (iI fl), .int (iI re)]))] (S := Unit) (fun _ => True) (fun _ => [(h, .inr (4, [.ref hn, .ref hs, .int (iI v), .int (iI re)]))]) := by
  refine z_entV (cc := cX4_setFloor) (nL := 2) (ret := none) (own := RX4) (by decide) rfl rfl (Nat.le_of_ble_eq_true rfl) ?_
  intro p e s m below meth c Q ls A C hlk hr hQ hP hK hD hA hS hl
  have hx := C.1
  have hb := C.2.1
  have hl : lv_has ls 2 [(0, .ref h), (1, .int (iI v))] := hl
  obtain ⟨H, hHe⟩ : ∃ H, H = s.heap := ⟨_, rfl⟩
  obtain ⟨locs, hLe⟩ : ∃ q : List Loc, q = [] := ⟨_, rfl⟩
  have hP : zP g [(h, .inr (4, [.ref hn, .ref hs, .int (iI fl), .int (iI re)]))] H := by rw [hHe]; exact hP
  have hS : va_S A s.heap H locs := by rw [hHe, hLe]; exact hS
  suffices hgo : W p l e ({ frames := 0, cells := 0, slots := 0, locals := 0 }) s m ([.ref h, .int (iI v)] : List Value).toArray below meth c H locs 0 0 Q (F0 m 0 ls []) by rw [hHe, hLe] at hgo; exact hgo
  clear hHe hLe
  refine lv_aload_n hx hb dX4_setFloor_0 rfl (lv_at hl 0 rfl) ?_
  refine lv_iload_n hx hb dX4_setFloor_1 rfl (lv_at hl 1 rfl) ?_
  refine z_put (v := .int (iI v)) (Cn := RX4) (T := TX4) (N := 4) (ci := 4) C in_X4_setFloor_X4 tyX4 tyX4_ok nmX4 hK hP hD hS 0 rfl rfl 2 (by decide) (List.mem_of_getElem? (i := 1) rfl) rfl rfl rfl (Nat.le_of_ble_eq_true rfl) dX4_setFloor_2 (fun H locs hP hD hS => ?_)
  have hP : zP g [(h, .inr (4, [.ref hn, .ref hs, .int (iI v), .int (iI re)]))] H := hP
  have hD : va_D A [(h, .inr (4, [.ref hn, .ref hs, .int (iI v), .int (iI re)]))] := hD
  exact z_retV hx hb hlk hr hQ dX4_setFloor_5 hS () (trivial) (hP)
set_option maxRecDepth 20000 in
theorem in_X4_setReach_X4 : ∀ w ∈ u_ws RX4 TX4 4, w ∈ wsX4_setReach := zmem_of _ [2, 3, 4, 5] (by decide +kernel)
set_option maxHeartbeats 4000000 in
set_option maxRecDepth 100000 in
theorem m_X4_setReach (l : Launch) (g : zG) (h hn hs : Nat) (fl re : Int) (v : Int)  : zV l yX4_setReach wsX4_setReach ({ frames := 0, cells := 0, slots := 0, locals := 0 }) g [.ref h, .int (iI v)] [(h, .inr (4, [.ref hn, .ref hs, .int (iI fl), .int (iI re)]))] (S := Unit) (fun _ => True) (fun _ => [(h, .inr (4, [.ref hn, .ref hs, .int (iI fl), .int (iI v)]))]) := by
  refine z_entV (cc := cX4_setReach) (nL := 2) (ret := none) (own := RX4) (by decide) rfl rfl (Nat.le_of_ble_eq_true rfl) ?_
  intro p e s m below meth c Q ls A C hlk hr hQ hP hK hD hA hS hl
  have hx := C.1
  have hb := C.2.1
  have hl : lv_has ls 2 [(0, .ref h), (1, .int (iI v))] := hl
  obtain ⟨H, hHe⟩ : ∃ H, H = s.heap := ⟨_, rfl⟩
  obtain ⟨locs, hLe⟩ : ∃ q : List Loc, q = [] := ⟨_, rfl⟩
  have hP : zP g [(h, .inr (4, [.ref hn, .ref hs, .int (iI fl), .int (iI re)]))] H := by rw [hHe]; exact hP
  have hS : va_S A s.heap H locs := by rw [hHe, hLe]; exact hS
  suffices hgo : W p l e ({ frames := 0, cells := 0, slots := 0, locals := 0 }) s m ([.ref h, .int (iI v)] : List Value).toArray below meth c H locs 0 0 Q (F0 m 0 ls []) by rw [hHe, hLe] at hgo; exact hgo
  clear hHe hLe
  refine lv_aload_n hx hb dX4_setReach_0 rfl (lv_at hl 0 rfl) ?_
  refine lv_iload_n hx hb dX4_setReach_1 rfl (lv_at hl 1 rfl) ?_
  refine z_put (v := .int (iI v)) (Cn := RX4) (T := TX4) (N := 4) (ci := 4) C in_X4_setReach_X4 tyX4 tyX4_ok nmX4 hK hP hD hS 0 rfl rfl 3 (by decide) (List.mem_of_getElem? (i := 1) rfl) rfl rfl rfl (Nat.le_of_ble_eq_true rfl) dX4_setReach_2 (fun H locs hP hD hS => ?_)
  have hP : zP g [(h, .inr (4, [.ref hn, .ref hs, .int (iI fl), .int (iI v)]))] H := hP
  have hD : va_D A [(h, .inr (4, [.ref hn, .ref hs, .int (iI fl), .int (iI v)]))] := hD
  exact z_retV hx hb hlk hr hQ dX4_setReach_5 hS () (trivial) (hP)
set_option maxRecDepth 20000 in
theorem in_X4_empty_X4 : ∀ w ∈ u_ws RX4 TX4 4, w ∈ wsX4_empty := zmem_of _ [2, 3, 4, 5] (by decide +kernel)
set_option maxHeartbeats 4000000 in
set_option maxRecDepth 100000 in
theorem m_X4_empty (l : Launch) (g : zG) (h hn hs : Nat) (fl re : Int) (SZ : Int → Int) (row : Int) (h1 : 0 ≤ row) (h2 : row < 5) : zV l yX4_empty wsX4_empty ({ frames := 0, cells := 0, slots := 0, locals := 0 }) g [.ref h, .int (iI row)] [(h, .inr (4, [.ref hn, .ref hs, .int (iI fl), .int (iI re)])), zI g hs 5 SZ] (S := Unit) (fun _ => True) (fun _ => [(h, .inr (4, [.ref hn, .ref hs, .int (iI fl), .int (iI re)])), zI g hs 5 (ups SZ row 0)]) := by
  refine z_entV (cc := cX4_empty) (nL := 2) (ret := none) (own := RX4) (by decide) rfl rfl (Nat.le_of_ble_eq_true rfl) ?_
  intro p e s m below meth c Q ls A C hlk hr hQ hP hK hD hA hS hl
  have hx := C.1
  have hb := C.2.1
  have hl : lv_has ls 2 [(0, .ref h), (1, .int (iI row))] := hl
  obtain ⟨H, hHe⟩ : ∃ H, H = s.heap := ⟨_, rfl⟩
  obtain ⟨locs, hLe⟩ : ∃ q : List Loc, q = [] := ⟨_, rfl⟩
  have hP : zP g [(h, .inr (4, [.ref hn, .ref hs, .int (iI fl), .int (iI re)])), zI g hs 5 SZ] H := by rw [hHe]; exact hP
  have hS : va_S A s.heap H locs := by rw [hHe, hLe]; exact hS
  suffices hgo : W p l e ({ frames := 0, cells := 0, slots := 0, locals := 0 }) s m ([.ref h, .int (iI row)] : List Value).toArray below meth c H locs 0 0 Q (F0 m 0 ls []) by rw [hHe, hLe] at hgo; exact hgo
  clear hHe hLe
  refine lv_aload_n hx hb dX4_empty_0 rfl (lv_at hl 0 rfl) ?_
  refine z_get (v := .ref hs) (Cn := RX4) (T := TX4) (N := 4) (ci := 4) C in_X4_empty_X4 hK hP 0 rfl rfl 1 (by decide) (List.mem_of_getElem? (i := 1) rfl) rfl dX4_empty_1 ?_
  refine lv_iload_n hx hb dX4_empty_4 rfl (lv_at hl 1 rfl) ?_
  refine lv_iconst (v := iI 0) hx hb dX4_empty_5 rfl ?_
  refine z_iast hx hb hK hP hD hS 1 rfl (by omega) (by omega) (Nat.le_of_ble_eq_true rfl) dX4_empty_6 (fun H locs hP hD hS => ?_)
  have hP : zP g [(h, .inr (4, [.ref hn, .ref hs, .int (iI fl), .int (iI re)])), zI g hs 5 (ups SZ row 0)] H := hP
  have hD : va_D A [(h, .inr (4, [.ref hn, .ref hs, .int (iI fl), .int (iI re)])), zI g hs 5 (ups SZ row 0)] := hD
  exact z_retV hx hb hlk hr hQ dX4_empty_7 hS () (trivial) (hP)
set_option maxRecDepth 20000 in
theorem in_X4_append_X4 : ∀ w ∈ u_ws RX4 TX4 4, w ∈ wsX4_append := zmem_of _ [3, 4, 5, 6] (by decide +kernel)
set_option maxHeartbeats 4000000 in
set_option maxRecDepth 100000 in
theorem m_X4_append (l : Launch) (g : zG) (h hn hs : Nat) (NU SZ : Int → Int) (fl re : Int) (row v : Int) (h1 : 0 ≤ row) (h2 : row < 5) (h3 : 0 ≤ SZ row) (h4 : SZ row < 128) : zV l yX4_append wsX4_append ({ frames := 0, cells := 0, slots := 0, locals := 0 }) g [.ref h, .int (iI row), .int (iI v)] [(h, .inr (4, [.ref hn, .ref hs, .int (iI fl), .int (iI re)])), zI g hn 640 NU, zI g hs 5 SZ] (S := Unit) (fun _ => True) (fun _ => [(h, .inr (4, [.ref hn, .ref hs, .int (iI fl), .int (iI re)])), zI g hn 640 (ups NU (row * 128 + SZ row) v), zI g hs 5 (ups SZ row (SZ row + 1))]) := by
  refine z_entV (cc := cX4_append) (nL := 4) (ret := none) (own := RX4) (by decide) rfl rfl (Nat.le_of_ble_eq_true rfl) ?_
  intro p e s m below meth c Q ls A C hlk hr hQ hP hK hD hA hS hl
  have hx := C.1
  have hb := C.2.1
  have hl : lv_has ls 4 [(0, .ref h), (1, .int (iI row)), (2, .int (iI v))] := hl
  obtain ⟨H, hHe⟩ : ∃ H, H = s.heap := ⟨_, rfl⟩
  obtain ⟨locs, hLe⟩ : ∃ q : List Loc, q = [] := ⟨_, rfl⟩
  have hP : zP g [(h, .inr (4, [.ref hn, .ref hs, .int (iI fl), .int (iI re)])), zI g hn 640 NU, zI g hs 5 SZ] H := by rw [hHe]; exact hP
  have hS : va_S A s.heap H locs := by rw [hHe, hLe]; exact hS
  suffices hgo : W p l e ({ frames := 0, cells := 0, slots := 0, locals := 0 }) s m ([.ref h, .int (iI row), .int (iI v)] : List Value).toArray below meth c H locs 0 0 Q (F0 m 0 ls []) by rw [hHe, hLe] at hgo; exact hgo
  clear hHe hLe
  refine lv_aload_n hx hb dX4_append_0 rfl (lv_at hl 0 rfl) ?_
  refine z_get (v := .ref hs) (Cn := RX4) (T := TX4) (N := 4) (ci := 4) C in_X4_append_X4 hK hP 0 rfl rfl 1 (by decide) (List.mem_of_getElem? (i := 1) rfl) rfl dX4_append_1 ?_
  refine lv_iload_n hx hb dX4_append_4 rfl (lv_at hl 1 rfl) ?_
  refine z_iald hx hb hK hP 2 rfl (by omega) (by omega) (Nat.le_of_ble_eq_true rfl) dX4_append_5 ?_
  refine lv_istore_n (lv' := [(3, .int (iI (SZ row))), (0, .ref h), (1, .int (iI row)), (2, .int (iI v))]) hx hb dX4_append_6 rfl hl (by decide) rfl (fun ls hl => ?_)
  refine lv_iload_n hx hb dX4_append_7 rfl (lv_at hl 0 rfl) ?_
  refine lv_sipush (v := iI 128) hx hb dX4_append_8 (by decide +kernel) ?_
  refine z_icmp_ge (tgt := 36) hx hb dX4_append_11 (by decide) (by omega) (by omega) (fun c_1 => ?_) (fun c_1 => ?_)
  · exfalso; omega
  · refine lv_aload_n hx hb dX4_append_14 rfl (lv_at hl 1 rfl) ?_
    refine z_get (v := .ref hn) (Cn := RX4) (T := TX4) (N := 4) (ci := 4) C in_X4_append_X4 hK hP 0 rfl rfl 0 (by decide) (List.mem_of_getElem? (i := 2) rfl) rfl dX4_append_15 ?_
    refine lv_iload_n hx hb dX4_append_18 rfl (lv_at hl 2 rfl) ?_
    refine lv_sipush (v := iI 128) hx hb dX4_append_19 (by decide +kernel) ?_
    refine z_imul hx hb dX4_append_22 ?_
    refine lv_iload_n hx hb dX4_append_23 rfl (lv_at hl 0 rfl) ?_
    refine z_iadd hx hb dX4_append_24 ?_
    refine lv_iload_n hx hb dX4_append_25 rfl (lv_at hl 3 rfl) ?_
    refine z_iast hx hb hK hP hD hS 1 rfl (by omega) (by omega) (Nat.le_of_ble_eq_true rfl) dX4_append_26 (fun H locs hP hD hS => ?_)
    have hP : zP g [(h, .inr (4, [.ref hn, .ref hs, .int (iI fl), .int (iI re)])), zI g hn 640 (ups NU ((row * 128) + (SZ row)) v), zI g hs 5 SZ] H := hP
    have hD : va_D A [(h, .inr (4, [.ref hn, .ref hs, .int (iI fl), .int (iI re)])), zI g hn 640 (ups NU ((row * 128) + (SZ row)) v), zI g hs 5 SZ] := hD
    refine lv_aload_n hx hb dX4_append_27 rfl (lv_at hl 1 rfl) ?_
    refine z_get (v := .ref hs) (Cn := RX4) (T := TX4) (N := 4) (ci := 4) C in_X4_append_X4 hK hP 0 rfl rfl 1 (by decide) (List.mem_of_getElem? (i := 1) rfl) rfl dX4_append_28 ?_
    refine lv_iload_n hx hb dX4_append_31 rfl (lv_at hl 2 rfl) ?_
    refine lv_iload_n hx hb dX4_append_32 rfl (lv_at hl 0 rfl) ?_
    refine lv_iconst (v := iI 1) hx hb dX4_append_33 rfl ?_
    refine z_iadd hx hb dX4_append_34 ?_
    refine z_iast hx hb hK hP hD hS 2 rfl (by omega) (by omega) (Nat.le_of_ble_eq_true rfl) dX4_append_35 (fun H locs hP hD hS => ?_)
    have hP : zP g [(h, .inr (4, [.ref hn, .ref hs, .int (iI fl), .int (iI re)])), zI g hn 640 (ups NU ((row * 128) + (SZ row)) v), zI g hs 5 (ups SZ row ((SZ row) + 1))] H := hP
    have hD : va_D A [(h, .inr (4, [.ref hn, .ref hs, .int (iI fl), .int (iI re)])), zI g hn 640 (ups NU ((row * 128) + (SZ row)) v), zI g hs 5 (ups SZ row ((SZ row) + 1))] := hD
    exact z_retV hx hb hlk hr hQ dX4_append_36 hS () (trivial) (hP)
set_option maxRecDepth 20000 in
theorem in_X4_replace_X4 : ∀ w ∈ u_ws RX4 TX4 4, w ∈ wsX4_replace := zmem_of _ [9, 10, 11, 12] (by decide +kernel)
set_option maxHeartbeats 4000000 in
set_option maxRecDepth 100000 in
theorem m_X4_replace (l : Launch) (g : zG) (h hn hs : Nat) (fl re : Int) (NU : Int → Int) (row i v : Int) (h1 : 0 ≤ row) (h2 : row < 5) (h3 : 0 ≤ i) (h4 : i < 128) (h5 : -100 ≤ NU (row * 128 + i) ∧ NU (row * 128 + i) ≤ 100) : zE l yX4_replace wsX4_replace ({ frames := 1, cells := 0, slots := 0, locals := 21 }) g [.ref h, .int (iI row), .int (iI i), .int (iI v)] [(h, .inr (4, [.ref hn, .ref hs, .int (iI fl), .int (iI re)])), zI g hn 640 NU] (S := Unit) (fun r _ => r = bI (cl v ≠ NU (row * 128 + i))) (fun _ => [(h, .inr (4, [.ref hn, .ref hs, .int (iI fl), .int (iI re)])), zI g hn 640 (ups NU (row * 128 + i) (cl v))]) := by
  refine z_entE (cc := cX4_replace) (nL := 7) (ret := (some .boolean)) (own := RX4) (by decide) rfl rfl (Nat.le_of_ble_eq_true rfl) ?_
  intro p e s m below meth c Q ls A C hlk hr hQ hP hK hD hA hS hl
  have hx := C.1
  have hb := C.2.1
  have hl : lv_has ls 7 [(0, .ref h), (1, .int (iI row)), (2, .int (iI i)), (3, .int (iI v))] := hl
  obtain ⟨H, hHe⟩ : ∃ H, H = s.heap := ⟨_, rfl⟩
  obtain ⟨locs, hLe⟩ : ∃ q : List Loc, q = [] := ⟨_, rfl⟩
  have hP : zP g [(h, .inr (4, [.ref hn, .ref hs, .int (iI fl), .int (iI re)])), zI g hn 640 NU] H := by rw [hHe]; exact hP
  have hS : va_S A s.heap H locs := by rw [hHe, hLe]; exact hS
  suffices hgo : W p l e ({ frames := 1, cells := 0, slots := 0, locals := 21 }) s m ([.ref h, .int (iI row), .int (iI i), .int (iI v)] : List Value).toArray below meth c H locs 0 0 Q (F0 m 0 ls []) by rw [hHe, hLe] at hgo; exact hgo
  clear hHe hLe
  refine lv_iload_n hx hb dX4_replace_0 rfl (lv_at hl 1 rfl) ?_
  refine lv_sipush (v := iI 128) hx hb dX4_replace_1 (by decide +kernel) ?_
  refine z_imul hx hb dX4_replace_4 ?_
  refine lv_iload_n hx hb dX4_replace_5 rfl (lv_at hl 2 rfl) ?_
  refine z_iadd hx hb dX4_replace_6 ?_
  refine lv_istore (lv' := [(4, .int (iI ((row * 128) + i))), (0, .ref h), (1, .int (iI row)), (2, .int (iI i)), (3, .int (iI v))]) hx hb dX4_replace_7 hl (by decide) rfl (fun ls hl => ?_)
  refine lv_aload_n hx hb dX4_replace_9 rfl (lv_at hl 1 rfl) ?_
  refine z_get (v := .ref hn) (Cn := RX4) (T := TX4) (N := 4) (ci := 4) C in_X4_replace_X4 hK hP 0 rfl rfl 0 (by decide) (List.mem_of_getElem? (i := 1) rfl) rfl dX4_replace_10 ?_
  refine lv_iload hx hb dX4_replace_13 (lv_at hl 0 rfl) ?_
  refine z_iald hx hb hK hP 1 rfl (by omega) (by omega) (Nat.le_of_ble_eq_true rfl) dX4_replace_15 ?_
  refine lv_istore (lv' := [(5, .int (iI (NU ((row * 128) + i)))), (4, .int (iI ((row * 128) + i))), (0, .ref h), (1, .int (iI row)), (2, .int (iI i)), (3, .int (iI v))]) hx hb dX4_replace_16 hl (by decide) rfl (fun ls hl => ?_)
  refine lv_bipush (v := iI (-100)) hx hb dX4_replace_18 (by decide +kernel) ?_
  refine lv_bipush (v := iI 100) hx hb dX4_replace_20 (by decide +kernel) ?_
  refine lv_iload_n hx hb dX4_replace_22 rfl (lv_at hl 5 rfl) ?_
  refine z_mmin C hl.1 (List.mem_of_getElem? (i := 2) rfl) (List.mem_of_getElem? (i := 3) rfl) (List.mem_of_getElem? (i := 4) rfl) (List.mem_of_getElem? (i := 5) rfl) (Nat.le_of_ble_eq_true rfl) (Nat.le_of_ble_eq_true rfl) (Nat.zero_le _) (Nat.zero_le _) dX4_replace_23 ?_
  refine z_mmax C hl.1 (List.mem_of_getElem? (i := 6) rfl) (List.mem_of_getElem? (i := 7) rfl) (List.mem_of_getElem? (i := 4) rfl) (List.mem_of_getElem? (i := 8) rfl) (Nat.le_of_ble_eq_true rfl) (Nat.le_of_ble_eq_true rfl) (Nat.zero_le _) (Nat.zero_le _) dX4_replace_26 ?_
  refine z_topI (b := cl v) (cl_mm v) ?_
  have hcl := cl_rg v
  refine lv_istore (lv' := [(6, .int (iI (cl v))), (5, .int (iI (NU ((row * 128) + i)))), (4, .int (iI ((row * 128) + i))), (0, .ref h), (1, .int (iI row)), (2, .int (iI i)), (3, .int (iI v))]) hx hb dX4_replace_29 hl (by decide) rfl (fun ls hl => ?_)
  refine lv_aload_n hx hb dX4_replace_31 rfl (lv_at hl 3 rfl) ?_
  refine z_get (v := .ref hn) (Cn := RX4) (T := TX4) (N := 4) (ci := 4) C in_X4_replace_X4 hK hP 0 rfl rfl 0 (by decide) (List.mem_of_getElem? (i := 1) rfl) rfl dX4_replace_32 ?_
  refine lv_iload hx hb dX4_replace_35 (lv_at hl 2 rfl) ?_
  refine lv_iload hx hb dX4_replace_37 (lv_at hl 0 rfl) ?_
  refine z_iast hx hb hK hP hD hS 1 rfl (by omega) (by omega) (Nat.le_of_ble_eq_true rfl) dX4_replace_39 (fun H locs hP hD hS => ?_)
  have hP : zP g [(h, .inr (4, [.ref hn, .ref hs, .int (iI fl), .int (iI re)])), zI g hn 640 (ups NU ((row * 128) + i) (cl v))] H := hP
  have hD : va_D A [(h, .inr (4, [.ref hn, .ref hs, .int (iI fl), .int (iI re)])), zI g hn 640 (ups NU ((row * 128) + i) (cl v))] := hD
  refine lv_iload hx hb dX4_replace_40 (lv_at hl 0 rfl) ?_
  refine lv_iload hx hb dX4_replace_42 (lv_at hl 1 rfl) ?_
  refine z_icmp_eq (tgt := 51) hx hb dX4_replace_44 (by decide) (by omega) (by omega) (fun c_1 => ?_) (fun c_1 => ?_)
  · refine lv_iconst (v := iI 0) hx hb dX4_replace_51 rfl ?_
    exact z_retEb hx hb hlk hr hQ dX4_replace_52 (by omega) hS () ((bI_f (fun h9 => h9 c_1)).symm) (hP)
  · refine lv_iconst (v := iI 1) hx hb dX4_replace_47 rfl ?_
    refine lv_goto (tgt := 52) hx hb dX4_replace_48 (by decide) ?_
    exact z_retEb hx hb hlk hr hQ dX4_replace_52 (by omega) hS () ((bI_t c_1).symm) (hP)
set_option maxRecDepth 20000 in
theorem in_X4_become_X4 : ∀ w ∈ u_ws RX4 TX4 4, w ∈ wsX4_become := zmem_of _ [9, 10, 11, 12] (by decide +kernel)
set_option maxHeartbeats 4000000 in
set_option maxRecDepth 100000 in
theorem m_X4_become (l : Launch) (g : zG) (h hn hs : Nat) (NU SZ : Int → Int) (fl re : Int) (k kn ks : Nat) (NV SV : Int → Int) (fm rm : Int)  : zV l yX4_become wsX4_become ({ frames := 1, cells := 0, slots := 0, locals := 60 }) g [.ref h, .ref k] [(h, .inr (4, [.ref hn, .ref hs, .int (iI fl), .int (iI re)])), zI g hn 640 NU, zI g hs 5 SZ, (k, .inr (4, [.ref kn, .ref ks, .int (iI fm), .int (iI rm)])), zI g kn 640 NV, zI g ks 5 SV] (S := Unit) (fun _ => True) (fun _ => [(h, .inr (4, [.ref hn, .ref hs, .int (iI fm), .int (iI rm)])), zI g hn 640 NV, zI g hs 5 SV, (k, .inr (4, [.ref kn, .ref ks, .int (iI fm), .int (iI rm)])), zI g kn 640 NV, zI g ks 5 SV]) := by
  refine z_entV (cc := cX4_become) (nL := 2) (ret := none) (own := RX4) (by decide) rfl rfl (Nat.le_of_ble_eq_true rfl) ?_
  intro p e s m below meth c Q ls A C hlk hr hQ hP hK hD hA hS hl
  have hx := C.1
  have hb := C.2.1
  have hl : lv_has ls 2 [(0, .ref h), (1, .ref k)] := hl
  obtain ⟨H, hHe⟩ : ∃ H, H = s.heap := ⟨_, rfl⟩
  obtain ⟨locs, hLe⟩ : ∃ q : List Loc, q = [] := ⟨_, rfl⟩
  have hP : zP g [(h, .inr (4, [.ref hn, .ref hs, .int (iI fl), .int (iI re)])), zI g hn 640 NU, zI g hs 5 SZ, (k, .inr (4, [.ref kn, .ref ks, .int (iI fm), .int (iI rm)])), zI g kn 640 NV, zI g ks 5 SV] H := by rw [hHe]; exact hP
  have hS : va_S A s.heap H locs := by rw [hHe, hLe]; exact hS
  suffices hgo : W p l e ({ frames := 1, cells := 0, slots := 0, locals := 60 }) s m ([.ref h, .ref k] : List Value).toArray below meth c H locs 0 0 Q (F0 m 0 ls []) by rw [hHe, hLe] at hgo; exact hgo
  clear hHe hLe
  refine lv_aload_n hx hb dX4_become_0 rfl (lv_at hl 1 rfl) ?_
  refine z_get (v := .ref kn) (Cn := RX4) (T := TX4) (N := 4) (ci := 4) C in_X4_become_X4 hK hP 3 rfl rfl 0 (by decide) (List.mem_of_getElem? (i := 1) rfl) rfl dX4_become_1 ?_
  refine lv_iconst (v := iI 0) hx hb dX4_become_4 rfl ?_
  refine lv_aload_n hx hb dX4_become_5 rfl (lv_at hl 0 rfl) ?_
  refine z_get (v := .ref hn) (Cn := RX4) (T := TX4) (N := 4) (ci := 4) C in_X4_become_X4 hK hP 0 rfl rfl 0 (by decide) (List.mem_of_getElem? (i := 1) rfl) rfl dX4_become_6 ?_
  refine lv_iconst (v := iI 0) hx hb dX4_become_9 rfl ?_
  refine lv_sipush (v := iI 640) hx hb dX4_become_10 (by decide +kernel) ?_
  refine z_copy C hl.1 (List.mem_of_getElem? (i := 2) rfl) (List.mem_of_getElem? (i := 3) rfl) (List.mem_of_getElem? (i := 4) rfl) (List.mem_of_getElem? (i := 5) rfl) hK hP hD hS 4 1 rfl rfl (by omega) (by omega) (by omega) (by omega) (by omega) (Nat.le_of_ble_eq_true rfl) (Nat.le_of_ble_eq_true rfl) (Nat.le_of_ble_eq_true rfl) (Nat.le_of_ble_eq_true rfl) dX4_become_13 (fun H locs hP hD hS => ?_)
  have hP : zP g [(h, .inr (4, [.ref hn, .ref hs, .int (iI fl), .int (iI re)])), zI g hn 640 (fun j => if 0 ≤ j ∧ j < 0 + 640 then NV (0 + (j - 0)) else NU j), zI g hs 5 SZ, (k, .inr (4, [.ref kn, .ref ks, .int (iI fm), .int (iI rm)])), zI g kn 640 NV, zI g ks 5 SV] H := hP
  have hD : va_D A [(h, .inr (4, [.ref hn, .ref hs, .int (iI fl), .int (iI re)])), zI g hn 640 (fun j => if 0 ≤ j ∧ j < 0 + 640 then NV (0 + (j - 0)) else NU j), zI g hs 5 SZ, (k, .inr (4, [.ref kn, .ref ks, .int (iI fm), .int (iI rm)])), zI g kn 640 NV, zI g ks 5 SV] := hD
  have hP := zP_arr hP 1 NV rfl (fun j h8 h9 => by rw [if_pos ⟨by omega, by omega⟩]; congr 1; omega)
  have hD := zD_set (c1 := (zI g hn 640 NV).2) hD 1 rfl
  have hP : zP g [(h, .inr (4, [.ref hn, .ref hs, .int (iI fl), .int (iI re)])), zI g hn 640 NV, zI g hs 5 SZ, (k, .inr (4, [.ref kn, .ref ks, .int (iI fm), .int (iI rm)])), zI g kn 640 NV, zI g ks 5 SV] H := hP
  have hD : va_D A [(h, .inr (4, [.ref hn, .ref hs, .int (iI fl), .int (iI re)])), zI g hn 640 NV, zI g hs 5 SZ, (k, .inr (4, [.ref kn, .ref ks, .int (iI fm), .int (iI rm)])), zI g kn 640 NV, zI g ks 5 SV] := hD
  refine lv_aload_n hx hb dX4_become_16 rfl (lv_at hl 1 rfl) ?_
  refine z_get (v := .ref ks) (Cn := RX4) (T := TX4) (N := 4) (ci := 4) C in_X4_become_X4 hK hP 3 rfl rfl 1 (by decide) (List.mem_of_getElem? (i := 6) rfl) rfl dX4_become_17 ?_
  refine lv_iconst (v := iI 0) hx hb dX4_become_20 rfl ?_
  refine lv_aload_n hx hb dX4_become_21 rfl (lv_at hl 0 rfl) ?_
  refine z_get (v := .ref hs) (Cn := RX4) (T := TX4) (N := 4) (ci := 4) C in_X4_become_X4 hK hP 0 rfl rfl 1 (by decide) (List.mem_of_getElem? (i := 6) rfl) rfl dX4_become_22 ?_
  refine lv_iconst (v := iI 0) hx hb dX4_become_25 rfl ?_
  refine lv_iconst (v := iI 5) hx hb dX4_become_26 rfl ?_
  refine z_copy C hl.1 (List.mem_of_getElem? (i := 2) rfl) (List.mem_of_getElem? (i := 3) rfl) (List.mem_of_getElem? (i := 4) rfl) (List.mem_of_getElem? (i := 5) rfl) hK hP hD hS 5 2 rfl rfl (by omega) (by omega) (by omega) (by omega) (by omega) (Nat.le_of_ble_eq_true rfl) (Nat.le_of_ble_eq_true rfl) (Nat.le_of_ble_eq_true rfl) (Nat.le_of_ble_eq_true rfl) dX4_become_27 (fun H locs hP hD hS => ?_)
  have hP : zP g [(h, .inr (4, [.ref hn, .ref hs, .int (iI fl), .int (iI re)])), zI g hn 640 NV, zI g hs 5 (fun j => if 0 ≤ j ∧ j < 0 + 5 then SV (0 + (j - 0)) else SZ j), (k, .inr (4, [.ref kn, .ref ks, .int (iI fm), .int (iI rm)])), zI g kn 640 NV, zI g ks 5 SV] H := hP
  have hD : va_D A [(h, .inr (4, [.ref hn, .ref hs, .int (iI fl), .int (iI re)])), zI g hn 640 NV, zI g hs 5 (fun j => if 0 ≤ j ∧ j < 0 + 5 then SV (0 + (j - 0)) else SZ j), (k, .inr (4, [.ref kn, .ref ks, .int (iI fm), .int (iI rm)])), zI g kn 640 NV, zI g ks 5 SV] := hD
  have hP := zP_arr hP 2 SV rfl (fun j h8 h9 => by rw [if_pos ⟨by omega, by omega⟩]; congr 1; omega)
  have hD := zD_set (c1 := (zI g hs 5 SV).2) hD 2 rfl
  have hP : zP g [(h, .inr (4, [.ref hn, .ref hs, .int (iI fl), .int (iI re)])), zI g hn 640 NV, zI g hs 5 SV, (k, .inr (4, [.ref kn, .ref ks, .int (iI fm), .int (iI rm)])), zI g kn 640 NV, zI g ks 5 SV] H := hP
  have hD : va_D A [(h, .inr (4, [.ref hn, .ref hs, .int (iI fl), .int (iI re)])), zI g hn 640 NV, zI g hs 5 SV, (k, .inr (4, [.ref kn, .ref ks, .int (iI fm), .int (iI rm)])), zI g kn 640 NV, zI g ks 5 SV] := hD
  refine lv_aload_n hx hb dX4_become_30 rfl (lv_at hl 0 rfl) ?_
  refine lv_aload_n hx hb dX4_become_31 rfl (lv_at hl 1 rfl) ?_
  refine z_get (v := .int (iI fm)) (Cn := RX4) (T := TX4) (N := 4) (ci := 4) C in_X4_become_X4 hK hP 3 rfl rfl 2 (by decide) (List.mem_of_getElem? (i := 7) rfl) rfl dX4_become_32 ?_
  refine z_put (v := .int (iI fm)) (Cn := RX4) (T := TX4) (N := 4) (ci := 4) C in_X4_become_X4 tyX4 tyX4_ok nmX4 hK hP hD hS 0 rfl rfl 2 (by decide) (List.mem_of_getElem? (i := 7) rfl) rfl rfl rfl (Nat.le_of_ble_eq_true rfl) dX4_become_35 (fun H locs hP hD hS => ?_)
  have hP : zP g [(h, .inr (4, [.ref hn, .ref hs, .int (iI fm), .int (iI re)])), zI g hn 640 NV, zI g hs 5 SV, (k, .inr (4, [.ref kn, .ref ks, .int (iI fm), .int (iI rm)])), zI g kn 640 NV, zI g ks 5 SV] H := hP
  have hD : va_D A [(h, .inr (4, [.ref hn, .ref hs, .int (iI fm), .int (iI re)])), zI g hn 640 NV, zI g hs 5 SV, (k, .inr (4, [.ref kn, .ref ks, .int (iI fm), .int (iI rm)])), zI g kn 640 NV, zI g ks 5 SV] := hD
  refine lv_aload_n hx hb dX4_become_38 rfl (lv_at hl 0 rfl) ?_
  refine lv_aload_n hx hb dX4_become_39 rfl (lv_at hl 1 rfl) ?_
  refine z_get (v := .int (iI rm)) (Cn := RX4) (T := TX4) (N := 4) (ci := 4) C in_X4_become_X4 hK hP 3 rfl rfl 3 (by decide) (List.mem_of_getElem? (i := 8) rfl) rfl dX4_become_40 ?_
  refine z_put (v := .int (iI rm)) (Cn := RX4) (T := TX4) (N := 4) (ci := 4) C in_X4_become_X4 tyX4 tyX4_ok nmX4 hK hP hD hS 0 rfl rfl 3 (by decide) (List.mem_of_getElem? (i := 8) rfl) rfl rfl rfl (Nat.le_of_ble_eq_true rfl) dX4_become_43 (fun H locs hP hD hS => ?_)
  have hP : zP g [(h, .inr (4, [.ref hn, .ref hs, .int (iI fm), .int (iI rm)])), zI g hn 640 NV, zI g hs 5 SV, (k, .inr (4, [.ref kn, .ref ks, .int (iI fm), .int (iI rm)])), zI g kn 640 NV, zI g ks 5 SV] H := hP
  have hD : va_D A [(h, .inr (4, [.ref hn, .ref hs, .int (iI fm), .int (iI rm)])), zI g hn 640 NV, zI g hs 5 SV, (k, .inr (4, [.ref kn, .ref ks, .int (iI fm), .int (iI rm)])), zI g kn 640 NV, zI g ks 5 SV] := hD
  exact z_retV hx hb hlk hr hQ dX4_become_46 hS () (trivial) (hP)
set_option maxRecDepth 20000 in
theorem in_X4_copyRowTo_X4 : ∀ w ∈ u_ws RX4 TX4 4, w ∈ wsX4_copyRowTo := zmem_of _ [6, 7, 8, 9] (by decide +kernel)
set_option maxHeartbeats 4000000 in
set_option maxRecDepth 100000 in
theorem m_X4_copyRowTo (l : Launch) (g : zG) (h hn hs : Nat) (fl re : Int) (NU : Int → Int) (t : Nat) (F : Int → Int) (row st : Int) (h1 : 0 ≤ row) (h2 : row < 5) (h3 : 0 ≤ st) (h4 : st + 128 ≤ 1024) : zV l yX4_copyRowTo wsX4_copyRowTo ({ frames := 1, cells := 0, slots := 0, locals := 60 }) g [.ref h, .int (iI row), .ref t, .int (iI st)] [(h, .inr (4, [.ref hn, .ref hs, .int (iI fl), .int (iI re)])), zI g hn 640 NU, zI g t 1024 F] (S := Unit) (fun _ => True) (fun _ => [(h, .inr (4, [.ref hn, .ref hs, .int (iI fl), .int (iI re)])), zI g hn 640 NU, zI g t 1024 (fun j => if st ≤ j ∧ j < st + 128 then NU (row * 128 + (j - st)) else F j)]) := by
  refine z_entV (cc := cX4_copyRowTo) (nL := 4) (ret := none) (own := RX4) (by decide) rfl rfl (Nat.le_of_ble_eq_true rfl) ?_
  intro p e s m below meth c Q ls A C hlk hr hQ hP hK hD hA hS hl
  have hx := C.1
  have hb := C.2.1
  have hl : lv_has ls 4 [(0, .ref h), (1, .int (iI row)), (2, .ref t), (3, .int (iI st))] := hl
  obtain ⟨H, hHe⟩ : ∃ H, H = s.heap := ⟨_, rfl⟩
  obtain ⟨locs, hLe⟩ : ∃ q : List Loc, q = [] := ⟨_, rfl⟩
  have hP : zP g [(h, .inr (4, [.ref hn, .ref hs, .int (iI fl), .int (iI re)])), zI g hn 640 NU, zI g t 1024 F] H := by rw [hHe]; exact hP
  have hS : va_S A s.heap H locs := by rw [hHe, hLe]; exact hS
  suffices hgo : W p l e ({ frames := 1, cells := 0, slots := 0, locals := 60 }) s m ([.ref h, .int (iI row), .ref t, .int (iI st)] : List Value).toArray below meth c H locs 0 0 Q (F0 m 0 ls []) by rw [hHe, hLe] at hgo; exact hgo
  clear hHe hLe
  refine lv_aload_n hx hb dX4_copyRowTo_0 rfl (lv_at hl 0 rfl) ?_
  refine z_get (v := .ref hn) (Cn := RX4) (T := TX4) (N := 4) (ci := 4) C in_X4_copyRowTo_X4 hK hP 0 rfl rfl 0 (by decide) (List.mem_of_getElem? (i := 1) rfl) rfl dX4_copyRowTo_1 ?_
  refine lv_iload_n hx hb dX4_copyRowTo_4 rfl (lv_at hl 1 rfl) ?_
  refine lv_sipush (v := iI 128) hx hb dX4_copyRowTo_5 (by decide +kernel) ?_
  refine z_imul hx hb dX4_copyRowTo_8 ?_
  refine lv_aload_n hx hb dX4_copyRowTo_9 rfl (lv_at hl 2 rfl) ?_
  refine lv_iload_n hx hb dX4_copyRowTo_10 rfl (lv_at hl 3 rfl) ?_
  refine lv_sipush (v := iI 128) hx hb dX4_copyRowTo_11 (by decide +kernel) ?_
  refine z_copy C hl.1 (List.mem_of_getElem? (i := 2) rfl) (List.mem_of_getElem? (i := 3) rfl) (List.mem_of_getElem? (i := 4) rfl) (List.mem_of_getElem? (i := 5) rfl) hK hP hD hS 1 2 rfl rfl (by omega) (by omega) (by omega) (by omega) (by omega) (Nat.le_of_ble_eq_true rfl) (Nat.le_of_ble_eq_true rfl) (Nat.le_of_ble_eq_true rfl) (Nat.le_of_ble_eq_true rfl) dX4_copyRowTo_14 (fun H locs hP hD hS => ?_)
  have hP : zP g [(h, .inr (4, [.ref hn, .ref hs, .int (iI fl), .int (iI re)])), zI g hn 640 NU, zI g t 1024 (fun j => if st ≤ j ∧ j < st + 128 then NU ((row * 128) + (j - st)) else F j)] H := hP
  have hD : va_D A [(h, .inr (4, [.ref hn, .ref hs, .int (iI fl), .int (iI re)])), zI g hn 640 NU, zI g t 1024 (fun j => if st ≤ j ∧ j < st + 128 then NU ((row * 128) + (j - st)) else F j)] := hD
  exact z_retV hx hb hlk hr hQ dX4_copyRowTo_17 hS () (trivial) (hP)
set_option maxRecDepth 20000 in
theorem in_X4_takeRow_X4 : ∀ w ∈ u_ws RX4 TX4 4, w ∈ wsX4_takeRow := zmem_of _ [7, 8, 9, 10] (by decide +kernel)
set_option maxHeartbeats 4000000 in
set_option maxRecDepth 100000 in
theorem m_X4_takeRow (l : Launch) (g : zG) (h hn hs : Nat) (NU SZ : Int → Int) (fl re : Int) (t : Nat) (F : Int → Int) (row st sz : Int) (h1 : 0 ≤ row) (h2 : row < 5) (h3 : 0 ≤ st) (h4 : st + 128 ≤ 1024) : zV l yX4_takeRow wsX4_takeRow ({ frames := 1, cells := 0, slots := 0, locals := 60 }) g [.ref h, .int (iI row), .ref t, .int (iI st), .int (iI sz)] [(h, .inr (4, [.ref hn, .ref hs, .int (iI fl), .int (iI re)])), zI g hn 640 NU, zI g hs 5 SZ, zI g t 1024 F] (S := Unit) (fun _ => True) (fun _ => [(h, .inr (4, [.ref hn, .ref hs, .int (iI fl), .int (iI re)])), zI g hn 640 (fun j => if row * 128 ≤ j ∧ j < row * 128 + 128 then F (st + (j - row * 128)) else NU j), zI g hs 5 (ups SZ row sz), zI g t 1024 F]) := by
  refine z_entV (cc := cX4_takeRow) (nL := 5) (ret := none) (own := RX4) (by decide) rfl rfl (Nat.le_of_ble_eq_true rfl) ?_
  intro p e s m below meth c Q ls A C hlk hr hQ hP hK hD hA hS hl
  have hx := C.1
  have hb := C.2.1
  have hl : lv_has ls 5 [(0, .ref h), (1, .int (iI row)), (2, .ref t), (3, .int (iI st)), (4, .int (iI sz))] := hl
  obtain ⟨H, hHe⟩ : ∃ H, H = s.heap := ⟨_, rfl⟩
  obtain ⟨locs, hLe⟩ : ∃ q : List Loc, q = [] := ⟨_, rfl⟩
  have hP : zP g [(h, .inr (4, [.ref hn, .ref hs, .int (iI fl), .int (iI re)])), zI g hn 640 NU, zI g hs 5 SZ, zI g t 1024 F] H := by rw [hHe]; exact hP
  have hS : va_S A s.heap H locs := by rw [hHe, hLe]; exact hS
  suffices hgo : W p l e ({ frames := 1, cells := 0, slots := 0, locals := 60 }) s m ([.ref h, .int (iI row), .ref t, .int (iI st), .int (iI sz)] : List Value).toArray below meth c H locs 0 0 Q (F0 m 0 ls []) by rw [hHe, hLe] at hgo; exact hgo
  clear hHe hLe
  refine lv_aload_n hx hb dX4_takeRow_0 rfl (lv_at hl 2 rfl) ?_
  refine lv_iload_n hx hb dX4_takeRow_1 rfl (lv_at hl 3 rfl) ?_
  refine lv_aload_n hx hb dX4_takeRow_2 rfl (lv_at hl 0 rfl) ?_
  refine z_get (v := .ref hn) (Cn := RX4) (T := TX4) (N := 4) (ci := 4) C in_X4_takeRow_X4 hK hP 0 rfl rfl 0 (by decide) (List.mem_of_getElem? (i := 1) rfl) rfl dX4_takeRow_3 ?_
  refine lv_iload_n hx hb dX4_takeRow_6 rfl (lv_at hl 1 rfl) ?_
  refine lv_sipush (v := iI 128) hx hb dX4_takeRow_7 (by decide +kernel) ?_
  refine z_imul hx hb dX4_takeRow_10 ?_
  refine lv_sipush (v := iI 128) hx hb dX4_takeRow_11 (by decide +kernel) ?_
  refine z_copy C hl.1 (List.mem_of_getElem? (i := 2) rfl) (List.mem_of_getElem? (i := 3) rfl) (List.mem_of_getElem? (i := 4) rfl) (List.mem_of_getElem? (i := 5) rfl) hK hP hD hS 3 1 rfl rfl (by omega) (by omega) (by omega) (by omega) (by omega) (Nat.le_of_ble_eq_true rfl) (Nat.le_of_ble_eq_true rfl) (Nat.le_of_ble_eq_true rfl) (Nat.le_of_ble_eq_true rfl) dX4_takeRow_14 (fun H locs hP hD hS => ?_)
  have hP : zP g [(h, .inr (4, [.ref hn, .ref hs, .int (iI fl), .int (iI re)])), zI g hn 640 (fun j => if row * 128 ≤ j ∧ j < (row * 128) + 128 then F (st + (j - (row * 128))) else NU j), zI g hs 5 SZ, zI g t 1024 F] H := hP
  have hD : va_D A [(h, .inr (4, [.ref hn, .ref hs, .int (iI fl), .int (iI re)])), zI g hn 640 (fun j => if row * 128 ≤ j ∧ j < (row * 128) + 128 then F (st + (j - (row * 128))) else NU j), zI g hs 5 SZ, zI g t 1024 F] := hD
  refine lv_aload_n hx hb dX4_takeRow_17 rfl (lv_at hl 0 rfl) ?_
  refine z_get (v := .ref hs) (Cn := RX4) (T := TX4) (N := 4) (ci := 4) C in_X4_takeRow_X4 hK hP 0 rfl rfl 1 (by decide) (List.mem_of_getElem? (i := 6) rfl) rfl dX4_takeRow_18 ?_
  refine lv_iload_n hx hb dX4_takeRow_21 rfl (lv_at hl 1 rfl) ?_
  refine lv_iload hx hb dX4_takeRow_22 (lv_at hl 4 rfl) ?_
  refine z_iast hx hb hK hP hD hS 2 rfl (by omega) (by omega) (Nat.le_of_ble_eq_true rfl) dX4_takeRow_24 (fun H locs hP hD hS => ?_)
  have hP : zP g [(h, .inr (4, [.ref hn, .ref hs, .int (iI fl), .int (iI re)])), zI g hn 640 (fun j => if row * 128 ≤ j ∧ j < (row * 128) + 128 then F (st + (j - (row * 128))) else NU j), zI g hs 5 (ups SZ row sz), zI g t 1024 F] H := hP
  have hD : va_D A [(h, .inr (4, [.ref hn, .ref hs, .int (iI fl), .int (iI re)])), zI g hn 640 (fun j => if row * 128 ≤ j ∧ j < (row * 128) + 128 then F (st + (j - (row * 128))) else NU j), zI g hs 5 (ups SZ row sz), zI g t 1024 F] := hD
  exact z_retV hx hb hlk hr hQ dX4_takeRow_25 hS () (trivial) (hP)
end
section
set_option maxRecDepth 20000 in
theorem in_X2_depth_X2 : ∀ w ∈ u_ws RX2 TX2 7, w ∈ wsX2_depth := zmem_of _ [2, 3, 4, 5, 6, 7, 8] (by decide +kernel)
set_option maxHeartbeats 4000000 in
set_option maxRecDepth 100000 in
theorem m_X2_depth (l : Launch) (g : zG) (b bn br bs bf be : Nat) (nx dp : Int)  : zS l yX2_depth wsX2_depth ({ frames := 0, cells := 0, slots := 0, locals := 0 }) g [.ref b] [(b, .inr (2, [.ref bn, .ref br, .ref bs, .ref bf, .ref be, .int (iI nx), .int (iI dp)]))] dp := by
  refine z_entS (cc := cX2_depth) (nL := 1) (ret := (some .int)) (own := RX2) (by decide) rfl rfl (Nat.le_of_ble_eq_true rfl) ?_
  intro p e s m below meth c Q ls C hlk hr hQ hP hK hl
  have hx := C.1
  have hb := C.2.1
  have hl : lv_has ls 1 [(0, .ref b)] := hl
  refine lv_aload_n hx hb dX2_depth_0 rfl (lv_at hl 0 rfl) ?_
  refine z_get (v := .int (iI dp)) (Cn := RX2) (T := TX2) (N := 7) (ci := 2) C in_X2_depth_X2 hK hP 0 rfl rfl 6 (by decide) (List.mem_of_getElem? (i := 1) rfl) rfl dX2_depth_1 ?_
  exact z_retS hx hb hlk hr hQ dX2_depth_4 (rfl)
set_option maxRecDepth 20000 in
theorem in_X2_forget_X2 : ∀ w ∈ u_ws RX2 TX2 7, w ∈ wsX2_forget := zmem_of _ [2, 3, 4, 5, 6, 7, 8] (by decide +kernel)
set_option maxHeartbeats 4000000 in
set_option maxRecDepth 100000 in
theorem m_X2_forget (l : Launch) (g : zG) (b bn br bs bf be : Nat) (nx dp : Int)  : zV l yX2_forget wsX2_forget ({ frames := 0, cells := 0, slots := 0, locals := 0 }) g [.ref b] [(b, .inr (2, [.ref bn, .ref br, .ref bs, .ref bf, .ref be, .int (iI nx), .int (iI dp)]))] (S := Unit) (fun _ => True) (fun _ => [(b, .inr (2, [.ref bn, .ref br, .ref bs, .ref bf, .ref be, .int (iI nx), .int (iI 0)]))]) := by
  refine z_entV (cc := cX2_forget) (nL := 1) (ret := none) (own := RX2) (by decide) rfl rfl (Nat.le_of_ble_eq_true rfl) ?_
  intro p e s m below meth c Q ls A C hlk hr hQ hP hK hD hA hS hl
  have hx := C.1
  have hb := C.2.1
  have hl : lv_has ls 1 [(0, .ref b)] := hl
  obtain ⟨H, hHe⟩ : ∃ H, H = s.heap := ⟨_, rfl⟩
  obtain ⟨locs, hLe⟩ : ∃ q : List Loc, q = [] := ⟨_, rfl⟩
  have hP : zP g [(b, .inr (2, [.ref bn, .ref br, .ref bs, .ref bf, .ref be, .int (iI nx), .int (iI dp)]))] H := by rw [hHe]; exact hP
  have hS : va_S A s.heap H locs := by rw [hHe, hLe]; exact hS
  suffices hgo : W p l e ({ frames := 0, cells := 0, slots := 0, locals := 0 }) s m ([.ref b] : List Value).toArray below meth c H locs 0 0 Q (F0 m 0 ls []) by rw [hHe, hLe] at hgo; exact hgo
  clear hHe hLe
  refine lv_aload_n hx hb dX2_forget_0 rfl (lv_at hl 0 rfl) ?_
  refine lv_iconst (v := iI 0) hx hb dX2_forget_1 rfl ?_
  refine z_put (v := .int (iI 0)) (Cn := RX2) (T := TX2) (N := 7) (ci := 2) C in_X2_forget_X2 tyX2 tyX2_ok nmX2 hK hP hD hS 0 rfl rfl 6 (by decide) (List.mem_of_getElem? (i := 1) rfl) rfl rfl rfl (Nat.le_of_ble_eq_true rfl) dX2_forget_2 (fun H locs hP hD hS => ?_)
  have hP : zP g [(b, .inr (2, [.ref bn, .ref br, .ref bs, .ref bf, .ref be, .int (iI nx), .int (iI 0)]))] H := hP
  have hD : va_D A [(b, .inr (2, [.ref bn, .ref br, .ref bs, .ref bf, .ref be, .int (iI nx), .int (iI 0)]))] := hD
  exact z_retV hx hb hlk hr hQ dX2_forget_5 hS () (trivial) (hP)
set_option maxRecDepth 20000 in
theorem in_X2_remember_X2 : ∀ w ∈ u_ws RX2 TX2 7, w ∈ wsX2_remember := zmem_of _ [37, 38, 39, 40, 41, 42, 43] (by decide +kernel)
set_option maxHeartbeats 4000000 in
set_option maxRecDepth 100000 in
theorem m_X2_remember (l : Launch) (g : zG) (b bn br bs bf be : Nat) (nx dp : Int) (NB RR RS RF RE : Int → Int) (h hn hs : Nat) (NU SZ : Int → Int) (fl re : Int) (row : Int) (h1 : 0 ≤ row) (h2 : row < 5) (h3 : 0 ≤ nx) (h4 : nx < 8) (h5 : 0 ≤ dp) (h6 : dp ≤ 8) : zV l yX2_remember wsX2_remember ({ frames := 2, cells := 0, slots := 0, locals := 83 }) g [.ref b, .ref h, .int (iI row)] [(b, .inr (2, [.ref bn, .ref br, .ref bs, .ref bf, .ref be, .int (iI nx), .int (iI dp)])), zI g bn 1024 NB, zI g br 8 RR, zI g bs 8 RS, zI g bf 8 RF, zI g be 8 RE, (h, .inr (4, [.ref hn, .ref hs, .int (iI fl), .int (iI re)])), zI g hn 640 NU, zI g hs 5 SZ] (S := Unit) (fun _ => True) (fun _ => [(b, .inr (2, [.ref bn, .ref br, .ref bs, .ref bf, .ref be, .int (iI ((nx + 1) % 8)), .int (iI (min (dp + 1) 8))])), zI g bn 1024 (fun j => if nx * 128 ≤ j ∧ j < nx * 128 + 128 then NU (row * 128 + (j - nx * 128)) else NB j), zI g br 8 (ups RR nx row), zI g bs 8 (ups RS nx (SZ row)), zI g bf 8 (ups RF nx fl), zI g be 8 (ups RE nx re), (h, .inr (4, [.ref hn, .ref hs, .int (iI fl), .int (iI re)])), zI g hn 640 NU, zI g hs 5 SZ]) := by
  refine z_entV (cc := cX2_remember) (nL := 3) (ret := none) (own := RX2) (by decide) rfl rfl (Nat.le_of_ble_eq_true rfl) ?_
  intro p e s m below meth c Q ls A C hlk hr hQ hP hK hD hA hS hl
  have hx := C.1
  have hb := C.2.1
  have hl : lv_has ls 3 [(0, .ref b), (1, .ref h), (2, .int (iI row))] := hl
  obtain ⟨H, hHe⟩ : ∃ H, H = s.heap := ⟨_, rfl⟩
  obtain ⟨locs, hLe⟩ : ∃ q : List Loc, q = [] := ⟨_, rfl⟩
  have hP : zP g [(b, .inr (2, [.ref bn, .ref br, .ref bs, .ref bf, .ref be, .int (iI nx), .int (iI dp)])), zI g bn 1024 NB, zI g br 8 RR, zI g bs 8 RS, zI g bf 8 RF, zI g be 8 RE, (h, .inr (4, [.ref hn, .ref hs, .int (iI fl), .int (iI re)])), zI g hn 640 NU, zI g hs 5 SZ] H := by rw [hHe]; exact hP
  have hS : va_S A s.heap H locs := by rw [hHe, hLe]; exact hS
  suffices hgo : W p l e ({ frames := 2, cells := 0, slots := 0, locals := 83 }) s m ([.ref b, .ref h, .int (iI row)] : List Value).toArray below meth c H locs 0 0 Q (F0 m 0 ls []) by rw [hHe, hLe] at hgo; exact hgo
  clear hHe hLe
  refine lv_aload_n hx hb dX2_remember_0 rfl (lv_at hl 1 rfl) ?_
  refine lv_iload_n hx hb dX2_remember_1 rfl (lv_at hl 2 rfl) ?_
  refine lv_aload_n hx hb dX2_remember_2 rfl (lv_at hl 0 rfl) ?_
  refine z_get (v := .ref bn) (Cn := RX2) (T := TX2) (N := 7) (ci := 2) C in_X2_remember_X2 hK hP 0 rfl rfl 0 (by decide) (List.mem_of_getElem? (i := 1) rfl) rfl dX2_remember_3 ?_
  refine lv_aload_n hx hb dX2_remember_6 rfl (lv_at hl 0 rfl) ?_
  refine z_get (v := .int (iI nx)) (Cn := RX2) (T := TX2) (N := 7) (ci := 2) C in_X2_remember_X2 hK hP 0 rfl rfl 5 (by decide) (List.mem_of_getElem? (i := 2) rfl) rfl dX2_remember_7 ?_
  refine lv_sipush (v := iI 128) hx hb dX2_remember_10 (by decide +kernel) ?_
  refine z_imul hx hb dX2_remember_13 ?_
  refine z_cV (As := [.int (iI row), .ref bn, .int (iI (nx * 128))]) (rest := []) C (m_X4_copyRowTo (l := l) (g := g) (h := h) (hn := hn) (hs := hs) (fl := fl) (re := re) (NU := NU) (t := bn) (F := NB) (row := row) (st := nx * 128) (h1 := by omega) (h2 := by omega) (h3 := by omega) (h4 := by omega)) (cwV 3 C.2.2.2.2 gX2_remember_X4_copyRowTo rfl rfl rfl (by decide +kernel) ⟨Nat.le_of_ble_eq_true rfl, Nat.le_of_ble_eq_true rfl⟩) hK hP hD hS hA [6, 7, 1] (by decide) rfl (fun _ => rfl) 6 rfl rfl rfl hl.1 rfl (Nat.le_of_ble_eq_true rfl) dX2_remember_14 ⟨Nat.zero_le _, Nat.zero_le _⟩ (fun u_1 H locs hq_2 hP hD hS => ?_)
  have hP : zP g [(b, .inr (2, [.ref bn, .ref br, .ref bs, .ref bf, .ref be, .int (iI nx), .int (iI dp)])), zI g bn 1024 (fun j => if (nx * 128) ≤ j ∧ j < (nx * 128) + 128 then NU (row * 128 + (j - (nx * 128))) else NB j), zI g br 8 RR, zI g bs 8 RS, zI g bf 8 RF, zI g be 8 RE, (h, .inr (4, [.ref hn, .ref hs, .int (iI fl), .int (iI re)])), zI g hn 640 NU, zI g hs 5 SZ] H := hP
  have hD : va_D A [(b, .inr (2, [.ref bn, .ref br, .ref bs, .ref bf, .ref be, .int (iI nx), .int (iI dp)])), zI g bn 1024 (fun j => if (nx * 128) ≤ j ∧ j < (nx * 128) + 128 then NU (row * 128 + (j - (nx * 128))) else NB j), zI g br 8 RR, zI g bs 8 RS, zI g bf 8 RF, zI g be 8 RE, (h, .inr (4, [.ref hn, .ref hs, .int (iI fl), .int (iI re)])), zI g hn 640 NU, zI g hs 5 SZ] := hD
  refine lv_aload_n hx hb dX2_remember_17 rfl (lv_at hl 0 rfl) ?_
  refine z_get (v := .ref br) (Cn := RX2) (T := TX2) (N := 7) (ci := 2) C in_X2_remember_X2 hK hP 0 rfl rfl 1 (by decide) (List.mem_of_getElem? (i := 3) rfl) rfl dX2_remember_18 ?_
  refine lv_aload_n hx hb dX2_remember_21 rfl (lv_at hl 0 rfl) ?_
  refine z_get (v := .int (iI nx)) (Cn := RX2) (T := TX2) (N := 7) (ci := 2) C in_X2_remember_X2 hK hP 0 rfl rfl 5 (by decide) (List.mem_of_getElem? (i := 2) rfl) rfl dX2_remember_22 ?_
  refine lv_iload_n hx hb dX2_remember_25 rfl (lv_at hl 2 rfl) ?_
  refine z_iast hx hb hK hP hD hS 2 rfl (by omega) (by omega) (Nat.le_of_ble_eq_true rfl) dX2_remember_26 (fun H locs hP hD hS => ?_)
  have hP : zP g [(b, .inr (2, [.ref bn, .ref br, .ref bs, .ref bf, .ref be, .int (iI nx), .int (iI dp)])), zI g bn 1024 (fun j => if (nx * 128) ≤ j ∧ j < (nx * 128) + 128 then NU (row * 128 + (j - (nx * 128))) else NB j), zI g br 8 (ups RR nx row), zI g bs 8 RS, zI g bf 8 RF, zI g be 8 RE, (h, .inr (4, [.ref hn, .ref hs, .int (iI fl), .int (iI re)])), zI g hn 640 NU, zI g hs 5 SZ] H := hP
  have hD : va_D A [(b, .inr (2, [.ref bn, .ref br, .ref bs, .ref bf, .ref be, .int (iI nx), .int (iI dp)])), zI g bn 1024 (fun j => if (nx * 128) ≤ j ∧ j < (nx * 128) + 128 then NU (row * 128 + (j - (nx * 128))) else NB j), zI g br 8 (ups RR nx row), zI g bs 8 RS, zI g bf 8 RF, zI g be 8 RE, (h, .inr (4, [.ref hn, .ref hs, .int (iI fl), .int (iI re)])), zI g hn 640 NU, zI g hs 5 SZ] := hD
  refine lv_aload_n hx hb dX2_remember_27 rfl (lv_at hl 0 rfl) ?_
  refine z_get (v := .ref bs) (Cn := RX2) (T := TX2) (N := 7) (ci := 2) C in_X2_remember_X2 hK hP 0 rfl rfl 2 (by decide) (List.mem_of_getElem? (i := 4) rfl) rfl dX2_remember_28 ?_
  refine lv_aload_n hx hb dX2_remember_31 rfl (lv_at hl 0 rfl) ?_
  refine z_get (v := .int (iI nx)) (Cn := RX2) (T := TX2) (N := 7) (ci := 2) C in_X2_remember_X2 hK hP 0 rfl rfl 5 (by decide) (List.mem_of_getElem? (i := 2) rfl) rfl dX2_remember_32 ?_
  refine lv_aload_n hx hb dX2_remember_35 rfl (lv_at hl 1 rfl) ?_
  refine lv_iload_n hx hb dX2_remember_36 rfl (lv_at hl 2 rfl) ?_
  refine z_cS (As := [.int (iI row)]) (rest := [.int (iI nx), .ref bs]) C (m_X4_sizeOf (l := l) (g := g) (h := h) (hn := hn) (hs := hs) (fl := fl) (re := re) (SZ := SZ) (row := row) (h1 := by omega) (h2 := by omega)) (cwV 1 C.2.2.2.2 gX2_remember_X4_sizeOf rfl rfl rfl (by decide +kernel) ⟨Nat.le_of_ble_eq_true rfl, Nat.le_of_ble_eq_true rfl⟩) hK hP [6, 8] rfl 6 rfl rfl rfl hl.1 rfl (Nat.le_of_ble_eq_true rfl) dX2_remember_37 ⟨Nat.zero_le _, Nat.zero_le _⟩ ?_
  refine z_iast hx hb hK hP hD hS 3 rfl (by omega) (by omega) (Nat.le_of_ble_eq_true rfl) dX2_remember_40 (fun H locs hP hD hS => ?_)
  have hP : zP g [(b, .inr (2, [.ref bn, .ref br, .ref bs, .ref bf, .ref be, .int (iI nx), .int (iI dp)])), zI g bn 1024 (fun j => if (nx * 128) ≤ j ∧ j < (nx * 128) + 128 then NU (row * 128 + (j - (nx * 128))) else NB j), zI g br 8 (ups RR nx row), zI g bs 8 (ups RS nx (SZ row)), zI g bf 8 RF, zI g be 8 RE, (h, .inr (4, [.ref hn, .ref hs, .int (iI fl), .int (iI re)])), zI g hn 640 NU, zI g hs 5 SZ] H := hP
  have hD : va_D A [(b, .inr (2, [.ref bn, .ref br, .ref bs, .ref bf, .ref be, .int (iI nx), .int (iI dp)])), zI g bn 1024 (fun j => if (nx * 128) ≤ j ∧ j < (nx * 128) + 128 then NU (row * 128 + (j - (nx * 128))) else NB j), zI g br 8 (ups RR nx row), zI g bs 8 (ups RS nx (SZ row)), zI g bf 8 RF, zI g be 8 RE, (h, .inr (4, [.ref hn, .ref hs, .int (iI fl), .int (iI re)])), zI g hn 640 NU, zI g hs 5 SZ] := hD
  refine lv_aload_n hx hb dX2_remember_41 rfl (lv_at hl 0 rfl) ?_
  refine z_get (v := .ref bf) (Cn := RX2) (T := TX2) (N := 7) (ci := 2) C in_X2_remember_X2 hK hP 0 rfl rfl 3 (by decide) (List.mem_of_getElem? (i := 5) rfl) rfl dX2_remember_42 ?_
  refine lv_aload_n hx hb dX2_remember_45 rfl (lv_at hl 0 rfl) ?_
  refine z_get (v := .int (iI nx)) (Cn := RX2) (T := TX2) (N := 7) (ci := 2) C in_X2_remember_X2 hK hP 0 rfl rfl 5 (by decide) (List.mem_of_getElem? (i := 2) rfl) rfl dX2_remember_46 ?_
  refine lv_aload_n hx hb dX2_remember_49 rfl (lv_at hl 1 rfl) ?_
  refine z_cS (As := []) (rest := [.int (iI nx), .ref bf]) C (m_X4_floor (l := l) (g := g) (h := h) (hn := hn) (hs := hs) (fl := fl) (re := re) ) (cwV 0 C.2.2.2.2 gX2_remember_X4_floor rfl rfl rfl (by decide +kernel) ⟨Nat.le_of_ble_eq_true rfl, Nat.le_of_ble_eq_true rfl⟩) hK hP [6] rfl 6 rfl rfl rfl hl.1 rfl (Nat.le_of_ble_eq_true rfl) dX2_remember_50 ⟨Nat.zero_le _, Nat.zero_le _⟩ ?_
  refine z_iast hx hb hK hP hD hS 4 rfl (by omega) (by omega) (Nat.le_of_ble_eq_true rfl) dX2_remember_53 (fun H locs hP hD hS => ?_)
  have hP : zP g [(b, .inr (2, [.ref bn, .ref br, .ref bs, .ref bf, .ref be, .int (iI nx), .int (iI dp)])), zI g bn 1024 (fun j => if (nx * 128) ≤ j ∧ j < (nx * 128) + 128 then NU (row * 128 + (j - (nx * 128))) else NB j), zI g br 8 (ups RR nx row), zI g bs 8 (ups RS nx (SZ row)), zI g bf 8 (ups RF nx fl), zI g be 8 RE, (h, .inr (4, [.ref hn, .ref hs, .int (iI fl), .int (iI re)])), zI g hn 640 NU, zI g hs 5 SZ] H := hP
  have hD : va_D A [(b, .inr (2, [.ref bn, .ref br, .ref bs, .ref bf, .ref be, .int (iI nx), .int (iI dp)])), zI g bn 1024 (fun j => if (nx * 128) ≤ j ∧ j < (nx * 128) + 128 then NU (row * 128 + (j - (nx * 128))) else NB j), zI g br 8 (ups RR nx row), zI g bs 8 (ups RS nx (SZ row)), zI g bf 8 (ups RF nx fl), zI g be 8 RE, (h, .inr (4, [.ref hn, .ref hs, .int (iI fl), .int (iI re)])), zI g hn 640 NU, zI g hs 5 SZ] := hD
  refine lv_aload_n hx hb dX2_remember_54 rfl (lv_at hl 0 rfl) ?_
  refine z_get (v := .ref be) (Cn := RX2) (T := TX2) (N := 7) (ci := 2) C in_X2_remember_X2 hK hP 0 rfl rfl 4 (by decide) (List.mem_of_getElem? (i := 6) rfl) rfl dX2_remember_55 ?_
  refine lv_aload_n hx hb dX2_remember_58 rfl (lv_at hl 0 rfl) ?_
  refine z_get (v := .int (iI nx)) (Cn := RX2) (T := TX2) (N := 7) (ci := 2) C in_X2_remember_X2 hK hP 0 rfl rfl 5 (by decide) (List.mem_of_getElem? (i := 2) rfl) rfl dX2_remember_59 ?_
  refine lv_aload_n hx hb dX2_remember_62 rfl (lv_at hl 1 rfl) ?_
  refine z_cS (As := []) (rest := [.int (iI nx), .ref be]) C (m_X4_reach (l := l) (g := g) (h := h) (hn := hn) (hs := hs) (fl := fl) (re := re) ) (cwV 0 C.2.2.2.2 gX2_remember_X4_reach rfl rfl rfl (by decide +kernel) ⟨Nat.le_of_ble_eq_true rfl, Nat.le_of_ble_eq_true rfl⟩) hK hP [6] rfl 6 rfl rfl rfl hl.1 rfl (Nat.le_of_ble_eq_true rfl) dX2_remember_63 ⟨Nat.zero_le _, Nat.zero_le _⟩ ?_
  refine z_iast hx hb hK hP hD hS 5 rfl (by omega) (by omega) (Nat.le_of_ble_eq_true rfl) dX2_remember_66 (fun H locs hP hD hS => ?_)
  have hP : zP g [(b, .inr (2, [.ref bn, .ref br, .ref bs, .ref bf, .ref be, .int (iI nx), .int (iI dp)])), zI g bn 1024 (fun j => if (nx * 128) ≤ j ∧ j < (nx * 128) + 128 then NU (row * 128 + (j - (nx * 128))) else NB j), zI g br 8 (ups RR nx row), zI g bs 8 (ups RS nx (SZ row)), zI g bf 8 (ups RF nx fl), zI g be 8 (ups RE nx re), (h, .inr (4, [.ref hn, .ref hs, .int (iI fl), .int (iI re)])), zI g hn 640 NU, zI g hs 5 SZ] H := hP
  have hD : va_D A [(b, .inr (2, [.ref bn, .ref br, .ref bs, .ref bf, .ref be, .int (iI nx), .int (iI dp)])), zI g bn 1024 (fun j => if (nx * 128) ≤ j ∧ j < (nx * 128) + 128 then NU (row * 128 + (j - (nx * 128))) else NB j), zI g br 8 (ups RR nx row), zI g bs 8 (ups RS nx (SZ row)), zI g bf 8 (ups RF nx fl), zI g be 8 (ups RE nx re), (h, .inr (4, [.ref hn, .ref hs, .int (iI fl), .int (iI re)])), zI g hn 640 NU, zI g hs 5 SZ] := hD
  refine lv_aload_n hx hb dX2_remember_67 rfl (lv_at hl 0 rfl) ?_
  refine lv_aload_n hx hb dX2_remember_68 rfl (lv_at hl 0 rfl) ?_
  refine z_get (v := .int (iI nx)) (Cn := RX2) (T := TX2) (N := 7) (ci := 2) C in_X2_remember_X2 hK hP 0 rfl rfl 5 (by decide) (List.mem_of_getElem? (i := 2) rfl) rfl dX2_remember_69 ?_
  refine lv_iconst (v := iI 1) hx hb dX2_remember_72 rfl ?_
  refine z_iadd hx hb dX2_remember_73 ?_
  refine lv_bipush (v := iI 8) hx hb dX2_remember_74 (by decide +kernel) ?_
  refine z_iremN hx hb dX2_remember_76 (by omega) (by omega) (by omega) (by omega) ?_
  refine z_put (v := .int (iI ((nx + 1) % 8))) (Cn := RX2) (T := TX2) (N := 7) (ci := 2) C in_X2_remember_X2 tyX2 tyX2_ok nmX2 hK hP hD hS 0 rfl rfl 5 (by decide) (List.mem_of_getElem? (i := 2) rfl) rfl rfl rfl (Nat.le_of_ble_eq_true rfl) dX2_remember_77 (fun H locs hP hD hS => ?_)
  have hP : zP g [(b, .inr (2, [.ref bn, .ref br, .ref bs, .ref bf, .ref be, .int (iI ((nx + 1) % 8)), .int (iI dp)])), zI g bn 1024 (fun j => if (nx * 128) ≤ j ∧ j < (nx * 128) + 128 then NU (row * 128 + (j - (nx * 128))) else NB j), zI g br 8 (ups RR nx row), zI g bs 8 (ups RS nx (SZ row)), zI g bf 8 (ups RF nx fl), zI g be 8 (ups RE nx re), (h, .inr (4, [.ref hn, .ref hs, .int (iI fl), .int (iI re)])), zI g hn 640 NU, zI g hs 5 SZ] H := hP
  have hD : va_D A [(b, .inr (2, [.ref bn, .ref br, .ref bs, .ref bf, .ref be, .int (iI ((nx + 1) % 8)), .int (iI dp)])), zI g bn 1024 (fun j => if (nx * 128) ≤ j ∧ j < (nx * 128) + 128 then NU (row * 128 + (j - (nx * 128))) else NB j), zI g br 8 (ups RR nx row), zI g bs 8 (ups RS nx (SZ row)), zI g bf 8 (ups RF nx fl), zI g be 8 (ups RE nx re), (h, .inr (4, [.ref hn, .ref hs, .int (iI fl), .int (iI re)])), zI g hn 640 NU, zI g hs 5 SZ] := hD
  refine lv_aload_n hx hb dX2_remember_80 rfl (lv_at hl 0 rfl) ?_
  refine lv_aload_n hx hb dX2_remember_81 rfl (lv_at hl 0 rfl) ?_
  refine z_get (v := .int (iI dp)) (Cn := RX2) (T := TX2) (N := 7) (ci := 2) C in_X2_remember_X2 hK hP 0 rfl rfl 6 (by decide) (List.mem_of_getElem? (i := 7) rfl) rfl dX2_remember_82 ?_
  refine lv_iconst (v := iI 1) hx hb dX2_remember_85 rfl ?_
  refine z_iadd hx hb dX2_remember_86 ?_
  refine lv_bipush (v := iI 8) hx hb dX2_remember_87 (by decide +kernel) ?_
  refine z_mmin C hl.1 (List.mem_of_getElem? (i := 8) rfl) (List.mem_of_getElem? (i := 9) rfl) (List.mem_of_getElem? (i := 10) rfl) (List.mem_of_getElem? (i := 11) rfl) (Nat.le_of_ble_eq_true rfl) (Nat.le_of_ble_eq_true rfl) (Nat.zero_le _) (Nat.zero_le _) dX2_remember_89 ?_
  refine z_top (b := min (dp + 1) 8) (by rw [zr_of (by omega) (by omega), zr_of (by omega) (by omega)]; split <;> omega) ?_
  refine z_put (v := .int (iI (min (dp + 1) 8))) (Cn := RX2) (T := TX2) (N := 7) (ci := 2) C in_X2_remember_X2 tyX2 tyX2_ok nmX2 hK hP hD hS 0 rfl rfl 6 (by decide) (List.mem_of_getElem? (i := 7) rfl) rfl rfl rfl (Nat.le_of_ble_eq_true rfl) dX2_remember_92 (fun H locs hP hD hS => ?_)
  have hP : zP g [(b, .inr (2, [.ref bn, .ref br, .ref bs, .ref bf, .ref be, .int (iI ((nx + 1) % 8)), .int (iI (min (dp + 1) 8))])), zI g bn 1024 (fun j => if (nx * 128) ≤ j ∧ j < (nx * 128) + 128 then NU (row * 128 + (j - (nx * 128))) else NB j), zI g br 8 (ups RR nx row), zI g bs 8 (ups RS nx (SZ row)), zI g bf 8 (ups RF nx fl), zI g be 8 (ups RE nx re), (h, .inr (4, [.ref hn, .ref hs, .int (iI fl), .int (iI re)])), zI g hn 640 NU, zI g hs 5 SZ] H := hP
  have hD : va_D A [(b, .inr (2, [.ref bn, .ref br, .ref bs, .ref bf, .ref be, .int (iI ((nx + 1) % 8)), .int (iI (min (dp + 1) 8))])), zI g bn 1024 (fun j => if (nx * 128) ≤ j ∧ j < (nx * 128) + 128 then NU (row * 128 + (j - (nx * 128))) else NB j), zI g br 8 (ups RR nx row), zI g bs 8 (ups RS nx (SZ row)), zI g bf 8 (ups RF nx fl), zI g be 8 (ups RE nx re), (h, .inr (4, [.ref hn, .ref hs, .int (iI fl), .int (iI re)])), zI g hn 640 NU, zI g hs 5 SZ] := hD
  exact z_retV hx hb hlk hr hQ dX2_remember_95 hS () (trivial) (hP)
set_option maxRecDepth 20000 in
theorem in_X2_restoreLatest_X2 : ∀ w ∈ u_ws RX2 TX2 7, w ∈ wsX2_restoreLatest := zmem_of _ [29, 30, 31, 32, 33, 34, 35] (by decide +kernel)
set_option maxHeartbeats 4000000 in
set_option maxRecDepth 100000 in
theorem m_X2_restoreLatest (l : Launch) (g : zG) (b bn br bs bf be : Nat) (nx dp : Int) (NB RR RS RF RE : Int → Int) (h hn hs : Nat) (NU SZ : Int → Int) (fl re : Int) (h3 : 0 ≤ nx) (h4 : nx < 8) (h5 : 0 < dp) (h6 : dp ≤ 8) (h7 : 0 ≤ RR ((nx + 7) % 8)) (h8 : RR ((nx + 7) % 8) < 5) : zV l yX2_restoreLatest wsX2_restoreLatest ({ frames := 2, cells := 0, slots := 0, locals := 84 }) g [.ref b, .ref h] [(b, .inr (2, [.ref bn, .ref br, .ref bs, .ref bf, .ref be, .int (iI nx), .int (iI dp)])), zI g bn 1024 NB, zI g br 8 RR, zI g bs 8 RS, zI g bf 8 RF, zI g be 8 RE, (h, .inr (4, [.ref hn, .ref hs, .int (iI fl), .int (iI re)])), zI g hn 640 NU, zI g hs 5 SZ] (S := Unit) (fun _ => True) (fun _ => [(b, .inr (2, [.ref bn, .ref br, .ref bs, .ref bf, .ref be, .int (iI ((nx + 7) % 8)), .int (iI (dp - 1))])), zI g bn 1024 NB, zI g br 8 RR, zI g bs 8 RS, zI g bf 8 RF, zI g be 8 RE, (h, .inr (4, [.ref hn, .ref hs, .int (iI (RF ((nx + 7) % 8))), .int (iI (RE ((nx + 7) % 8)))])), zI g hn 640 (fun j => if RR ((nx + 7) % 8) * 128 ≤ j ∧ j < RR ((nx + 7) % 8) * 128 + 128 then NB ((nx + 7) % 8 * 128 + (j - RR ((nx + 7) % 8) * 128)) else NU j), zI g hs 5 (ups SZ (RR ((nx + 7) % 8)) (RS ((nx + 7) % 8)))]) := by
  refine z_entV (cc := cX2_restoreLatest) (nL := 2) (ret := none) (own := RX2) (by decide) rfl rfl (Nat.le_of_ble_eq_true rfl) ?_
  intro p e s m below meth c Q ls A C hlk hr hQ hP hK hD hA hS hl
  have hx := C.1
  have hb := C.2.1
  have hl : lv_has ls 2 [(0, .ref b), (1, .ref h)] := hl
  obtain ⟨H, hHe⟩ : ∃ H, H = s.heap := ⟨_, rfl⟩
  obtain ⟨locs, hLe⟩ : ∃ q : List Loc, q = [] := ⟨_, rfl⟩
  have hP : zP g [(b, .inr (2, [.ref bn, .ref br, .ref bs, .ref bf, .ref be, .int (iI nx), .int (iI dp)])), zI g bn 1024 NB, zI g br 8 RR, zI g bs 8 RS, zI g bf 8 RF, zI g be 8 RE, (h, .inr (4, [.ref hn, .ref hs, .int (iI fl), .int (iI re)])), zI g hn 640 NU, zI g hs 5 SZ] H := by rw [hHe]; exact hP
  have hS : va_S A s.heap H locs := by rw [hHe, hLe]; exact hS
  suffices hgo : W p l e ({ frames := 2, cells := 0, slots := 0, locals := 84 }) s m ([.ref b, .ref h] : List Value).toArray below meth c H locs 0 0 Q (F0 m 0 ls []) by rw [hHe, hLe] at hgo; exact hgo
  clear hHe hLe
  refine lv_aload_n hx hb dX2_restoreLatest_0 rfl (lv_at hl 0 rfl) ?_
  refine z_get (v := .int (iI dp)) (Cn := RX2) (T := TX2) (N := 7) (ci := 2) C in_X2_restoreLatest_X2 hK hP 0 rfl rfl 6 (by decide) (List.mem_of_getElem? (i := 1) rfl) rfl dX2_restoreLatest_1 ?_
  refine z_if_ne (tgt := 8) hx hb dX2_restoreLatest_4 (by decide) (by omega) (fun c_1 => ?_) (fun c_1 => ?_)
  · refine lv_aload_n hx hb dX2_restoreLatest_8 rfl (lv_at hl 0 rfl) ?_
    refine lv_aload_n hx hb dX2_restoreLatest_9 rfl (lv_at hl 0 rfl) ?_
    refine z_get (v := .int (iI nx)) (Cn := RX2) (T := TX2) (N := 7) (ci := 2) C in_X2_restoreLatest_X2 hK hP 0 rfl rfl 5 (by decide) (List.mem_of_getElem? (i := 2) rfl) rfl dX2_restoreLatest_10 ?_
    refine lv_bipush (v := iI 8) hx hb dX2_restoreLatest_13 (by decide +kernel) ?_
    refine z_iadd hx hb dX2_restoreLatest_15 ?_
    refine lv_iconst (v := iI 1) hx hb dX2_restoreLatest_16 rfl ?_
    refine z_isub hx hb dX2_restoreLatest_17 ?_
    refine z_top (b := nx + 7) (by omega) ?_
    refine lv_bipush (v := iI 8) hx hb dX2_restoreLatest_18 (by decide +kernel) ?_
    refine z_iremN hx hb dX2_restoreLatest_20 (by omega) (by omega) (by omega) (by omega) ?_
    refine z_put (v := .int (iI ((nx + 7) % 8))) (Cn := RX2) (T := TX2) (N := 7) (ci := 2) C in_X2_restoreLatest_X2 tyX2 tyX2_ok nmX2 hK hP hD hS 0 rfl rfl 5 (by decide) (List.mem_of_getElem? (i := 2) rfl) rfl rfl rfl (Nat.le_of_ble_eq_true rfl) dX2_restoreLatest_21 (fun H locs hP hD hS => ?_)
    have hP : zP g [(b, .inr (2, [.ref bn, .ref br, .ref bs, .ref bf, .ref be, .int (iI ((nx + 7) % 8)), .int (iI dp)])), zI g bn 1024 NB, zI g br 8 RR, zI g bs 8 RS, zI g bf 8 RF, zI g be 8 RE, (h, .inr (4, [.ref hn, .ref hs, .int (iI fl), .int (iI re)])), zI g hn 640 NU, zI g hs 5 SZ] H := hP
    have hD : va_D A [(b, .inr (2, [.ref bn, .ref br, .ref bs, .ref bf, .ref be, .int (iI ((nx + 7) % 8)), .int (iI dp)])), zI g bn 1024 NB, zI g br 8 RR, zI g bs 8 RS, zI g bf 8 RF, zI g be 8 RE, (h, .inr (4, [.ref hn, .ref hs, .int (iI fl), .int (iI re)])), zI g hn 640 NU, zI g hs 5 SZ] := hD
    refine lv_aload_n hx hb dX2_restoreLatest_24 rfl (lv_at hl 0 rfl) ?_
    refine lv_dup hx hb dX2_restoreLatest_25 rfl ?_
    refine z_get (v := .int (iI dp)) (Cn := RX2) (T := TX2) (N := 7) (ci := 2) C in_X2_restoreLatest_X2 hK hP 0 rfl rfl 6 (by decide) (List.mem_of_getElem? (i := 1) rfl) rfl dX2_restoreLatest_26 ?_
    refine lv_iconst (v := iI 1) hx hb dX2_restoreLatest_29 rfl ?_
    refine z_isub hx hb dX2_restoreLatest_30 ?_
    refine z_put (v := .int (iI (dp - 1))) (Cn := RX2) (T := TX2) (N := 7) (ci := 2) C in_X2_restoreLatest_X2 tyX2 tyX2_ok nmX2 hK hP hD hS 0 rfl rfl 6 (by decide) (List.mem_of_getElem? (i := 1) rfl) rfl rfl rfl (Nat.le_of_ble_eq_true rfl) dX2_restoreLatest_31 (fun H locs hP hD hS => ?_)
    have hP : zP g [(b, .inr (2, [.ref bn, .ref br, .ref bs, .ref bf, .ref be, .int (iI ((nx + 7) % 8)), .int (iI (dp - 1))])), zI g bn 1024 NB, zI g br 8 RR, zI g bs 8 RS, zI g bf 8 RF, zI g be 8 RE, (h, .inr (4, [.ref hn, .ref hs, .int (iI fl), .int (iI re)])), zI g hn 640 NU, zI g hs 5 SZ] H := hP
    have hD : va_D A [(b, .inr (2, [.ref bn, .ref br, .ref bs, .ref bf, .ref be, .int (iI ((nx + 7) % 8)), .int (iI (dp - 1))])), zI g bn 1024 NB, zI g br 8 RR, zI g bs 8 RS, zI g bf 8 RF, zI g be 8 RE, (h, .inr (4, [.ref hn, .ref hs, .int (iI fl), .int (iI re)])), zI g hn 640 NU, zI g hs 5 SZ] := hD
    refine lv_aload_n hx hb dX2_restoreLatest_34 rfl (lv_at hl 1 rfl) ?_
    refine lv_aload_n hx hb dX2_restoreLatest_35 rfl (lv_at hl 0 rfl) ?_
    refine z_get (v := .ref br) (Cn := RX2) (T := TX2) (N := 7) (ci := 2) C in_X2_restoreLatest_X2 hK hP 0 rfl rfl 1 (by decide) (List.mem_of_getElem? (i := 3) rfl) rfl dX2_restoreLatest_36 ?_
    refine lv_aload_n hx hb dX2_restoreLatest_39 rfl (lv_at hl 0 rfl) ?_
    refine z_get (v := .int (iI ((nx + 7) % 8))) (Cn := RX2) (T := TX2) (N := 7) (ci := 2) C in_X2_restoreLatest_X2 hK hP 0 rfl rfl 5 (by decide) (List.mem_of_getElem? (i := 2) rfl) rfl dX2_restoreLatest_40 ?_
    refine z_iald hx hb hK hP 2 rfl (by omega) (by omega) (Nat.le_of_ble_eq_true rfl) dX2_restoreLatest_43 ?_
    refine lv_aload_n hx hb dX2_restoreLatest_44 rfl (lv_at hl 0 rfl) ?_
    refine z_get (v := .ref bn) (Cn := RX2) (T := TX2) (N := 7) (ci := 2) C in_X2_restoreLatest_X2 hK hP 0 rfl rfl 0 (by decide) (List.mem_of_getElem? (i := 4) rfl) rfl dX2_restoreLatest_45 ?_
    refine lv_aload_n hx hb dX2_restoreLatest_48 rfl (lv_at hl 0 rfl) ?_
    refine z_get (v := .int (iI ((nx + 7) % 8))) (Cn := RX2) (T := TX2) (N := 7) (ci := 2) C in_X2_restoreLatest_X2 hK hP 0 rfl rfl 5 (by decide) (List.mem_of_getElem? (i := 2) rfl) rfl dX2_restoreLatest_49 ?_
    refine lv_sipush (v := iI 128) hx hb dX2_restoreLatest_52 (by decide +kernel) ?_
    refine z_imul hx hb dX2_restoreLatest_55 ?_
    refine lv_aload_n hx hb dX2_restoreLatest_56 rfl (lv_at hl 0 rfl) ?_
    refine z_get (v := .ref bs) (Cn := RX2) (T := TX2) (N := 7) (ci := 2) C in_X2_restoreLatest_X2 hK hP 0 rfl rfl 2 (by decide) (List.mem_of_getElem? (i := 5) rfl) rfl dX2_restoreLatest_57 ?_
    refine lv_aload_n hx hb dX2_restoreLatest_60 rfl (lv_at hl 0 rfl) ?_
    refine z_get (v := .int (iI ((nx + 7) % 8))) (Cn := RX2) (T := TX2) (N := 7) (ci := 2) C in_X2_restoreLatest_X2 hK hP 0 rfl rfl 5 (by decide) (List.mem_of_getElem? (i := 2) rfl) rfl dX2_restoreLatest_61 ?_
    refine z_iald hx hb hK hP 3 rfl (by omega) (by omega) (Nat.le_of_ble_eq_true rfl) dX2_restoreLatest_64 ?_
    refine z_cV (As := [.int (iI (RR ((nx + 7) % 8))), .ref bn, .int (iI (((nx + 7) % 8) * 128)), .int (iI (RS ((nx + 7) % 8)))]) (rest := []) C (m_X4_takeRow (l := l) (g := g) (h := h) (hn := hn) (hs := hs) (NU := NU) (SZ := SZ) (fl := fl) (re := re) (t := bn) (F := NB) (row := RR ((nx + 7) % 8)) (st := ((nx + 7) % 8) * 128) (sz := RS ((nx + 7) % 8)) (h1 := by omega) (h2 := by omega) (h3 := by omega) (h4 := by omega)) (cwV 4 C.2.2.2.2 gX2_restoreLatest_X4_takeRow rfl rfl rfl (by decide +kernel) ⟨Nat.le_of_ble_eq_true rfl, Nat.le_of_ble_eq_true rfl⟩) hK hP hD hS hA [6, 7, 8, 1] (by decide) rfl (fun _ => rfl) 6 rfl rfl rfl hl.1 rfl (Nat.le_of_ble_eq_true rfl) dX2_restoreLatest_65 ⟨Nat.zero_le _, Nat.zero_le _⟩ (fun u_2 H locs hq_3 hP hD hS => ?_)
    have hP : zP g [(b, .inr (2, [.ref bn, .ref br, .ref bs, .ref bf, .ref be, .int (iI ((nx + 7) % 8)), .int (iI (dp - 1))])), zI g bn 1024 NB, zI g br 8 RR, zI g bs 8 RS, zI g bf 8 RF, zI g be 8 RE, (h, .inr (4, [.ref hn, .ref hs, .int (iI fl), .int (iI re)])), zI g hn 640 (fun j => if (RR ((nx + 7) % 8)) * 128 ≤ j ∧ j < (RR ((nx + 7) % 8)) * 128 + 128 then NB ((((nx + 7) % 8) * 128) + (j - (RR ((nx + 7) % 8)) * 128)) else NU j), zI g hs 5 (ups SZ (RR ((nx + 7) % 8)) (RS ((nx + 7) % 8)))] H := hP
    have hD : va_D A [(b, .inr (2, [.ref bn, .ref br, .ref bs, .ref bf, .ref be, .int (iI ((nx + 7) % 8)), .int (iI (dp - 1))])), zI g bn 1024 NB, zI g br 8 RR, zI g bs 8 RS, zI g bf 8 RF, zI g be 8 RE, (h, .inr (4, [.ref hn, .ref hs, .int (iI fl), .int (iI re)])), zI g hn 640 (fun j => if (RR ((nx + 7) % 8)) * 128 ≤ j ∧ j < (RR ((nx + 7) % 8)) * 128 + 128 then NB ((((nx + 7) % 8) * 128) + (j - (RR ((nx + 7) % 8)) * 128)) else NU j), zI g hs 5 (ups SZ (RR ((nx + 7) % 8)) (RS ((nx + 7) % 8)))] := hD
    refine lv_aload_n hx hb dX2_restoreLatest_68 rfl (lv_at hl 1 rfl) ?_
    refine lv_aload_n hx hb dX2_restoreLatest_69 rfl (lv_at hl 0 rfl) ?_
    refine z_get (v := .ref bf) (Cn := RX2) (T := TX2) (N := 7) (ci := 2) C in_X2_restoreLatest_X2 hK hP 0 rfl rfl 3 (by decide) (List.mem_of_getElem? (i := 6) rfl) rfl dX2_restoreLatest_70 ?_
    refine lv_aload_n hx hb dX2_restoreLatest_73 rfl (lv_at hl 0 rfl) ?_
    refine z_get (v := .int (iI ((nx + 7) % 8))) (Cn := RX2) (T := TX2) (N := 7) (ci := 2) C in_X2_restoreLatest_X2 hK hP 0 rfl rfl 5 (by decide) (List.mem_of_getElem? (i := 2) rfl) rfl dX2_restoreLatest_74 ?_
    refine z_iald hx hb hK hP 4 rfl (by omega) (by omega) (Nat.le_of_ble_eq_true rfl) dX2_restoreLatest_77 ?_
    refine z_cV (As := [.int (iI (RF ((nx + 7) % 8)))]) (rest := []) C (m_X4_setFloor (l := l) (g := g) (h := h) (hn := hn) (hs := hs) (fl := fl) (re := re) (v := RF ((nx + 7) % 8)) ) (cwV 1 C.2.2.2.2 gX2_restoreLatest_X4_setFloor rfl rfl rfl (by decide +kernel) ⟨Nat.le_of_ble_eq_true rfl, Nat.le_of_ble_eq_true rfl⟩) hK hP hD hS hA [6] (by decide) rfl (fun _ => rfl) 6 rfl rfl rfl hl.1 rfl (Nat.le_of_ble_eq_true rfl) dX2_restoreLatest_78 ⟨Nat.zero_le _, Nat.zero_le _⟩ (fun u_4 H locs hq_5 hP hD hS => ?_)
    have hP : zP g [(b, .inr (2, [.ref bn, .ref br, .ref bs, .ref bf, .ref be, .int (iI ((nx + 7) % 8)), .int (iI (dp - 1))])), zI g bn 1024 NB, zI g br 8 RR, zI g bs 8 RS, zI g bf 8 RF, zI g be 8 RE, (h, .inr (4, [.ref hn, .ref hs, .int (iI (RF ((nx + 7) % 8))), .int (iI re)])), zI g hn 640 (fun j => if (RR ((nx + 7) % 8)) * 128 ≤ j ∧ j < (RR ((nx + 7) % 8)) * 128 + 128 then NB ((((nx + 7) % 8) * 128) + (j - (RR ((nx + 7) % 8)) * 128)) else NU j), zI g hs 5 (ups SZ (RR ((nx + 7) % 8)) (RS ((nx + 7) % 8)))] H := hP
    have hD : va_D A [(b, .inr (2, [.ref bn, .ref br, .ref bs, .ref bf, .ref be, .int (iI ((nx + 7) % 8)), .int (iI (dp - 1))])), zI g bn 1024 NB, zI g br 8 RR, zI g bs 8 RS, zI g bf 8 RF, zI g be 8 RE, (h, .inr (4, [.ref hn, .ref hs, .int (iI (RF ((nx + 7) % 8))), .int (iI re)])), zI g hn 640 (fun j => if (RR ((nx + 7) % 8)) * 128 ≤ j ∧ j < (RR ((nx + 7) % 8)) * 128 + 128 then NB ((((nx + 7) % 8) * 128) + (j - (RR ((nx + 7) % 8)) * 128)) else NU j), zI g hs 5 (ups SZ (RR ((nx + 7) % 8)) (RS ((nx + 7) % 8)))] := hD
    refine lv_aload_n hx hb dX2_restoreLatest_81 rfl (lv_at hl 1 rfl) ?_
    refine lv_aload_n hx hb dX2_restoreLatest_82 rfl (lv_at hl 0 rfl) ?_
    refine z_get (v := .ref be) (Cn := RX2) (T := TX2) (N := 7) (ci := 2) C in_X2_restoreLatest_X2 hK hP 0 rfl rfl 4 (by decide) (List.mem_of_getElem? (i := 7) rfl) rfl dX2_restoreLatest_83 ?_
    refine lv_aload_n hx hb dX2_restoreLatest_86 rfl (lv_at hl 0 rfl) ?_
    refine z_get (v := .int (iI ((nx + 7) % 8))) (Cn := RX2) (T := TX2) (N := 7) (ci := 2) C in_X2_restoreLatest_X2 hK hP 0 rfl rfl 5 (by decide) (List.mem_of_getElem? (i := 2) rfl) rfl dX2_restoreLatest_87 ?_
    refine z_iald hx hb hK hP 5 rfl (by omega) (by omega) (Nat.le_of_ble_eq_true rfl) dX2_restoreLatest_90 ?_
    refine z_cV (As := [.int (iI (RE ((nx + 7) % 8)))]) (rest := []) C (m_X4_setReach (l := l) (g := g) (h := h) (hn := hn) (hs := hs) (fl := (RF ((nx + 7) % 8))) (re := re) (v := RE ((nx + 7) % 8)) ) (cwV 1 C.2.2.2.2 gX2_restoreLatest_X4_setReach rfl rfl rfl (by decide +kernel) ⟨Nat.le_of_ble_eq_true rfl, Nat.le_of_ble_eq_true rfl⟩) hK hP hD hS hA [6] (by decide) rfl (fun _ => rfl) 6 rfl rfl rfl hl.1 rfl (Nat.le_of_ble_eq_true rfl) dX2_restoreLatest_91 ⟨Nat.zero_le _, Nat.zero_le _⟩ (fun u_6 H locs hq_7 hP hD hS => ?_)
    have hP : zP g [(b, .inr (2, [.ref bn, .ref br, .ref bs, .ref bf, .ref be, .int (iI ((nx + 7) % 8)), .int (iI (dp - 1))])), zI g bn 1024 NB, zI g br 8 RR, zI g bs 8 RS, zI g bf 8 RF, zI g be 8 RE, (h, .inr (4, [.ref hn, .ref hs, .int (iI (RF ((nx + 7) % 8))), .int (iI (RE ((nx + 7) % 8)))])), zI g hn 640 (fun j => if (RR ((nx + 7) % 8)) * 128 ≤ j ∧ j < (RR ((nx + 7) % 8)) * 128 + 128 then NB ((((nx + 7) % 8) * 128) + (j - (RR ((nx + 7) % 8)) * 128)) else NU j), zI g hs 5 (ups SZ (RR ((nx + 7) % 8)) (RS ((nx + 7) % 8)))] H := hP
    have hD : va_D A [(b, .inr (2, [.ref bn, .ref br, .ref bs, .ref bf, .ref be, .int (iI ((nx + 7) % 8)), .int (iI (dp - 1))])), zI g bn 1024 NB, zI g br 8 RR, zI g bs 8 RS, zI g bf 8 RF, zI g be 8 RE, (h, .inr (4, [.ref hn, .ref hs, .int (iI (RF ((nx + 7) % 8))), .int (iI (RE ((nx + 7) % 8)))])), zI g hn 640 (fun j => if (RR ((nx + 7) % 8)) * 128 ≤ j ∧ j < (RR ((nx + 7) % 8)) * 128 + 128 then NB ((((nx + 7) % 8) * 128) + (j - (RR ((nx + 7) % 8)) * 128)) else NU j), zI g hs 5 (ups SZ (RR ((nx + 7) % 8)) (RS ((nx + 7) % 8)))] := hD
    exact z_retV hx hb hlk hr hQ dX2_restoreLatest_94 hS () (trivial) (hP)
  · exfalso; omega
end
section
set_option maxRecDepth 20000 in
theorem in_X3_turnPairs_X3 : ∀ w ∈ u_ws RX3 TX3 3, w ∈ wsX3_turnPairs := zmem_of _ [2, 3, 4] (by decide +kernel)
set_option maxHeartbeats 4000000 in
set_option maxRecDepth 100000 in
theorem m_X3_turnPairs (l : Launch) (g : zG) (a aw af ao : Nat) (WA : Int → Int) (hh : Int) (h0 : hh = 1 ∨ hh = 2 ∨ hh = 4) : zV l yX3_turnPairs wsX3_turnPairs ({ frames := 0, cells := 0, slots := 0, locals := 0 }) g [.ref a, .int (iI hh)] [(a, .inr (3, [.ref aw, .ref af, .ref ao])), zI g aw 8 WA] (S := Unit) (fun _ => True) (fun _ => [(a, .inr (3, [.ref aw, .ref af, .ref ao])), zI g aw 8 (fp hh WA 8)]) := by
  refine z_entV (cc := cX3_turnPairs) (nL := 5) (ret := none) (own := RX3) (by decide) rfl rfl (Nat.le_of_ble_eq_true rfl) ?_
  intro p e s m below meth c Q ls A C hlk hr hQ hP hK hD hA hS hl
  have hx := C.1
  have hb := C.2.1
  have hl : lv_has ls 5 [(0, .ref a), (1, .int (iI hh))] := hl
  obtain ⟨H, hHe⟩ : ∃ H, H = s.heap := ⟨_, rfl⟩
  obtain ⟨locs, hLe⟩ : ∃ q : List Loc, q = [] := ⟨_, rfl⟩
  have hP : zP g [(a, .inr (3, [.ref aw, .ref af, .ref ao])), zI g aw 8 WA] H := by rw [hHe]; exact hP
  have hS : va_S A s.heap H locs := by rw [hHe, hLe]; exact hS
  suffices hgo : W p l e ({ frames := 0, cells := 0, slots := 0, locals := 0 }) s m ([.ref a, .int (iI hh)] : List Value).toArray below meth c H locs 0 0 Q (F0 m 0 ls []) by rw [hHe, hLe] at hgo; exact hgo
  clear hHe hLe
  refine lv_iconst (v := iI 0) hx hb dX3_turnPairs_0 rfl ?_
  refine lv_istore_n (lv' := [(2, .int (iI 0)), (0, .ref a), (1, .int (iI hh))]) hx hb dX3_turnPairs_1 rfl hl (by decide) rfl (fun ls hl => ?_)
  have L2 : ∀ (n : Nat) (k : Int), (i1 : 0 ≤ k) → (i2 : k + hh ≤ 8) → (hms : 8 - k < (n : Int)) → ∀ (H : Heap) (locs : List Loc) (ls : Array Slot), lv_has ls 5 [(0, .ref a), (1, .int (iI hh)), (2, .int (iI k))] → zP g [(a, .inr (3, [.ref aw, .ref af, .ref ao])), zI g aw 8 (fp hh WA k)] H → va_D A [(a, .inr (3, [.ref aw, .ref af, .ref ao])), zI g aw 8 (fp hh WA k)] → va_S A s.heap H locs → W p l e ({ frames := 0, cells := 0, slots := 0, locals := 0 }) s m ([.ref a, .int (iI hh)] : List Value).toArray below meth c H locs 0 0 Q (F0 m 2 ls []) := by
    clear hP hD hS hl
    intro n
    induction n with
    | zero =>
      intro k i1 i2 hms H locs ls hl hP hD hS
      exfalso; omega
    | succ n ih2 =>
      intro k i1 i2 hms H locs ls hl hP hD hS
      refine lv_iload_n hx hb dX3_turnPairs_2 rfl (lv_at hl 2 rfl) ?_
      refine lv_iload_n hx hb dX3_turnPairs_3 rfl (lv_at hl 1 rfl) ?_
      refine z_iadd hx hb dX3_turnPairs_4 ?_
      refine lv_bipush (v := iI 8) hx hb dX3_turnPairs_5 (by decide +kernel) ?_
      refine z_icmp_ge (tgt := 61) hx hb dX3_turnPairs_7 (by decide) (by omega) (by omega) (fun c_1 => ?_) (fun c_1 => ?_)
      · have hP := zP_arr hP 1 (fp hh WA 8) rfl (fun j _ _ => by rw [show k = 8 - hh by omega, fp_8 WA h0])
        have hD := zD_set (c1 := (zI g aw 8 (fp hh WA 8)).2) hD 1 rfl
        have hP : zP g [(a, .inr (3, [.ref aw, .ref af, .ref ao])), zI g aw 8 (fp hh WA 8)] H := hP
        have hD : va_D A [(a, .inr (3, [.ref aw, .ref af, .ref ao])), zI g aw 8 (fp hh WA 8)] := hD
        exact z_retV hx hb hlk hr hQ dX3_turnPairs_61 hS () (trivial) (hP)
      · refine lv_iload_n hx hb dX3_turnPairs_10 rfl (lv_at hl 2 rfl) ?_
        refine lv_iload_n hx hb dX3_turnPairs_11 rfl (lv_at hl 1 rfl) ?_
        refine z_iand hx hb dX3_turnPairs_12 ?_
        refine z_if_ne (tgt := 55) hx hb dX3_turnPairs_13 (by decide) (zand_rg _ _) (fun hz => ?_) (fun hz => ?_)
        · refine z_iinc (b := k + 1) (lv' := [(2, .int (iI (k + 1))), (0, .ref a), (1, .int (iI hh))]) hx hb dX3_turnPairs_55 hl (k := 2) rfl (rfl) (by decide) rfl (fun ls hl => ?_)
          refine lv_goto (tgt := 2) hx hb dX3_turnPairs_58 (by decide) ?_
          have hP := zP_arr hP 1 (fp hh WA (k + 1)) rfl (fun j _ _ => by rw [fp_f WA i1 hz])
          have hD := zD_set (c1 := (zI g aw 8 (fp hh WA (k + 1))).2) hD 1 rfl
          have hP : zP g [(a, .inr (3, [.ref aw, .ref af, .ref ao])), zI g aw 8 (fp hh WA (k + 1))] H := hP
          have hD : va_D A [(a, .inr (3, [.ref aw, .ref af, .ref ao])), zI g aw 8 (fp hh WA (k + 1))] := hD
          exact ih2 (k + 1) (by omega) (by omega) (by omega) H locs ls (lv_sub hl [1, 2, 0] rfl) (hP) (hD) hS
        · refine lv_aload_n hx hb dX3_turnPairs_16 rfl (lv_at hl 0 rfl) ?_
          refine z_get (v := .ref aw) (Cn := RX3) (T := TX3) (N := 3) (ci := 3) C in_X3_turnPairs_X3 hK hP 0 rfl rfl 0 (by decide) (List.mem_of_getElem? (i := 1) rfl) rfl dX3_turnPairs_17 ?_
          refine lv_iload_n hx hb dX3_turnPairs_20 rfl (lv_at hl 2 rfl) ?_
          refine z_iald hx hb hK hP 1 rfl (by omega) (by omega) (Nat.le_of_ble_eq_true rfl) dX3_turnPairs_21 ?_
          refine lv_istore_n (lv' := [(3, .int (iI ((fp hh WA k) k))), (0, .ref a), (1, .int (iI hh)), (2, .int (iI k))]) hx hb dX3_turnPairs_22 rfl hl (by decide) rfl (fun ls hl => ?_)
          refine lv_aload_n hx hb dX3_turnPairs_23 rfl (lv_at hl 1 rfl) ?_
          refine z_get (v := .ref aw) (Cn := RX3) (T := TX3) (N := 3) (ci := 3) C in_X3_turnPairs_X3 hK hP 0 rfl rfl 0 (by decide) (List.mem_of_getElem? (i := 1) rfl) rfl dX3_turnPairs_24 ?_
          refine lv_iload_n hx hb dX3_turnPairs_27 rfl (lv_at hl 3 rfl) ?_
          refine lv_iload_n hx hb dX3_turnPairs_28 rfl (lv_at hl 2 rfl) ?_
          refine z_iadd hx hb dX3_turnPairs_29 ?_
          refine z_iald hx hb hK hP 1 rfl (by omega) (by omega) (Nat.le_of_ble_eq_true rfl) dX3_turnPairs_30 ?_
          refine lv_istore (lv' := [(4, .int (iI ((fp hh WA k) (k + hh)))), (3, .int (iI ((fp hh WA k) k))), (0, .ref a), (1, .int (iI hh)), (2, .int (iI k))]) hx hb dX3_turnPairs_31 hl (by decide) rfl (fun ls hl => ?_)
          refine lv_aload_n hx hb dX3_turnPairs_33 rfl (lv_at hl 2 rfl) ?_
          refine z_get (v := .ref aw) (Cn := RX3) (T := TX3) (N := 3) (ci := 3) C in_X3_turnPairs_X3 hK hP 0 rfl rfl 0 (by decide) (List.mem_of_getElem? (i := 1) rfl) rfl dX3_turnPairs_34 ?_
          refine lv_iload_n hx hb dX3_turnPairs_37 rfl (lv_at hl 4 rfl) ?_
          refine lv_iload_n hx hb dX3_turnPairs_38 rfl (lv_at hl 1 rfl) ?_
          refine lv_iload hx hb dX3_turnPairs_39 (lv_at hl 0 rfl) ?_
          refine z_iadd hx hb dX3_turnPairs_41 ?_
          refine z_iast hx hb hK hP hD hS 1 rfl (by omega) (by omega) (Nat.le_of_ble_eq_true rfl) dX3_turnPairs_42 (fun H locs hP hD hS => ?_)
          have hP : zP g [(a, .inr (3, [.ref aw, .ref af, .ref ao])), zI g aw 8 (ups (fp hh WA k) k (((fp hh WA k) k) + ((fp hh WA k) (k + hh))))] H := hP
          have hD : va_D A [(a, .inr (3, [.ref aw, .ref af, .ref ao])), zI g aw 8 (ups (fp hh WA k) k (((fp hh WA k) k) + ((fp hh WA k) (k + hh))))] := hD
          refine lv_aload_n hx hb dX3_turnPairs_43 rfl (lv_at hl 2 rfl) ?_
          refine z_get (v := .ref aw) (Cn := RX3) (T := TX3) (N := 3) (ci := 3) C in_X3_turnPairs_X3 hK hP 0 rfl rfl 0 (by decide) (List.mem_of_getElem? (i := 1) rfl) rfl dX3_turnPairs_44 ?_
          refine lv_iload_n hx hb dX3_turnPairs_47 rfl (lv_at hl 4 rfl) ?_
          refine lv_iload_n hx hb dX3_turnPairs_48 rfl (lv_at hl 3 rfl) ?_
          refine z_iadd hx hb dX3_turnPairs_49 ?_
          refine lv_iload_n hx hb dX3_turnPairs_50 rfl (lv_at hl 1 rfl) ?_
          refine lv_iload hx hb dX3_turnPairs_51 (lv_at hl 0 rfl) ?_
          refine z_isub hx hb dX3_turnPairs_53 ?_
          refine z_iast hx hb hK hP hD hS 1 rfl (by omega) (by omega) (Nat.le_of_ble_eq_true rfl) dX3_turnPairs_54 (fun H locs hP hD hS => ?_)
          have hP : zP g [(a, .inr (3, [.ref aw, .ref af, .ref ao])), zI g aw 8 (ups (ups (fp hh WA k) k (((fp hh WA k) k) + ((fp hh WA k) (k + hh)))) (k + hh) (((fp hh WA k) k) - ((fp hh WA k) (k + hh))))] H := hP
          have hD : va_D A [(a, .inr (3, [.ref aw, .ref af, .ref ao])), zI g aw 8 (ups (ups (fp hh WA k) k (((fp hh WA k) k) + ((fp hh WA k) (k + hh)))) (k + hh) (((fp hh WA k) k) - ((fp hh WA k) (k + hh))))] := hD
          refine z_iinc (b := k + 1) (lv' := [(2, .int (iI (k + 1))), (4, .int (iI ((fp hh WA k) (k + hh)))), (3, .int (iI ((fp hh WA k) k))), (0, .ref a), (1, .int (iI hh))]) hx hb dX3_turnPairs_55 hl (k := 4) rfl (rfl) (by decide) rfl (fun ls hl => ?_)
          refine lv_goto (tgt := 2) hx hb dX3_turnPairs_58 (by decide) ?_
          have hP := zP_arr hP 1 (fp hh WA (k + 1)) rfl (fun j _ _ => by rw [fp_t WA i1 hz])
          have hD := zD_set (c1 := (zI g aw 8 (fp hh WA (k + 1))).2) hD 1 rfl
          have hP : zP g [(a, .inr (3, [.ref aw, .ref af, .ref ao])), zI g aw 8 (fp hh WA (k + 1))] H := hP
          have hD : va_D A [(a, .inr (3, [.ref aw, .ref af, .ref ao])), zI g aw 8 (fp hh WA (k + 1))] := hD
          exact ih2 (k + 1) (by omega) (by omega) (by omega) H locs ls (lv_sub hl [3, 4, 0] rfl) (hP) (hD) hS
  have hP := zP_arr hP 1 (fp hh WA 0) rfl (fun j _ _ => by rw [fp_0])
  have hD := zD_set (c1 := (zI g aw 8 (fp hh WA 0)).2) hD 1 rfl
  have hP : zP g [(a, .inr (3, [.ref aw, .ref af, .ref ao])), zI g aw 8 (fp hh WA 0)] H := hP
  have hD : va_D A [(a, .inr (3, [.ref aw, .ref af, .ref ao])), zI g aw 8 (fp hh WA 0)] := hD
  exact L2 (9) 0 (by omega) (by omega) (by omega) H locs ls (lv_sub hl [1, 2, 0] rfl) (hP) (hD) hS
set_option maxRecDepth 20000 in
theorem in_X3_turn_X3 : ∀ w ∈ u_ws RX3 TX3 3, w ∈ wsX3_turn := zmem_of _ [13, 14, 15] (by decide +kernel)
set_option maxHeartbeats 4000000 in
set_option maxRecDepth 100000 in
theorem m_X3_turn (l : Launch) (g : zG) (a aw af ao : Nat) (h hn hs : Nat) (fl re : Int) (WA NU : Int → Int) (row wi : Int) (h1 : 0 ≤ row) (h2 : row < 5) (w1 : 0 ≤ wi) (w2 : wi < 16) : zV l yX3_turn wsX3_turn ({ frames := 1, cells := 0, slots := 0, locals := 24 }) g [.ref a, .ref h, .int (iI row), .int (iI wi)] [(a, .inr (3, [.ref aw, .ref af, .ref ao])), zI g aw 8 WA, (h, .inr (4, [.ref hn, .ref hs, .int (iI fl), .int (iI re)])), zI g hn 640 NU] (S := Unit) (fun _ => True) (fun _ => [(a, .inr (3, [.ref aw, .ref af, .ref ao])), zI g aw 8 (wv (fun i => NU (row * 128 + (wi * 8 + i)))), (h, .inr (4, [.ref hn, .ref hs, .int (iI fl), .int (iI re)])), zI g hn 640 NU]) := by
  refine z_entV (cc := cX3_turn) (nL := 5) (ret := none) (own := RX3) (by decide) rfl rfl (Nat.le_of_ble_eq_true rfl) ?_
  intro p e s m below meth c Q ls A C hlk hr hQ hP hK hD hA hS hl
  have hx := C.1
  have hb := C.2.1
  have hl : lv_has ls 5 [(0, .ref a), (1, .ref h), (2, .int (iI row)), (3, .int (iI wi))] := hl
  obtain ⟨H, hHe⟩ : ∃ H, H = s.heap := ⟨_, rfl⟩
  obtain ⟨locs, hLe⟩ : ∃ q : List Loc, q = [] := ⟨_, rfl⟩
  have hP : zP g [(a, .inr (3, [.ref aw, .ref af, .ref ao])), zI g aw 8 WA, (h, .inr (4, [.ref hn, .ref hs, .int (iI fl), .int (iI re)])), zI g hn 640 NU] H := by rw [hHe]; exact hP
  have hS : va_S A s.heap H locs := by rw [hHe, hLe]; exact hS
  suffices hgo : W p l e ({ frames := 1, cells := 0, slots := 0, locals := 24 }) s m ([.ref a, .ref h, .int (iI row), .int (iI wi)] : List Value).toArray below meth c H locs 0 0 Q (F0 m 0 ls []) by rw [hHe, hLe] at hgo; exact hgo
  clear hHe hLe
  refine lv_iconst (v := iI 0) hx hb dX3_turn_0 rfl ?_
  refine lv_istore (lv' := [(4, .int (iI 0)), (0, .ref a), (1, .ref h), (2, .int (iI row)), (3, .int (iI wi))]) hx hb dX3_turn_1 hl (by decide) rfl (fun ls hl => ?_)
  have L3 : ∀ (n : Nat) (k : Int) (WA : Int → Int), (i1 : 0 ≤ k) → (i2 : k ≤ 8) → (i3 : ∀ j, 0 ≤ j → j < k → WA j = NU (row * 128 + (wi * 8 + j))) → (hms : 8 - k < (n : Int)) → ∀ (H : Heap) (locs : List Loc) (ls : Array Slot), lv_has ls 5 [(0, .ref a), (1, .ref h), (2, .int (iI row)), (3, .int (iI wi)), (4, .int (iI k))] → zP g [(a, .inr (3, [.ref aw, .ref af, .ref ao])), zI g aw 8 WA, (h, .inr (4, [.ref hn, .ref hs, .int (iI fl), .int (iI re)])), zI g hn 640 NU] H → va_D A [(a, .inr (3, [.ref aw, .ref af, .ref ao])), zI g aw 8 WA, (h, .inr (4, [.ref hn, .ref hs, .int (iI fl), .int (iI re)])), zI g hn 640 NU] → va_S A s.heap H locs → W p l e ({ frames := 1, cells := 0, slots := 0, locals := 24 }) s m ([.ref a, .ref h, .int (iI row), .int (iI wi)] : List Value).toArray below meth c H locs 0 0 Q (F0 m 3 ls []) := by
    clear hP hD hS hl
    intro n
    induction n with
    | zero =>
      intro k WA i1 i2 i3 hms H locs ls hl hP hD hS
      exfalso; omega
    | succ n ih3 =>
      intro k WA i1 i2 i3 hms H locs ls hl hP hD hS
      refine lv_iload hx hb dX3_turn_3 (lv_at hl 4 rfl) ?_
      refine lv_bipush (v := iI 8) hx hb dX3_turn_5 (by decide +kernel) ?_
      refine z_icmp_ge (tgt := 35) hx hb dX3_turn_7 (by decide) (by omega) (by omega) (fun c_1 => ?_) (fun c_1 => ?_)
      · have hP := zP_arr hP 1 (fun i => NU (row * 128 + (wi * 8 + i))) rfl (fun j g1 g2 => i3 j g1 (by omega))
        have hD := zD_set (c1 := (zI g aw 8 (fun i => NU (row * 128 + (wi * 8 + i)))).2) hD 1 rfl
        have hP : zP g [(a, .inr (3, [.ref aw, .ref af, .ref ao])), zI g aw 8 (fun i => NU (row * 128 + (wi * 8 + i))), (h, .inr (4, [.ref hn, .ref hs, .int (iI fl), .int (iI re)])), zI g hn 640 NU] H := hP
        have hD : va_D A [(a, .inr (3, [.ref aw, .ref af, .ref ao])), zI g aw 8 (fun i => NU (row * 128 + (wi * 8 + i))), (h, .inr (4, [.ref hn, .ref hs, .int (iI fl), .int (iI re)])), zI g hn 640 NU] := hD
        refine lv_iconst (v := iI 1) hx hb dX3_turn_35 rfl ?_
        refine lv_istore (lv' := [(4, .int (iI 1)), (0, .ref a), (1, .ref h), (2, .int (iI row)), (3, .int (iI wi))]) hx hb dX3_turn_36 hl (by decide) rfl (fun ls hl => ?_)
        refine lv_iload hx hb dX3_turn_38 (lv_at hl 0 rfl) ?_
        refine lv_bipush (v := iI 8) hx hb dX3_turn_40 (by decide +kernel) ?_
        refine z_icmp_ge (tgt := 60) hx hb dX3_turn_42 (by decide) (by omega) (by omega) (fun c_2 => ?_) (fun c_2 => ?_)
        · exfalso; omega
        · refine lv_aload_n hx hb dX3_turn_45 rfl (lv_at hl 1 rfl) ?_
          refine lv_iload hx hb dX3_turn_46 (lv_at hl 0 rfl) ?_
          refine z_cV (As := [.int (iI 1)]) (rest := []) C (m_X3_turnPairs (l := l) (g := g) (a := a) (aw := aw) (af := af) (ao := ao) (WA := fun i => NU (row * 128 + (wi * 8 + i))) (hh := 1) (h0 := by omega)) (cwV 1 C.2.2.2.2 gX3_turn_X3_turnPairs rfl rfl rfl (by decide +kernel) ⟨Nat.le_of_ble_eq_true rfl, Nat.le_of_ble_eq_true rfl⟩) hK hP hD hS hA [0, 1] (by decide) rfl (fun _ => rfl) 0 rfl rfl rfl hl.1 rfl (Nat.le_of_ble_eq_true rfl) dX3_turn_48 ⟨Nat.zero_le _, Nat.zero_le _⟩ (fun u_3 H locs hq_4 hP hD hS => ?_)
          have hP : zP g [(a, .inr (3, [.ref aw, .ref af, .ref ao])), zI g aw 8 (fp 1 (fun i => NU (row * 128 + (wi * 8 + i))) 8), (h, .inr (4, [.ref hn, .ref hs, .int (iI fl), .int (iI re)])), zI g hn 640 NU] H := hP
          have hD : va_D A [(a, .inr (3, [.ref aw, .ref af, .ref ao])), zI g aw 8 (fp 1 (fun i => NU (row * 128 + (wi * 8 + i))) 8), (h, .inr (4, [.ref hn, .ref hs, .int (iI fl), .int (iI re)])), zI g hn 640 NU] := hD
          refine lv_iload hx hb dX3_turn_51 (lv_at hl 0 rfl) ?_
          refine lv_iconst (v := iI 2) hx hb dX3_turn_53 rfl ?_
          refine z_imul hx hb dX3_turn_54 ?_
          refine z_top (b := 2) (by omega) ?_
          refine lv_istore (lv' := [(4, .int (iI 2)), (0, .ref a), (1, .ref h), (2, .int (iI row)), (3, .int (iI wi))]) hx hb dX3_turn_55 hl (by decide) rfl (fun ls hl => ?_)
          refine lv_goto (tgt := 38) hx hb dX3_turn_57 (by decide) ?_
          refine lv_iload hx hb dX3_turn_38 (lv_at hl 0 rfl) ?_
          refine lv_bipush (v := iI 8) hx hb dX3_turn_40 (by decide +kernel) ?_
          refine z_icmp_ge (tgt := 60) hx hb dX3_turn_42 (by decide) (by omega) (by omega) (fun c_5 => ?_) (fun c_5 => ?_)
          · exfalso; omega
          · refine lv_aload_n hx hb dX3_turn_45 rfl (lv_at hl 1 rfl) ?_
            refine lv_iload hx hb dX3_turn_46 (lv_at hl 0 rfl) ?_
            refine z_cV (As := [.int (iI 2)]) (rest := []) C (m_X3_turnPairs (l := l) (g := g) (a := a) (aw := aw) (af := af) (ao := ao) (WA := fp 1 (fun i => NU (row * 128 + (wi * 8 + i))) 8) (hh := 2) (h0 := by omega)) (cwV 1 C.2.2.2.2 gX3_turn_X3_turnPairs rfl rfl rfl (by decide +kernel) ⟨Nat.le_of_ble_eq_true rfl, Nat.le_of_ble_eq_true rfl⟩) hK hP hD hS hA [0, 1] (by decide) rfl (fun _ => rfl) 0 rfl rfl rfl hl.1 rfl (Nat.le_of_ble_eq_true rfl) dX3_turn_48 ⟨Nat.zero_le _, Nat.zero_le _⟩ (fun u_6 H locs hq_7 hP hD hS => ?_)
            have hP : zP g [(a, .inr (3, [.ref aw, .ref af, .ref ao])), zI g aw 8 (fp 2 (fp 1 (fun i => NU (row * 128 + (wi * 8 + i))) 8) 8), (h, .inr (4, [.ref hn, .ref hs, .int (iI fl), .int (iI re)])), zI g hn 640 NU] H := hP
            have hD : va_D A [(a, .inr (3, [.ref aw, .ref af, .ref ao])), zI g aw 8 (fp 2 (fp 1 (fun i => NU (row * 128 + (wi * 8 + i))) 8) 8), (h, .inr (4, [.ref hn, .ref hs, .int (iI fl), .int (iI re)])), zI g hn 640 NU] := hD
            refine lv_iload hx hb dX3_turn_51 (lv_at hl 0 rfl) ?_
            refine lv_iconst (v := iI 2) hx hb dX3_turn_53 rfl ?_
            refine z_imul hx hb dX3_turn_54 ?_
            refine z_top (b := 4) (by omega) ?_
            refine lv_istore (lv' := [(4, .int (iI 4)), (0, .ref a), (1, .ref h), (2, .int (iI row)), (3, .int (iI wi))]) hx hb dX3_turn_55 hl (by decide) rfl (fun ls hl => ?_)
            refine lv_goto (tgt := 38) hx hb dX3_turn_57 (by decide) ?_
            refine lv_iload hx hb dX3_turn_38 (lv_at hl 0 rfl) ?_
            refine lv_bipush (v := iI 8) hx hb dX3_turn_40 (by decide +kernel) ?_
            refine z_icmp_ge (tgt := 60) hx hb dX3_turn_42 (by decide) (by omega) (by omega) (fun c_8 => ?_) (fun c_8 => ?_)
            · exfalso; omega
            · refine lv_aload_n hx hb dX3_turn_45 rfl (lv_at hl 1 rfl) ?_
              refine lv_iload hx hb dX3_turn_46 (lv_at hl 0 rfl) ?_
              refine z_cV (As := [.int (iI 4)]) (rest := []) C (m_X3_turnPairs (l := l) (g := g) (a := a) (aw := aw) (af := af) (ao := ao) (WA := fp 2 (fp 1 (fun i => NU (row * 128 + (wi * 8 + i))) 8) 8) (hh := 4) (h0 := by omega)) (cwV 1 C.2.2.2.2 gX3_turn_X3_turnPairs rfl rfl rfl (by decide +kernel) ⟨Nat.le_of_ble_eq_true rfl, Nat.le_of_ble_eq_true rfl⟩) hK hP hD hS hA [0, 1] (by decide) rfl (fun _ => rfl) 0 rfl rfl rfl hl.1 rfl (Nat.le_of_ble_eq_true rfl) dX3_turn_48 ⟨Nat.zero_le _, Nat.zero_le _⟩ (fun u_9 H locs hq_10 hP hD hS => ?_)
              have hP : zP g [(a, .inr (3, [.ref aw, .ref af, .ref ao])), zI g aw 8 (fp 4 (fp 2 (fp 1 (fun i => NU (row * 128 + (wi * 8 + i))) 8) 8) 8), (h, .inr (4, [.ref hn, .ref hs, .int (iI fl), .int (iI re)])), zI g hn 640 NU] H := hP
              have hD : va_D A [(a, .inr (3, [.ref aw, .ref af, .ref ao])), zI g aw 8 (fp 4 (fp 2 (fp 1 (fun i => NU (row * 128 + (wi * 8 + i))) 8) 8) 8), (h, .inr (4, [.ref hn, .ref hs, .int (iI fl), .int (iI re)])), zI g hn 640 NU] := hD
              refine lv_iload hx hb dX3_turn_51 (lv_at hl 0 rfl) ?_
              refine lv_iconst (v := iI 2) hx hb dX3_turn_53 rfl ?_
              refine z_imul hx hb dX3_turn_54 ?_
              refine z_top (b := 8) (by omega) ?_
              refine lv_istore (lv' := [(4, .int (iI 8)), (0, .ref a), (1, .ref h), (2, .int (iI row)), (3, .int (iI wi))]) hx hb dX3_turn_55 hl (by decide) rfl (fun ls hl => ?_)
              refine lv_goto (tgt := 38) hx hb dX3_turn_57 (by decide) ?_
              refine lv_iload hx hb dX3_turn_38 (lv_at hl 0 rfl) ?_
              refine lv_bipush (v := iI 8) hx hb dX3_turn_40 (by decide +kernel) ?_
              refine z_icmp_ge (tgt := 60) hx hb dX3_turn_42 (by decide) (by omega) (by omega) (fun c_11 => ?_) (fun c_11 => ?_)
              · have hP := zP_arr hP 1 (wv (fun i => NU (row * 128 + (wi * 8 + i)))) rfl (fun j _ _ => rfl)
                have hD := zD_set (c1 := (zI g aw 8 (wv (fun i => NU (row * 128 + (wi * 8 + i))))).2) hD 1 rfl
                have hP : zP g [(a, .inr (3, [.ref aw, .ref af, .ref ao])), zI g aw 8 (wv (fun i => NU (row * 128 + (wi * 8 + i)))), (h, .inr (4, [.ref hn, .ref hs, .int (iI fl), .int (iI re)])), zI g hn 640 NU] H := hP
                have hD : va_D A [(a, .inr (3, [.ref aw, .ref af, .ref ao])), zI g aw 8 (wv (fun i => NU (row * 128 + (wi * 8 + i)))), (h, .inr (4, [.ref hn, .ref hs, .int (iI fl), .int (iI re)])), zI g hn 640 NU] := hD
                exact z_retV hx hb hlk hr hQ dX3_turn_60 hS () (trivial) (hP)
              · exfalso; omega
      · refine lv_aload_n hx hb dX3_turn_10 rfl (lv_at hl 0 rfl) ?_
        refine z_get (v := .ref aw) (Cn := RX3) (T := TX3) (N := 3) (ci := 3) C in_X3_turn_X3 hK hP 0 rfl rfl 0 (by decide) (List.mem_of_getElem? (i := 1) rfl) rfl dX3_turn_11 ?_
        refine lv_iload hx hb dX3_turn_14 (lv_at hl 4 rfl) ?_
        refine lv_aload_n hx hb dX3_turn_16 rfl (lv_at hl 1 rfl) ?_
        refine lv_iload_n hx hb dX3_turn_17 rfl (lv_at hl 2 rfl) ?_
        refine lv_iload_n hx hb dX3_turn_18 rfl (lv_at hl 3 rfl) ?_
        refine lv_bipush (v := iI 8) hx hb dX3_turn_19 (by decide +kernel) ?_
        refine z_imul hx hb dX3_turn_21 ?_
        refine lv_iload hx hb dX3_turn_22 (lv_at hl 4 rfl) ?_
        refine z_iadd hx hb dX3_turn_24 ?_
        refine z_cS (As := [.int (iI row), .int (iI ((wi * 8) + k))]) (rest := [.int (iI k), .ref aw]) C (m_X4_numberAt (l := l) (g := g) (h := h) (hn := hn) (hs := hs) (fl := fl) (re := re) (NU := NU) (row := row) (i := (wi * 8) + k) (h1 := by omega) (h2 := by omega) (h3 := by omega) (h4 := by omega)) (cwV 2 C.2.2.2.2 gX3_turn_X4_numberAt rfl rfl rfl (by decide +kernel) ⟨Nat.le_of_ble_eq_true rfl, Nat.le_of_ble_eq_true rfl⟩) hK hP [2, 3] rfl 2 rfl rfl rfl hl.1 rfl (Nat.le_of_ble_eq_true rfl) dX3_turn_25 ⟨Nat.zero_le _, Nat.zero_le _⟩ ?_
        refine z_iast hx hb hK hP hD hS 1 rfl (by omega) (by omega) (Nat.le_of_ble_eq_true rfl) dX3_turn_28 (fun H locs hP hD hS => ?_)
        have hP : zP g [(a, .inr (3, [.ref aw, .ref af, .ref ao])), zI g aw 8 (ups WA k (NU (row * 128 + ((wi * 8) + k)))), (h, .inr (4, [.ref hn, .ref hs, .int (iI fl), .int (iI re)])), zI g hn 640 NU] H := hP
        have hD : va_D A [(a, .inr (3, [.ref aw, .ref af, .ref ao])), zI g aw 8 (ups WA k (NU (row * 128 + ((wi * 8) + k)))), (h, .inr (4, [.ref hn, .ref hs, .int (iI fl), .int (iI re)])), zI g hn 640 NU] := hD
        refine z_iinc (b := k + 1) (lv' := [(4, .int (iI (k + 1))), (0, .ref a), (1, .ref h), (2, .int (iI row)), (3, .int (iI wi))]) hx hb dX3_turn_29 hl (k := 4) rfl (rfl) (by decide) rfl (fun ls hl => ?_)
        refine lv_goto (tgt := 3) hx hb dX3_turn_32 (by decide) ?_
        exact ih3 (k + 1) (ups WA k (NU (row * 128 + ((wi * 8) + k)))) (by omega) (by omega) (fun j g1 g2 => by
            by_cases hj : j = k
            · subst hj; exact ups_s _ _ _
            · rw [ups_n _ _ hj]; exact i3 j g1 (by omega)) (by omega) H locs ls (lv_sub hl [1, 2, 3, 4, 0] rfl) (hP) (hD) hS
  exact L3 (9) 0 WA (by omega) (by omega) (fun j g1 g2 => by omega) (by omega) H locs ls (lv_sub hl [1, 2, 3, 4, 0] rfl) (hP) (hD) hS
set_option maxRecDepth 20000 in
theorem in_X3_shareOf_X3 : ∀ w ∈ u_ws RX3 TX3 3, w ∈ wsX3_shareOf := zmem_of _ [2, 3, 4] (by decide +kernel)
set_option maxHeartbeats 4000000 in
set_option maxRecDepth 100000 in
theorem m_X3_shareOf (l : Launch) (g : zG) (a aw af ao : Nat) (WA : Int → Int) (k : Int) (h1 : 0 ≤ k) (h2 : k < 8) : zS l yX3_shareOf wsX3_shareOf ({ frames := 0, cells := 0, slots := 0, locals := 0 }) g [.ref a, .int (iI k)] [(a, .inr (3, [.ref aw, .ref af, .ref ao])), zI g aw 8 WA] (sh WA k) := by
  refine z_entS (cc := cX3_shareOf) (nL := 2) (ret := (some .int)) (own := RX3) (by decide) rfl rfl (Nat.le_of_ble_eq_true rfl) ?_
  intro p e s m below meth c Q ls C hlk hr hQ hP hK hl
  have hx := C.1
  have hb := C.2.1
  have hl : lv_has ls 2 [(0, .ref a), (1, .int (iI k))] := hl
  refine lv_aload_n hx hb dX3_shareOf_0 rfl (lv_at hl 0 rfl) ?_
  refine z_get (v := .ref aw) (Cn := RX3) (T := TX3) (N := 3) (ci := 3) C in_X3_shareOf_X3 hK hP 0 rfl rfl 0 (by decide) (List.mem_of_getElem? (i := 1) rfl) rfl dX3_shareOf_1 ?_
  refine lv_iload_n hx hb dX3_shareOf_4 rfl (lv_at hl 1 rfl) ?_
  refine z_iald hx hb hK hP 1 rfl (by omega) (by omega) (Nat.le_of_ble_eq_true rfl) dX3_shareOf_5 ?_
  refine lv_aload_n hx hb dX3_shareOf_6 rfl (lv_at hl 0 rfl) ?_
  refine z_get (v := .ref aw) (Cn := RX3) (T := TX3) (N := 3) (ci := 3) C in_X3_shareOf_X3 hK hP 0 rfl rfl 0 (by decide) (List.mem_of_getElem? (i := 1) rfl) rfl dX3_shareOf_7 ?_
  refine lv_iload_n hx hb dX3_shareOf_10 rfl (lv_at hl 1 rfl) ?_
  refine z_iald hx hb hK hP 1 rfl (by omega) (by omega) (Nat.le_of_ble_eq_true rfl) dX3_shareOf_11 ?_
  refine z_imul hx hb dX3_shareOf_12 ?_
  refine lv_bipush (v := iI 64) hx hb dX3_shareOf_13 (by decide +kernel) ?_
  refine z_idiv hx hb dX3_shareOf_15 (by omega) (by omega) ?_
  exact z_retS hx hb hlk hr hQ dX3_shareOf_16 (rfl)
set_option maxHeartbeats 4000000 in
set_option maxRecDepth 100000 in
theorem m_X3_findPeak (l : Launch) (g : zG) (a aw af ao : Nat) (h hn hs : Nat) (fl re : Int) (WA NU : Int → Int) (row wi : Int) (h1 : 0 ≤ row) (h2 : row < 5) (w1 : 0 ≤ wi) (w2 : wi < 16) (f1 : 0 ≤ fl) (f2 : fl ≤ 99999) : zE l yX3_findPeak wsX3_findPeak ({ frames := 2, cells := 0, slots := 0, locals := 48 }) g [.ref a, .ref h, .int (iI row), .int (iI wi)] [(a, .inr (3, [.ref aw, .ref af, .ref ao])), zI g aw 8 WA, (h, .inr (4, [.ref hn, .ref hs, .int (iI fl), .int (iI re)])), zI g hn 640 NU] (S := Unit) (fun r _ => r = pk8 (fun i => NU (row * 128 + (wi * 8 + i))) fl) (fun _ => [(a, .inr (3, [.ref aw, .ref af, .ref ao])), zI g aw 8 (wv (fun i => NU (row * 128 + (wi * 8 + i)))), (h, .inr (4, [.ref hn, .ref hs, .int (iI fl), .int (iI re)])), zI g hn 640 NU]) := by
  refine z_entE (cc := cX3_findPeak) (nL := 6) (ret := (some .int)) (own := RX3) (by decide) rfl rfl (Nat.le_of_ble_eq_true rfl) ?_
  intro p e s m below meth c Q ls A C hlk hr hQ hP hK hD hA hS hl
  have hx := C.1
  have hb := C.2.1
  have hl : lv_has ls 6 [(0, .ref a), (1, .ref h), (2, .int (iI row)), (3, .int (iI wi))] := hl
  obtain ⟨H, hHe⟩ : ∃ H, H = s.heap := ⟨_, rfl⟩
  obtain ⟨locs, hLe⟩ : ∃ q : List Loc, q = [] := ⟨_, rfl⟩
  have hP : zP g [(a, .inr (3, [.ref aw, .ref af, .ref ao])), zI g aw 8 WA, (h, .inr (4, [.ref hn, .ref hs, .int (iI fl), .int (iI re)])), zI g hn 640 NU] H := by rw [hHe]; exact hP
  have hS : va_S A s.heap H locs := by rw [hHe, hLe]; exact hS
  suffices hgo : W p l e ({ frames := 2, cells := 0, slots := 0, locals := 48 }) s m ([.ref a, .ref h, .int (iI row), .int (iI wi)] : List Value).toArray below meth c H locs 0 0 Q (F0 m 0 ls []) by rw [hHe, hLe] at hgo; exact hgo
  clear hHe hLe
  refine lv_aload_n hx hb dX3_findPeak_0 rfl (lv_at hl 0 rfl) ?_
  refine lv_aload_n hx hb dX3_findPeak_1 rfl (lv_at hl 1 rfl) ?_
  refine lv_iload_n hx hb dX3_findPeak_2 rfl (lv_at hl 2 rfl) ?_
  refine lv_iload_n hx hb dX3_findPeak_3 rfl (lv_at hl 3 rfl) ?_
  refine z_cV (As := [.ref h, .int (iI row), .int (iI wi)]) (rest := []) C (m_X3_turn (l := l) (g := g) (a := a) (aw := aw) (af := af) (ao := ao) (h := h) (hn := hn) (hs := hs) (fl := fl) (re := re) (WA := WA) (NU := NU) (row := row) (wi := wi) (h1 := by omega) (h2 := by omega) (w1 := by omega) (w2 := by omega)) (cwV 3 C.2.2.2.2 gX3_findPeak_X3_turn rfl rfl rfl (by decide +kernel) ⟨Nat.le_of_ble_eq_true rfl, Nat.le_of_ble_eq_true rfl⟩) hK hP hD hS hA [0, 1, 2, 3] (by decide) rfl (fun _ => rfl) 0 rfl rfl rfl hl.1 rfl (Nat.le_of_ble_eq_true rfl) dX3_findPeak_4 ⟨Nat.zero_le _, Nat.zero_le _⟩ (fun u_1 H locs hq_2 hP hD hS => ?_)
  have hP : zP g [(a, .inr (3, [.ref aw, .ref af, .ref ao])), zI g aw 8 (wv (fun i => NU (row * 128 + (wi * 8 + i)))), (h, .inr (4, [.ref hn, .ref hs, .int (iI fl), .int (iI re)])), zI g hn 640 NU] H := hP
  have hD : va_D A [(a, .inr (3, [.ref aw, .ref af, .ref ao])), zI g aw 8 (wv (fun i => NU (row * 128 + (wi * 8 + i)))), (h, .inr (4, [.ref hn, .ref hs, .int (iI fl), .int (iI re)])), zI g hn 640 NU] := hD
  refine lv_iconst (v := iI 1) hx hb dX3_findPeak_7 rfl ?_
  refine lv_istore (lv' := [(4, .int (iI 1)), (0, .ref a), (1, .ref h), (2, .int (iI row)), (3, .int (iI wi))]) hx hb dX3_findPeak_8 hl (by decide) rfl (fun ls hl => ?_)
  refine lv_iconst (v := iI 2) hx hb dX3_findPeak_10 rfl ?_
  refine lv_istore (lv' := [(5, .int (iI 2)), (4, .int (iI 1)), (0, .ref a), (1, .ref h), (2, .int (iI row)), (3, .int (iI wi))]) hx hb dX3_findPeak_11 hl (by decide) rfl (fun ls hl => ?_)
  have L13 : ∀ (n : Nat) (k : Int), (i1 : 2 ≤ k) → (i2 : k ≤ 8) → (hms : 8 - k < (n : Int)) → ∀ (H : Heap) (locs : List Loc) (ls : Array Slot), lv_has ls 6 [(0, .ref a), (1, .ref h), (4, .int (iI (bs (sh (wv (fun i => NU (row * 128 + (wi * 8 + i))))) k))), (5, .int (iI k))] → zP g [(a, .inr (3, [.ref aw, .ref af, .ref ao])), zI g aw 8 (wv (fun i => NU (row * 128 + (wi * 8 + i)))), (h, .inr (4, [.ref hn, .ref hs, .int (iI fl), .int (iI re)])), zI g hn 640 NU] H → va_D A [(a, .inr (3, [.ref aw, .ref af, .ref ao])), zI g aw 8 (wv (fun i => NU (row * 128 + (wi * 8 + i)))), (h, .inr (4, [.ref hn, .ref hs, .int (iI fl), .int (iI re)])), zI g hn 640 NU] → va_S A s.heap H locs → W p l e ({ frames := 2, cells := 0, slots := 0, locals := 48 }) s m ([.ref a, .ref h, .int (iI row), .int (iI wi)] : List Value).toArray below meth c H locs 0 0 Q (F0 m 13 ls []) := by
    clear hP hD hS hl
    intro n
    induction n with
    | zero =>
      intro k i1 i2 hms H locs ls hl hP hD hS
      exfalso; omega
    | succ n ih13 =>
      intro k i1 i2 hms H locs ls hl hP hD hS
      have hbs := bs_rg (sh (wv (fun i => NU (row * 128 + (wi * 8 + i))))) (k := k) (by omega)
      refine lv_iload hx hb dX3_findPeak_13 (lv_at hl 3 rfl) ?_
      refine lv_bipush (v := iI 8) hx hb dX3_findPeak_15 (by decide +kernel) ?_
      refine z_icmp_ge (tgt := 45) hx hb dX3_findPeak_17 (by decide) (by omega) (by omega) (fun c_3 => ?_) (fun c_3 => ?_)
      · obtain rfl : k = 8 := by omega
        refine lv_aload_n hx hb dX3_findPeak_45 rfl (lv_at hl 0 rfl) ?_
        refine lv_iload hx hb dX3_findPeak_46 (lv_at hl 2 rfl) ?_
        refine z_cS (As := [.int (iI (bs (sh (wv (fun i => NU (row * 128 + (wi * 8 + i))))) 8))]) (rest := []) C (m_X3_shareOf (l := l) (g := g) (a := a) (aw := aw) (af := af) (ao := ao) (WA := wv (fun i => NU (row * 128 + (wi * 8 + i)))) (k := bs (sh (wv (fun i => NU (row * 128 + (wi * 8 + i))))) 8) (h1 := by omega) (h2 := by omega)) (cwV 1 C.2.2.2.2 gX3_findPeak_X3_shareOf rfl rfl rfl (by decide +kernel) ⟨Nat.le_of_ble_eq_true rfl, Nat.le_of_ble_eq_true rfl⟩) hK hP [0, 1] rfl 0 rfl rfl rfl hl.1 rfl (Nat.le_of_ble_eq_true rfl) dX3_findPeak_48 ⟨Nat.zero_le _, Nat.zero_le _⟩ ?_
        have hsr := sh_rg (wv (fun i => NU (row * 128 + (wi * 8 + i)))) (bs (sh (wv (fun i => NU (row * 128 + (wi * 8 + i))))) 8)
        refine lv_aload_n hx hb dX3_findPeak_51 rfl (lv_at hl 1 rfl) ?_
        refine z_cS (As := []) (rest := [.int (iI (sh (wv (fun i => NU (row * 128 + (wi * 8 + i)))) (bs (sh (wv (fun i => NU (row * 128 + (wi * 8 + i))))) 8)))]) C (m_X4_floor (l := l) (g := g) (h := h) (hn := hn) (hs := hs) (fl := fl) (re := re) ) (cwV 0 C.2.2.2.2 gX3_findPeak_X4_floor rfl rfl rfl (by decide +kernel) ⟨Nat.le_of_ble_eq_true rfl, Nat.le_of_ble_eq_true rfl⟩) hK hP [2] rfl 2 rfl rfl rfl hl.1 rfl (Nat.le_of_ble_eq_true rfl) dX3_findPeak_52 ⟨Nat.zero_le _, Nat.zero_le _⟩ ?_
        refine z_icmp_lt (tgt := 63) hx hb dX3_findPeak_55 (by decide) (by omega) (by omega) (fun c_4 => ?_) (fun c_4 => ?_)
        · refine lv_iconst (v := iI (-1)) hx hb dX3_findPeak_63 rfl ?_
          exact z_retE hx hb hlk hr hQ dX3_findPeak_64 hS () (by
            show _ = pk8 _ _
            unfold pk8
            rw [if_neg (by omega)]) (hP)
        · refine lv_iload hx hb dX3_findPeak_58 (lv_at hl 2 rfl) ?_
          refine lv_goto (tgt := 64) hx hb dX3_findPeak_60 (by decide) ?_
          exact z_retE hx hb hlk hr hQ dX3_findPeak_64 hS () (by
            show _ = pk8 _ _
            unfold pk8
            rw [if_pos (by omega)]) (hP)
      · refine lv_aload_n hx hb dX3_findPeak_20 rfl (lv_at hl 0 rfl) ?_
        refine lv_iload hx hb dX3_findPeak_21 (lv_at hl 3 rfl) ?_
        refine z_cS (As := [.int (iI k)]) (rest := []) C (m_X3_shareOf (l := l) (g := g) (a := a) (aw := aw) (af := af) (ao := ao) (WA := wv (fun i => NU (row * 128 + (wi * 8 + i)))) (k := k) (h1 := by omega) (h2 := by omega)) (cwV 1 C.2.2.2.2 gX3_findPeak_X3_shareOf rfl rfl rfl (by decide +kernel) ⟨Nat.le_of_ble_eq_true rfl, Nat.le_of_ble_eq_true rfl⟩) hK hP [0, 1] rfl 0 rfl rfl rfl hl.1 rfl (Nat.le_of_ble_eq_true rfl) dX3_findPeak_23 ⟨Nat.zero_le _, Nat.zero_le _⟩ ?_
        have hsr := sh_rg (wv (fun i => NU (row * 128 + (wi * 8 + i)))) k
        refine lv_aload_n hx hb dX3_findPeak_26 rfl (lv_at hl 0 rfl) ?_
        refine lv_iload hx hb dX3_findPeak_27 (lv_at hl 2 rfl) ?_
        refine z_cS (As := [.int (iI (bs (sh (wv (fun i => NU (row * 128 + (wi * 8 + i))))) k))]) (rest := [.int (iI (sh (wv (fun i => NU (row * 128 + (wi * 8 + i)))) k))]) C (m_X3_shareOf (l := l) (g := g) (a := a) (aw := aw) (af := af) (ao := ao) (WA := wv (fun i => NU (row * 128 + (wi * 8 + i)))) (k := bs (sh (wv (fun i => NU (row * 128 + (wi * 8 + i))))) k) (h1 := by omega) (h2 := by omega)) (cwV 1 C.2.2.2.2 gX3_findPeak_X3_shareOf rfl rfl rfl (by decide +kernel) ⟨Nat.le_of_ble_eq_true rfl, Nat.le_of_ble_eq_true rfl⟩) hK hP [0, 1] rfl 0 rfl rfl rfl hl.1 rfl (Nat.le_of_ble_eq_true rfl) dX3_findPeak_29 ⟨Nat.zero_le _, Nat.zero_le _⟩ ?_
        have hsr := sh_rg (wv (fun i => NU (row * 128 + (wi * 8 + i)))) (bs (sh (wv (fun i => NU (row * 128 + (wi * 8 + i))))) k)
        refine z_icmp_le (tgt := 39) hx hb dX3_findPeak_32 (by decide) (by omega) (by omega) (fun hc => ?_) (fun hc => ?_)
        · refine z_iinc (b := k + 1) (lv' := [(5, .int (iI (k + 1))), (0, .ref a), (1, .ref h), (4, .int (iI (bs (sh (wv (fun i => NU (row * 128 + (wi * 8 + i))))) k)))]) hx hb dX3_findPeak_39 hl (k := 3) rfl (rfl) (by decide) rfl (fun ls hl => ?_)
          refine lv_goto (tgt := 13) hx hb dX3_findPeak_42 (by decide) ?_
          have hl := lv_chg hl 3 (b := bs (sh (wv (fun i => NU (row * 128 + (wi * 8 + i))))) (k + 1)) rfl ((bs_f (by omega) hc).symm)
          have hl : lv_has ls 6 [(5, .int (iI (k + 1))), (0, .ref a), (1, .ref h), (4, .int (iI (bs (sh (wv (fun i => NU (row * 128 + (wi * 8 + i))))) (k + 1))))] := hl
          exact ih13 (k + 1) (by omega) (by omega) (by omega) H locs ls (lv_sub hl [1, 2, 3, 0] rfl) (hP) (hD) hS
        · refine lv_iload hx hb dX3_findPeak_35 (lv_at hl 3 rfl) ?_
          refine lv_istore (lv' := [(4, .int (iI k)), (0, .ref a), (1, .ref h), (5, .int (iI k))]) hx hb dX3_findPeak_37 hl (by decide) rfl (fun ls hl => ?_)
          refine z_iinc (b := k + 1) (lv' := [(5, .int (iI (k + 1))), (4, .int (iI k)), (0, .ref a), (1, .ref h)]) hx hb dX3_findPeak_39 hl (k := 3) rfl (rfl) (by decide) rfl (fun ls hl => ?_)
          refine lv_goto (tgt := 13) hx hb dX3_findPeak_42 (by decide) ?_
          have hl := lv_chg hl 1 (b := bs (sh (wv (fun i => NU (row * 128 + (wi * 8 + i))))) (k + 1)) rfl ((bs_t (by omega) hc).symm)
          have hl : lv_has ls 6 [(5, .int (iI (k + 1))), (4, .int (iI (bs (sh (wv (fun i => NU (row * 128 + (wi * 8 + i))))) (k + 1)))), (0, .ref a), (1, .ref h)] := hl
          exact ih13 (k + 1) (by omega) (by omega) (by omega) H locs ls (lv_sub hl [2, 3, 1, 0] rfl) (hP) (hD) hS
  have hl := lv_chg hl 1 (b := bs (sh (wv (fun i => NU (row * 128 + (wi * 8 + i))))) 2) rfl ((bs_2 _).symm)
  have hl : lv_has ls 6 [(5, .int (iI 2)), (4, .int (iI (bs (sh (wv (fun i => NU (row * 128 + (wi * 8 + i))))) 2))), (0, .ref a), (1, .ref h), (2, .int (iI row)), (3, .int (iI wi))] := hl
  exact L13 (9) 2 (by omega) (by omega) (by omega) H locs ls (lv_sub hl [2, 3, 1, 0] rfl) (hP) (hD) hS
set_option maxHeartbeats 4000000 in
set_option maxRecDepth 100000 in
theorem m_X3_shareIn (l : Launch) (g : zG) (a aw af ao : Nat) (h hn hs : Nat) (fl re : Int) (WA NU : Int → Int) (row wi wave : Int) (h1 : 0 ≤ row) (h2 : row < 5) (w1 : 0 ≤ wi) (w2 : wi < 16) (v1 : 0 ≤ wave) (v2 : wave < 8) : zE l yX3_shareIn wsX3_shareIn ({ frames := 2, cells := 0, slots := 0, locals := 48 }) g [.ref a, .ref h, .int (iI row), .int (iI wi), .int (iI wave)] [(a, .inr (3, [.ref aw, .ref af, .ref ao])), zI g aw 8 WA, (h, .inr (4, [.ref hn, .ref hs, .int (iI fl), .int (iI re)])), zI g hn 640 NU] (S := Unit) (fun r _ => r = sh (wv (fun i => NU (row * 128 + (wi * 8 + i)))) wave) (fun _ => [(a, .inr (3, [.ref aw, .ref af, .ref ao])), zI g aw 8 (wv (fun i => NU (row * 128 + (wi * 8 + i)))), (h, .inr (4, [.ref hn, .ref hs, .int (iI fl), .int (iI re)])), zI g hn 640 NU]) := by
  refine z_entE (cc := cX3_shareIn) (nL := 5) (ret := (some .int)) (own := RX3) (by decide) rfl rfl (Nat.le_of_ble_eq_true rfl) ?_
  intro p e s m below meth c Q ls A C hlk hr hQ hP hK hD hA hS hl
  have hx := C.1
  have hb := C.2.1
  have hl : lv_has ls 5 [(0, .ref a), (1, .ref h), (2, .int (iI row)), (3, .int (iI wi)), (4, .int (iI wave))] := hl
  obtain ⟨H, hHe⟩ : ∃ H, H = s.heap := ⟨_, rfl⟩
  obtain ⟨locs, hLe⟩ : ∃ q : List Loc, q = [] := ⟨_, rfl⟩
  have hP : zP g [(a, .inr (3, [.ref aw, .ref af, .ref ao])), zI g aw 8 WA, (h, .inr (4, [.ref hn, .ref hs, .int (iI fl), .int (iI re)])), zI g hn 640 NU] H := by rw [hHe]; exact hP
  have hS : va_S A s.heap H locs := by rw [hHe, hLe]; exact hS
  suffices hgo : W p l e ({ frames := 2, cells := 0, slots := 0, locals := 48 }) s m ([.ref a, .ref h, .int (iI row), .int (iI wi), .int (iI wave)] : List Value).toArray below meth c H locs 0 0 Q (F0 m 0 ls []) by rw [hHe, hLe] at hgo; exact hgo
  clear hHe hLe
  refine lv_aload_n hx hb dX3_shareIn_0 rfl (lv_at hl 0 rfl) ?_
  refine lv_aload_n hx hb dX3_shareIn_1 rfl (lv_at hl 1 rfl) ?_
  refine lv_iload_n hx hb dX3_shareIn_2 rfl (lv_at hl 2 rfl) ?_
  refine lv_iload_n hx hb dX3_shareIn_3 rfl (lv_at hl 3 rfl) ?_
  refine z_cV (As := [.ref h, .int (iI row), .int (iI wi)]) (rest := []) C (m_X3_turn (l := l) (g := g) (a := a) (aw := aw) (af := af) (ao := ao) (h := h) (hn := hn) (hs := hs) (fl := fl) (re := re) (WA := WA) (NU := NU) (row := row) (wi := wi) (h1 := by omega) (h2 := by omega) (w1 := by omega) (w2 := by omega)) (cwV 3 C.2.2.2.2 gX3_shareIn_X3_turn rfl rfl rfl (by decide +kernel) ⟨Nat.le_of_ble_eq_true rfl, Nat.le_of_ble_eq_true rfl⟩) hK hP hD hS hA [0, 1, 2, 3] (by decide) rfl (fun _ => rfl) 0 rfl rfl rfl hl.1 rfl (Nat.le_of_ble_eq_true rfl) dX3_shareIn_4 ⟨Nat.zero_le _, Nat.zero_le _⟩ (fun u_1 H locs hq_2 hP hD hS => ?_)
  have hP : zP g [(a, .inr (3, [.ref aw, .ref af, .ref ao])), zI g aw 8 (wv (fun i => NU (row * 128 + (wi * 8 + i)))), (h, .inr (4, [.ref hn, .ref hs, .int (iI fl), .int (iI re)])), zI g hn 640 NU] H := hP
  have hD : va_D A [(a, .inr (3, [.ref aw, .ref af, .ref ao])), zI g aw 8 (wv (fun i => NU (row * 128 + (wi * 8 + i)))), (h, .inr (4, [.ref hn, .ref hs, .int (iI fl), .int (iI re)])), zI g hn 640 NU] := hD
  refine lv_aload_n hx hb dX3_shareIn_7 rfl (lv_at hl 0 rfl) ?_
  refine lv_iload hx hb dX3_shareIn_8 (lv_at hl 4 rfl) ?_
  refine z_cS (As := [.int (iI wave)]) (rest := []) C (m_X3_shareOf (l := l) (g := g) (a := a) (aw := aw) (af := af) (ao := ao) (WA := wv (fun i => NU (row * 128 + (wi * 8 + i)))) (k := wave) (h1 := by omega) (h2 := by omega)) (cwV 1 C.2.2.2.2 gX3_shareIn_X3_shareOf rfl rfl rfl (by decide +kernel) ⟨Nat.le_of_ble_eq_true rfl, Nat.le_of_ble_eq_true rfl⟩) hK hP [0, 1] rfl 0 rfl rfl rfl hl.1 rfl (Nat.le_of_ble_eq_true rfl) dX3_shareIn_10 ⟨Nat.zero_le _, Nat.zero_le _⟩ ?_
  have hsr := sh_rg (wv (fun i => NU (row * 128 + (wi * 8 + i)))) wave
  exact z_retE hx hb hlk hr hQ dX3_shareIn_13 hS () (rfl) (hP)
set_option maxRecDepth 20000 in
theorem in_X3_peakOf_X3 : ∀ w ∈ u_ws RX3 TX3 3, w ∈ wsX3_peakOf := zmem_of _ [2, 3, 4] (by decide +kernel)
set_option maxHeartbeats 4000000 in
set_option maxRecDepth 100000 in
theorem m_X3_peakOf (l : Launch) (g : zG) (a aw af ao : Nat) (FD : Int → Int) (row w : Int) (h1 : 0 ≤ row * 16 + w) (h2 : row * 16 + w < 80) : zS l yX3_peakOf wsX3_peakOf ({ frames := 0, cells := 0, slots := 0, locals := 0 }) g [.ref a, .int (iI row), .int (iI w)] [(a, .inr (3, [.ref aw, .ref af, .ref ao])), zI g af 80 FD] (FD (row * 16 + w)) := by
  refine z_entS (cc := cX3_peakOf) (nL := 3) (ret := (some .int)) (own := RX3) (by decide) rfl rfl (Nat.le_of_ble_eq_true rfl) ?_
  intro p e s m below meth c Q ls C hlk hr hQ hP hK hl
  have hx := C.1
  have hb := C.2.1
  have hl : lv_has ls 3 [(0, .ref a), (1, .int (iI row)), (2, .int (iI w))] := hl
  refine lv_aload_n hx hb dX3_peakOf_0 rfl (lv_at hl 0 rfl) ?_
  refine z_get (v := .ref af) (Cn := RX3) (T := TX3) (N := 3) (ci := 3) C in_X3_peakOf_X3 hK hP 0 rfl rfl 1 (by decide) (List.mem_of_getElem? (i := 1) rfl) rfl dX3_peakOf_1 ?_
  refine lv_iload_n hx hb dX3_peakOf_4 rfl (lv_at hl 1 rfl) ?_
  refine lv_bipush (v := iI 16) hx hb dX3_peakOf_5 (by decide +kernel) ?_
  refine z_imul hx hb dX3_peakOf_7 ?_
  refine lv_iload_n hx hb dX3_peakOf_8 rfl (lv_at hl 2 rfl) ?_
  refine z_iadd hx hb dX3_peakOf_9 ?_
  refine z_iald hx hb hK hP 1 rfl (by omega) (by omega) (Nat.le_of_ble_eq_true rfl) dX3_peakOf_10 ?_
  exact z_retS hx hb hlk hr hQ dX3_peakOf_11 (rfl)
end
section
set_option maxHeartbeats 4000000 in
set_option maxRecDepth 100000 in
theorem m_X3_keyOf (l : Launch) (g : zG) (a aw af ao : Nat) (FD : Int → Int) (row v w re : Int) (h1 : 0 ≤ row) (h2 : row < 5) (v1 : -1000 ≤ v ∧ v ≤ 1000) (v2 : -1000 ≤ w ∧ w ≤ 1000) (v3 : 0 ≤ re ∧ re ≤ 1000) (hF : ∀ j, -1 ≤ FD j ∧ FD j ≤ 7 ∧ FD j ≠ 0) : zS l yX3_keyOf wsX3_keyOf ({ frames := 1, cells := 0, slots := 0, locals := 22 }) g [.ref a, .int (iI row), .int (iI v), .int (iI w), .int (iI re)] [(a, .inr (3, [.ref aw, .ref af, .ref ao])), zI g af 80 FD] (kyf FD re row v w) := by
  refine z_entS (cc := cX3_keyOf) (nL := 7) (ret := (some .int)) (own := RX3) (by decide) rfl rfl (Nat.le_of_ble_eq_true rfl) ?_
  intro p e s m below meth c Q ls C hlk hr hQ hP hK hl
  have hx := C.1
  have hb := C.2.1
  have hl : lv_has ls 7 [(0, .ref a), (1, .int (iI row)), (2, .int (iI v)), (3, .int (iI w)), (4, .int (iI re))] := hl
  refine lv_iload_n hx hb dX3_keyOf_0 rfl (lv_at hl 2 rfl) ?_
  refine z_if_lt (tgt := 23) hx hb dX3_keyOf_1 (by decide) (by omega) (fun c_1 => ?_) (fun c_1 => ?_)
  · refine lv_iconst (v := iI (-1)) hx hb dX3_keyOf_23 rfl ?_
    exact z_retS hx hb hlk hr hQ dX3_keyOf_24 ((kyf_no (by omega)).symm)
  · refine lv_iload_n hx hb dX3_keyOf_4 rfl (lv_at hl 2 rfl) ?_
    refine lv_iload_n hx hb dX3_keyOf_5 rfl (lv_at hl 3 rfl) ?_
    refine z_icmp_ge (tgt := 23) hx hb dX3_keyOf_6 (by decide) (by omega) (by omega) (fun c_2 => ?_) (fun c_2 => ?_)
    · refine lv_iconst (v := iI (-1)) hx hb dX3_keyOf_23 rfl ?_
      exact z_retS hx hb hlk hr hQ dX3_keyOf_24 ((kyf_no (by omega)).symm)
    · refine lv_iload_n hx hb dX3_keyOf_9 rfl (lv_at hl 3 rfl) ?_
      refine lv_bipush (v := iI 16) hx hb dX3_keyOf_10 (by decide +kernel) ?_
      refine z_icmp_ge (tgt := 23) hx hb dX3_keyOf_12 (by decide) (by omega) (by omega) (fun c_3 => ?_) (fun c_3 => ?_)
      · refine lv_iconst (v := iI (-1)) hx hb dX3_keyOf_23 rfl ?_
        exact z_retS hx hb hlk hr hQ dX3_keyOf_24 ((kyf_no (by omega)).symm)
      · refine lv_iload_n hx hb dX3_keyOf_15 rfl (lv_at hl 3 rfl) ?_
        refine lv_iload_n hx hb dX3_keyOf_16 rfl (lv_at hl 2 rfl) ?_
        refine z_isub hx hb dX3_keyOf_17 ?_
        refine lv_iload hx hb dX3_keyOf_18 (lv_at hl 4 rfl) ?_
        refine z_icmp_le (tgt := 25) hx hb dX3_keyOf_20 (by decide) (by omega) (by omega) (fun c_4 => ?_) (fun c_4 => ?_)
        · refine lv_aload_n hx hb dX3_keyOf_25 rfl (lv_at hl 0 rfl) ?_
          refine lv_iload_n hx hb dX3_keyOf_26 rfl (lv_at hl 1 rfl) ?_
          refine lv_iload_n hx hb dX3_keyOf_27 rfl (lv_at hl 2 rfl) ?_
          refine z_cS (As := [.int (iI row), .int (iI v)]) (rest := []) C (m_X3_peakOf (l := l) (g := g) (a := a) (aw := aw) (af := af) (ao := ao) (FD := FD) (row := row) (w := v) (h1 := by omega) (h2 := by omega)) (cwV 2 C.2.2.2.2 gX3_keyOf_X3_peakOf rfl rfl rfl (by decide +kernel) ⟨Nat.le_of_ble_eq_true rfl, Nat.le_of_ble_eq_true rfl⟩) hK hP [0, 1] rfl 0 rfl rfl rfl hl.1 rfl (Nat.le_of_ble_eq_true rfl) dX3_keyOf_28 ⟨Nat.zero_le _, Nat.zero_le _⟩ ?_
          refine lv_istore (lv' := [(5, .int (iI (FD (row * 16 + v)))), (0, .ref a), (1, .int (iI row)), (2, .int (iI v)), (3, .int (iI w)), (4, .int (iI re))]) hx hb dX3_keyOf_31 hl (by decide) rfl (fun ls hl => ?_)
          refine lv_aload_n hx hb dX3_keyOf_33 rfl (lv_at hl 1 rfl) ?_
          refine lv_iload_n hx hb dX3_keyOf_34 rfl (lv_at hl 2 rfl) ?_
          refine lv_iload_n hx hb dX3_keyOf_35 rfl (lv_at hl 4 rfl) ?_
          refine z_cS (As := [.int (iI row), .int (iI w)]) (rest := []) C (m_X3_peakOf (l := l) (g := g) (a := a) (aw := aw) (af := af) (ao := ao) (FD := FD) (row := row) (w := w) (h1 := by omega) (h2 := by omega)) (cwV 2 C.2.2.2.2 gX3_keyOf_X3_peakOf rfl rfl rfl (by decide +kernel) ⟨Nat.le_of_ble_eq_true rfl, Nat.le_of_ble_eq_true rfl⟩) hK hP [0, 1] rfl 0 rfl rfl rfl hl.1 rfl (Nat.le_of_ble_eq_true rfl) dX3_keyOf_36 ⟨Nat.zero_le _, Nat.zero_le _⟩ ?_
          refine lv_istore (lv' := [(6, .int (iI (FD (row * 16 + w)))), (5, .int (iI (FD (row * 16 + v)))), (0, .ref a), (1, .int (iI row)), (2, .int (iI v)), (3, .int (iI w)), (4, .int (iI re))]) hx hb dX3_keyOf_39 hl (by decide) rfl (fun ls hl => ?_)
          have hf1 := hF (row * 16 + v)
          have hf2 := hF (row * 16 + w)
          refine lv_iload hx hb dX3_keyOf_41 (lv_at hl 1 rfl) ?_
          refine lv_iconst (v := iI (-1)) hx hb dX3_keyOf_43 rfl ?_
          refine z_icmp_eq (tgt := 53) hx hb dX3_keyOf_44 (by decide) (by omega) (by omega) (fun c_5 => ?_) (fun c_5 => ?_)
          · refine lv_iconst (v := iI (-1)) hx hb dX3_keyOf_53 rfl ?_
            refine lv_goto (tgt := 72) hx hb dX3_keyOf_54 (by decide) ?_
            exact z_retS hx hb hlk hr hQ dX3_keyOf_72 ((kyf_no (by omega)).symm)
          · refine lv_iload hx hb dX3_keyOf_47 (lv_at hl 0 rfl) ?_
            refine lv_iconst (v := iI (-1)) hx hb dX3_keyOf_49 rfl ?_
            refine z_icmp_ne (tgt := 57) hx hb dX3_keyOf_50 (by decide) (by omega) (by omega) (fun c_6 => ?_) (fun c_6 => ?_)
            · refine lv_bipush (v := iI 64) hx hb dX3_keyOf_57 (by decide +kernel) ?_
              refine lv_iload_n hx hb dX3_keyOf_59 rfl (lv_at hl 5 rfl) ?_
              refine lv_iload_n hx hb dX3_keyOf_60 rfl (lv_at hl 4 rfl) ?_
              refine z_isub hx hb dX3_keyOf_61 ?_
              refine z_imul hx hb dX3_keyOf_62 ?_
              refine lv_bipush (v := iI 8) hx hb dX3_keyOf_63 (by decide +kernel) ?_
              refine lv_iload hx hb dX3_keyOf_65 (lv_at hl 1 rfl) ?_
              refine z_imul hx hb dX3_keyOf_67 ?_
              refine z_iadd hx hb dX3_keyOf_68 ?_
              refine lv_iload hx hb dX3_keyOf_69 (lv_at hl 0 rfl) ?_
              refine z_iadd hx hb dX3_keyOf_71 ?_
              exact z_retS hx hb hlk hr hQ dX3_keyOf_72 ((kyf_yes (by omega)).symm)
            · refine lv_iconst (v := iI (-1)) hx hb dX3_keyOf_53 rfl ?_
              refine lv_goto (tgt := 72) hx hb dX3_keyOf_54 (by decide) ?_
              exact z_retS hx hb hlk hr hQ dX3_keyOf_72 ((kyf_no (by omega)).symm)
        · refine lv_iconst (v := iI (-1)) hx hb dX3_keyOf_23 rfl ?_
          exact z_retS hx hb hlk hr hQ dX3_keyOf_24 ((kyf_no (by omega)).symm)
set_option maxHeartbeats 4000000 in
set_option maxRecDepth 100000 in
theorem m_X3_countIn (l : Launch) (g : zG) (a aw af ao : Nat) (FD : Int → Int) (row : Int) (h1 : 0 ≤ row) (h2 : row < 5) (hF : ∀ j, -1 ≤ FD j ∧ FD j ≤ 7 ∧ FD j ≠ 0) : zS l yX3_countIn wsX3_countIn ({ frames := 1, cells := 0, slots := 0, locals := 22 }) g [.ref a, .int (iI row)] [(a, .inr (3, [.ref aw, .ref af, .ref ao])), zI g af 80 FD] (sumZ (fun w => bI (FD (row * 16 + w) ≠ -1)) 16) := by
  refine z_entS (cc := cX3_countIn) (nL := 4) (ret := (some .int)) (own := RX3) (by decide) rfl rfl (Nat.le_of_ble_eq_true rfl) ?_
  intro p e s m below meth c Q ls C hlk hr hQ hP hK hl
  have hx := C.1
  have hb := C.2.1
  have hl : lv_has ls 4 [(0, .ref a), (1, .int (iI row))] := hl
  refine lv_iconst (v := iI 0) hx hb dX3_countIn_0 rfl ?_
  refine lv_istore_n (lv' := [(2, .int (iI 0)), (0, .ref a), (1, .int (iI row))]) hx hb dX3_countIn_1 rfl hl (by decide) rfl (fun ls hl => ?_)
  refine lv_iconst (v := iI 0) hx hb dX3_countIn_2 rfl ?_
  refine lv_istore_n (lv' := [(3, .int (iI 0)), (2, .int (iI 0)), (0, .ref a), (1, .int (iI row))]) hx hb dX3_countIn_3 rfl hl (by decide) rfl (fun ls hl => ?_)
  have L4 : ∀ (n : Nat) (w : Int), (i1 : 0 ≤ w) → (i2 : w ≤ 16) → (hms : 16 - w < (n : Int)) → ∀ (ls : Array Slot), lv_has ls 4 [(0, .ref a), (1, .int (iI row)), (2, .int (iI (sumZ (fun w => bI (FD (row * 16 + w) ≠ -1)) w))), (3, .int (iI w))] → W p l e ({ frames := 1, cells := 0, slots := 0, locals := 22 }) s m ([.ref a, .int (iI row)] : List Value).toArray below meth c s.heap [] 0 0 Q (F0 m 4 ls []) := by
    clear hl
    intro n
    induction n with
    | zero =>
      intro w i1 i2 hms ls hl
      exfalso; omega
    | succ n ih4 =>
      intro w i1 i2 hms ls hl
      refine lv_iload_n hx hb dX3_countIn_4 rfl (lv_at hl 3 rfl) ?_
      refine lv_bipush (v := iI 16) hx hb dX3_countIn_5 (by decide +kernel) ?_
      refine z_icmp_ge (tgt := 29) hx hb dX3_countIn_7 (by decide) (by omega) (by omega) (fun c_1 => ?_) (fun c_1 => ?_)
      · obtain rfl : w = 16 := by omega
        refine lv_iload_n hx hb dX3_countIn_29 rfl (lv_at hl 2 rfl) ?_
        exact z_retS hx hb hlk hr hQ dX3_countIn_30 (rfl)
      · refine lv_aload_n hx hb dX3_countIn_10 rfl (lv_at hl 0 rfl) ?_
        refine lv_iload_n hx hb dX3_countIn_11 rfl (lv_at hl 1 rfl) ?_
        refine lv_iload_n hx hb dX3_countIn_12 rfl (lv_at hl 3 rfl) ?_
        refine z_cS (As := [.int (iI row), .int (iI w)]) (rest := []) C (m_X3_peakOf (l := l) (g := g) (a := a) (aw := aw) (af := af) (ao := ao) (FD := FD) (row := row) (w := w) (h1 := by omega) (h2 := by omega)) (cwV 2 C.2.2.2.2 gX3_countIn_X3_peakOf rfl rfl rfl (by decide +kernel) ⟨Nat.le_of_ble_eq_true rfl, Nat.le_of_ble_eq_true rfl⟩) hK hP [0, 1] rfl 0 rfl rfl rfl hl.1 rfl (Nat.le_of_ble_eq_true rfl) dX3_countIn_13 ⟨Nat.zero_le _, Nat.zero_le _⟩ ?_
        have hf1 := hF (row * 16 + w)
        refine lv_iconst (v := iI (-1)) hx hb dX3_countIn_16 rfl ?_
        refine z_icmp_eq (tgt := 23) hx hb dX3_countIn_17 (by decide) (by omega) (by omega) (fun hc => ?_) (fun hc => ?_)
        · refine z_iinc (b := w + 1) (lv' := [(3, .int (iI (w + 1))), (0, .ref a), (1, .int (iI row)), (2, .int (iI (sumZ (fun w => bI (FD (row * 16 + w) ≠ -1)) w)))]) hx hb dX3_countIn_23 hl (k := 3) rfl (rfl) (by decide) rfl (fun ls hl => ?_)
          refine lv_goto (tgt := 4) hx hb dX3_countIn_26 (by decide) ?_
          have hl := lv_chg hl 3 (b := sumZ (fun (w + 1) => bI (FD (row * 16 + (w + 1)) ≠ -1)) (w + 1)) rfl (by rw [sumZ_s _ i1, bI_f (by omega)]; omega)
          have hl : lv_has ls 4 [(3, .int (iI (w + 1))), (0, .ref a), (1, .int (iI row)), (2, .int (iI (sumZ (fun (w + 1) => bI (FD (row * 16 + (w + 1)) ≠ -1)) (w + 1))))] := hl
          exact ih4 (w + 1) (by omega) (by omega) (by omega) ls (lv_sub hl [1, 2, 3, 0] rfl)
        · refine z_iinc (b := sumZ (fun w => bI (FD (row * 16 + w) ≠ -1)) w + 1) (lv' := [(2, .int (iI (sumZ (fun w => bI (FD (row * 16 + w) ≠ -1)) w + 1))), (0, .ref a), (1, .int (iI row)), (3, .int (iI w))]) hx hb dX3_countIn_20 hl (k := 2) rfl (rfl) (by decide) rfl (fun ls hl => ?_)
          refine z_iinc (b := w + 1) (lv' := [(3, .int (iI (w + 1))), (2, .int (iI (sumZ (fun w => bI (FD (row * 16 + w) ≠ -1)) w + 1))), (0, .ref a), (1, .int (iI row))]) hx hb dX3_countIn_23 hl (k := 3) rfl (rfl) (by decide) rfl (fun ls hl => ?_)
          refine lv_goto (tgt := 4) hx hb dX3_countIn_26 (by decide) ?_
          have hl := lv_chg hl 1 (b := sumZ (fun (w + 1) => bI (FD (row * 16 + (w + 1)) ≠ -1)) (w + 1)) rfl (by rw [sumZ_s _ i1, bI_t hc])
          have hl : lv_has ls 4 [(3, .int (iI (w + 1))), (2, .int (iI (sumZ (fun (w + 1) => bI (FD (row * 16 + (w + 1)) ≠ -1)) (w + 1)))), (0, .ref a), (1, .int (iI row))] := hl
          exact ih4 (w + 1) (by omega) (by omega) (by omega) ls (lv_sub hl [2, 3, 1, 0] rfl)
  have hl := lv_chg hl 1 (b := sumZ (fun 0 => bI (FD (row * 16 + 0) ≠ -1)) 0) rfl ((sumZ_0 _).symm)
  have hl : lv_has ls 4 [(3, .int (iI 0)), (2, .int (iI (sumZ (fun 0 => bI (FD (row * 16 + 0) ≠ -1)) 0))), (0, .ref a), (1, .int (iI row))] := hl
  exact L4 (17) 0 (by omega) (by omega) (by omega) ls (lv_sub hl [2, 3, 1, 0] rfl)
set_option maxHeartbeats 4000000 in
set_option maxRecDepth 100000 in
theorem m_X3_countKeysIn (l : Launch) (g : zG) (a aw af ao : Nat) (FD : Int → Int) (row re : Int) (h1 : 0 ≤ row) (h2 : row < 5) (r1 : 1 ≤ re) (r2 : re ≤ 5) (hF : ∀ j, -1 ≤ FD j ∧ FD j ≤ 7 ∧ FD j ≠ 0) : zS l yX3_countKeysIn wsX3_countKeysIn ({ frames := 2, cells := 0, slots := 0, locals := 48 }) g [.ref a, .int (iI row), .int (iI re)] [(a, .inr (3, [.ref aw, .ref af, .ref ao])), zI g af 80 FD] (sumZ (fun v => sumZ (fun d => bI (kyf FD re row v (v + (d + 1)) ≠ -1)) re) 16) := by
  refine z_entS (cc := cX3_countKeysIn) (nL := 6) (ret := (some .int)) (own := RX3) (by decide) rfl rfl (Nat.le_of_ble_eq_true rfl) ?_
  intro p e s m below meth c Q ls C hlk hr hQ hP hK hl
  have hx := C.1
  have hb := C.2.1
  have hl : lv_has ls 6 [(0, .ref a), (1, .int (iI row)), (2, .int (iI re))] := hl
  refine lv_iconst (v := iI 0) hx hb dX3_countKeysIn_0 rfl ?_
  refine lv_istore_n (lv' := [(3, .int (iI 0)), (0, .ref a), (1, .int (iI row)), (2, .int (iI re))]) hx hb dX3_countKeysIn_1 rfl hl (by decide) rfl (fun ls hl => ?_)
  refine lv_iconst (v := iI 0) hx hb dX3_countKeysIn_2 rfl ?_
  refine lv_istore (lv' := [(4, .int (iI 0)), (3, .int (iI 0)), (0, .ref a), (1, .int (iI row)), (2, .int (iI re))]) hx hb dX3_countKeysIn_3 hl (by decide) rfl (fun ls hl => ?_)
  have L5 : ∀ (n : Nat) (v : Int), (i1 : 0 ≤ v) → (i2 : v ≤ 16) → (hms : 16 - v < (n : Int)) → ∀ (ls : Array Slot), lv_has ls 6 [(0, .ref a), (1, .int (iI row)), (2, .int (iI re)), (3, .int (iI (sumZ (fun v => sumZ (fun d => bI (kyf FD re row v (v + (d + 1)) ≠ -1)) re) v))), (4, .int (iI v))] → W p l e ({ frames := 2, cells := 0, slots := 0, locals := 48 }) s m ([.ref a, .int (iI row), .int (iI re)] : List Value).toArray below meth c s.heap [] 0 0 Q (F0 m 5 ls []) := by
    clear hl
    intro n
    induction n with
    | zero =>
      intro v i1 i2 hms ls hl
      exfalso; omega
    | succ n ih5 =>
      intro v i1 i2 hms ls hl
      refine lv_iload hx hb dX3_countKeysIn_5 (lv_at hl 4 rfl) ?_
      refine lv_bipush (v := iI 16) hx hb dX3_countKeysIn_7 (by decide +kernel) ?_
      refine z_icmp_ge (tgt := 53) hx hb dX3_countKeysIn_9 (by decide) (by omega) (by omega) (fun c_1 => ?_) (fun c_1 => ?_)
      · obtain rfl : v = 16 := by omega
        refine lv_iload_n hx hb dX3_countKeysIn_53 rfl (lv_at hl 3 rfl) ?_
        exact z_retS hx hb hlk hr hQ dX3_countKeysIn_54 (rfl)
      · refine lv_iconst (v := iI 1) hx hb dX3_countKeysIn_12 rfl ?_
        refine lv_istore (lv' := [(5, .int (iI 1)), (0, .ref a), (1, .int (iI row)), (2, .int (iI re)), (3, .int (iI (sumZ (fun v => sumZ (fun d => bI (kyf FD re row v (v + (d + 1)) ≠ -1)) re) v))), (4, .int (iI v))]) hx hb dX3_countKeysIn_13 hl (by decide) rfl (fun ls hl => ?_)
        have L15 : ∀ (n : Nat) (far : Int), (j1 : 1 ≤ far) → (j2 : far ≤ re + 1) → (hms : re + 1 - far < (n : Int)) → ∀ (ls : Array Slot), lv_has ls 6 [(0, .ref a), (1, .int (iI row)), (2, .int (iI re)), (3, .int (iI (sumZ (fun v => sumZ (fun d => bI (kyf FD re row v (v + (d + 1)) ≠ -1)) re) v + sumZ (fun d => bI (kyf FD re row v (v + (d + 1)) ≠ -1)) (far - 1)))), (4, .int (iI v)), (5, .int (iI far))] → W p l e ({ frames := 2, cells := 0, slots := 0, locals := 48 }) s m ([.ref a, .int (iI row), .int (iI re)] : List Value).toArray below meth c s.heap [] 0 0 Q (F0 m 15 ls []) := by
          clear hl
          intro n
          induction n with
          | zero =>
            intro far j1 j2 hms ls hl
            exfalso; omega
          | succ n ih15 =>
            intro far j1 j2 hms ls hl
            refine lv_iload hx hb dX3_countKeysIn_15 (lv_at hl 5 rfl) ?_
            refine lv_iload_n hx hb dX3_countKeysIn_17 rfl (lv_at hl 2 rfl) ?_
            refine z_icmp_gt (tgt := 47) hx hb dX3_countKeysIn_18 (by decide) (by omega) (by omega) (fun c_2 => ?_) (fun c_2 => ?_)
            · refine z_iinc (b := v + 1) (lv' := [(4, .int (iI (v + 1))), (0, .ref a), (1, .int (iI row)), (2, .int (iI re)), (3, .int (iI (sumZ (fun v => sumZ (fun d => bI (kyf FD re row v (v + (d + 1)) ≠ -1)) re) v + sumZ (fun d => bI (kyf FD re row v (v + (d + 1)) ≠ -1)) (far - 1)))), (5, .int (iI far))]) hx hb dX3_countKeysIn_47 hl (k := 4) rfl (rfl) (by decide) rfl (fun ls hl => ?_)
              refine lv_goto (tgt := 5) hx hb dX3_countKeysIn_50 (by decide) ?_
              have hl := lv_chg hl 4 (b := sumZ (fun (v + 1) => sumZ (fun d => bI (kyf FD re row (v + 1) ((v + 1) + (d + 1)) ≠ -1)) re) (v + 1)) rfl (by rw [sumZ_s _ i1, show far - 1 = re by omega])
              have hl : lv_has ls 6 [(4, .int (iI (v + 1))), (0, .ref a), (1, .int (iI row)), (2, .int (iI re)), (3, .int (iI (sumZ (fun (v + 1) => sumZ (fun d => bI (kyf FD re row (v + 1) ((v + 1) + (d + 1)) ≠ -1)) re) (v + 1)))), (5, .int (iI far))] := hl
              exact ih5 (v + 1) (by omega) (by omega) (by omega) ls (lv_sub hl [1, 2, 3, 4, 0] rfl)
            · refine lv_aload_n hx hb dX3_countKeysIn_21 rfl (lv_at hl 0 rfl) ?_
              refine lv_iload_n hx hb dX3_countKeysIn_22 rfl (lv_at hl 1 rfl) ?_
              refine lv_iload hx hb dX3_countKeysIn_23 (lv_at hl 4 rfl) ?_
              refine lv_iload hx hb dX3_countKeysIn_25 (lv_at hl 4 rfl) ?_
              refine lv_iload hx hb dX3_countKeysIn_27 (lv_at hl 5 rfl) ?_
              refine z_iadd hx hb dX3_countKeysIn_29 ?_
              refine lv_iload_n hx hb dX3_countKeysIn_30 rfl (lv_at hl 2 rfl) ?_
              refine z_cS (As := [.int (iI row), .int (iI v), .int (iI (v + far)), .int (iI re)]) (rest := []) C (m_X3_keyOf (l := l) (g := g) (a := a) (aw := aw) (af := af) (ao := ao) (FD := FD) (row := row) (v := v) (w := v + far) (re := re) (h1 := by omega) (h2 := by omega) (v1 := by omega) (v2 := by omega) (v3 := by omega) (hF := hF)) (cwV 4 C.2.2.2.2 gX3_countKeysIn_X3_keyOf rfl rfl rfl (by decide +kernel) ⟨Nat.le_of_ble_eq_true rfl, Nat.le_of_ble_eq_true rfl⟩) hK hP [0, 1] rfl 0 rfl rfl rfl hl.1 rfl (Nat.le_of_ble_eq_true rfl) dX3_countKeysIn_31 ⟨Nat.zero_le _, Nat.zero_le _⟩ ?_
              have hkr := kyf_rg hF re row v (v + far) (by omega)
              refine lv_iconst (v := iI (-1)) hx hb dX3_countKeysIn_34 rfl ?_
              refine z_icmp_eq (tgt := 41) hx hb dX3_countKeysIn_35 (by decide) (by omega) (by omega) (fun hc => ?_) (fun hc => ?_)
              · refine z_iinc (b := far + 1) (lv' := [(5, .int (iI (far + 1))), (0, .ref a), (1, .int (iI row)), (2, .int (iI re)), (3, .int (iI (sumZ (fun v => sumZ (fun d => bI (kyf FD re row v (v + (d + 1)) ≠ -1)) re) v + sumZ (fun d => bI (kyf FD re row v (v + (d + 1)) ≠ -1)) (far - 1)))), (4, .int (iI v))]) hx hb dX3_countKeysIn_41 hl (k := 5) rfl (rfl) (by decide) rfl (fun ls hl => ?_)
                refine lv_goto (tgt := 15) hx hb dX3_countKeysIn_44 (by decide) ?_
                have hl := lv_chg hl 4 (b := sumZ (fun v => sumZ (fun d => bI (kyf FD re row v (v + (d + 1)) ≠ -1)) re) v + sumZ (fun d => bI (kyf FD re row v (v + (d + 1)) ≠ -1)) ((far + 1) - 1)) rfl (by
                  have e1 := sumZ_s (fun d => bI (kyf FD re row v (v + (d + 1)) ≠ -1)) (n := far - 1) (by omega)
                  rw [show far - 1 + 1 = far + 1 - 1 by omega] at e1
                  rw [e1, bI_f (by rw [show v + (far - 1 + 1) = v + far by omega]; omega)]; omega)
                have hl : lv_has ls 6 [(5, .int (iI (far + 1))), (0, .ref a), (1, .int (iI row)), (2, .int (iI re)), (3, .int (iI (sumZ (fun v => sumZ (fun d => bI (kyf FD re row v (v + (d + 1)) ≠ -1)) re) v + sumZ (fun d => bI (kyf FD re row v (v + (d + 1)) ≠ -1)) ((far + 1) - 1)))), (4, .int (iI v))] := hl
                exact ih15 (far + 1) (by omega) (by omega) (by omega) ls (lv_sub hl [1, 2, 3, 4, 5, 0] rfl)
              · refine z_iinc (b := sumZ (fun v => sumZ (fun d => bI (kyf FD re row v (v + (d + 1)) ≠ -1)) re) v + sumZ (fun d => bI (kyf FD re row v (v + (d + 1)) ≠ -1)) (far - 1) + 1) (lv' := [(3, .int (iI (sumZ (fun v => sumZ (fun d => bI (kyf FD re row v (v + (d + 1)) ≠ -1)) re) v + sumZ (fun d => bI (kyf FD re row v (v + (d + 1)) ≠ -1)) (far - 1) + 1))), (0, .ref a), (1, .int (iI row)), (2, .int (iI re)), (4, .int (iI v)), (5, .int (iI far))]) hx hb dX3_countKeysIn_38 hl (k := 3) rfl (rfl) (by decide) rfl (fun ls hl => ?_)
                refine z_iinc (b := far + 1) (lv' := [(5, .int (iI (far + 1))), (3, .int (iI (sumZ (fun v => sumZ (fun d => bI (kyf FD re row v (v + (d + 1)) ≠ -1)) re) v + sumZ (fun d => bI (kyf FD re row v (v + (d + 1)) ≠ -1)) (far - 1) + 1))), (0, .ref a), (1, .int (iI row)), (2, .int (iI re)), (4, .int (iI v))]) hx hb dX3_countKeysIn_41 hl (k := 5) rfl (rfl) (by decide) rfl (fun ls hl => ?_)
                refine lv_goto (tgt := 15) hx hb dX3_countKeysIn_44 (by decide) ?_
                have hl := lv_chg hl 1 (b := sumZ (fun v => sumZ (fun d => bI (kyf FD re row v (v + (d + 1)) ≠ -1)) re) v + sumZ (fun d => bI (kyf FD re row v (v + (d + 1)) ≠ -1)) ((far + 1) - 1)) rfl (by
                  have e1 := sumZ_s (fun d => bI (kyf FD re row v (v + (d + 1)) ≠ -1)) (n := far - 1) (by omega)
                  rw [show far - 1 + 1 = far + 1 - 1 by omega] at e1
                  rw [e1, bI_t (by rw [show v + (far - 1 + 1) = v + far by omega]; exact hc)]; omega)
                have hl : lv_has ls 6 [(5, .int (iI (far + 1))), (3, .int (iI (sumZ (fun v => sumZ (fun d => bI (kyf FD re row v (v + (d + 1)) ≠ -1)) re) v + sumZ (fun d => bI (kyf FD re row v (v + (d + 1)) ≠ -1)) ((far + 1) - 1)))), (0, .ref a), (1, .int (iI row)), (2, .int (iI re)), (4, .int (iI v))] := hl
                exact ih15 (far + 1) (by omega) (by omega) (by omega) ls (lv_sub hl [2, 3, 4, 1, 5, 0] rfl)
        have hl := lv_chg hl 4 (b := sumZ (fun v => sumZ (fun d => bI (kyf FD re row v (v + (d + 1)) ≠ -1)) re) v + sumZ (fun d => bI (kyf FD re row v (v + (d + 1)) ≠ -1)) (1 - 1)) rfl (by rw [show (1 : Int) - 1 = 0 by omega, sumZ_0]; omega)
        have hl : lv_has ls 6 [(5, .int (iI 1)), (0, .ref a), (1, .int (iI row)), (2, .int (iI re)), (3, .int (iI (sumZ (fun v => sumZ (fun d => bI (kyf FD re row v (v + (d + 1)) ≠ -1)) re) v + sumZ (fun d => bI (kyf FD re row v (v + (d + 1)) ≠ -1)) (1 - 1)))), (4, .int (iI v))] := hl
        exact L15 (7) 1 (by omega) (by omega) (by omega) ls (lv_sub hl [1, 2, 3, 4, 5, 0] rfl)
  have hl := lv_chg hl 1 (b := sumZ (fun 0 => sumZ (fun d => bI (kyf FD re row 0 (0 + (d + 1)) ≠ -1)) re) 0) rfl ((sumZ_0 _).symm)
  have hl : lv_has ls 6 [(4, .int (iI 0)), (3, .int (iI (sumZ (fun 0 => sumZ (fun d => bI (kyf FD re row 0 (0 + (d + 1)) ≠ -1)) re) 0))), (0, .ref a), (1, .int (iI row)), (2, .int (iI re))] := hl
  exact L5 (17) 0 (by omega) (by omega) (by omega) ls (lv_sub hl [2, 3, 4, 1, 0] rfl)
end
