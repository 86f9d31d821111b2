/-! the world at the head of the law's loop, and what is known of it -/
abbrev zWL (g : zG) (ad : Nat → Nat) (N P IQ KP TU PK VO RK NB RR RS RF RE WA FD OF ST FI EN CE OR : Int → Int) (ac nx fr un rk he kn al : Int) (IM : Nat → Option Nat) : va_W := [(ad 0, .inr (5, [.ref (ad 1), .ref (ad 4), .ref (ad 10), .ref (ad 11), .ref (ad 15), .ref (ad 19), .int (iI fr)])), (ad 1, .inr (4, [.ref (ad 2), .ref (ad 3), .int (iI (N 0)), .int (iI (N 1))])), zI g (ad 2) 640 (fun x => N (7 + x)), zI g (ad 3) 5 (fun x => N (2 + x)), (ad 4, .inr (2, [.ref (ad 5), .ref (ad 6), .ref (ad 7), .ref (ad 8), .ref (ad 9), .int (iI nx), .int (iI ac)])), zI g (ad 5) 1024 NB, zI g (ad 6) 8 RR, zI g (ad 7) 8 RS, zI g (ad 8) 8 RF, zI g (ad 9) 8 RE, zQ g (ad 10) 2 IM, (ad 11, .inr (3, [.ref (ad 12), .ref (ad 13), .ref (ad 14)])), zI g (ad 12) 8 WA, zI g (ad 13) 80 FD, zI g (ad 14) 8 OF, (ad 15, .inr (1, [.ref (ad 16), .ref (ad 17), .ref (ad 18), .int (iI un)])), zI g (ad 16) 385 ST, zI g (ad 17) 384 FI, zI g (ad 18) 320 EN, (ad 19, .inr (0, [.ref (ad 20), .ref (ad 21), .int (iI rk), .int (iI he), .int (iI kn), .int (iI al)])), zI g (ad 20) 124 CE, zI g (ad 21) 124 OR, (ad 22, .inr (6, [.ref (ad 23), .ref (ad 24), .int (iI ac), .ref (ad 25), .ref (ad 26), .ref (ad 27), .ref (ad 28), .ref (ad 29), .ref (ad 30)])), zI g (ad 23) 647 N, zI g (ad 24) 5176 P, zI g (ad 25) 1294 IQ, zB g (ad 26) 2 KP, zI g (ad 27) 8 TU, zI g (ad 28) 80 PK, zI g (ad 29) 124 VO, zB g (ad 30) 124 RK]
/-- the cells of an image that holds the numbers M -/
abbrev cI (g : zG) (k kn ks : Nat) (M : Int → Int) : va_W := [(k, .inr (4, [.ref kn, .ref ks, .int (iI (M 0)), .int (iI (M 1))])), zI g kn 640 (fun x => M (7 + x)), zI g ks 5 (fun x => M (2 + x))]
def imgOK (g : zG) (IM : Nat → Option Nat) (KP IQ : Int → Int) (IW : va_W) (bud : Nat) : Prop :=
  (KP 0 = 1 → okN (fun x => IQ (647 * 0 + x))) ∧ (KP 1 = 1 → okN (fun x => IQ (647 * 1 + x))) ∧
  ((IM 0 = none ∧ IM 1 = none ∧ KP 0 = 0 ∧ KP 1 = 0 ∧ IW = [] ∧ bud = 2) ∨
   (∃ k kn ks : Nat, IM 0 = some k ∧ IM 1 = none ∧ KP 0 = 1 ∧ KP 1 = 0 ∧ IW = cI g k kn ks (fun x => IQ (647 * 0 + x)) ∧ bud = 1) ∨
   (∃ j jn js : Nat, IM 0 = none ∧ IM 1 = some j ∧ KP 0 = 0 ∧ KP 1 = 1 ∧ IW = cI g j jn js (fun x => IQ (647 * 1 + x)) ∧ bud = 1) ∨
   (∃ k kn ks j jn js : Nat, IM 0 = some k ∧ IM 1 = some j ∧ KP 0 = 1 ∧ KP 1 = 1 ∧ IW = cI g k kn ks (fun x => IQ (647 * 0 + x)) ++ cI g j jn js (fun x => IQ (647 * 1 + x)) ∧ bud = 0))
def zInv (g : zG) (ad : Nat → Nat) (A : Nat → Prop) (H0 H : Heap) (locs : List Loc) (bud : Nat) : Prop := ∃ (N P IQ KP TU PK VO RK NB RR RS RF RE WA FD OF ST FI EN CE OR : Int → Int) (ac nx fr un rk he kn al : Int) (IM : Nat → Option Nat) (IW : va_W), okN N ∧ PR N P ac NB RR RS RF RE nx ac ∧ (fr = 0 ∨ (fr = 1 ∧ fOK (FDn N) (N 1) FD ST EN CE OR un rk he kn al)) ∧ imgOK g IM KP IQ IW bud ∧ zP g (zWL g ad N P IQ KP TU PK VO RK NB RR RS RF RE WA FD OF ST FI EN CE OR ac nx fr un rk he kn al IM ++ IW) H ∧ va_D A (zWL g ad N P IQ KP TU PK VO RK NB RR RS RF RE WA FD OF ST FI EN CE OR ac nx fr un rk he kn al IM ++ IW) ∧ va_S A H0 H locs
/-- the script's number at z -/
def sx (xs : Nat → Int32) (z : Int) : Int := (xs z.toNat).toInt
theorem sx_rg (xs : Nat → Int32) (z : Int) : -2147483648 ≤ sx xs z ∧ sx xs z < 2147483648 := ⟨Int32.le_toInt _, Int32.toInt_lt _⟩
theorem zand_31 (x : Int) : 0 ≤ zand x 31 ∧ zand x 31 ≤ 31 := by
  obtain ⟨j, hj, he⟩ := pk_andE (iI x) (m := iI 31) 5 (by decide +kernel)
  unfold zand
  rw [he, nI_toInt (by omega)]
  omega
def zX (p : Program) (s : State) (m : MethodId) (c : Code) (A : Nat → Prop) (g : zG) (b0 L : Nat) (xs : Nat → Int32) (i_ : Int) : Prop :=
  CallFix p m c cL_law 4 s #[Value.ref b0] wsL_law RL ∧ va_X b0 L xs s s.heap ∧ b0 < s.heap.size ∧ zK g s ∧ zAO s ∧ (∀ q : Nat, s.heap.size ≤ q → A q) ∧ ¬ A b0 ∧ 0 ≤ i_ ∧ i_ + 4 ≤ (L : Int) ∧ L ≤ 2048
def zL (p : Program) (l : Launch) (e : Env) (s : State) (m : MethodId) (below : List Frame) (meth : Method) (c : Code) (Q : State → Prop) (A : Nat → Prop) (g : zG) (ad : Nat → Nat) (b0 : Nat) (i_ : Int) (pc : Nat) : Prop :=
  ∀ (H : Heap) (locs : List Loc) (cells slots bud : Nat) (ls : Array Slot), zInv g ad A s.heap H locs bud → cells + 3 * bud ≤ 1000 → slots + 649 * bud ≤ 100000 → lv_has ls 4 [(0, .ref b0), (1, .ref (ad 0)), (2, .ref (ad 22)), (3, .int (iI i_))] → W p l e room_1 s m #[Value.ref b0] below meth c H locs cells slots Q (F0 m pc ls [])
section ZLW
variable {p : Program} {l : Launch} {e : Env} {R : Room} {s : State} {m : MethodId} {args : Array Value} {below : List Frame} {meth : Method} {c : Code} {H : Heap} {locs : List Loc} {cells slots : Nat} {Q : State → Prop}
variable {cc : ByteArray} {pc : Nat} {ls : Array Slot} {rest : List Value} {A : Nat → Prop}
theorem z_sld (hx : p.tables.exec = Jvm.exec) (hb : c.code = cc) {b L : Nat} {xs : Nat → Int32} (hX : va_X b L xs s s.heap) (hbl : b < s.heap.size) (hbA : ¬ A b) (hS : va_S A s.heap H locs) {z : Int} (h0 : 0 ≤ z) (h1 : z < L) (hL : L ≤ 2048) {v : Int} (hv : v = sx xs z) (hd : decode cc pc = .ok (.iaload, 1)) (k : W p l e R s m args below meth c H locs cells slots Q (F0 m (pc + 1) ls (.int (iI v) :: rest))) : W p l e R s m args below meth c H locs cells slots Q (F0 m pc ls (.int (iI z) :: .ref b :: rest)) := by
  refine va_sld hx hb hX hbl hbA hS (iI_in h0 h1 (by omega)) hd ?_
  rw [iI_clamp h0 (by omega), ← iI_of (xs z.toNat)]
  rw [hv] at k
  exact k
theorem z_eqS (hx : p.tables.exec = Jvm.exec) (hb : c.code = cc) {a b : Int} {off : Int} {tgt : Nat} (hd : decode cc pc = .ok (.if_icmp .eq off, 3)) (ht : (pc : Int) + off = (tgt : Int)) (h : a = b) (kt : W p l e R s m args below meth c H locs cells slots Q (F0 m tgt ls rest)) : W p l e R s m args below meth c H locs cells slots Q (F0 m pc ls (.int (iI b) :: .int (iI a) :: rest)) := lv_icmp_eq hx hb hd ht (fun _ => kt) (fun q => absurd (by rw [h]) q)
end ZLW
