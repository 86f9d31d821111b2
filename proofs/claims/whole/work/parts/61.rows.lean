section ZQ2
variable {p : Program} {l : Launch} {e : Env} {R : Room} {s : State} {m : MethodId} {args : Array Value} {below : List Frame} {meth : Method} {c : Code} {H : Heap} {locs : List Loc} {cells slots : Nat} {Q : State → Prop}
variable {cc : ByteArray} {pc : Nat} {ls : Array Slot} {rest : List Value} {g : zG} {ws : va_W} {A : Nat → Prop} {H0 : Heap}
theorem z_aast (hx : p.tables.exec = Jvm.exec) (hb : c.code = cc) (hK : zK g s) (hP : zP g ws H) (hD : va_D A ws) (hS : va_S A H0 H locs) (q0 qk : Nat) {a n v : Nat} {vs : List Value} {f : Nat → Option Nat} (ha : ws[q0]? = some (zQ g a n f)) (hv : ws[qk]? = some (v, .inr (4, vs))) {z : Int} (h0 : 0 ≤ z) (h1 : z < n) (hn : n < 2147483648) (hd : decode cc pc = .ok (.aastore, 1))
    (k : ∀ (H1 : Heap) (locs1 : List Loc), zP g (ws.set q0 (zQ g a n (va_up f z.toNat (some v)))) H1 → va_D A (ws.set q0 (zQ g a n (va_up f z.toNat (some v)))) → va_S A H0 H1 locs1 → W p l e R s m args below meth c H1 locs1 cells slots Q (F0 m (pc + 1) ls rest)) : W p l e R s m args below meth c H locs cells slots Q (F0 m pc ls (.ref v :: .int (iI z) :: .ref a :: rest)) :=
  va_astq (r := (RX4, TX4, 4)) hx hb hK hP hD hS q0 2 qk 4 ha rfl hv rfl (iI_in h0 h1 hn) hd (by rw [iI_clamp h0 (by omega)]; exact k)
end ZQ2
