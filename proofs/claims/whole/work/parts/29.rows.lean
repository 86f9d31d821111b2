/-! arrays of references -/
section ZQ
variable {p : Program} {l : Launch} {e : Env} {R : Room} {s : State} {m : MethodId} {args : Array Value} {below : List Frame} {meth : Method} {c : Code} {H : Heap} {locs : List Loc} {cells slots : Nat} {Q : State → Prop}
variable {cc : ByteArray} {pc : Nat} {ls : Array Slot} {rest : List Value} {g : zG} {ws : va_W}
abbrev zQ (g : zG) (a n : Nat) (f : Nat → Option Nat) : Nat × va_E := (a, .inl (g.2.2.2, n, .inr (.inr (.inr (.inr f)))))
theorem z_aald (hx : p.tables.exec = Jvm.exec) (hb : c.code = cc) (hK : zK g s) (hP : zP g ws H) (q0 : Nat) {a n : Nat} {f : Nat → Option Nat} (ha : ws[q0]? = some (zQ g a n f)) {z : Int} (h0 : 0 ≤ z) (h1 : z < n) (hn : n < 2147483648) {r : Option Nat} (hr : f z.toNat = r) (hd : decode cc pc = .ok (.aaload, 1)) (k : W p l e R s m args below meth c H locs cells slots Q (F0 m (pc + 1) ls (va_rf r :: rest))) : W p l e R s m args below meth c H locs cells slots Q (F0 m pc ls (.int (iI z) :: .ref a :: rest)) :=
  va_aldq hx hb hK hP q0 2 ha rfl (iI_in h0 h1 hn) hd (by rw [iI_clamp h0 (by omega), hr]; exact k)
end ZQ
