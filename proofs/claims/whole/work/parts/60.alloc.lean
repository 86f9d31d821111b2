/-! making cells: constructors (zN), and a call that answers an int and may make cells (zEN) -/
abbrev zAO (U : State) : Prop := va_AO "SoundPictures$State" U
def zN (l : Launch) (y : MethodName) (w : List Cond) (rm : Room) (g : zG) (av : List Value) (ws : va_W) (mc ms : Nat) (wf : (Nat → Nat) → va_W) : Prop :=
  ∀ sz : Nat, Met l y w rm (va_Pc av (fun U => zPre g ws sz U ∧ zAO U)) (va_Qv (fun _ : Nat → Nat => True) (fun u t => zP g (wf u) t.heap ∧ va_D (va_A ws sz) (wf u)) (va_A ws sz)) mc ms (va_A ws sz)
def zEN (l : Launch) (y : MethodName) (w : List Cond) (rm : Room) (g : zG) (av : List Value) (ws : va_W) (mc ms : Nat) (r : Int) (wf : (Nat → Nat) → va_W) : Prop :=
  ∀ sz : Nat, Met l y w rm (va_Pc av (fun U => zPre g ws sz U ∧ zAO U)) (va_Qi (fun x (_ : Nat → Nat) => x = iI r) (fun u t => zP g (wf u) t.heap ∧ va_D (va_A ws sz) (wf u)) (va_A ws sz)) mc ms (va_A ws sz)
theorem zN_blind {g : zG} {av : List Value} {ws : va_W} {sz : Nat} : FrameBlind (va_Pc av (fun U => zPre g ws sz U ∧ zAO U)) := fun a U f mk q => by
  obtain ⟨q0, ⟨q1, qP, qK, qD⟩, qO⟩ := q
  exact ⟨q0, ⟨q1, qP, va_K.moved (u := U) (U := U.calling f mk a) (Vm.Alike.refl U.vm) qK, qD⟩, va_AO.moved (u := U) (U := U.calling f mk a) (Vm.Alike.refl U.vm) qO⟩
theorem z_entN {l : Launch} {y : MethodName} {w w' : List Cond} {rm : Room} {g : zG} {av : List Value} {ws : va_W} {mc ms : Nat} {wf : (Nat → Nat) → va_W} {cc : ByteArray} {nL : Nat} {ret : Option FieldType} {own : String} (hy : plainName y.cls = true) (ho : y.cls = own) (hi : y.name = "<init>") (hw : w = Cond.code y cc nL ret :: w') (hn : (lg_sl av).length ≤ nL)
    (body : ∀ (p : Program) (e : Env) (s : State) (m : MethodId) (below : List Frame) (meth : Method) (c : Code) (Q : State → Prop) (ls : Array Slot) (A : Nat → Prop), CallFix p m c cc nL s av.toArray w own → meth.locks = false → meth.sig.returnType = ret → Q = MQ below (va_Qv (fun _ : Nat → Nat => True) (fun u t => zP g (wf u) t.heap ∧ va_D A (wf u)) A) av.toArray s mc ms A → zP g ws s.heap → zK g s → va_D A ws → (∀ q : Nat, s.heap.size ≤ q → A q) → va_S A s.heap s.heap [] → lv_has ls nL (lv_args 0 av) → zAO s → meth.name = "<init>" → W p l e rm s m av.toArray below meth c s.heap [] 0 0 Q (F0 m 0 ls [])) : zN l y w rm g av ws mc ms wf := by
  intro sz
  refine Met.ofW (cc := cc) (maxL := nL) (ret := ret) hy hw ?_
  intro p e s m args below meth c s₁ B hml hv
  obtain ⟨rfl, ⟨hsz, hP, hK, hD⟩, hO⟩ := hv
  subst hsz
  rw [lg_entry_eq]
  exact body p e s m below meth c _ _ (va_A ws s.heap.size) ⟨B.exec, B.bytes, hml, by rw [← ho]; exact findClass_of_methodNamed B.named, atoms_spec (ws := w) B.pre⟩ B.notSynchronized B.returns rfl hP hK hD.self (fun _ h => Or.inr h) va_S.rf (lv_entry av hn) hO ((name_of_methodNamed B.named B.method).1.trans hi)
theorem z_entEN {l : Launch} {y : MethodName} {w w' : List Cond} {rm : Room} {g : zG} {av : List Value} {ws : va_W} {mc ms : Nat} {r : Int} {wf : (Nat → Nat) → va_W} {cc : ByteArray} {nL : Nat} {ret : Option FieldType} {own : String} (hy : plainName y.cls = true) (ho : y.cls = own) (hw : w = Cond.code y cc nL ret :: w') (hn : (lg_sl av).length ≤ nL)
    (body : ∀ (p : Program) (e : Env) (s : State) (m : MethodId) (below : List Frame) (meth : Method) (c : Code) (Q : State → Prop) (ls : Array Slot) (A : Nat → Prop), CallFix p m c cc nL s av.toArray w own → meth.locks = false → meth.sig.returnType = ret → Q = MQ below (va_Qi (fun x (_ : Nat → Nat) => x = iI r) (fun u t => zP g (wf u) t.heap ∧ va_D A (wf u)) A) av.toArray s mc ms A → zP g ws s.heap → zK g s → va_D A ws → (∀ q : Nat, s.heap.size ≤ q → A q) → va_S A s.heap s.heap [] → lv_has ls nL (lv_args 0 av) → zAO s → W p l e rm s m av.toArray below meth c s.heap [] 0 0 Q (F0 m 0 ls [])) : zEN l y w rm g av ws mc ms r wf := by
  intro sz
  refine Met.ofW (cc := cc) (maxL := nL) (ret := ret) hy hw ?_
  intro p e s m args below meth c s₁ B hml hv
  obtain ⟨rfl, ⟨hsz, hP, hK, hD⟩, hO⟩ := hv
  subst hsz
  rw [lg_entry_eq]
  exact body p e s m below meth c _ _ (va_A ws s.heap.size) ⟨B.exec, B.bytes, hml, by rw [← ho]; exact findClass_of_methodNamed B.named, atoms_spec (ws := w) B.pre⟩ B.notSynchronized B.returns rfl hP hK hD.self (fun _ h => Or.inr h) va_S.rf (lv_entry av hn) hO
section ZA
variable {p : Program} {l : Launch} {e : Env} {R : Room} {s : State} {m : MethodId} {args : Array Value} {below : List Frame} {meth : Method} {c : Code} {H : Heap} {locs : List Loc} {cells slots : Nat} {Q : State → Prop}
variable {cc : ByteArray} {pc : Nat} {ls : Array Slot} {rest : List Value} {g : zG} {ws : va_W} {A : Nat → Prop} {H0 : Heap} {own : String} {Ts : List Cond} {nL : Nat}
theorem z_cA {k : Nat} {cA cB : ClassId} {ty : FieldType} (hK : zK g s) (hk : (zTy g)[k]? = some (cB, ty)) (hK2 : va_K g.1 vwCl (zTy g ++ [(cA, ty)]) s) (hp : ty = .int ∨ ty = .boolean ∨ ty = .object "SoundPictures$State") : cA = cB := by
  have h1 := (hK.2 k _ hk).2
  have h2 := (hK2.2 3 (cA, ty) rfl).2
  rcases hp with rfl | rfl | rfl
  · exact Option.some.inj (h2.symm.trans h1)
  · exact Option.some.inj (h2.symm.trans h1)
  · obtain ⟨_, _, _, _, _, f1⟩ := h1
    obtain ⟨_, _, _, _, _, f2⟩ := h2
    exact Option.some.inj (f2.symm.trans f1)
theorem z_newa (C : CallFix p m c cc nL s args Ts own) (harr : Cond.arrayClass .int ∈ Ts) (hK : zK g s) (hP : zP g ws H) (hD : va_D A ws) (hS : va_S A H0 H locs) (hA : ∀ q : Nat, H0.size ≤ q → A q) {n : Int} (N' : Nat) (hn : n = N') (hN : N' ≤ 100000) (hcells : cells + 1 ≤ R.cells) (hslots : slots + N' ≤ R.slots) (hd : decode cc pc = .ok (.newarray .int, 2))
    (k : ∀ (q : Nat) (H1 : Heap), zP g (ws ++ [zI g q N' (fun _ => 0)]) H1 → va_D A (ws ++ [zI g q N' (fun _ => 0)]) → va_S A H0 H1 locs → W p l e R s m args below meth c H1 locs (cells + 1) (slots + N') Q (F0 m (pc + 2) ls (.ref q :: rest))) : W p l e R s m args below meth c H locs cells slots Q (F0 m pc ls (.int (iI n) :: rest)) := by
  subst hn
  refine va_newa (atype := .int) (a0 := (N', .inl (za (fun _ => 0)))) C.1 C.2.1 (C.2.2.2.2 _ harr) rfl hK hP hD hS hA (fun cA => rfl) (by rw [← iI_0, iI_lt (by omega) (by omega)]; omega) (by rw [iI_clamp (by omega) (by omega)]; omega) (by show N' * 4 ≤ _; omega) hcells hslots hd (fun q cA H1 hK2 hP2 hD2 hS2 => ?_)
  have e9 : cA = g.2.1 := z_cA hK (k := 0) rfl hK2 (Or.inl rfl)
  subst e9
  exact k q H1 hP2 hD2 hS2
theorem z_newb (C : CallFix p m c cc nL s args Ts own) (harr : Cond.arrayClass .boolean ∈ Ts) (hK : zK g s) (hP : zP g ws H) (hD : va_D A ws) (hS : va_S A H0 H locs) (hA : ∀ q : Nat, H0.size ≤ q → A q) {n : Int} (N' : Nat) (hn : n = N') (hN : N' ≤ 100000) (hcells : cells + 1 ≤ R.cells) (hslots : slots + N' ≤ R.slots) (hd : decode cc pc = .ok (.newarray .boolean, 2))
    (k : ∀ (q : Nat) (H1 : Heap), zP g (ws ++ [zB g q N' (fun _ => 0)]) H1 → va_D A (ws ++ [zB g q N' (fun _ => 0)]) → va_S A H0 H1 locs → W p l e R s m args below meth c H1 locs (cells + 1) (slots + N') Q (F0 m (pc + 2) ls (.ref q :: rest))) : W p l e R s m args below meth c H locs cells slots Q (F0 m pc ls (.int (iI n) :: rest)) := by
  subst hn
  refine va_newa (atype := .boolean) (a0 := (N', .inl (za (fun _ => 0)))) C.1 C.2.1 (C.2.2.2.2 _ harr) rfl hK hP hD hS hA (fun cA => rfl) (by rw [← iI_0, iI_lt (by omega) (by omega)]; omega) (by rw [iI_clamp (by omega) (by omega)]; omega) (by show N' * 1 ≤ _; omega) hcells hslots hd (fun q cA H1 hK2 hP2 hD2 hS2 => ?_)
  have e9 : cA = g.2.2.1 := z_cA hK (k := 1) rfl hK2 (Or.inr (Or.inl rfl))
  subst e9
  exact k q H1 hP2 hD2 hS2
theorem z_newq (C : CallFix p m c cc nL s args Ts own) {index : Nat} (hcl : Cond.classLink own index "SoundPictures$State" ∈ Ts) (hO : zAO s) (hK : zK g s) (hP : zP g ws H) (hD : va_D A ws) (hS : va_S A H0 H locs) (hA : ∀ q : Nat, H0.size ≤ q → A q) {n : Int} (N' : Nat) (hn : n = N') (hN : N' ≤ 100000) (hcells : cells + 1 ≤ R.cells) (hslots : slots + N' ≤ R.slots) (hd : decode cc pc = .ok (.anewarray index, 3))
    (k : ∀ (q : Nat) (H1 : Heap), zP g (ws ++ [zQ g q N' (fun _ => none)]) H1 → va_D A (ws ++ [zQ g q N' (fun _ => none)]) → va_S A H0 H1 locs → W p l e R s m args below meth c H1 locs (cells + 1) (slots + N') Q (F0 m (pc + 3) ls (.ref q :: rest))) : W p l e R s m args below meth c H locs cells slots Q (F0 m pc ls (.int (iI n) :: rest)) := by
  subst hn
  refine va_newq C.1 C.2.1 C.2.2.2.1 (C.2.2.2.2 _ hcl) hO hK hP hD hS hA (by rw [← iI_0, iI_lt (by omega) (by omega)]; omega) (by rw [iI_clamp (by omega) (by omega)]; omega) (by omega) hcells hslots hd (fun q cA H1 hK2 hP2 hD2 hS2 => ?_)
  have e9 : cA = g.2.2.2 := z_cA hK (k := 2) rfl hK2 (Or.inr (Or.inr rfl))
  subst e9
  exact k q H1 hP2 hD2 hS2
theorem z_new (C : CallFix p m c cc nL s args Ts own) {Cn : String} {T : u_T} {N ci index : Nat} (hin : ∀ w ∈ u_ws Cn T N, w ∈ Ts) (ty : Nat → FieldType) (hty : ∀ k, k < N → parseFieldDescriptor (T k).2.2.1 = some (ty k)) (m1 : Cond.classLink own index Cn ∈ Ts) (m2 : Cond.instantiable Cn N ∈ Ts) (m3 : Cond.initialized Cn ∈ Ts) (hK : zK g s) (hP : zP g ws H) (hD : va_D A ws) (hS : va_S A H0 H locs) (hA : ∀ q : Nat, H0.size ≤ q → A q) (hc : vwCl[ci]? = some (Cn, T, N)) {fs : List Value} (hfs : ∀ j, j < N → defaultValue (ty j) = vp_V fs j) (hcells : cells + 1 ≤ R.cells) (hslots : slots + N ≤ R.slots) (hd : decode cc pc = .ok (.new index, 3))
    (k : ∀ (q : Nat) (H1 : Heap), zP g (ws ++ [(q, .inr (ci, fs))]) H1 → va_D A (ws ++ [(q, .inr (ci, fs))]) → va_S A H0 H1 locs → W p l e R s m args below meth c H1 locs (cells + 1) (slots + N) Q (F0 m (pc + 3) ls (.ref q :: rest))) : W p l e R s m args below meth c H locs cells slots Q (F0 m pc ls rest) :=
  va_new C.1 C.2.1 C.2.2.2.2 hin ty hty C.2.2.2.1 (C.2.2.2.2 _ m1) (C.2.2.2.2 _ m2) (C.2.2.2.2 _ m3) hK hP hD hS hA hc hfs hcells hslots hd k
theorem z_putF (C : CallFix p m c cc nL s args Ts own) {Cn : String} {T : u_T} {N ci index a : Nat} (hin : ∀ w ∈ u_ws Cn T N, w ∈ Ts) (ty0 : Nat → FieldType) (hty : ∀ k, k < N → parseFieldDescriptor (T k).2.2.1 = some (ty0 k)) (hnm : ∀ a, a < N → ∀ b, b < N → a ≠ b → (T a).2.1 ≠ (T b).2.1) (hK : zK g s) (hP : zP g ws H) (hD : va_D A ws) (hS : va_S A H0 H locs) (q0 : Nat) {fs : List Value} (he : ws[q0]? = some (a, .inr (ci, fs))) (hc : vwCl[ci]? = some (Cn, T, N)) (k : Nat) (hk : k < N) (hm : Cond.fieldLink own index (T k).1 (T k).2.1 (T k).2.2.1 ∈ Ts) (hfin : (T k).2.2.2 = true) (hni : meth.name = "<init>") (hdecl : (T k).1 = own) {v : Value} (hn : narrow (ty0 k) v = v) (hfit : fits (ty0 k) v = true) (hl : k < fs.length) (hd : decode cc pc = .ok (.putfield index, 3)) (kk : ∀ (H1 : Heap) (locs1 : List Loc), zP g (ws.set q0 (a, .inr (ci, fs.set k v))) H1 → va_D A (ws.set q0 (a, .inr (ci, fs.set k v))) → va_S A H0 H1 locs1 → W p l e R s m args below meth c H1 locs1 cells slots Q (F0 m (pc + 3) ls rest)) : W p l e R s m args below meth c H locs cells slots Q (F0 m pc ls (v :: .ref a :: rest)) :=
  va_putF C.1 C.2.1 C.2.2.2.2 hin ty0 hty hnm C.2.2.2.1 hK hP hD hS q0 he hc k hk (C.2.2.2.2 _ hm) (fun _ h9 => h9) hfin hni hdecl (hty k hk) hn hfit hl hd kk
theorem z_obj (C : CallFix p m c cc nL s args Ts own) (hz : ls.size = nL) {idx : Nat} (m1 : Cond.methodLink own idx Lib.objectInit ∈ Ts) (m2 : Cond.instanceMethod Lib.objectInit ∈ Ts) (m3 : Cond.code Lib.objectInit ⟨#[0xb1]⟩ 1 none ∈ Ts) {a : Nat} (hd : decode cc pc = .ok (.invokespecial idx, 3)) (hf : 1 ≤ R.frames) (hlo : (rest.map fun v => v.category).sum + 12 ≤ R.locals) (k : W p l e R s m args below meth c H locs cells slots Q (F0 m (pc + 3) ls rest)) : W p l e R s m args below meth c H locs cells slots Q (F0 m pc ls (.ref a :: rest)) :=
  W.objInit C.1 C.2.1 C.2.2.2.1 (C.2.2.2.2 _ m1) (C.2.2.2.2 _ m2) (C.2.2.2.2 _ m3) rfl (hz.trans C.2.2.1.symm) rfl hd hf (by show 2 * 0 + _ + 12 ≤ _; omega) k
theorem z_retN (hx : p.tables.exec = Jvm.exec) (hb : c.code = cc) (hlk : meth.locks = false) (hr : meth.sig.returnType = none) {wf : (Nat → Nat) → va_W} (hQ : Q = MQ below (va_Qv (fun _ : Nat → Nat => True) (fun u t => zP g (wf u) t.heap ∧ va_D A (wf u)) A) args s cells slots A) (hd : decode cc pc = .ok (.return_, 1)) (hS : va_S A s.heap H locs) (u : Nat → Nat) (hP : zP g (wf u) H) (hD : va_D A (wf u)) : W p l e R s m args below meth c H locs cells slots Q (F0 m pc ls []) := by
  subst hQ
  exact W.vret hx hb hr (fun t ht _ => ⟨⟨u, rfl, trivial, by show zP g (wf u) t.heap; rw [ht]; exact hP, hD⟩, hS.F ht⟩) hS.2.2 hd hlk
theorem z_retEN (hx : p.tables.exec = Jvm.exec) (hb : c.code = cc) (hlk : meth.locks = false) (hr : meth.sig.returnType = some .int) {r : Int} {wf : (Nat → Nat) → va_W} (hQ : Q = MQ below (va_Qi (fun x (_ : Nat → Nat) => x = iI r) (fun u t => zP g (wf u) t.heap ∧ va_D A (wf u)) A) args s cells slots A) (hd : decode cc pc = .ok (.ireturn, 1)) (hS : va_S A s.heap H locs) (u : Nat → Nat) (hP : zP g (wf u) H) (hD : va_D A (wf u)) : W p l e R s m args below meth c H locs cells slots Q (F0 m pc ls [.int (iI r)]) := by
  subst hQ
  exact W.iret hx hb hr (fun t ht _ => ⟨⟨_, u, rfl, rfl, by show zP g (wf u) t.heap; rw [ht]; exact hP, hD⟩, hS.F ht⟩) hS.2.2 hd hlk
variable {y : MethodName} {bytes : ByteArray} {maxL n index mc ms : Nat} {ret : Option FieldType} {cw : List Cond} {rm : Room} {Cn : String} {b : Nat} {As st0 : List Value} {wc wr : va_W}
theorem z_cN (C : CallFix p m c cc nL s args Ts own) {wf : (Nat → Nat) → va_W} (hM : zN l y cw rm g (.ref b :: As) wc mc ms wf) (hw : CallB R s args own index y bytes maxL none cw rm mc ms n ∧ y.name = "<init>" ∧ (Cond.instanceMethod y).before args s = true) (hO : zAO s) (hK : zK g s) (hP : zP g ws H) (hD : va_D A ws) (hS : va_S A H0 H locs) (hA : ∀ q : Nat, H0.size ≤ q → A q) (isC isR : List Nat) (hC : isC.map (fun i => ws[i]?) = wc.map some) (hR : isR.map (fun i => ws[i]?) = wr.map some) (hn1 : va_nd isC = true) (hn2 : va_nd isR = true) (hdis : ∀ i ∈ isR, i ∉ isC) (hn : As.length = n) (hz : ls.size = nL) (hst : st0 = As.reverse ++ .ref b :: rest) (hro : (rest.map fun v => v.category).sum ≤ 8) (hd : decode cc pc = .ok (.invokespecial index, 3)) (hf : cells + mc ≤ R.cells ∧ slots + ms ≤ R.slots)
    (k : ∀ (u : Nat → Nat) (H1 : Heap) (locs1 : List Loc), zP g (wr ++ wf u) H1 → va_D A (wr ++ wf u) → va_S A H0 H1 locs1 → W p l e R s m args below meth c H1 locs1 (cells + mc) (slots + ms) Q (F0 m (pc + 3) ls rest)) : W p l e R s m args below meth c H locs cells slots Q (F0 m pc ls st0) := by
  have hF := va_free (wc := wc) hD hS hA isC hC
  have hDc : va_D A wc := hD.sub isC hn1 hC
  refine va_callv (va_runI (g := F0 m pc ls st0) (As := As) (rest := rest) C (hM H.size) hw ⟨zN_blind, fun U hU hW => ⟨rfl, ⟨by rw [hU], by rw [hU]; exact (fun kk qq hh => by
    have h1 : (isC.map (fun i => ws[i]?))[kk]? = some (some qq) := by rw [hC, List.getElem?_map, hh]; rfl
    rw [List.getElem?_map] at h1
    cases hik : isC[kk]? with
    | none => rw [hik] at h1; cases h1
    | some i => rw [hik] at h1; exact hP i qq (Option.some.inj h1)), va_K.moved hW.alike hK, hDc.weaken (fun _ _ _ _ => trivial)⟩, va_AO.moved hW.alike hO⟩⟩ rfl hn hz hst (lv_room hro) hd hf) hS (fun q _ h => hF q h) hF (fun u t H1 locs1 ht hvm _ hB hz1 hk1 hS1 => ?_)
  obtain ⟨hP1, hD1⟩ := hB
  rw [ht] at hP1
  obtain ⟨hP2, hD2⟩ := va_join (wr := wr) (w1 := wf u) hP hD isC isR hC hR hn2 hdis hk1 hF hP1 hD1
  exact k u H1 locs1 hP2 hD2 hS1
theorem z_cEN (C : CallFix p m c cc nL s args Ts own) {r : Int} {wf : (Nat → Nat) → va_W} (hM : zEN l y cw rm g (.ref b :: As) wc mc ms r wf) (hw : CallW R s args own Cn index y bytes maxL ret cw rm mc ms n) (hO : zAO s) (hK : zK g s) (hP : zP g ws H) (hD : va_D A ws) (hS : va_S A H0 H locs) (hA : ∀ q : Nat, H0.size ≤ q → A q) (isC isR : List Nat) (hC : isC.map (fun i => ws[i]?) = wc.map some) (hR : isR.map (fun i => ws[i]?) = wr.map some) (hn1 : va_nd isC = true) (hn2 : va_nd isR = true) (hdis : ∀ i ∈ isR, i ∉ isC) (q0 : Nat) {ci : Nat} {T : u_T} {N : Nat} {fs : List Value} (hq : ws[q0]? = some (b, .inr (ci, fs))) (hc : vwCl[ci]? = some (Cn, T, N)) (hn : As.length = n) (hz : ls.size = nL) (hst : st0 = As.reverse ++ .ref b :: rest) (hro : (rest.map fun v => v.category).sum ≤ 8) (hd : decode cc pc = .ok (.invokevirtual index, 3)) (hf : cells + mc ≤ R.cells ∧ slots + ms ≤ R.slots)
    (k : ∀ (u : Nat → Nat) (H1 : Heap) (locs1 : List Loc), zP g (wr ++ wf u) H1 → va_D A (wr ++ wf u) → va_S A H0 H1 locs1 → W p l e R s m args below meth c H1 locs1 (cells + mc) (slots + ms) Q (F0 m (pc + 3) ls (.int (iI r) :: rest))) : W p l e R s m args below meth c H locs cells slots Q (F0 m pc ls st0) := by
  have hF := va_free (wc := wc) hD hS hA isC hC
  have hDc : va_D A wc := hD.sub isC hn1 hC
  refine va_calli (va_runV (g := F0 m pc ls st0) (As := As) (rest := rest) C (hM H.size) hw ⟨zN_blind, va_recv hK hP hc hq, fun U hU hW => ⟨rfl, ⟨by rw [hU], by rw [hU]; exact (fun kk qq hh => by
    have h1 : (isC.map (fun i => ws[i]?))[kk]? = some (some qq) := by rw [hC, List.getElem?_map, hh]; rfl
    rw [List.getElem?_map] at h1
    cases hik : isC[kk]? with
    | none => rw [hik] at h1; cases h1
    | some i => rw [hik] at h1; exact hP i qq (Option.some.inj h1)), va_K.moved hW.alike hK, hDc.weaken (fun _ _ _ _ => trivial)⟩, va_AO.moved hW.alike hO⟩⟩ rfl hn hz hst (lv_room hro) hd hf) hS (fun q _ h => hF q h) hF (fun x u t H1 locs1 ht hvm hx hB hz1 hk1 hS1 => ?_)
  obtain ⟨hP1, hD1⟩ := hB
  rw [ht] at hP1
  obtain ⟨hP2, hD2⟩ := va_join (wr := wr) (w1 := wf u) hP hD isC isR hC hR hn2 hdis hk1 hF hP1 hD1
  rw [hx]
  exact k u H1 locs1 hP2 hD2 hS1
end ZA
