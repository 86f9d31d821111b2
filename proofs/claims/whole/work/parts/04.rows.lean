/-! contracts: zS reads alone and answers an int; zE may write its world's cells and answers an int; zV answers nothing -/
def zS (l : Launch) (y : MethodName) (w : List Cond) (rm : Room) (g : zG) (av : List Value) (ws : va_W) (r : Int) : Prop :=
  Met l y w rm (va_Pc av (fun U => zP g ws U.heap ∧ zK g U)) (vp_Si (fun x => x = iI r)) 0 0 (fun _ => False)
def zSl (l : Launch) (y : MethodName) (w : List Cond) (rm : Room) (g : zG) (av : List Value) (ws : va_W) (r : Int) : Prop :=
  Met l y w rm (va_Pc av (fun U => zP g ws U.heap ∧ zK g U)) (vp_Sl (fun x => x = lI r)) 0 0 (fun _ => False)
abbrev zPre (g : zG) (ws : va_W) (sz : Nat) (U : State) : Prop := U.heap.size = sz ∧ zP g ws U.heap ∧ zK g U ∧ va_D (fun _ => True) ws
def zE (l : Launch) (y : MethodName) (w : List Cond) (rm : Room) (g : zG) (av : List Value) (ws : va_W) {S : Type} (post : Int → S → Prop) (wf : S → va_W) : Prop :=
  ∀ sz : Nat, Met l y w rm (va_Pc av (zPre g ws sz)) (va_Qi (fun x u => ∃ r : Int, x = iI r ∧ post r u) (fun u t => zP g (wf u) t.heap) (va_A ws sz)) 0 0 (va_A ws sz)
def zV (l : Launch) (y : MethodName) (w : List Cond) (rm : Room) (g : zG) (av : List Value) (ws : va_W) {S : Type} (post : S → Prop) (wf : S → va_W) : Prop :=
  ∀ sz : Nat, Met l y w rm (va_Pc av (zPre g ws sz)) (va_Qv post (fun u t => zP g (wf u) t.heap) (va_A ws sz)) 0 0 (va_A ws sz)
theorem zS_blind {g : zG} {av : List Value} {ws : va_W} : FrameBlind (va_Pc av (fun U => zP g ws U.heap ∧ zK g U)) := fun a U f mk q => by
  obtain ⟨q0, qP, qK⟩ := q
  exact ⟨q0, qP, va_K.moved (u := U) (U := U.calling f mk a) (Vm.Alike.refl U.vm) qK⟩
theorem zE_blind {g : zG} {av : List Value} {ws : va_W} {sz : Nat} : FrameBlind (va_Pc av (zPre g ws sz)) := fun a U f mk q => by
  obtain ⟨q0, q1, qP, qK, qD⟩ := q
  exact ⟨q0, q1, qP, va_K.moved (u := U) (U := U.calling f mk a) (Vm.Alike.refl U.vm) qK, qD⟩
/-! entries -/
theorem z_entS {l : Launch} {y : MethodName} {w w' : List Cond} {rm : Room} {g : zG} {av : List Value} {ws : va_W} {r : Int} {cc : ByteArray} {nL : Nat} {ret : Option FieldType} {own : String} (hy : plainName y.cls = true) (ho : y.cls = own) (hw : w = Cond.code y cc nL ret :: w') (hn : (lg_sl av).length ≤ nL)
    (body : ∀ (p : Program) (e : Env) (s : State) (m : MethodId) (below : List Frame) (meth : Method) (c : Code) (Q : State → Prop) (ls : Array Slot), CallFix p m c cc nL s av.toArray w own → meth.locks = false → meth.sig.returnType = ret → Q = MQ below (vp_Si (fun x => x = iI r)) av.toArray s 0 0 (fun _ => False) → zP g ws s.heap → zK g s → lv_has ls nL (lv_args 0 av) → W p l e rm s m av.toArray below meth c s.heap [] 0 0 Q (F0 m 0 ls [])) : zS l y w rm g av ws r := by
  refine Met.ofW (cc := cc) (maxL := nL) (ret := ret) hy hw ?_
  intro p e s m args below meth c s₁ B hml hv
  obtain ⟨rfl, hP, hK⟩ := hv
  rw [lg_entry_eq]
  exact body p e s m below meth c _ _ ⟨B.exec, B.bytes, hml, by rw [← ho]; exact findClass_of_methodNamed B.named, atoms_spec (ws := w) B.pre⟩ B.notSynchronized B.returns rfl hP hK (lv_entry av hn)
theorem z_entSl {l : Launch} {y : MethodName} {w w' : List Cond} {rm : Room} {g : zG} {av : List Value} {ws : va_W} {r : Int} {cc : ByteArray} {nL : Nat} {ret : Option FieldType} {own : String} (hy : plainName y.cls = true) (ho : y.cls = own) (hw : w = Cond.code y cc nL ret :: w') (hn : (lg_sl av).length ≤ nL)
    (body : ∀ (p : Program) (e : Env) (s : State) (m : MethodId) (below : List Frame) (meth : Method) (c : Code) (Q : State → Prop) (ls : Array Slot), CallFix p m c cc nL s av.toArray w own → meth.locks = false → meth.sig.returnType = ret → Q = MQ below (vp_Sl (fun x => x = lI r)) av.toArray s 0 0 (fun _ => False) → zP g ws s.heap → zK g s → lv_has ls nL (lv_args 0 av) → W p l e rm s m av.toArray below meth c s.heap [] 0 0 Q (F0 m 0 ls [])) : zSl l y w rm g av ws r := by
  refine Met.ofW (cc := cc) (maxL := nL) (ret := ret) hy hw ?_
  intro p e s m args below meth c s₁ B hml hv
  obtain ⟨rfl, hP, hK⟩ := hv
  rw [lg_entry_eq]
  exact body p e s m below meth c _ _ ⟨B.exec, B.bytes, hml, by rw [← ho]; exact findClass_of_methodNamed B.named, atoms_spec (ws := w) B.pre⟩ B.notSynchronized B.returns rfl hP hK (lv_entry av hn)
theorem z_entE {l : Launch} {y : MethodName} {w w' : List Cond} {rm : Room} {g : zG} {av : List Value} {ws : va_W} {S : Type} {post : Int → S → Prop} {wf : S → va_W} {cc : ByteArray} {nL : Nat} {ret : Option FieldType} {own : String} (hy : plainName y.cls = true) (ho : y.cls = own) (hw : w = Cond.code y cc nL ret :: w') (hn : (lg_sl av).length ≤ nL)
    (body : ∀ (p : Program) (e : Env) (s : State) (m : MethodId) (below : List Frame) (meth : Method) (c : Code) (Q : State → Prop) (ls : Array Slot) (A : Nat → Prop), CallFix p m c cc nL s av.toArray w own → meth.locks = false → meth.sig.returnType = ret → Q = MQ below (va_Qi (fun x u => ∃ r : Int, x = iI r ∧ post r u) (fun u t => zP g (wf u) t.heap) A) av.toArray s 0 0 A → zP g ws s.heap → zK g s → va_D A ws → (∀ q : Nat, s.heap.size ≤ q → A q) → va_S A s.heap s.heap [] → lv_has ls nL (lv_args 0 av) → W p l e rm s m av.toArray below meth c s.heap [] 0 0 Q (F0 m 0 ls [])) : zE l y w rm g av ws post wf := by
  intro sz
  refine Met.ofW (cc := cc) (maxL := nL) (ret := ret) hy hw ?_
  intro p e s m args below meth c s₁ B hml hv
  obtain ⟨rfl, hsz, hP, hK, hD⟩ := hv
  subst hsz
  rw [lg_entry_eq]
  exact body p e s m below meth c _ _ (va_A ws s.heap.size) ⟨B.exec, B.bytes, hml, by rw [← ho]; exact findClass_of_methodNamed B.named, atoms_spec (ws := w) B.pre⟩ B.notSynchronized B.returns rfl hP hK hD.self (fun _ h => Or.inr h) va_S.rf (lv_entry av hn)
theorem z_entV {l : Launch} {y : MethodName} {w w' : List Cond} {rm : Room} {g : zG} {av : List Value} {ws : va_W} {S : Type} {post : S → Prop} {wf : S → va_W} {cc : ByteArray} {nL : Nat} {ret : Option FieldType} {own : String} (hy : plainName y.cls = true) (ho : y.cls = own) (hw : w = Cond.code y cc nL ret :: w') (hn : (lg_sl av).length ≤ nL)
    (body : ∀ (p : Program) (e : Env) (s : State) (m : MethodId) (below : List Frame) (meth : Method) (c : Code) (Q : State → Prop) (ls : Array Slot) (A : Nat → Prop), CallFix p m c cc nL s av.toArray w own → meth.locks = false → meth.sig.returnType = ret → Q = MQ below (va_Qv post (fun u t => zP g (wf u) t.heap) A) av.toArray s 0 0 A → zP g ws s.heap → zK g s → va_D A ws → (∀ q : Nat, s.heap.size ≤ q → A q) → va_S A s.heap s.heap [] → lv_has ls nL (lv_args 0 av) → W p l e rm s m av.toArray below meth c s.heap [] 0 0 Q (F0 m 0 ls [])) : zV l y w rm g av ws post wf := by
  intro sz
  refine Met.ofW (cc := cc) (maxL := nL) (ret := ret) hy hw ?_
  intro p e s m args below meth c s₁ B hml hv
  obtain ⟨rfl, hsz, hP, hK, hD⟩ := hv
  subst hsz
  rw [lg_entry_eq]
  exact body p e s m below meth c _ _ (va_A ws s.heap.size) ⟨B.exec, B.bytes, hml, by rw [← ho]; exact findClass_of_methodNamed B.named, atoms_spec (ws := w) B.pre⟩ B.notSynchronized B.returns rfl hP hK hD.self (fun _ h => Or.inr h) va_S.rf (lv_entry av hn)
/-! a world in which some cells have new contents -/
def zm : va_W → List Nat → va_W → va_W
  | w, i :: is, c :: cs => zm (w.set i c) is cs
  | w, _, _ => w
theorem zm_get : ∀ (is : List Nat) (cs w : va_W) (k : Nat) (q : Nat × va_E), is.length = cs.length → (zm w is cs)[k]? = some q → (k ∉ is ∧ w[k]? = some q) ∨ q ∈ cs
  | [], cs, w, k, q, _, h => by
    unfold zm at h
    exact Or.inl ⟨List.not_mem_nil, h⟩
  | i :: is, [], w, k, q, hl, h => by simp at hl
  | i :: is, c :: cs, w, k, q, hl, h => by
    have h' : (zm (w.set i c) is cs)[k]? = some q := h
    rcases zm_get is cs (w.set i c) k q (by simpa using hl) h' with ⟨h1, h2⟩ | h1
    · by_cases hk : k = i
      · subst hk
        by_cases hlt : k < w.length
        · rw [List.getElem?_set_self hlt] at h2
          cases h2
          exact Or.inr List.mem_cons_self
        · rw [List.getElem?_eq_none (by simp; omega)] at h2
          cases h2
      · rw [List.getElem?_set_ne (Ne.symm hk)] at h2
        exact Or.inl ⟨fun z => (List.mem_cons.mp z).elim hk h1, h2⟩
    · exact Or.inr (List.mem_cons_of_mem _ h1)
theorem zm_addr : ∀ (is : List Nat) (cs w wc : va_W), is.map (fun i => w[i]?) = wc.map some → cs.map Prod.fst = wc.map Prod.fst → ∀ k : Nat, ((zm w is cs)[k]?).map Prod.fst = (w[k]?).map Prod.fst
  | [], cs, w, wc, _, _, k => by unfold zm; rfl
  | i :: is, [], w, wc, _, _, k => by unfold zm; rfl
  | i :: is, c :: cs, w, [], h, _, k => by simp at h
  | i :: is, c :: cs, w, d :: wc, h, ha, k => by
    simp only [List.map_cons, List.cons.injEq] at h ha
    obtain ⟨h1, h2⟩ := h
    obtain ⟨a1, a2⟩ := ha
    show ((zm (w.set i c) is cs)[k]?).map Prod.fst = _
    have hset : ∀ j : Nat, ((w.set i c)[j]?).map Prod.fst = (w[j]?).map Prod.fst := by
      intro j
      by_cases hj : j = i
      · subst hj
        have hlt := (List.getElem?_eq_some_iff.mp h1).1
        rw [List.getElem?_set_self hlt, h1]
        simp [a1]
      · rw [List.getElem?_set_ne (Ne.symm hj)]
    -- the callee's other cells, as the changed world has them
    have key : ∀ (is' : List Nat) (cs' w1 w2 : va_W), (∀ j : Nat, (w1[j]?).map Prod.fst = (w2[j]?).map Prod.fst) → (∀ (n : Nat) (x : Nat × va_E) (j : Nat), cs'[n]? = some x → is'[n]? = some j → (w2[j]?).map Prod.fst = some x.1) → ∀ k : Nat, ((zm w1 is' cs')[k]?).map Prod.fst = (w2[k]?).map Prod.fst := by
      intro is'
      induction is' with
      | nil => intro cs' w1 w2 e1 _ k; unfold zm; exact e1 k
      | cons i' is' ih =>
        intro cs' w1 w2 e1 e2 k
        cases cs' with
        | nil => unfold zm; exact e1 k
        | cons c' cs' =>
          show ((zm (w1.set i' c') is' cs')[k]?).map Prod.fst = _
          refine ih cs' _ w2 (fun j => ?_) (fun n x j hx hj => e2 (n + 1) x j (by simpa using hx) (by simpa using hj)) k
          by_cases hj : j = i'
          · subst hj
            have h3 := e2 0 c' j rfl rfl
            have hlt : j < w1.length := by
              rcases Nat.lt_or_ge j w1.length with z | z
              · exact z
              · have := e1 j
                rw [List.getElem?_eq_none z, h3] at this
                cases this
            rw [List.getElem?_set_self hlt, h3]
            rfl
          · rw [List.getElem?_set_ne (Ne.symm hj)]
            exact e1 j
    refine key is cs (w.set i c) w hset (fun n x j hx hj => ?_) k
    have h3 : (is.map (fun i => w[i]?))[n]? = some (w[j]?) := by rw [List.getElem?_map, hj]; rfl
    rw [h2, List.getElem?_map] at h3
    have h4 : (cs.map Prod.fst)[n]? = some x.1 := by rw [List.getElem?_map, hx]; rfl
    rw [a2, List.getElem?_map] at h4
    cases hy : wc[n]? with
    | none => rw [hy] at h4; cases h4
    | some y =>
      rw [hy] at h3 h4
      have e5 : y.1 = x.1 := Option.some.inj h4
      have e6 : some y = w[j]? := Option.some.inj h3
      rw [← e6, ← e5]
      rfl
theorem zD_addr {A : Nat → Prop} {w1 w2 : va_W} (h : ∀ k : Nat, (w2[k]?).map Prod.fst = (w1[k]?).map Prod.fst) (hD : va_D A w1) : va_D A w2 := by
  have key : ∀ (k : Nat) (q : Nat × va_E), w2[k]? = some q → ∃ q0, w1[k]? = some q0 ∧ q0.1 = q.1 := by
    intro k q hk
    have := h k
    rw [hk] at this
    cases hz : w1[k]? with
    | none => rw [hz] at this; cases this
    | some q0 => rw [hz] at this; exact ⟨q0, rfl, (Option.some.inj this).symm⟩
  refine ⟨fun i j x y hi hj hxy => ?_, fun k q hk => ?_⟩
  · obtain ⟨x0, h1, h2⟩ := key i x hi
    obtain ⟨y0, h3, h4⟩ := key j y hj
    exact hD.1 i j x0 y0 h1 h3 (h2.trans (hxy.trans h4.symm))
  · obtain ⟨q0, h1, h2⟩ := key k q hk
    rw [← h2]
    exact hD.2 k q0 h1
theorem zm_join {A0 : Nat → Prop} {D : va_G} {cl : List vw_C} {ws wc cs : va_W} {H H1 : Heap} (hP : va_P D cl ws H) (hD : va_D A0 ws) (is : List Nat) (hC : is.map (fun i => ws[i]?) = wc.map some) (ha : cs.map Prod.fst = wc.map Prod.fst)
    (hk : ∀ q : Nat, q < H.size → ¬ va_A wc H.size q → H1[q]? = H[q]?) (hP1 : va_P D cl cs H1) : va_P D cl (zm ws is cs) H1 ∧ va_D A0 (zm ws is cs) := by
  have hlen : is.length = cs.length := by
    have h1 := congrArg List.length hC
    have h2 := congrArg List.length ha
    simp at h1 h2
    omega
  refine ⟨fun k q hq => ?_, zD_addr (zm_addr is cs ws wc hC ha) hD⟩
  rcases zm_get is cs ws k q hlen hq with ⟨h1, h2⟩ | h1
  · have hl := (hP k q h2).lt
    refine (hP k q h2).kept (hk q.1 hl (fun h => ?_))
    rcases h with ⟨j, ee, h⟩ | h
    · have h3 : (is.map (fun i => ws[i]?))[j]? = some (some (q.1, ee)) := by rw [hC, List.getElem?_map, h]; rfl
      rw [List.getElem?_map] at h3
      cases hi : is[j]? with
      | none => rw [hi] at h3; cases h3
      | some i =>
        rw [hi] at h3
        have h4 : ws[i]? = some (q.1, ee) := Option.some.inj h3
        have h5 := hD.1 k i q (q.1, ee) h2 h4 rfl
        subst h5
        exact h1 (List.mem_of_getElem? hi)
    · omega
  · obtain ⟨j, hj⟩ := List.getElem?_of_mem h1
    exact hP1 j q hj
