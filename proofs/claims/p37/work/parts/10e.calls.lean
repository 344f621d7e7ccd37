theorem ga_all : GoodIn GA GA := goodIn_sub (fun _ h => h) (by decide +kernel)
theorem ga_c {y : MethodName} {c : ByteArray} {n : Nat} {r : Option FieldType} (h : Cond.code y c n r ∈ GA) : GoodIn GA (Cond.code y c n r :: GA) := fun w hw => (List.mem_cons.mp hw).elim (fun z => by rw [z]; exact ga_all _ h) (fun z => ga_all _ z)
/-- contracts: reading alone; and over the pool with room for new things -/
def CR (D : va_G) (cO : ClassId) (S : wPS) (av : List Value) : Array Value → State → Prop := va_Pc av (fun U => va_P D vwCl (pool cO S) U.heap ∧ va_K D vwCl [(cO, .object "java/lang/Object")] U ∧ GK U)
def CP (D : va_G) (cO : ClassId) (e9 : Nat × Nat) (S : wPS) (sz : Nat) (av : List Value) : Array Value → State → Prop := va_Pc av (fun U => U.heap.size = sz ∧ va_P D vwCl (pool cO S) U.heap ∧ va_K D vwCl [(cO, .object "java/lang/Object")] U ∧ GK U ∧ va_D (fun _ => True) (pool cO S) ∧ GH e9.1 (va_A (pool cO S) sz) U U.heap ∧ va_Mi "[Ljava/lang/Object;" e9.2 U)
theorem CR.blind {D : va_G} {cO : ClassId} {S : wPS} {av : List Value} : FrameBlind (CR D cO S av) := fun a U g mk h => by
  obtain ⟨h0, h1, h2, h3⟩ := h
  exact ⟨h0, h1, va_K.moved (u := U) (U := U.calling g mk a) (Vm.Alike.refl U.vm) h2, GK.call h3⟩
theorem CP.blind {D : va_G} {cO : ClassId} {e9 : Nat × Nat} {S : wPS} {sz : Nat} {av : List Value} : FrameBlind (CP D cO e9 S sz av) := fun a U g mk h => by
  obtain ⟨h0, h1, h2, h3, h4, h5, h6, h7⟩ := h
  exact ⟨h0, h1, h2, va_K.moved (u := U) (U := U.calling g mk a) (Vm.Alike.refl U.vm) h3, GK.call h4, h5, GH.moved (u := U) (U := U.calling g mk a) (Vm.Alike.refl U.vm) h6, va_Mi.moved (u := U) (U := U.calling g mk a) (Vm.Alike.refl U.vm) h7⟩
theorem CR.pre {D : va_G} {cO : ClassId} {S : wPS} {av : List Value} {s : State} {H : Heap} (hK : va_K D vwCl [(cO, .object "java/lang/Object")] s) (hG : GK s) (hP : va_P D vwCl (pool cO S) H) : ∀ U : State, U.heap = H → s.WarmedH U.vm → CR D cO S av av.toArray U := fun U hU hW => ⟨rfl, by rw [hU]; exact hP, va_K.moved hW.alike hK, GK.warm hW hG⟩
theorem pool_free {A : Nat → Prop} {D : va_G} {cO : ClassId} {S : wPS} {H0 H : Heap} {locs : List Loc} (hD : va_D A (pool cO S)) (hS : va_S A H0 H locs) (hA : ∀ q, H0.size ≤ q → A q) : ∀ q, va_A (pool cO S) H.size q → A q := fun q h => by
  rcases h with ⟨k, e, h⟩ | h
  · exact hD.2 k (q, e) h
  · exact hA q (Nat.le_trans hS.1 h)
theorem CP.pre {D : va_G} {cO : ClassId} {e9 : Nat × Nat} {S : wPS} {av : List Value} {s : State} {H : Heap} {A : Nat → Prop} {locs : List Loc} (hK : va_K D vwCl [(cO, .object "java/lang/Object")] s) (hG : GK s) (hH : GH e9.1 A s s.heap) (hmi : va_Mi "[Ljava/lang/Object;" e9.2 s) (hP : va_P D vwCl (pool cO S) H) (hD : va_D A (pool cO S)) (hS : va_S A s.heap H locs) (hA : ∀ q, s.heap.size ≤ q → A q) : ∀ U : State, U.heap = H → s.WarmedH U.vm → CP D cO e9 S H.size av av.toArray U := fun U hU hW =>
  ⟨rfl, by rw [hU], by rw [hU]; exact hP, va_K.moved hW.alike hK, GK.warm hW hG, hD.weaken (fun _ _ _ _ => trivial), by rw [hU]; exact GH.moved hW.alike (GH.narrow (GH.kept hH hS.2.1) (pool_free (D := D) hD hS hA)), va_Mi.moved hW.alike hmi⟩
/-- what a change of the pool is behind a method -/
def Bp (D : va_G) (cO : ClassId) (A : Nat → Prop) (S : wPS) (t : State) : Prop := va_P D vwCl (pool cO S) t.heap ∧ va_D A (pool cO S)
def MR (y : MethodName) (cb : ByteArray) (maxL : Nat) (ret : Option FieldType) (rm : Room) (S : wPS) (av : List Value) (Qc : Array Value → State → Outcome → State → Prop) : Prop := ∀ (l : Launch) (D : va_G) (cO : ClassId), Met l y (Cond.code y cb maxL ret :: GA) rm (CR D cO S av) Qc 0 0 (fun _ => False)
def MVv (e9 : Nat × Nat) (y : MethodName) (cb : ByteArray) (maxL : Nat) (ret : Option FieldType) (rm : Room) (S : wPS) (av : List Value) (post : wPS → Prop) (mc ms : Nat) : Prop := ∀ (l : Launch) (D : va_G) (cO : ClassId) (sz : Nat), Met l y (Cond.code y cb maxL ret :: GA) rm (CP D cO e9 S sz av) (va_Qv post (Bp D cO (va_A (pool cO S) sz)) (va_A (pool cO S) sz)) mc ms (va_A (pool cO S) sz)
def MVi (e9 : Nat × Nat) (y : MethodName) (cb : ByteArray) (maxL : Nat) (ret : Option FieldType) (rm : Room) (S : wPS) (av : List Value) (post : Int32 → wPS → Prop) (mc ms : Nat) : Prop := ∀ (l : Launch) (D : va_G) (cO : ClassId) (sz : Nat), Met l y (Cond.code y cb maxL ret :: GA) rm (CP D cO e9 S sz av) (va_Qi post (Bp D cO (va_A (pool cO S) sz)) (va_A (pool cO S) sz)) mc ms (va_A (pool cO S) sz)
def MVq (e9 : Nat × Nat) (y : MethodName) (cb : ByteArray) (maxL : Nat) (ret : Option FieldType) (rm : Room) (S : wPS) (av : List Value) (post : Option Nat → wPS → Prop) (mc ms : Nat) : Prop := ∀ (l : Launch) (D : va_G) (cO : ClassId) (sz : Nat), Met l y (Cond.code y cb maxL ret :: GA) rm (CP D cO e9 S sz av) (va_Qq post (Bp D cO (va_A (pool cO S) sz)) (va_A (pool cO S) sz)) mc ms (va_A (pool cO S) sz)
/-- what the tables say of a callee -/
def SD (y : MethodName) (cb : ByteArray) (maxL : Nat) (ret : Option FieldType) (n : Nat) : Prop := (Cond.static y ∈ GA ∧ Cond.initialized y.cls ∈ GA ∧ Cond.code y cb maxL ret ∈ GA) ∧ y.cls ≠ "java/lang/invoke/MethodHandle" ∧ y.cls ≠ "java/lang/invoke/VarHandle" ∧ (parseMethodDescriptor y.desc).map (fun d => d.parameters.length) = some n
def VD (C : String) (y : MethodName) (cb : ByteArray) (maxL : Nat) (ret : Option FieldType) (n : Nat) : Prop := (Cond.instanceMethod y ∈ GA ∧ Cond.selects C y y ∈ GA ∧ Cond.initialized y.cls ∈ GA ∧ Cond.code y cb maxL ret ∈ GA) ∧ y.cls ≠ "java/lang/invoke/MethodHandle" ∧ y.cls ≠ "java/lang/invoke/VarHandle" ∧ (parseMethodDescriptor y.desc).map (fun d => d.parameters.length) = some n
def ID (y : MethodName) (cb : ByteArray) (maxL : Nat) (n : Nat) : Prop := (Cond.instanceMethod y ∈ GA ∧ Cond.initialized y.cls ∈ GA ∧ Cond.code y cb maxL none ∈ GA) ∧ y.name = "<init>" ∧ y.cls ≠ "java/lang/invoke/MethodHandle" ∧ y.cls ≠ "java/lang/invoke/VarHandle" ∧ (parseMethodDescriptor y.desc).map (fun d => d.parameters.length) = some n
def UD (C owner : String) (x y : MethodName) (cb : ByteArray) (maxL : Nat) (ret : Option FieldType) (n : Nat) : Prop := (Cond.sameMethod x.cls owner x.name x.desc ∈ GA ∧ Cond.selects C x y ∈ GA ∧ Cond.instanceMethod y ∈ GA ∧ Cond.initialized y.cls ∈ GA ∧ Cond.code y cb maxL ret ∈ GA) ∧ y = ⟨owner, x.name, x.desc⟩ ∧ owner ≠ "java/lang/invoke/MethodHandle" ∧ owner ≠ "java/lang/invoke/VarHandle" ∧ (parseMethodDescriptor x.desc).map (fun d => d.parameters.length) = some n
theorem sig_of {d : String} {n : Nat} (h : (parseMethodDescriptor d).map (fun d => d.parameters.length) = some n) : ∀ sig, parseMethodDescriptor d = some sig → n = sig.parameters.length := fun sig h2 => by
  rw [h2] at h
  exact (Option.some.inj h).symm
abbrev RmOk (rm2 rm : Room) (mc ms maxL : Nat) : Prop := rm2.cells = mc ∧ rm2.slots = ms ∧ rm2.frames + 1 ≤ rm.frames ∧ 8 + (maxL + 11) + rm2.locals ≤ rm.locals
theorem cb_of {R : Room} {s : State} {args : Array Value} {own : String} {index maxL mc ms n : Nat} {y : MethodName} {cb : ByteArray} {ret : Option FieldType} {rm2 : Room} (hts : ∀ w ∈ GA, w.before args s = true) (hr : RmOk rm2 R mc ms maxL) (hc : Cond.code y cb maxL ret ∈ GA) (hi : Cond.initialized y.cls ∈ GA) (h1 : y.cls ≠ "java/lang/invoke/MethodHandle") (h2 : y.cls ≠ "java/lang/invoke/VarHandle") (hn : (parseMethodDescriptor y.desc).map (fun d => d.parameters.length) = some n) (hl : Cond.methodLink own index y ∈ GA) : CallB R s args own index y cb maxL ret (Cond.code y cb maxL ret :: GA) rm2 mc ms n :=
  ⟨hr.1, hr.2.1, hr.2.2.1, hr.2.2.2, pay_in hts (ga_c hc), List.mem_cons_self, hts _ hc, hts _ hi, ⟨h1, h2⟩, sig_of hn, hts _ hl⟩
theorem cn_of {R : Room} {s : State} {args : Array Value} {own host : String} {index maxL mc ms n : Nat} {y : MethodName} {cb : ByteArray} {ret : Option FieldType} {rm2 : Room} (hts : ∀ w ∈ GA, w.before args s = true) (hG : GK s) (hr : RmOk rm2 R mc ms maxL) (hc : Cond.code y cb maxL ret ∈ GA) (hi : Cond.initialized y.cls ∈ GA) (h1 : y.cls ≠ "java/lang/invoke/MethodHandle") (h2 : y.cls ≠ "java/lang/invoke/VarHandle") (hn : (parseMethodDescriptor y.desc).map (fun d => d.parameters.length) = some n) (hl : (own, index, y, host) ∈ nestM) : va_CN R s args own index y host cb maxL ret (Cond.code y cb maxL ret :: GA) rm2 mc ms n :=
  ⟨⟨hr.1, hr.2.1, hr.2.2.1, hr.2.2.2, pay_in hts (ga_c hc), List.mem_cons_self⟩, hts _ hc, hts _ hi, ⟨h1, h2⟩, sig_of hn, va_Nw.use (w := Cond.methodLinkNest own index y host) rfl (hG.nm hl)⟩
theorem rS_i {cc : ByteArray} {nL : Nat} {own : String} {rm : Room} {κ : KX} (hκ : Cx cc nL own rm κ) {Φ : HQ} {pc : Nat} {lv : List (Nat × Value)} {st : List Value} {S : wPS} (hΦ : Hd κ Φ S) {y : MethodName} {cb : ByteArray} {maxL nA idx : Nat} {ret : Option FieldType} {rm2 : Room} {stk : List Value} (av : List Value) {post : Int32 → Prop} (sd : SD y cb maxL ret nA) (hlk : Cond.methodLink own idx y ∈ GA) (hM : MR y cb maxL ret rm2 S av (vp_Si post)) (hrm : RmOk rm2 rm 0 0 maxL) (hn : av.length = nA) (hstk : stk = av.reverse ++ st) (hw : (st.map fun v => v.category).sum ≤ 8) (hdg : decode cc pc = .ok (.invokestatic idx, 3)) (kk : ∀ r : Int32, post r → Gj κ Φ (pc + 3) lv (.int r :: st)) : Gj κ Φ pc lv stk := by
  subst hstk
  obtain ⟨p, l, e, R, s, m, args, below, meth, c, Q, D, cO, e0, A, mc, ms⟩ := κ
  obtain ⟨hx, hb, hml, hown, hts, hK, hG, hR, hlk9⟩ := hκ
  intro H locs cells slots ls hF hl
  obtain ⟨hP, hc9, hs9⟩ := hΦ H locs cells slots hF
  exact vp_callSi (va_Run.run (va_runS (As := av) (rest := st) ⟨hx, hb, rfl, hown, hts⟩ (hM l D cO) ⟨cb_of hts (hR ▸ hrm) sd.1.2.2 sd.1.2.1 sd.2.1 sd.2.2.1 sd.2.2.2 hlk, hts _ sd.1.1⟩ ⟨CR.blind, CR.pre hK hG hP⟩ rfl hn hl.1 rfl (lv_room hw) hdg ⟨hc9, hs9⟩)) (fun r hr => kk r hr H locs cells slots ls hF hl)
theorem rS_l {cc : ByteArray} {nL : Nat} {own : String} {rm : Room} {κ : KX} (hκ : Cx cc nL own rm κ) {Φ : HQ} {pc : Nat} {lv : List (Nat × Value)} {st : List Value} {S : wPS} (hΦ : Hd κ Φ S) {y : MethodName} {cb : ByteArray} {maxL nA idx : Nat} {ret : Option FieldType} {rm2 : Room} {stk : List Value} (av : List Value) {post : Int64 → Prop} (sd : SD y cb maxL ret nA) (hlk : Cond.methodLink own idx y ∈ GA) (hM : MR y cb maxL ret rm2 S av (vp_Sl post)) (hrm : RmOk rm2 rm 0 0 maxL) (hn : av.length = nA) (hstk : stk = av.reverse ++ st) (hw : (st.map fun v => v.category).sum ≤ 8) (hdg : decode cc pc = .ok (.invokestatic idx, 3)) (kk : ∀ r : Int64, post r → Gj κ Φ (pc + 3) lv (.long r :: st)) : Gj κ Φ pc lv stk := by
  subst hstk
  obtain ⟨p, l, e, R, s, m, args, below, meth, c, Q, D, cO, e0, A, mc, ms⟩ := κ
  obtain ⟨hx, hb, hml, hown, hts, hK, hG, hR, hlk9⟩ := hκ
  intro H locs cells slots ls hF hl
  obtain ⟨hP, hc9, hs9⟩ := hΦ H locs cells slots hF
  exact vp_callSl (va_Run.run (va_runS (As := av) (rest := st) ⟨hx, hb, rfl, hown, hts⟩ (hM l D cO) ⟨cb_of hts (hR ▸ hrm) sd.1.2.2 sd.1.2.1 sd.2.1 sd.2.2.1 sd.2.2.2 hlk, hts _ sd.1.1⟩ ⟨CR.blind, CR.pre hK hG hP⟩ rfl hn hl.1 rfl (lv_room hw) hdg ⟨hc9, hs9⟩)) (fun r hr => kk r hr H locs cells slots ls hF hl)
theorem rS_d {cc : ByteArray} {nL : Nat} {own : String} {rm : Room} {κ : KX} (hκ : Cx cc nL own rm κ) {Φ : HQ} {pc : Nat} {lv : List (Nat × Value)} {st : List Value} {S : wPS} (hΦ : Hd κ Φ S) {y : MethodName} {cb : ByteArray} {maxL nA idx : Nat} {ret : Option FieldType} {rm2 : Room} {stk : List Value} (av : List Value) {post : UInt64 → Prop} (sd : SD y cb maxL ret nA) (hlk : Cond.methodLink own idx y ∈ GA) (hM : MR y cb maxL ret rm2 S av (vp_Sd post)) (hrm : RmOk rm2 rm 0 0 maxL) (hn : av.length = nA) (hstk : stk = av.reverse ++ st) (hw : (st.map fun v => v.category).sum ≤ 8) (hdg : decode cc pc = .ok (.invokestatic idx, 3)) (kk : ∀ r : UInt64, post r → Gj κ Φ (pc + 3) lv (.double r :: st)) : Gj κ Φ pc lv stk := by
  subst hstk
  obtain ⟨p, l, e, R, s, m, args, below, meth, c, Q, D, cO, e0, A, mc, ms⟩ := κ
  obtain ⟨hx, hb, hml, hown, hts, hK, hG, hR, hlk9⟩ := hκ
  intro H locs cells slots ls hF hl
  obtain ⟨hP, hc9, hs9⟩ := hΦ H locs cells slots hF
  exact vp_callSd (va_Run.run (va_runS (As := av) (rest := st) ⟨hx, hb, rfl, hown, hts⟩ (hM l D cO) ⟨cb_of hts (hR ▸ hrm) sd.1.2.2 sd.1.2.1 sd.2.1 sd.2.2.1 sd.2.2.2 hlk, hts _ sd.1.1⟩ ⟨CR.blind, CR.pre hK hG hP⟩ rfl hn hl.1 rfl (lv_room hw) hdg ⟨hc9, hs9⟩)) (fun r hr => kk r hr H locs cells slots ls hF hl)
theorem rS_q {cc : ByteArray} {nL : Nat} {own : String} {rm : Room} {κ : KX} (hκ : Cx cc nL own rm κ) {Φ : HQ} {pc : Nat} {lv : List (Nat × Value)} {st : List Value} {S : wPS} (hΦ : Hd κ Φ S) {y : MethodName} {cb : ByteArray} {maxL nA idx : Nat} {ret : Option FieldType} {rm2 : Room} {stk : List Value} (av : List Value) {post : Option Nat → Prop} (sd : SD y cb maxL ret nA) (hlk : Cond.methodLink own idx y ∈ GA) (hM : MR y cb maxL ret rm2 S av (va_Sq post)) (hrm : RmOk rm2 rm 0 0 maxL) (hn : av.length = nA) (hstk : stk = av.reverse ++ st) (hw : (st.map fun v => v.category).sum ≤ 8) (hdg : decode cc pc = .ok (.invokestatic idx, 3)) (kk : ∀ r : Option Nat, post r → Gj κ Φ (pc + 3) lv (va_rf r :: st)) : Gj κ Φ pc lv stk := by
  subst hstk
  obtain ⟨p, l, e, R, s, m, args, below, meth, c, Q, D, cO, e0, A, mc, ms⟩ := κ
  obtain ⟨hx, hb, hml, hown, hts, hK, hG, hR, hlk9⟩ := hκ
  intro H locs cells slots ls hF hl
  obtain ⟨hP, hc9, hs9⟩ := hΦ H locs cells slots hF
  exact va_csq (va_Run.run (va_runS (As := av) (rest := st) ⟨hx, hb, rfl, hown, hts⟩ (hM l D cO) ⟨cb_of hts (hR ▸ hrm) sd.1.2.2 sd.1.2.1 sd.2.1 sd.2.2.1 sd.2.2.2 hlk, hts _ sd.1.1⟩ ⟨CR.blind, CR.pre hK hG hP⟩ rfl hn hl.1 rfl (lv_room hw) hdg ⟨hc9, hs9⟩)) (fun r hr => kk r hr H locs cells slots ls hF hl)
theorem rS_v {cc : ByteArray} {nL : Nat} {own : String} {rm : Room} {κ : KX} (hκ : Cx cc nL own rm κ) {Φ : HQ} {pc : Nat} {lv : List (Nat × Value)} {st : List Value} {S : wPS} (hΦ : Hd κ Φ S) {y : MethodName} {cb : ByteArray} {maxL nA idx : Nat} {ret : Option FieldType} {rm2 : Room} {stk : List Value} (av : List Value) {post : Unit → Prop} (sd : SD y cb maxL ret nA) (hlk : Cond.methodLink own idx y ∈ GA) (hM : MR y cb maxL ret rm2 S av (va_Sv post)) (hrm : RmOk rm2 rm 0 0 maxL) (hn : av.length = nA) (hstk : stk = av.reverse ++ st) (hw : (st.map fun v => v.category).sum ≤ 8) (hdg : decode cc pc = .ok (.invokestatic idx, 3)) (kk : post () → Gj κ Φ (pc + 3) lv st) : Gj κ Φ pc lv stk := by
  subst hstk
  obtain ⟨p, l, e, R, s, m, args, below, meth, c, Q, D, cO, e0, A, mc, ms⟩ := κ
  obtain ⟨hx, hb, hml, hown, hts, hK, hG, hR, hlk9⟩ := hκ
  intro H locs cells slots ls hF hl
  obtain ⟨hP, hc9, hs9⟩ := hΦ H locs cells slots hF
  exact va_csv (va_Run.run (va_runS (As := av) (rest := st) ⟨hx, hb, rfl, hown, hts⟩ (hM l D cO) ⟨cb_of hts (hR ▸ hrm) sd.1.2.2 sd.1.2.1 sd.2.1 sd.2.2.1 sd.2.2.2 hlk, hts _ sd.1.1⟩ ⟨CR.blind, CR.pre hK hG hP⟩ rfl hn hl.1 rfl (lv_room hw) hdg ⟨hc9, hs9⟩)) (fun hr => kk hr H locs cells slots ls hF hl)
theorem rSN_i {cc : ByteArray} {nL : Nat} {own : String} {rm : Room} {κ : KX} (hκ : Cx cc nL own rm κ) {Φ : HQ} {pc : Nat} {lv : List (Nat × Value)} {st : List Value} {S : wPS} (hΦ : Hd κ Φ S) {y : MethodName} {cb : ByteArray} {maxL nA idx : Nat} {ret : Option FieldType} {rm2 : Room} {stk : List Value} (av : List Value) {post : Int32 → Prop} (sd : SD y cb maxL ret nA) {host : String} (hlk : (own, idx, y, host) ∈ nestM) (hM : MR y cb maxL ret rm2 S av (vp_Si post)) (hrm : RmOk rm2 rm 0 0 maxL) (hn : av.length = nA) (hstk : stk = av.reverse ++ st) (hw : (st.map fun v => v.category).sum ≤ 8) (hdg : decode cc pc = .ok (.invokestatic idx, 3)) (kk : ∀ r : Int32, post r → Gj κ Φ (pc + 3) lv (.int r :: st)) : Gj κ Φ pc lv stk := by
  subst hstk
  obtain ⟨p, l, e, R, s, m, args, below, meth, c, Q, D, cO, e0, A, mc, ms⟩ := κ
  obtain ⟨hx, hb, hml, hown, hts, hK, hG, hR, hlk9⟩ := hκ
  intro H locs cells slots ls hF hl
  obtain ⟨hP, hc9, hs9⟩ := hΦ H locs cells slots hF
  exact vp_callSi (va_Run.run (va_runSN (As := av) (rest := st) ⟨hx, hb, rfl, hown, hts⟩ (hM l D cO) ⟨cn_of hts hG (hR ▸ hrm) sd.1.2.2 sd.1.2.1 sd.2.1 sd.2.2.1 sd.2.2.2 hlk, hts _ sd.1.1, trivial⟩ ⟨CR.blind, CR.pre hK hG hP⟩ rfl hn hl.1 rfl (lv_room hw) hdg ⟨hc9, hs9⟩)) (fun r hr => kk r hr H locs cells slots ls hF hl)
theorem rV_i {cc : ByteArray} {nL : Nat} {own : String} {rm : Room} {κ : KX} (hκ : Cx cc nL own rm κ) {Φ : HQ} {pc : Nat} {lv : List (Nat × Value)} {st : List Value} {S : wPS} (hΦ : Hd κ Φ S) {y : MethodName} {cb : ByteArray} {maxL nA idx : Nat} {ret : Option FieldType} {rm2 : Room} {stk : List Value} (av : List Value) {post : Int32 → Prop} {C : String} {b : Nat} (sd : VD C y cb maxL ret nA) (hlk : Cond.methodLink own idx y ∈ GA) (hrc : ∀ (D : va_G) (cO : ClassId) (H : Heap) (s : State), va_K D vwCl [(cO, .object "java/lang/Object")] s → va_P D vwCl (pool cO S) H → ∃ cell : Cell, H[b]? = some cell ∧ cell.vm.isStatics = false ∧ s.vm.findClass C = some cell.cls) (hM : MR y cb maxL ret rm2 S (.ref b :: av) (vp_Si post)) (hrm : RmOk rm2 rm 0 0 maxL) (hn : av.length = nA) (hstk : stk = av.reverse ++ .ref b :: st) (hw : (st.map fun v => v.category).sum ≤ 8) (hdg : decode cc pc = .ok (.invokevirtual idx, 3)) (kk : ∀ r : Int32, post r → Gj κ Φ (pc + 3) lv (.int r :: st)) : Gj κ Φ pc lv stk := by
  subst hstk
  obtain ⟨p, l, e, R, s, m, args, below, meth, c, Q, D, cO, e0, A, mc, ms⟩ := κ
  obtain ⟨hx, hb, hml, hown, hts, hK, hG, hR, hlk9⟩ := hκ
  intro H locs cells slots ls hF hl
  obtain ⟨hP, hc9, hs9⟩ := hΦ H locs cells slots hF
  exact vp_callSi (va_Run.run (va_runV (As := av) (rest := st) ⟨hx, hb, rfl, hown, hts⟩ (hM l D cO) ⟨cb_of hts (hR ▸ hrm) sd.1.2.2.2 sd.1.2.2.1 sd.2.1 sd.2.2.1 sd.2.2.2 hlk, hts _ sd.1.1, hts _ sd.1.2.1⟩ ⟨CR.blind, hrc D cO H s hK hP, CR.pre hK hG hP⟩ rfl hn hl.1 rfl (lv_room hw) hdg ⟨hc9, hs9⟩)) (fun r hr => kk r hr H locs cells slots ls hF hl)
theorem rV_l {cc : ByteArray} {nL : Nat} {own : String} {rm : Room} {κ : KX} (hκ : Cx cc nL own rm κ) {Φ : HQ} {pc : Nat} {lv : List (Nat × Value)} {st : List Value} {S : wPS} (hΦ : Hd κ Φ S) {y : MethodName} {cb : ByteArray} {maxL nA idx : Nat} {ret : Option FieldType} {rm2 : Room} {stk : List Value} (av : List Value) {post : Int64 → Prop} {C : String} {b : Nat} (sd : VD C y cb maxL ret nA) (hlk : Cond.methodLink own idx y ∈ GA) (hrc : ∀ (D : va_G) (cO : ClassId) (H : Heap) (s : State), va_K D vwCl [(cO, .object "java/lang/Object")] s → va_P D vwCl (pool cO S) H → ∃ cell : Cell, H[b]? = some cell ∧ cell.vm.isStatics = false ∧ s.vm.findClass C = some cell.cls) (hM : MR y cb maxL ret rm2 S (.ref b :: av) (vp_Sl post)) (hrm : RmOk rm2 rm 0 0 maxL) (hn : av.length = nA) (hstk : stk = av.reverse ++ .ref b :: st) (hw : (st.map fun v => v.category).sum ≤ 8) (hdg : decode cc pc = .ok (.invokevirtual idx, 3)) (kk : ∀ r : Int64, post r → Gj κ Φ (pc + 3) lv (.long r :: st)) : Gj κ Φ pc lv stk := by
  subst hstk
  obtain ⟨p, l, e, R, s, m, args, below, meth, c, Q, D, cO, e0, A, mc, ms⟩ := κ
  obtain ⟨hx, hb, hml, hown, hts, hK, hG, hR, hlk9⟩ := hκ
  intro H locs cells slots ls hF hl
  obtain ⟨hP, hc9, hs9⟩ := hΦ H locs cells slots hF
  exact vp_callSl (va_Run.run (va_runV (As := av) (rest := st) ⟨hx, hb, rfl, hown, hts⟩ (hM l D cO) ⟨cb_of hts (hR ▸ hrm) sd.1.2.2.2 sd.1.2.2.1 sd.2.1 sd.2.2.1 sd.2.2.2 hlk, hts _ sd.1.1, hts _ sd.1.2.1⟩ ⟨CR.blind, hrc D cO H s hK hP, CR.pre hK hG hP⟩ rfl hn hl.1 rfl (lv_room hw) hdg ⟨hc9, hs9⟩)) (fun r hr => kk r hr H locs cells slots ls hF hl)
theorem rV_d {cc : ByteArray} {nL : Nat} {own : String} {rm : Room} {κ : KX} (hκ : Cx cc nL own rm κ) {Φ : HQ} {pc : Nat} {lv : List (Nat × Value)} {st : List Value} {S : wPS} (hΦ : Hd κ Φ S) {y : MethodName} {cb : ByteArray} {maxL nA idx : Nat} {ret : Option FieldType} {rm2 : Room} {stk : List Value} (av : List Value) {post : UInt64 → Prop} {C : String} {b : Nat} (sd : VD C y cb maxL ret nA) (hlk : Cond.methodLink own idx y ∈ GA) (hrc : ∀ (D : va_G) (cO : ClassId) (H : Heap) (s : State), va_K D vwCl [(cO, .object "java/lang/Object")] s → va_P D vwCl (pool cO S) H → ∃ cell : Cell, H[b]? = some cell ∧ cell.vm.isStatics = false ∧ s.vm.findClass C = some cell.cls) (hM : MR y cb maxL ret rm2 S (.ref b :: av) (vp_Sd post)) (hrm : RmOk rm2 rm 0 0 maxL) (hn : av.length = nA) (hstk : stk = av.reverse ++ .ref b :: st) (hw : (st.map fun v => v.category).sum ≤ 8) (hdg : decode cc pc = .ok (.invokevirtual idx, 3)) (kk : ∀ r : UInt64, post r → Gj κ Φ (pc + 3) lv (.double r :: st)) : Gj κ Φ pc lv stk := by
  subst hstk
  obtain ⟨p, l, e, R, s, m, args, below, meth, c, Q, D, cO, e0, A, mc, ms⟩ := κ
  obtain ⟨hx, hb, hml, hown, hts, hK, hG, hR, hlk9⟩ := hκ
  intro H locs cells slots ls hF hl
  obtain ⟨hP, hc9, hs9⟩ := hΦ H locs cells slots hF
  exact vp_callSd (va_Run.run (va_runV (As := av) (rest := st) ⟨hx, hb, rfl, hown, hts⟩ (hM l D cO) ⟨cb_of hts (hR ▸ hrm) sd.1.2.2.2 sd.1.2.2.1 sd.2.1 sd.2.2.1 sd.2.2.2 hlk, hts _ sd.1.1, hts _ sd.1.2.1⟩ ⟨CR.blind, hrc D cO H s hK hP, CR.pre hK hG hP⟩ rfl hn hl.1 rfl (lv_room hw) hdg ⟨hc9, hs9⟩)) (fun r hr => kk r hr H locs cells slots ls hF hl)
theorem rV_q {cc : ByteArray} {nL : Nat} {own : String} {rm : Room} {κ : KX} (hκ : Cx cc nL own rm κ) {Φ : HQ} {pc : Nat} {lv : List (Nat × Value)} {st : List Value} {S : wPS} (hΦ : Hd κ Φ S) {y : MethodName} {cb : ByteArray} {maxL nA idx : Nat} {ret : Option FieldType} {rm2 : Room} {stk : List Value} (av : List Value) {post : Option Nat → Prop} {C : String} {b : Nat} (sd : VD C y cb maxL ret nA) (hlk : Cond.methodLink own idx y ∈ GA) (hrc : ∀ (D : va_G) (cO : ClassId) (H : Heap) (s : State), va_K D vwCl [(cO, .object "java/lang/Object")] s → va_P D vwCl (pool cO S) H → ∃ cell : Cell, H[b]? = some cell ∧ cell.vm.isStatics = false ∧ s.vm.findClass C = some cell.cls) (hM : MR y cb maxL ret rm2 S (.ref b :: av) (va_Sq post)) (hrm : RmOk rm2 rm 0 0 maxL) (hn : av.length = nA) (hstk : stk = av.reverse ++ .ref b :: st) (hw : (st.map fun v => v.category).sum ≤ 8) (hdg : decode cc pc = .ok (.invokevirtual idx, 3)) (kk : ∀ r : Option Nat, post r → Gj κ Φ (pc + 3) lv (va_rf r :: st)) : Gj κ Φ pc lv stk := by
  subst hstk
  obtain ⟨p, l, e, R, s, m, args, below, meth, c, Q, D, cO, e0, A, mc, ms⟩ := κ
  obtain ⟨hx, hb, hml, hown, hts, hK, hG, hR, hlk9⟩ := hκ
  intro H locs cells slots ls hF hl
  obtain ⟨hP, hc9, hs9⟩ := hΦ H locs cells slots hF
  exact va_csq (va_Run.run (va_runV (As := av) (rest := st) ⟨hx, hb, rfl, hown, hts⟩ (hM l D cO) ⟨cb_of hts (hR ▸ hrm) sd.1.2.2.2 sd.1.2.2.1 sd.2.1 sd.2.2.1 sd.2.2.2 hlk, hts _ sd.1.1, hts _ sd.1.2.1⟩ ⟨CR.blind, hrc D cO H s hK hP, CR.pre hK hG hP⟩ rfl hn hl.1 rfl (lv_room hw) hdg ⟨hc9, hs9⟩)) (fun r hr => kk r hr H locs cells slots ls hF hl)
theorem rV_v {cc : ByteArray} {nL : Nat} {own : String} {rm : Room} {κ : KX} (hκ : Cx cc nL own rm κ) {Φ : HQ} {pc : Nat} {lv : List (Nat × Value)} {st : List Value} {S : wPS} (hΦ : Hd κ Φ S) {y : MethodName} {cb : ByteArray} {maxL nA idx : Nat} {ret : Option FieldType} {rm2 : Room} {stk : List Value} (av : List Value) {post : Unit → Prop} {C : String} {b : Nat} (sd : VD C y cb maxL ret nA) (hlk : Cond.methodLink own idx y ∈ GA) (hrc : ∀ (D : va_G) (cO : ClassId) (H : Heap) (s : State), va_K D vwCl [(cO, .object "java/lang/Object")] s → va_P D vwCl (pool cO S) H → ∃ cell : Cell, H[b]? = some cell ∧ cell.vm.isStatics = false ∧ s.vm.findClass C = some cell.cls) (hM : MR y cb maxL ret rm2 S (.ref b :: av) (va_Sv post)) (hrm : RmOk rm2 rm 0 0 maxL) (hn : av.length = nA) (hstk : stk = av.reverse ++ .ref b :: st) (hw : (st.map fun v => v.category).sum ≤ 8) (hdg : decode cc pc = .ok (.invokevirtual idx, 3)) (kk : post () → Gj κ Φ (pc + 3) lv st) : Gj κ Φ pc lv stk := by
  subst hstk
  obtain ⟨p, l, e, R, s, m, args, below, meth, c, Q, D, cO, e0, A, mc, ms⟩ := κ
  obtain ⟨hx, hb, hml, hown, hts, hK, hG, hR, hlk9⟩ := hκ
  intro H locs cells slots ls hF hl
  obtain ⟨hP, hc9, hs9⟩ := hΦ H locs cells slots hF
  exact va_csv (va_Run.run (va_runV (As := av) (rest := st) ⟨hx, hb, rfl, hown, hts⟩ (hM l D cO) ⟨cb_of hts (hR ▸ hrm) sd.1.2.2.2 sd.1.2.2.1 sd.2.1 sd.2.2.1 sd.2.2.2 hlk, hts _ sd.1.1, hts _ sd.1.2.1⟩ ⟨CR.blind, hrc D cO H s hK hP, CR.pre hK hG hP⟩ rfl hn hl.1 rfl (lv_room hw) hdg ⟨hc9, hs9⟩)) (fun hr => kk hr H locs cells slots ls hF hl)
theorem rU_i {cc : ByteArray} {nL : Nat} {own : String} {rm : Room} {κ : KX} (hκ : Cx cc nL own rm κ) {Φ : HQ} {pc : Nat} {lv : List (Nat × Value)} {st : List Value} {S : wPS} (hΦ : Hd κ Φ S) {y : MethodName} {cb : ByteArray} {maxL nA idx : Nat} {ret : Option FieldType} {rm2 : Room} {stk : List Value} (av : List Value) {post : Int32 → Prop} {C owner : String} {x : MethodName} {b : Nat} (sd : UD C owner x y cb maxL ret nA) (hlk : Cond.methodLink own idx x ∈ GA) (hde : (⟨owner, x.name, x.desc⟩ : MethodName) ∈ declN) (hrc : ∀ (D : va_G) (cO : ClassId) (H : Heap) (s : State), va_K D vwCl [(cO, .object "java/lang/Object")] s → va_P D vwCl (pool cO S) H → ∃ cell : Cell, H[b]? = some cell ∧ cell.vm.isStatics = false ∧ s.vm.findClass C = some cell.cls) (hM : MR y cb maxL ret rm2 S (.ref b :: av) (vp_Si post)) (hrm : RmOk rm2 rm 0 0 maxL) (hn : av.length = nA) (hstk : stk = av.reverse ++ .ref b :: st) (hw : (st.map fun v => v.category).sum ≤ 8) (hdg : decode cc pc = .ok (.invokevirtual idx, 3)) (kk : ∀ r : Int32, post r → Gj κ Φ (pc + 3) lv (.int r :: st)) : Gj κ Φ pc lv stk := by
  subst hstk
  obtain ⟨p, l, e, R, s, m, args, below, meth, c, Q, D, cO, e0, A, mc, ms⟩ := κ
  obtain ⟨hx, hb, hml, hown, hts, hK, hG, hR, hlk9⟩ := hκ
  intro H locs cells slots ls hF hl
  obtain ⟨hP, hc9, hs9⟩ := hΦ H locs cells slots hF
  exact vp_callSi (va_Run.run (va_runU (As := av) (rest := st) ⟨hx, hb, rfl, hown, hts⟩ (hM l D cO) ⟨⟨hrm.1, hrm.2.1, (hR ▸ hrm).2.2.1, (hR ▸ hrm).2.2.2, pay_in hts (ga_c sd.1.2.2.2.2), List.mem_cons_self⟩, hts _ sd.1.2.2.2.2, hts _ sd.1.2.2.2.1, ⟨sd.2.2.1, sd.2.2.2.1⟩, sig_of sd.2.2.2.2, hts _ hlk, hts _ sd.1.1, va_Decl.abs (hG.dn hde), hts _ sd.1.2.1, hts _ sd.1.2.2.1⟩ ⟨CR.blind, hrc D cO H s hK hP, CR.pre hK hG hP⟩ rfl hn hl.1 rfl (lv_room hw) hdg ⟨hc9, hs9⟩)) (fun r hr => kk r hr H locs cells slots ls hF hl)
theorem vS_v {cc : ByteArray} {nL : Nat} {own : String} {rm : Room} {κ : KX} (hκ : Cx cc nL own rm κ) {pc : Nat} {lv : List (Nat × Value)} {st : List Value} {e9 : Nat × Nat} (hz : Vz e9 κ) {S : wPS} {k n : Nat} {y : MethodName} {cb : ByteArray} {maxL nA idx mc2 ms2 : Nat} {ret : Option FieldType} {rm2 : Room} {stk : List Value} (av : List Value) {post : wPS → Prop} (sd : SD y cb maxL ret nA) (hlk : Cond.methodLink own idx y ∈ GA) (hM : MVv e9 y cb maxL ret rm2 S av post mc2 ms2) (hrm : RmOk rm2 rm mc2 ms2 maxL) (hn : av.length = nA) (hstk : stk = av.reverse ++ st) (hw : (st.map fun v => v.category).sum ≤ 8) (hdg : decode cc pc = .ok (.invokestatic idx, 3)) (hk9 : mc2 ≤ k) (hn9 : ms2 ≤ n) (kk : ∀ S1 : wPS, post S1 → Gj κ (PV κ S1 (k - mc2) (n - ms2)) (pc + 3) lv st) : Gj κ (PV κ S k n) pc lv stk := by
  subst hstk
  obtain ⟨p, l, e, R, s, m, args, below, meth, c, Q, D, cO, e0, A, mc, ms⟩ := κ
  obtain ⟨hx, hb, hml, hown, hts, hK, hG, hR, hlk9⟩ := hκ
  obtain ⟨rfl, hmi, hA, hH, hmc, hms⟩ := hz
  intro H locs cells slots ls hF hl
  obtain ⟨hP, hD, hS, hc, hs⟩ := hF
  have hf9 := pool_free (D := D) hD hS hA
  refine va_callv (va_runS (As := av) (rest := st) ⟨hx, hb, rfl, hown, hts⟩ (hM l D cO H.size) ⟨cb_of hts (hR ▸ hrm) sd.1.2.2 sd.1.2.1 sd.2.1 sd.2.2.1 sd.2.2.2 hlk, hts _ sd.1.1⟩ ⟨CP.blind, CP.pre hK hG hH hmi hP hD hS hA⟩ rfl hn hl.1 rfl (lv_room hw) hdg ⟨by omega, by omega⟩) hS (fun q _ h9 => hf9 q h9) hf9 (fun u t H1 locs1 ht hvm hw1 hB hz1 hk1 hS1 => ?_)
  obtain ⟨hP1, hD1⟩ := hB
  rw [ht] at hP1
  exact kk u hw1 H1 locs1 (cells + mc2) (slots + ms2) ls ⟨hP1, hD1.weaken (fun k9 q9 _ h9 => hf9 q9.1 h9), hS1, by omega, by omega⟩ hl
theorem vS_i {cc : ByteArray} {nL : Nat} {own : String} {rm : Room} {κ : KX} (hκ : Cx cc nL own rm κ) {pc : Nat} {lv : List (Nat × Value)} {st : List Value} {e9 : Nat × Nat} (hz : Vz e9 κ) {S : wPS} {k n : Nat} {y : MethodName} {cb : ByteArray} {maxL nA idx mc2 ms2 : Nat} {ret : Option FieldType} {rm2 : Room} {stk : List Value} (av : List Value) {post : Int32 → wPS → Prop} (sd : SD y cb maxL ret nA) (hlk : Cond.methodLink own idx y ∈ GA) (hM : MVi e9 y cb maxL ret rm2 S av post mc2 ms2) (hrm : RmOk rm2 rm mc2 ms2 maxL) (hn : av.length = nA) (hstk : stk = av.reverse ++ st) (hw : (st.map fun v => v.category).sum ≤ 8) (hdg : decode cc pc = .ok (.invokestatic idx, 3)) (hk9 : mc2 ≤ k) (hn9 : ms2 ≤ n) (kk : ∀ (r : Int32) (S1 : wPS), post r S1 → Gj κ (PV κ S1 (k - mc2) (n - ms2)) (pc + 3) lv (.int r :: st)) : Gj κ (PV κ S k n) pc lv stk := by
  subst hstk
  obtain ⟨p, l, e, R, s, m, args, below, meth, c, Q, D, cO, e0, A, mc, ms⟩ := κ
  obtain ⟨hx, hb, hml, hown, hts, hK, hG, hR, hlk9⟩ := hκ
  obtain ⟨rfl, hmi, hA, hH, hmc, hms⟩ := hz
  intro H locs cells slots ls hF hl
  obtain ⟨hP, hD, hS, hc, hs⟩ := hF
  have hf9 := pool_free (D := D) hD hS hA
  refine va_calli (va_runS (As := av) (rest := st) ⟨hx, hb, rfl, hown, hts⟩ (hM l D cO H.size) ⟨cb_of hts (hR ▸ hrm) sd.1.2.2 sd.1.2.1 sd.2.1 sd.2.2.1 sd.2.2.2 hlk, hts _ sd.1.1⟩ ⟨CP.blind, CP.pre hK hG hH hmi hP hD hS hA⟩ rfl hn hl.1 rfl (lv_room hw) hdg ⟨by omega, by omega⟩) hS (fun q _ h9 => hf9 q h9) hf9 (fun r u t H1 locs1 ht hvm hw1 hB hz1 hk1 hS1 => ?_)
  obtain ⟨hP1, hD1⟩ := hB
  rw [ht] at hP1
  exact kk r u hw1 H1 locs1 (cells + mc2) (slots + ms2) ls ⟨hP1, hD1.weaken (fun k9 q9 _ h9 => hf9 q9.1 h9), hS1, by omega, by omega⟩ hl
theorem vS_q {cc : ByteArray} {nL : Nat} {own : String} {rm : Room} {κ : KX} (hκ : Cx cc nL own rm κ) {pc : Nat} {lv : List (Nat × Value)} {st : List Value} {e9 : Nat × Nat} (hz : Vz e9 κ) {S : wPS} {k n : Nat} {y : MethodName} {cb : ByteArray} {maxL nA idx mc2 ms2 : Nat} {ret : Option FieldType} {rm2 : Room} {stk : List Value} (av : List Value) {post : Option Nat → wPS → Prop} (sd : SD y cb maxL ret nA) (hlk : Cond.methodLink own idx y ∈ GA) (hM : MVq e9 y cb maxL ret rm2 S av post mc2 ms2) (hrm : RmOk rm2 rm mc2 ms2 maxL) (hn : av.length = nA) (hstk : stk = av.reverse ++ st) (hw : (st.map fun v => v.category).sum ≤ 8) (hdg : decode cc pc = .ok (.invokestatic idx, 3)) (hk9 : mc2 ≤ k) (hn9 : ms2 ≤ n) (kk : ∀ (r : Option Nat) (S1 : wPS), post r S1 → Gj κ (PV κ S1 (k - mc2) (n - ms2)) (pc + 3) lv (va_rf r :: st)) : Gj κ (PV κ S k n) pc lv stk := by
  subst hstk
  obtain ⟨p, l, e, R, s, m, args, below, meth, c, Q, D, cO, e0, A, mc, ms⟩ := κ
  obtain ⟨hx, hb, hml, hown, hts, hK, hG, hR, hlk9⟩ := hκ
  obtain ⟨rfl, hmi, hA, hH, hmc, hms⟩ := hz
  intro H locs cells slots ls hF hl
  obtain ⟨hP, hD, hS, hc, hs⟩ := hF
  have hf9 := pool_free (D := D) hD hS hA
  refine va_callq (va_runS (As := av) (rest := st) ⟨hx, hb, rfl, hown, hts⟩ (hM l D cO H.size) ⟨cb_of hts (hR ▸ hrm) sd.1.2.2 sd.1.2.1 sd.2.1 sd.2.2.1 sd.2.2.2 hlk, hts _ sd.1.1⟩ ⟨CP.blind, CP.pre hK hG hH hmi hP hD hS hA⟩ rfl hn hl.1 rfl (lv_room hw) hdg ⟨by omega, by omega⟩) hS (fun q _ h9 => hf9 q h9) hf9 (fun r u t H1 locs1 ht hvm hw1 hB hz1 hk1 hS1 => ?_)
  obtain ⟨hP1, hD1⟩ := hB
  rw [ht] at hP1
  exact kk r u hw1 H1 locs1 (cells + mc2) (slots + ms2) ls ⟨hP1, hD1.weaken (fun k9 q9 _ h9 => hf9 q9.1 h9), hS1, by omega, by omega⟩ hl
theorem vV_v {cc : ByteArray} {nL : Nat} {own : String} {rm : Room} {κ : KX} (hκ : Cx cc nL own rm κ) {pc : Nat} {lv : List (Nat × Value)} {st : List Value} {e9 : Nat × Nat} (hz : Vz e9 κ) {S : wPS} {k n : Nat} {y : MethodName} {cb : ByteArray} {maxL nA idx mc2 ms2 : Nat} {ret : Option FieldType} {rm2 : Room} {stk : List Value} (av : List Value) {post : wPS → Prop} {C : String} {b : Nat} (sd : VD C y cb maxL ret nA) (hlk : Cond.methodLink own idx y ∈ GA) (hrc : ∀ (D : va_G) (cO : ClassId) (H : Heap) (s : State), va_K D vwCl [(cO, .object "java/lang/Object")] s → va_P D vwCl (pool cO S) H → ∃ cell : Cell, H[b]? = some cell ∧ cell.vm.isStatics = false ∧ s.vm.findClass C = some cell.cls) (hM : MVv e9 y cb maxL ret rm2 S (.ref b :: av) post mc2 ms2) (hrm : RmOk rm2 rm mc2 ms2 maxL) (hn : av.length = nA) (hstk : stk = av.reverse ++ .ref b :: st) (hw : (st.map fun v => v.category).sum ≤ 8) (hdg : decode cc pc = .ok (.invokevirtual idx, 3)) (hk9 : mc2 ≤ k) (hn9 : ms2 ≤ n) (kk : ∀ S1 : wPS, post S1 → Gj κ (PV κ S1 (k - mc2) (n - ms2)) (pc + 3) lv st) : Gj κ (PV κ S k n) pc lv stk := by
  subst hstk
  obtain ⟨p, l, e, R, s, m, args, below, meth, c, Q, D, cO, e0, A, mc, ms⟩ := κ
  obtain ⟨hx, hb, hml, hown, hts, hK, hG, hR, hlk9⟩ := hκ
  obtain ⟨rfl, hmi, hA, hH, hmc, hms⟩ := hz
  intro H locs cells slots ls hF hl
  obtain ⟨hP, hD, hS, hc, hs⟩ := hF
  have hf9 := pool_free (D := D) hD hS hA
  refine va_callv (va_runV (As := av) (rest := st) ⟨hx, hb, rfl, hown, hts⟩ (hM l D cO H.size) ⟨cb_of hts (hR ▸ hrm) sd.1.2.2.2 sd.1.2.2.1 sd.2.1 sd.2.2.1 sd.2.2.2 hlk, hts _ sd.1.1, hts _ sd.1.2.1⟩ ⟨CP.blind, hrc D cO H s hK hP, CP.pre hK hG hH hmi hP hD hS hA⟩ rfl hn hl.1 rfl (lv_room hw) hdg ⟨by omega, by omega⟩) hS (fun q _ h9 => hf9 q h9) hf9 (fun u t H1 locs1 ht hvm hw1 hB hz1 hk1 hS1 => ?_)
  obtain ⟨hP1, hD1⟩ := hB
  rw [ht] at hP1
  exact kk u hw1 H1 locs1 (cells + mc2) (slots + ms2) ls ⟨hP1, hD1.weaken (fun k9 q9 _ h9 => hf9 q9.1 h9), hS1, by omega, by omega⟩ hl
theorem vV_i {cc : ByteArray} {nL : Nat} {own : String} {rm : Room} {κ : KX} (hκ : Cx cc nL own rm κ) {pc : Nat} {lv : List (Nat × Value)} {st : List Value} {e9 : Nat × Nat} (hz : Vz e9 κ) {S : wPS} {k n : Nat} {y : MethodName} {cb : ByteArray} {maxL nA idx mc2 ms2 : Nat} {ret : Option FieldType} {rm2 : Room} {stk : List Value} (av : List Value) {post : Int32 → wPS → Prop} {C : String} {b : Nat} (sd : VD C y cb maxL ret nA) (hlk : Cond.methodLink own idx y ∈ GA) (hrc : ∀ (D : va_G) (cO : ClassId) (H : Heap) (s : State), va_K D vwCl [(cO, .object "java/lang/Object")] s → va_P D vwCl (pool cO S) H → ∃ cell : Cell, H[b]? = some cell ∧ cell.vm.isStatics = false ∧ s.vm.findClass C = some cell.cls) (hM : MVi e9 y cb maxL ret rm2 S (.ref b :: av) post mc2 ms2) (hrm : RmOk rm2 rm mc2 ms2 maxL) (hn : av.length = nA) (hstk : stk = av.reverse ++ .ref b :: st) (hw : (st.map fun v => v.category).sum ≤ 8) (hdg : decode cc pc = .ok (.invokevirtual idx, 3)) (hk9 : mc2 ≤ k) (hn9 : ms2 ≤ n) (kk : ∀ (r : Int32) (S1 : wPS), post r S1 → Gj κ (PV κ S1 (k - mc2) (n - ms2)) (pc + 3) lv (.int r :: st)) : Gj κ (PV κ S k n) pc lv stk := by
  subst hstk
  obtain ⟨p, l, e, R, s, m, args, below, meth, c, Q, D, cO, e0, A, mc, ms⟩ := κ
  obtain ⟨hx, hb, hml, hown, hts, hK, hG, hR, hlk9⟩ := hκ
  obtain ⟨rfl, hmi, hA, hH, hmc, hms⟩ := hz
  intro H locs cells slots ls hF hl
  obtain ⟨hP, hD, hS, hc, hs⟩ := hF
  have hf9 := pool_free (D := D) hD hS hA
  refine va_calli (va_runV (As := av) (rest := st) ⟨hx, hb, rfl, hown, hts⟩ (hM l D cO H.size) ⟨cb_of hts (hR ▸ hrm) sd.1.2.2.2 sd.1.2.2.1 sd.2.1 sd.2.2.1 sd.2.2.2 hlk, hts _ sd.1.1, hts _ sd.1.2.1⟩ ⟨CP.blind, hrc D cO H s hK hP, CP.pre hK hG hH hmi hP hD hS hA⟩ rfl hn hl.1 rfl (lv_room hw) hdg ⟨by omega, by omega⟩) hS (fun q _ h9 => hf9 q h9) hf9 (fun r u t H1 locs1 ht hvm hw1 hB hz1 hk1 hS1 => ?_)
  obtain ⟨hP1, hD1⟩ := hB
  rw [ht] at hP1
  exact kk r u hw1 H1 locs1 (cells + mc2) (slots + ms2) ls ⟨hP1, hD1.weaken (fun k9 q9 _ h9 => hf9 q9.1 h9), hS1, by omega, by omega⟩ hl
theorem vV_q {cc : ByteArray} {nL : Nat} {own : String} {rm : Room} {κ : KX} (hκ : Cx cc nL own rm κ) {pc : Nat} {lv : List (Nat × Value)} {st : List Value} {e9 : Nat × Nat} (hz : Vz e9 κ) {S : wPS} {k n : Nat} {y : MethodName} {cb : ByteArray} {maxL nA idx mc2 ms2 : Nat} {ret : Option FieldType} {rm2 : Room} {stk : List Value} (av : List Value) {post : Option Nat → wPS → Prop} {C : String} {b : Nat} (sd : VD C y cb maxL ret nA) (hlk : Cond.methodLink own idx y ∈ GA) (hrc : ∀ (D : va_G) (cO : ClassId) (H : Heap) (s : State), va_K D vwCl [(cO, .object "java/lang/Object")] s → va_P D vwCl (pool cO S) H → ∃ cell : Cell, H[b]? = some cell ∧ cell.vm.isStatics = false ∧ s.vm.findClass C = some cell.cls) (hM : MVq e9 y cb maxL ret rm2 S (.ref b :: av) post mc2 ms2) (hrm : RmOk rm2 rm mc2 ms2 maxL) (hn : av.length = nA) (hstk : stk = av.reverse ++ .ref b :: st) (hw : (st.map fun v => v.category).sum ≤ 8) (hdg : decode cc pc = .ok (.invokevirtual idx, 3)) (hk9 : mc2 ≤ k) (hn9 : ms2 ≤ n) (kk : ∀ (r : Option Nat) (S1 : wPS), post r S1 → Gj κ (PV κ S1 (k - mc2) (n - ms2)) (pc + 3) lv (va_rf r :: st)) : Gj κ (PV κ S k n) pc lv stk := by
  subst hstk
  obtain ⟨p, l, e, R, s, m, args, below, meth, c, Q, D, cO, e0, A, mc, ms⟩ := κ
  obtain ⟨hx, hb, hml, hown, hts, hK, hG, hR, hlk9⟩ := hκ
  obtain ⟨rfl, hmi, hA, hH, hmc, hms⟩ := hz
  intro H locs cells slots ls hF hl
  obtain ⟨hP, hD, hS, hc, hs⟩ := hF
  have hf9 := pool_free (D := D) hD hS hA
  refine va_callq (va_runV (As := av) (rest := st) ⟨hx, hb, rfl, hown, hts⟩ (hM l D cO H.size) ⟨cb_of hts (hR ▸ hrm) sd.1.2.2.2 sd.1.2.2.1 sd.2.1 sd.2.2.1 sd.2.2.2 hlk, hts _ sd.1.1, hts _ sd.1.2.1⟩ ⟨CP.blind, hrc D cO H s hK hP, CP.pre hK hG hH hmi hP hD hS hA⟩ rfl hn hl.1 rfl (lv_room hw) hdg ⟨by omega, by omega⟩) hS (fun q _ h9 => hf9 q h9) hf9 (fun r u t H1 locs1 ht hvm hw1 hB hz1 hk1 hS1 => ?_)
  obtain ⟨hP1, hD1⟩ := hB
  rw [ht] at hP1
  exact kk r u hw1 H1 locs1 (cells + mc2) (slots + ms2) ls ⟨hP1, hD1.weaken (fun k9 q9 _ h9 => hf9 q9.1 h9), hS1, by omega, by omega⟩ hl
theorem vI_v {cc : ByteArray} {nL : Nat} {own : String} {rm : Room} {κ : KX} (hκ : Cx cc nL own rm κ) {pc : Nat} {lv : List (Nat × Value)} {st : List Value} {e9 : Nat × Nat} (hz : Vz e9 κ) {S : wPS} {k n : Nat} {y : MethodName} {cb : ByteArray} {maxL nA idx mc2 ms2 : Nat}  {rm2 : Room} {stk : List Value} (av : List Value) {post : wPS → Prop} {b : Nat} (sd : ID y cb maxL nA) (hlk : Cond.methodLink own idx y ∈ GA) (hM : MVv e9 y cb maxL none rm2 S (.ref b :: av) post mc2 ms2) (hrm : RmOk rm2 rm mc2 ms2 maxL) (hn : av.length = nA) (hstk : stk = av.reverse ++ .ref b :: st) (hw : (st.map fun v => v.category).sum ≤ 8) (hdg : decode cc pc = .ok (.invokespecial idx, 3)) (hk9 : mc2 ≤ k) (hn9 : ms2 ≤ n) (kk : ∀ S1 : wPS, post S1 → Gj κ (PV κ S1 (k - mc2) (n - ms2)) (pc + 3) lv st) : Gj κ (PV κ S k n) pc lv stk := by
  subst hstk
  obtain ⟨p, l, e, R, s, m, args, below, meth, c, Q, D, cO, e0, A, mc, ms⟩ := κ
  obtain ⟨hx, hb, hml, hown, hts, hK, hG, hR, hlk9⟩ := hκ
  obtain ⟨rfl, hmi, hA, hH, hmc, hms⟩ := hz
  intro H locs cells slots ls hF hl
  obtain ⟨hP, hD, hS, hc, hs⟩ := hF
  have hf9 := pool_free (D := D) hD hS hA
  refine va_callv (va_runI (As := av) (rest := st) ⟨hx, hb, rfl, hown, hts⟩ (hM l D cO H.size) ⟨cb_of hts (hR ▸ hrm) sd.1.2.2 sd.1.2.1 sd.2.2.1 sd.2.2.2.1 sd.2.2.2.2 hlk, sd.2.1, hts _ sd.1.1⟩ ⟨CP.blind, CP.pre hK hG hH hmi hP hD hS hA⟩ rfl hn hl.1 rfl (lv_room hw) hdg ⟨by omega, by omega⟩) hS (fun q _ h9 => hf9 q h9) hf9 (fun u t H1 locs1 ht hvm hw1 hB hz1 hk1 hS1 => ?_)
  obtain ⟨hP1, hD1⟩ := hB
  rw [ht] at hP1
  exact kk u hw1 H1 locs1 (cells + mc2) (slots + ms2) ls ⟨hP1, hD1.weaken (fun k9 q9 _ h9 => hf9 q9.1 h9), hS1, by omega, by omega⟩ hl
theorem vIN_v {cc : ByteArray} {nL : Nat} {own : String} {rm : Room} {κ : KX} (hκ : Cx cc nL own rm κ) {pc : Nat} {lv : List (Nat × Value)} {st : List Value} {e9 : Nat × Nat} (hz : Vz e9 κ) {S : wPS} {k n : Nat} {y : MethodName} {cb : ByteArray} {maxL nA idx mc2 ms2 : Nat}  {rm2 : Room} {stk : List Value} (av : List Value) {post : wPS → Prop} {b : Nat} (sd : ID y cb maxL nA) {host : String} (hlk : (own, idx, y, host) ∈ nestM) (hM : MVv e9 y cb maxL none rm2 S (.ref b :: av) post mc2 ms2) (hrm : RmOk rm2 rm mc2 ms2 maxL) (hn : av.length = nA) (hstk : stk = av.reverse ++ .ref b :: st) (hw : (st.map fun v => v.category).sum ≤ 8) (hdg : decode cc pc = .ok (.invokespecial idx, 3)) (hk9 : mc2 ≤ k) (hn9 : ms2 ≤ n) (kk : ∀ S1 : wPS, post S1 → Gj κ (PV κ S1 (k - mc2) (n - ms2)) (pc + 3) lv st) : Gj κ (PV κ S k n) pc lv stk := by
  subst hstk
  obtain ⟨p, l, e, R, s, m, args, below, meth, c, Q, D, cO, e0, A, mc, ms⟩ := κ
  obtain ⟨hx, hb, hml, hown, hts, hK, hG, hR, hlk9⟩ := hκ
  obtain ⟨rfl, hmi, hA, hH, hmc, hms⟩ := hz
  intro H locs cells slots ls hF hl
  obtain ⟨hP, hD, hS, hc, hs⟩ := hF
  have hf9 := pool_free (D := D) hD hS hA
  refine va_callv (va_runIN (As := av) (rest := st) ⟨hx, hb, rfl, hown, hts⟩ (hM l D cO H.size) ⟨cn_of hts hG (hR ▸ hrm) sd.1.2.2 sd.1.2.1 sd.2.2.1 sd.2.2.2.1 sd.2.2.2.2 hlk, sd.2.1, hts _ sd.1.1⟩ ⟨CP.blind, CP.pre hK hG hH hmi hP hD hS hA⟩ rfl hn hl.1 rfl (lv_room hw) hdg ⟨by omega, by omega⟩) hS (fun q _ h9 => hf9 q h9) hf9 (fun u t H1 locs1 ht hvm hw1 hB hz1 hk1 hS1 => ?_)
  obtain ⟨hP1, hD1⟩ := hB
  rw [ht] at hP1
  exact kk u hw1 H1 locs1 (cells + mc2) (slots + ms2) ls ⟨hP1, hD1.weaken (fun k9 q9 _ h9 => hf9 q9.1 h9), hS1, by omega, by omega⟩ hl
theorem vU_v {cc : ByteArray} {nL : Nat} {own : String} {rm : Room} {κ : KX} (hκ : Cx cc nL own rm κ) {pc : Nat} {lv : List (Nat × Value)} {st : List Value} {e9 : Nat × Nat} (hz : Vz e9 κ) {S : wPS} {k n : Nat} {y : MethodName} {cb : ByteArray} {maxL nA idx mc2 ms2 : Nat} {ret : Option FieldType} {rm2 : Room} {stk : List Value} (av : List Value) {post : wPS → Prop} {C owner : String} {x : MethodName} {b : Nat} (sd : UD C owner x y cb maxL ret nA) (hlk : Cond.methodLink own idx x ∈ GA) (hde : (⟨owner, x.name, x.desc⟩ : MethodName) ∈ declN) (hrc : ∀ (D : va_G) (cO : ClassId) (H : Heap) (s : State), va_K D vwCl [(cO, .object "java/lang/Object")] s → va_P D vwCl (pool cO S) H → ∃ cell : Cell, H[b]? = some cell ∧ cell.vm.isStatics = false ∧ s.vm.findClass C = some cell.cls) (hM : MVv e9 y cb maxL ret rm2 S (.ref b :: av) post mc2 ms2) (hrm : RmOk rm2 rm mc2 ms2 maxL) (hn : av.length = nA) (hstk : stk = av.reverse ++ .ref b :: st) (hw : (st.map fun v => v.category).sum ≤ 8) (hdg : decode cc pc = .ok (.invokevirtual idx, 3)) (hk9 : mc2 ≤ k) (hn9 : ms2 ≤ n) (kk : ∀ S1 : wPS, post S1 → Gj κ (PV κ S1 (k - mc2) (n - ms2)) (pc + 3) lv st) : Gj κ (PV κ S k n) pc lv stk := by
  subst hstk
  obtain ⟨p, l, e, R, s, m, args, below, meth, c, Q, D, cO, e0, A, mc, ms⟩ := κ
  obtain ⟨hx, hb, hml, hown, hts, hK, hG, hR, hlk9⟩ := hκ
  obtain ⟨rfl, hmi, hA, hH, hmc, hms⟩ := hz
  intro H locs cells slots ls hF hl
  obtain ⟨hP, hD, hS, hc, hs⟩ := hF
  have hf9 := pool_free (D := D) hD hS hA
  refine va_callv (va_runU (As := av) (rest := st) ⟨hx, hb, rfl, hown, hts⟩ (hM l D cO H.size) ⟨⟨hrm.1, hrm.2.1, (hR ▸ hrm).2.2.1, (hR ▸ hrm).2.2.2, pay_in hts (ga_c sd.1.2.2.2.2), List.mem_cons_self⟩, hts _ sd.1.2.2.2.2, hts _ sd.1.2.2.2.1, ⟨sd.2.2.1, sd.2.2.2.1⟩, sig_of sd.2.2.2.2, hts _ hlk, hts _ sd.1.1, va_Decl.abs (hG.dn hde), hts _ sd.1.2.1, hts _ sd.1.2.2.1⟩ ⟨CP.blind, hrc D cO H s hK hP, CP.pre hK hG hH hmi hP hD hS hA⟩ rfl hn hl.1 rfl (lv_room hw) hdg ⟨by omega, by omega⟩) hS (fun q _ h9 => hf9 q h9) hf9 (fun u t H1 locs1 ht hvm hw1 hB hz1 hk1 hS1 => ?_)
  obtain ⟨hP1, hD1⟩ := hB
  rw [ht] at hP1
  exact kk u hw1 H1 locs1 (cells + mc2) (slots + ms2) ls ⟨hP1, hD1.weaken (fun k9 q9 _ h9 => hf9 q9.1 h9), hS1, by omega, by omega⟩ hl
theorem wU_Arr {A : Nat → Prop} (cO : ClassId) (S : wPS) {a k : Nat} (hD : va_D A (pool cO S)) (hO : a ∈ sL S ∧ sK S a = 12) (hk : (pool cO S)[k]? = some (a, wF cO S a)) (f : Nat → Option Nat) : (pool cO S).set k (a, .inl (cO, sN S a, .inr (.inr (.inr (.inr f))))) = pool cO (putW S a f) := by
  refine w_set hD hO.1 hk rfl (fun b hb => ?_) ?_
  · have h : sW (putW S a f) b = sW S b := if_neg hb
    show wE cO (sK S b) (fun c2 => sI S c2 b) (fun c2 => sR S c2 b) (sN S b) (sW (putW S a f) b) = _
    rw [h]; rfl
  · refine (wA_Arr cO (putW S a f) hO.2).trans ?_
    have h : sW (putW S a f) a = f := if_pos rfl
    rw [h]; rfl
theorem ga_len {cc : ByteArray} {nL : Nat} {own : String} {rm : Room} {κ : KX} (hκ : Cx cc nL own rm κ) {Φ : HQ} {pc : Nat} {lv : List (Nat × Value)} {st : List Value} {S : wPS} (hΦ : Hd κ Φ S) {a : Nat} (hO : a ∈ sL S ∧ sK S a = 12) (hdg : decode cc pc = .ok (.arraylength, 1)) (kk : Gj κ Φ (pc + 1) lv (.int (Int32.ofNat (sN S a)) :: st)) : Gj κ Φ pc lv (.ref a :: st) := by
  obtain ⟨p, l, e, R, s, m, args, below, meth, c, Q, D, cO, e0, A, mc, ms⟩ := κ
  obtain ⟨hx, hb, hml, hown, hts, hK, hG, hR, hlk9⟩ := hκ
  intro H locs cells slots ls hF hl
  obtain ⟨k0, hk0, hk1⟩ := wG_Arr cO S hO
  exact va_alen hx hb hK (hΦ H locs cells slots hF).1 k0 0 hk1 rfl rfl hdg (kk H locs cells slots ls hF hl)
theorem ga_ald {cc : ByteArray} {nL : Nat} {own : String} {rm : Room} {κ : KX} (hκ : Cx cc nL own rm κ) {Φ : HQ} {pc : Nat} {lv : List (Nat × Value)} {st : List Value} {S : wPS} (hΦ : Hd κ Φ S) {a : Nat} {i : Int32} (hO : a ∈ sL S ∧ sK S a = 12) (hin : vp_in i (sN S a)) (hdg : decode cc pc = .ok (.aaload, 1)) (kk : Gj κ Φ (pc + 1) lv (va_rf (sW S a i.toNatClampNeg) :: st)) : Gj κ Φ pc lv (.int i :: .ref a :: st) := by
  obtain ⟨p, l, e, R, s, m, args, below, meth, c, Q, D, cO, e0, A, mc, ms⟩ := κ
  obtain ⟨hx, hb, hml, hown, hts, hK, hG, hR, hlk9⟩ := hκ
  intro H locs cells slots ls hF hl
  obtain ⟨k0, hk0, hk1⟩ := wG_Arr cO S hO
  exact va_aldq hx hb hK (hΦ H locs cells slots hF).1 k0 0 hk1 rfl hin hdg (kk H locs cells slots ls hF hl)
theorem ga_e0len {cc : ByteArray} {nL : Nat} {own : String} {rm : Room} {κ : KX} (hκ : Cx cc nL own rm κ) {pc : Nat} {lv : List (Nat × Value)} {st : List Value} {e9 : Nat × Nat} (hz : Vz e9 κ) {S : wPS} {k n : Nat} (hdg : decode cc pc = .ok (.arraylength, 1)) (kk : Gj κ (PV κ S k n) (pc + 1) lv (.int 0 :: st)) : Gj κ (PV κ S k n) pc lv (.ref e9.1 :: st) := by
  obtain ⟨p, l, e, R, s, m, args, below, meth, c, Q, D, cO, e0, A, mc, ms⟩ := κ
  obtain ⟨hx, hb, hml, hown, hts, hK, hG, hR, hlk9⟩ := hκ
  obtain ⟨rfl, hmi, hA, hH, hmc, hms⟩ := hz
  intro H locs cells slots ls hF hl
  exact va_tlen hx hb hH.2.1 hF.2.2.1 rfl hdg (kk H locs cells slots ls hF hl)
theorem ga_e0 {cc : ByteArray} {nL : Nat} {own : String} {rm : Room} {κ : KX} (hκ : Cx cc nL own rm κ) {pc : Nat} {lv : List (Nat × Value)} {st : List Value} {e9 : Nat × Nat} (hz : Vz e9 κ) {S : wPS} {k n idx : Nat} (hlink : Cond.fieldLink own idx "java/util/ArrayList" "DEFAULTCAPACITY_EMPTY_ELEMENTDATA" "[Ljava/lang/Object;" ∈ GA) (hdg : decode cc pc = .ok (.getstatic idx, 3)) (kk : Gj κ (PV κ S k n) (pc + 3) lv (.ref e9.1 :: st)) : Gj κ (PV κ S k n) pc lv st := by
  obtain ⟨p, l, e, R, s, m, args, below, meth, c, Q, D, cO, e0, A, mc, ms⟩ := κ
  obtain ⟨hx, hb, hml, hown, hts, hK, hG, hR, hlk9⟩ := hκ
  obtain ⟨rfl, hmi, hA, hH, hmc, hms⟩ := hz
  intro H locs cells slots ls hF hl
  exact va_gets hx hb hH.1 hF.2.2.1 hown (hts _ hlink) (fun _ h9 => h9) hdg (kk H locs cells slots ls hF hl)
theorem ga_ast {cc : ByteArray} {nL : Nat} {own : String} {rm : Room} {κ : KX} (hκ : Cx cc nL own rm κ) {pc : Nat} {lv : List (Nat × Value)} {st : List Value} {e9 : Nat × Nat} (hz : Vz e9 κ) {S : wPS} {k n a v : Nat} {i : Int32} {C : String} (hO : a ∈ sL S ∧ sK S a = 12) (hin : vp_in i (sN S a)) (hca : C ∈ castO) (hrc : ∀ (D : va_G) (cO : ClassId) (H : Heap) (s : State), va_K D vwCl [(cO, .object "java/lang/Object")] s → va_P D vwCl (pool cO S) H → ∃ cell : Cell, H[v]? = some cell ∧ cell.vm.isStatics = false ∧ s.vm.findClass C = some cell.cls) (hdg : decode cc pc = .ok (.aastore, 1)) (kk : Gj κ (PV κ (putW S a (va_up (sW S a) i.toNatClampNeg (some v))) k n) (pc + 1) lv st) : Gj κ (PV κ S k n) pc lv (.ref v :: .int i :: .ref a :: st) := by
  obtain ⟨p, l, e, R, s, m, args, below, meth, c, Q, D, cO, e0, A, mc, ms⟩ := κ
  obtain ⟨hx, hb, hml, hown, hts, hK, hG, hR, hlk9⟩ := hκ
  obtain ⟨rfl, hmi, hA, hH, hmc, hms⟩ := hz
  intro H locs cells slots ls hF hl
  obtain ⟨hP, hD, hS, hc, hs⟩ := hF
  obtain ⟨k0, hk0, hk1⟩ := wG_Arr cO S hO
  have eq9 := wU_Arr cO S hD hO hk0 (va_up (sW S a) i.toNatClampNeg (some v))
  refine vb_astq hx hb hK hP hD hS k0 0 hk1 rfl (hrc D cO H s hK hP) (vb_asgC (hG.co hca)) hin hdg (fun H1 locs1 hP1 hD1 hS1 => ?_)
  exact kk H1 locs1 cells slots ls ⟨Eq.mp (congrArg (fun z => va_P D vwCl z H1) eq9) hP1, Eq.mp (congrArg (fun z => va_D A z) eq9) hD1, hS1, hc, hs⟩ hl
theorem arr_one {D : va_G} {cO cA : ClassId} {s : State} (hK : va_K D vwCl ([(cO, .object "java/lang/Object")] ++ [(cA, .object "java/lang/Object")]) s) : cA = cO := by
  obtain ⟨-, k1, c1, -, -, -, h1⟩ := hK.2 0 _ rfl
  obtain ⟨-, k2, c2, -, -, -, h2⟩ := hK.2 1 _ rfl
  exact Option.some.inj (h2.symm.trans h1)
theorem ga_new {cc : ByteArray} {nL : Nat} {own : String} {rm : Room} {κ : KX} (hκ : Cx cc nL own rm κ) {pc : Nat} {lv : List (Nat × Value)} {st : List Value} {e9 : Nat × Nat} (hz : Vz e9 κ) {S : wPS} {k n idx N : Nat} {i : Int32} (hcl : Cond.classLink own idx "java/lang/Object" ∈ GA) (h0 : ¬ i < 0) (hN : i.toNatClampNeg = N) (hN2 : N ≤ 100000) (hk : 1 ≤ k) (hn : N ≤ n) (hdg : decode cc pc = .ok (.anewarray idx, 3)) (kk : ∀ a : Nat, a ∉ sL S → Gj κ (PV κ (newS S a 12 N) (k - 1) (n - N)) (pc + 3) lv (.ref a :: st)) : Gj κ (PV κ S k n) pc lv (.int i :: st) := by
  obtain ⟨p, l, e, R, s, m, args, below, meth, c, Q, D, cO, e0, A, mc, ms⟩ := κ
  obtain ⟨hx, hb, hml, hown, hts, hK, hG, hR, hlk9⟩ := hκ
  obtain ⟨rfl, hmi, hA, hH, hmc, hms⟩ := hz
  intro H locs cells slots ls hF hl
  obtain ⟨hP, hD, hS, hc, hs⟩ := hF
  refine va_newq hx hb hown (hts _ hcl) hG.ao hK hP hD hS hA h0 hN (by omega) (by omega) (by omega) hdg (fun a cA H1 hK1 hP1 hD1 hS1 => ?_)
  obtain rfl := arr_one hK1
  obtain ⟨eq9, hf⟩ := w_new cA S 12 N hD1 rfl
  exact kk a hf H1 locs (cells + 1) (slots + N) ls ⟨Eq.mp (congrArg (fun z => va_P D vwCl z H1) eq9) hP1, Eq.mp (congrArg (fun z => va_D A z) eq9) hD1, hS1, by omega, by omega⟩ hl
theorem g_e0out {cc : ByteArray} {nL : Nat} {own : String} {rm : Room} {κ : KX} (hκ : Cx cc nL own rm κ) {pc : Nat} {lv : List (Nat × Value)} {st : List Value} {e9 : Nat × Nat} (hz : Vz e9 κ) {S : wPS} {k n : Nat} (kk : e9.1 ∉ sL S → Gj κ (PV κ S k n) pc lv st) : Gj κ (PV κ S k n) pc lv st := by
  obtain ⟨p, l, e, R, s, m, args, below, meth, c, Q, D, cO, e0, A, mc, ms⟩ := κ
  obtain ⟨hx, hb, hml, hown, hts, hK, hG, hR, hlk9⟩ := hκ
  obtain ⟨rfl, hmi, hA, hH, hmc, hms⟩ := hz
  intro H locs cells slots ls hF hl
  refine kk (fun h9 => ?_) H locs cells slots ls hF hl
  obtain ⟨k9, hk9⟩ := List.getElem?_of_mem h9
  obtain ⟨cell9, -, -, -, -, -, -, hn9⟩ := hH.2.1
  exact hn9 (hF.2.1.2 k9 (e9.1, wF cO S e9.1) (by show (va_pl (sL S) (wF cO S))[k9]? = _; simp [va_pl, hk9]))
theorem g_ldcM {cc : ByteArray} {nL : Nat} {own : String} {rm : Room} {κ : KX} (hκ : Cx cc nL own rm κ) {pc : Nat} {lv : List (Nat × Value)} {st : List Value} {e9 : Nat × Nat} (hz : Vz e9 κ) {S : wPS} {k n idx : Nat} (hlk : Cond.classLink own idx "[Ljava/lang/Object;" ∈ GA) (hdg : decode cc pc = .ok (.ldc idx, 2)) (kk : Gj κ (PV κ S k n) (pc + 2) lv (.ref e9.2 :: st)) : Gj κ (PV κ S k n) pc lv st := by
  obtain ⟨p, l, e, R, s, m, args, below, meth, c, Q, D, cO, e0, A, mc, ms⟩ := κ
  obtain ⟨hx, hb, hml, hown, hts, hK, hG, hR, hlk9⟩ := hκ
  obtain ⟨rfl, hmi, hA, hH, hmc, hms⟩ := hz
  intro H locs cells slots ls hF hl
  exact va_ldcM hx hb hown (hts _ hlk) hmi hdg (kk H locs cells slots ls hF hl)
theorem rcArr {D : va_G} {cO : ClassId} {S : wPS} {H : Heap} {s : State} (hK : va_K D vwCl [(cO, .object "java/lang/Object")] s) (hP : va_P D vwCl (pool cO S) H) {a : Nat} (hO : a ∈ sL S ∧ sK S a = 12) : ∃ cell : Cell, H[a]? = some cell ∧ cell.vm.isStatics = false ∧ s.vm.findClass "[Ljava/lang/Object;" = some cell.cls := by
  obtain ⟨k0, hk0, hk1⟩ := wG_Arr cO S hO
  obtain ⟨-, k1, c1, -, -, -, h1⟩ := hK.2 0 _ rfl
  exact ⟨_, hP k0 _ hk1, rfl, h1⟩
theorem g_getC {cc : ByteArray} {nL : Nat} {own : String} {rm : Room} {κ : KX} (hκ : Cx cc nL own rm κ) {pc : Nat} {lv : List (Nat × Value)} {st : List Value} {e9 : Nat × Nat} (hz : Vz e9 κ) {S : wPS} {k n a idx : Nat} (hO : a ∈ sL S ∧ sK S a = 12) (hlk : Cond.methodLink own idx ⟨"java/lang/Object", "getClass", "()Ljava/lang/Class;"⟩ ∈ GA) (hde : (⟨"java/lang/Object", "getClass", "()Ljava/lang/Class;"⟩ : MethodName) ∈ declN) (hse : Cond.selects "[Ljava/lang/Object;" ⟨"java/lang/Object", "getClass", "()Ljava/lang/Class;"⟩ ⟨"java/lang/Object", "getClass", "()Ljava/lang/Class;"⟩ ∈ GA) (hin : Cond.instanceMethod ⟨"java/lang/Object", "getClass", "()Ljava/lang/Class;"⟩ ∈ GA) (hna : Cond.native ⟨"java/lang/Object", "getClass", "()Ljava/lang/Class;"⟩ ∈ GA) (hrm : 1 ≤ rm.frames ∧ (st.map fun v => v.category).sum + 14 ≤ rm.locals) (hdg : decode cc pc = .ok (.invokevirtual idx, 3)) (kk : Gj κ (PV κ S k n) (pc + 3) lv (.ref e9.2 :: st)) : Gj κ (PV κ S k n) pc lv (.ref a :: st) := by
  obtain ⟨p, l, e, R, s, m, args, below, meth, c, Q, D, cO, e0, A, mc, ms⟩ := κ
  obtain ⟨hx, hb, hml, hown, hts, hK, hG, hR, hlk9⟩ := hκ
  obtain ⟨rfl, hmi, hA, hH, hmc, hms⟩ := hz
  intro H locs cells slots ls hF hl
  exact va_getC hx hb hl.1.symm hown (hts _ hlk) (va_Nw.use rfl (hG.dn hde)) (hts _ hse) (hts _ hin) (hts _ hna) hmi (rcArr hK hF.1 hO) (hR ▸ hrm).1 (hR ▸ hrm).2 hdg (kk H locs cells slots ls hF hl)
def RcK (kd : Nat) (C : String) : Prop := ∀ (S : wPS) (D : va_G) (cO : ClassId) (H : Heap) (s : State) (a : Nat), va_K D vwCl [(cO, .object "java/lang/Object")] s → va_P D vwCl (pool cO S) H → a ∈ sL S ∧ sK S a = kd → ∃ cell : Cell, H[a]? = some cell ∧ cell.vm.isStatics = false ∧ s.vm.findClass C = some cell.cls
theorem g_copyq {cc : ByteArray} {nL : Nat} {own : String} {rm : Room} {κ : KX} (hκ : Cx cc nL own rm κ) {pc : Nat} {lv : List (Nat × Value)} {st : List Value} {e9 : Nat × Nat} (hz : Vz e9 κ) {S : wPS} {k n a a0 idx kd : Nat} {C : String} {sp dp cn : Int32} (hO0 : a0 ∈ sL S ∧ sK S a0 = 12) (hO : a ∈ sL S ∧ sK S a = 12) (hlk : Cond.methodLink own idx arraycopyName ∈ GA) (hna : Cond.native arraycopyName ∈ GA) (hst : Cond.static arraycopyName ∈ GA) (hini : Cond.initialized "java/lang/System" ∈ GA) (h1 : ¬ sp < 0) (h2 : ¬ dp < 0) (h3 : ¬ cn < 0) (h4 : sp.toNatClampNeg + cn.toNatClampNeg ≤ sN S a0) (h5 : dp.toNatClampNeg + cn.toNatClampNeg ≤ sN S a) (hrc : RcK kd C) (hca : C ∈ castO) (hel : ∀ i : Nat, i < cn.toNatClampNeg → ∀ y : Nat, sW S a0 (sp.toNatClampNeg + i) = some y → y ∈ sL S ∧ sK S y = kd) (hrm : 1 ≤ rm.frames ∧ (st.map fun v => v.category).sum + (nativeFrameWords "java/lang/System" "arraycopy" 5 + 11) ≤ rm.locals) (hdg : decode cc pc = .ok (.invokestatic idx, 3)) (kk : Gj κ (PV κ (putW S a (va_cpy (sW S a0) (sW S a) sp.toNatClampNeg dp.toNatClampNeg cn.toNatClampNeg)) k n) (pc + 3) lv st) : Gj κ (PV κ S k n) pc lv (.int cn :: .int dp :: .ref a :: .int sp :: .ref a0 :: st) := by
  obtain ⟨p, l, e, R, s, m, args, below, meth, c, Q, D, cO, e0, A, mc, ms⟩ := κ
  obtain ⟨hx, hb, hml, hown, hts, hK, hG, hR, hlk9⟩ := hκ
  obtain ⟨rfl, hmi, hA, hH, hmc, hms⟩ := hz
  intro H locs cells slots ls hF hl
  obtain ⟨hP, hD, hS, hc, hs⟩ := hF
  obtain ⟨k0, hk0, hk1⟩ := wG_Arr cO S hO0
  obtain ⟨k2, hk2, hk3⟩ := wG_Arr cO S hO
  have eq9 := wU_Arr cO S hD hO hk2 (va_cpy (sW S a0) (sW S a) sp.toNatClampNeg dp.toNatClampNeg cn.toNatClampNeg)
  refine va_copyq hx hb hl.1.symm hown (hts _ hlk) (hts _ hna) (hts _ hst) (hts _ hini) hK hP hD hS k0 k2 0 0 hk1 hk3 rfl rfl h1 h2 h3 h4 h5 (C := C) (fun i hi y hy => hrc S D cO H s y hK hP (hel i hi y hy)) (vb_asgC (hG.co hca)) (hR ▸ hrm).1 (hR ▸ hrm).2 hdg (fun H1 locs1 hP1 hD1 hS1 => ?_)
  exact kk H1 locs1 cells slots ls ⟨Eq.mp (congrArg (fun z => va_P D vwCl z H1) eq9) hP1, Eq.mp (congrArg (fun z => va_D A z) eq9) hD1, hS1, hc, hs⟩ hl
theorem g_max {cc : ByteArray} {nL : Nat} {own : String} {rm : Room} {κ : KX} (hκ : Cx cc nL own rm κ) {Φ : HQ} {pc : Nat} {lv : List (Nat × Value)} {st : List Value} {S : wPS} (hΦ : Hd κ Φ S) {x y : Int32} {idx : Nat} (hlk : Cond.methodLink own idx Lib.Math.max.name ∈ GA) (hrm : 1 ≤ rm.frames ∧ (st.map fun v => v.category).sum + 13 ≤ rm.locals) (hdg : decode cc pc = .ok (.invokestatic idx, 3)) (kk : Gj κ Φ (pc + 3) lv (.int (if x < y then y else x) :: st)) : Gj κ Φ pc lv (.int y :: .int x :: st) := by
  obtain ⟨p, l, e, R, s, m, args, below, meth, c, Q, D, cO, e0, A, mc, ms⟩ := κ
  obtain ⟨hx, hb, hml, hown, hts, hK, hG, hR, hlk9⟩ := hκ
  intro H locs cells slots ls hF hl
  obtain ⟨hP, hc9, hs9⟩ := hΦ H locs cells slots hF
  exact va_mmax hx hb hl.1.symm hown (hts _ hlk) (hts _ qm_max_s) (hts _ qm_i) (hts _ qm_max_c) (hR ▸ hrm).1 (hR ▸ hrm).2 hc9 hs9 hdg (kk H locs cells slots ls hF hl)
theorem g_min {cc : ByteArray} {nL : Nat} {own : String} {rm : Room} {κ : KX} (hκ : Cx cc nL own rm κ) {Φ : HQ} {pc : Nat} {lv : List (Nat × Value)} {st : List Value} {S : wPS} (hΦ : Hd κ Φ S) {x y : Int32} {idx : Nat} (hlk : Cond.methodLink own idx Lib.Math.min.name ∈ GA) (hrm : 1 ≤ rm.frames ∧ (st.map fun v => v.category).sum + 13 ≤ rm.locals) (hdg : decode cc pc = .ok (.invokestatic idx, 3)) (kk : Gj κ Φ (pc + 3) lv (.int (if y < x then y else x) :: st)) : Gj κ Φ pc lv (.int y :: .int x :: st) := by
  obtain ⟨p, l, e, R, s, m, args, below, meth, c, Q, D, cO, e0, A, mc, ms⟩ := κ
  obtain ⟨hx, hb, hml, hown, hts, hK, hG, hR, hlk9⟩ := hκ
  intro H locs cells slots ls hF hl
  obtain ⟨hP, hc9, hs9⟩ := hΦ H locs cells slots hF
  exact va_mmin hx hb hl.1.symm hown (hts _ hlk) (hts _ qm_min_s) (hts _ qm_i) (hts _ qm_min_c) (hR ▸ hrm).1 (hR ▸ hrm).2 hc9 hs9 hdg (kk H locs cells slots ls hF hl)
theorem stR {y : MethodName} {cc : ByteArray} {nL : Nat} {ret : Option FieldType} {rm : Room} {S : wPS} {av : List Value} {Qc : Array Value → State → Outcome → State → Prop} (hy : plainName y.cls = true) (hlen : (lg_sl av).length ≤ nL)
    (body : ∀ (p : Program) (l : Launch) (e : Env) (s : State) (m : MethodId) (below : List Frame) (meth : Method) (c : Code) (D : va_G) (cO : ClassId), meth.sig.returnType = ret → Cx cc nL y.cls rm (p, l, e, rm, s, m, av.toArray, below, meth, c, MQ below Qc av.toArray s 0 0 (fun _ => False), D, cO, 0, (fun _ => False), 0, 0) → Gj (p, l, e, rm, s, m, av.toArray, below, meth, c, MQ below Qc av.toArray s 0 0 (fun _ => False), D, cO, 0, (fun _ => False), 0, 0) (PR (p, l, e, rm, s, m, av.toArray, below, meth, c, MQ below Qc av.toArray s 0 0 (fun _ => False), D, cO, 0, (fun _ => False), 0, 0) S) 0 (lv_args 0 av) []) : MR y cc nL ret rm S av Qc := by
  intro l D cO
  refine Met.ofW (cc := cc) (maxL := nL) (ret := ret) hy rfl ?_
  intro p e s m args below meth c s₁ B hml hv
  obtain ⟨rfl, hP, hK, hG⟩ := hv
  have hts := atoms_spec (ws := Cond.code y cc nL ret :: GA) B.pre
  have h := body p l e s m below meth c D cO B.returns ⟨B.exec, B.bytes, hml, findClass_of_methodNamed B.named, fun w hw => hts w (List.mem_cons_of_mem _ hw), hK, hG, rfl, B.notSynchronized⟩ s.heap [] 0 0 _ ⟨hP, rfl, rfl, rfl, rfl⟩ (hml.symm ▸ lv_entry av hlen)
  rw [lg_entry_eq, ← hml]
  exact h
theorem stR_i {y : MethodName} {cc : ByteArray} {nL : Nat} {ret : Option FieldType} {rm : Room} {S : wPS} {av : List Value} {ty : FieldType} {post : Int32 → Prop} (hy : plainName y.cls = true) (hlen : (lg_sl av).length ≤ nL) (hret : ret = some ty) (hfit : ∀ v : Int32, post v → narrow ty (.int v) = .int v) (body : ∀ κ : KX, Cx cc nL y.cls rm κ → (∀ (pc : Nat) (lv : List (Nat × Value)) (r : Int32), decode cc pc = .ok (.ireturn, 1) → post r → Gj κ (PR κ S) pc lv [.int r]) → Gj κ (PR κ S) 0 (lv_args 0 av) []) : MR y cc nL ret rm S av (vp_Si post) := by
  refine stR hy hlen (fun p l e s m below meth c D cO hr hκ => body _ hκ ?_)
  obtain ⟨hx, hb, hml, hown, hts, hK, hG, hR, hlk⟩ := hκ
  intro pc lv r hd hp H locs cells slots ls hF hl
  obtain ⟨hP, rfl, rfl, rfl, rfl⟩ := hF
  exact W.zret hx hb (hr.trans hret) (hfit r hp) (fun t ht hW => ⟨r, rfl, hp, ht⟩) (fun q hq => absurd hq List.not_mem_nil) hd hlk
theorem stR_l {y : MethodName} {cc : ByteArray} {nL : Nat} {ret : Option FieldType} {rm : Room} {S : wPS} {av : List Value} {post : Int64 → Prop} (hy : plainName y.cls = true) (hlen : (lg_sl av).length ≤ nL) (hret : ret = some .long) (body : ∀ κ : KX, Cx cc nL y.cls rm κ → (∀ (pc : Nat) (lv : List (Nat × Value)) (r : Int64), decode cc pc = .ok (.lreturn, 1) → post r → Gj κ (PR κ S) pc lv [.long r]) → Gj κ (PR κ S) 0 (lv_args 0 av) []) : MR y cc nL ret rm S av (vp_Sl post) := by
  refine stR hy hlen (fun p l e s m below meth c D cO hr hκ => body _ hκ ?_)
  obtain ⟨hx, hb, hml, hown, hts, hK, hG, hR, hlk⟩ := hκ
  intro pc lv r hd hp H locs cells slots ls hF hl
  obtain ⟨hP, rfl, rfl, rfl, rfl⟩ := hF
  exact W.lret hx hb (hr.trans hret) (fun t ht hW => ⟨r, rfl, hp, ht⟩) (fun q hq => absurd hq List.not_mem_nil) hd hlk
theorem stR_d {y : MethodName} {cc : ByteArray} {nL : Nat} {ret : Option FieldType} {rm : Room} {S : wPS} {av : List Value} {post : UInt64 → Prop} (hy : plainName y.cls = true) (hlen : (lg_sl av).length ≤ nL) (hret : ret = some .double) (body : ∀ κ : KX, Cx cc nL y.cls rm κ → (∀ (pc : Nat) (lv : List (Nat × Value)) (r : UInt64), decode cc pc = .ok (.dreturn, 1) → post r → Gj κ (PR κ S) pc lv [.double r]) → Gj κ (PR κ S) 0 (lv_args 0 av) []) : MR y cc nL ret rm S av (vp_Sd post) := by
  refine stR hy hlen (fun p l e s m below meth c D cO hr hκ => body _ hκ ?_)
  obtain ⟨hx, hb, hml, hown, hts, hK, hG, hR, hlk⟩ := hκ
  intro pc lv r hd hp H locs cells slots ls hF hl
  obtain ⟨hP, rfl, rfl, rfl, rfl⟩ := hF
  exact W.dret hx hb (hr.trans hret) (fun t ht hW => ⟨r, rfl, hp, ht⟩) (fun q hq => absurd hq List.not_mem_nil) hd hlk
theorem stR_q {y : MethodName} {cc : ByteArray} {nL : Nat} {ret : Option FieldType} {rm : Room} {S : wPS} {av : List Value} {ty : FieldType} {post : Option Nat → Prop} (hy : plainName y.cls = true) (hlen : (lg_sl av).length ≤ nL) (hret : ret = some ty) (hty : (∃ n, ty = .object n) ∨ ∃ t, ty = .array t) (body : ∀ κ : KX, Cx cc nL y.cls rm κ → (∀ (pc : Nat) (lv : List (Nat × Value)) (r : Option Nat), decode cc pc = .ok (.areturn, 1) → post r → Gj κ (PR κ S) pc lv [va_rf r]) → Gj κ (PR κ S) 0 (lv_args 0 av) []) : MR y cc nL ret rm S av (va_Sq post) := by
  refine stR hy hlen (fun p l e s m below meth c D cO hr hκ => body _ hκ ?_)
  obtain ⟨hx, hb, hml, hown, hts, hK, hG, hR, hlk⟩ := hκ
  intro pc lv r hd hp H locs cells slots ls hF hl
  obtain ⟨hP, rfl, rfl, rfl, rfl⟩ := hF
  exact W.aret hx hb (hr.trans hret) hty (va_rf_or r) (fun t ht hW => ⟨r, rfl, hp, ht⟩) (fun q hq => absurd hq List.not_mem_nil) hd hlk
theorem stR_v {y : MethodName} {cc : ByteArray} {nL : Nat} {ret : Option FieldType} {rm : Room} {S : wPS} {av : List Value} {post : Unit → Prop} (hy : plainName y.cls = true) (hlen : (lg_sl av).length ≤ nL) (hret : ret = none) (body : ∀ κ : KX, Cx cc nL y.cls rm κ → (∀ (pc : Nat) (lv : List (Nat × Value)), decode cc pc = .ok (.return_, 1) → post () → Gj κ (PR κ S) pc lv []) → Gj κ (PR κ S) 0 (lv_args 0 av) []) : MR y cc nL ret rm S av (va_Sv post) := by
  refine stR hy hlen (fun p l e s m below meth c D cO hr hκ => body _ hκ ?_)
  obtain ⟨hx, hb, hml, hown, hts, hK, hG, hR, hlk⟩ := hκ
  intro pc lv hd hp H locs cells slots ls hF hl
  obtain ⟨hP, rfl, rfl, rfl, rfl⟩ := hF
  exact W.vret hx hb (hr.trans hret) (fun t ht hW => ⟨rfl, hp, ht⟩) (fun q hq => absurd hq List.not_mem_nil) hd hlk
theorem stV {e9 : Nat × Nat} {y : MethodName} {cc : ByteArray} {nL : Nat} {ret : Option FieldType} {rm : Room} {S : wPS} {av : List Value} {mc ms : Nat} {Qc : (Nat → Prop) → va_G → ClassId → Array Value → State → Outcome → State → Prop} (hy : plainName y.cls = true) (hlen : (lg_sl av).length ≤ nL) (hrm : mc ≤ rm.cells ∧ ms ≤ rm.slots)
    (body : ∀ (p : Program) (l : Launch) (e : Env) (s : State) (m : MethodId) (below : List Frame) (meth : Method) (c : Code) (D : va_G) (cO : ClassId) (A : Nat → Prop), meth.sig.returnType = ret → Cx cc nL y.cls rm (p, l, e, rm, s, m, av.toArray, below, meth, c, MQ below (Qc A D cO) av.toArray s mc ms A, D, cO, e9.1, A, mc, ms) → Vz e9 (p, l, e, rm, s, m, av.toArray, below, meth, c, MQ below (Qc A D cO) av.toArray s mc ms A, D, cO, e9.1, A, mc, ms) → Nm y.name (p, l, e, rm, s, m, av.toArray, below, meth, c, MQ below (Qc A D cO) av.toArray s mc ms A, D, cO, e9.1, A, mc, ms) → Gj (p, l, e, rm, s, m, av.toArray, below, meth, c, MQ below (Qc A D cO) av.toArray s mc ms A, D, cO, e9.1, A, mc, ms) (PV (p, l, e, rm, s, m, av.toArray, below, meth, c, MQ below (Qc A D cO) av.toArray s mc ms A, D, cO, e9.1, A, mc, ms) S mc ms) 0 (lv_args 0 av) []) :
    ∀ (l : Launch) (D : va_G) (cO : ClassId) (sz : Nat), Met l y (Cond.code y cc nL ret :: GA) rm (CP D cO e9 S sz av) (Qc (va_A (pool cO S) sz) D cO) mc ms (va_A (pool cO S) sz) := by
  intro l D cO sz
  refine Met.ofW (cc := cc) (maxL := nL) (ret := ret) hy rfl ?_
  intro p e s m args below meth c s₁ B hml hv
  obtain ⟨rfl, hsz, hP, hK, hG, hD0, hH, hmi⟩ := hv
  have hts := atoms_spec (ws := Cond.code y cc nL ret :: GA) B.pre
  subst hsz
  have h := body p l e s m below meth c D cO (va_A (pool cO S) s.heap.size) B.returns ⟨B.exec, B.bytes, hml, findClass_of_methodNamed B.named, fun w hw => hts w (List.mem_cons_of_mem _ hw), hK, hG, rfl, B.notSynchronized⟩ ⟨rfl, hmi, fun q h9 => Or.inr h9, hH, hrm.1, hrm.2⟩ (name_of_methodNamed B.named B.method).1 s.heap [] 0 0 _ ⟨hP, hD0.self, va_S.rf, Nat.le_of_eq (Nat.zero_add _), Nat.le_of_eq (Nat.zero_add _)⟩ (hml.symm ▸ lv_entry av hlen)
  rw [lg_entry_eq, ← hml]
  exact h
theorem stV_v {e9 : Nat × Nat} {y : MethodName} {cc : ByteArray} {nL : Nat} {ret : Option FieldType} {rm : Room} {S : wPS} {av : List Value} {mc ms : Nat} {post : wPS → Prop} (hy : plainName y.cls = true) (hlen : (lg_sl av).length ≤ nL) (hrm : mc ≤ rm.cells ∧ ms ≤ rm.slots) (hret : ret = none) (body : ∀ κ : KX, Cx cc nL y.cls rm κ → Vz e9 κ → Nm y.name κ → (∀ (pc : Nat) (lv : List (Nat × Value)) (S1 : wPS) (k n : Nat), decode cc pc = .ok (.return_, 1) → post S1 → Gj κ (PV κ S1 k n) pc lv []) → Gj κ (PV κ S mc ms) 0 (lv_args 0 av) []) : MVv e9 y cc nL ret rm S av post mc ms := by
  refine stV (Qc := fun A D cO => va_Qv post (Bp D cO A) A) hy hlen hrm (fun p l e s m below meth c D cO A hr hκ hz hnm => body _ hκ hz hnm ?_)
  obtain ⟨hx, hb, hml, hown, hts, hK, hG, hR, hlk⟩ := hκ
  intro pc lv S1 k n hd hp H locs cells slots ls hF hl
  obtain ⟨hP, hD, hS, hc, hs⟩ := hF
  refine W.widen (k := mc) (n := ms) (by omega) (by omega) ?_
  exact W.vret hx hb (hr.trans hret) (fun t ht hW => ⟨⟨S1, rfl, hp, by rw [ht]; exact hP, hD⟩, hS.F ht⟩) hS.2.2 hd hlk
theorem stV_i {e9 : Nat × Nat} {y : MethodName} {cc : ByteArray} {nL : Nat} {ret : Option FieldType} {rm : Room} {S : wPS} {av : List Value} {mc ms : Nat} {ty : FieldType} {post : Int32 → wPS → Prop} (hy : plainName y.cls = true) (hlen : (lg_sl av).length ≤ nL) (hrm : mc ≤ rm.cells ∧ ms ≤ rm.slots) (hret : ret = some ty) (hfit : ∀ (v : Int32) (S1 : wPS), post v S1 → narrow ty (.int v) = .int v) (body : ∀ κ : KX, Cx cc nL y.cls rm κ → Vz e9 κ → Nm y.name κ → (∀ (pc : Nat) (lv : List (Nat × Value)) (r : Int32) (S1 : wPS) (k n : Nat), decode cc pc = .ok (.ireturn, 1) → post r S1 → Gj κ (PV κ S1 k n) pc lv [.int r]) → Gj κ (PV κ S mc ms) 0 (lv_args 0 av) []) : MVi e9 y cc nL ret rm S av post mc ms := by
  refine stV (Qc := fun A D cO => va_Qi post (Bp D cO A) A) hy hlen hrm (fun p l e s m below meth c D cO A hr hκ hz hnm => body _ hκ hz hnm ?_)
  obtain ⟨hx, hb, hml, hown, hts, hK, hG, hR, hlk⟩ := hκ
  intro pc lv r S1 k n hd hp H locs cells slots ls hF hl
  obtain ⟨hP, hD, hS, hc, hs⟩ := hF
  refine W.widen (k := mc) (n := ms) (by omega) (by omega) ?_
  exact W.zret hx hb (hr.trans hret) (hfit r S1 hp) (fun t ht hW => ⟨⟨r, S1, rfl, hp, by rw [ht]; exact hP, hD⟩, hS.F ht⟩) hS.2.2 hd hlk
theorem stV_q {e9 : Nat × Nat} {y : MethodName} {cc : ByteArray} {nL : Nat} {ret : Option FieldType} {rm : Room} {S : wPS} {av : List Value} {mc ms : Nat} {ty : FieldType} {post : Option Nat → wPS → Prop} (hy : plainName y.cls = true) (hlen : (lg_sl av).length ≤ nL) (hrm : mc ≤ rm.cells ∧ ms ≤ rm.slots) (hret : ret = some ty) (hty : (∃ n, ty = .object n) ∨ ∃ t, ty = .array t) (body : ∀ κ : KX, Cx cc nL y.cls rm κ → Vz e9 κ → Nm y.name κ → (∀ (pc : Nat) (lv : List (Nat × Value)) (r : Option Nat) (S1 : wPS) (k n : Nat), decode cc pc = .ok (.areturn, 1) → post r S1 → Gj κ (PV κ S1 k n) pc lv [va_rf r]) → Gj κ (PV κ S mc ms) 0 (lv_args 0 av) []) : MVq e9 y cc nL ret rm S av post mc ms := by
  refine stV (Qc := fun A D cO => va_Qq post (Bp D cO A) A) hy hlen hrm (fun p l e s m below meth c D cO A hr hκ hz hnm => body _ hκ hz hnm ?_)
  obtain ⟨hx, hb, hml, hown, hts, hK, hG, hR, hlk⟩ := hκ
  intro pc lv r S1 k n hd hp H locs cells slots ls hF hl
  obtain ⟨hP, hD, hS, hc, hs⟩ := hF
  refine W.widen (k := mc) (n := ms) (by omega) (by omega) ?_
  exact W.aret hx hb (hr.trans hret) hty (va_rf_or r) (fun t ht hW => ⟨⟨r, S1, rfl, hp, by rw [ht]; exact hP, hD⟩, hS.F ht⟩) hS.2.2 hd hlk
