def tISE : String := "java/lang/IllegalStateException"
def tXs : List String := ["java/lang/RuntimeException", "java/lang/Exception"]
/-- what stands over a method that may throw or catch: no stack traces, the class of what is thrown -/
def XZ : KX → Prop
  | (p, l, e, R, s, m, args, below, meth, c, Q, D, cO, e0, A, mc, ms) => l.stackTraces = false ∧ va_Nw (.castable tISE tISE) s
def CPX (D : va_G) (cO : ClassId) (e9 : Nat × Nat) (S : wPS) (sz : Nat) (av : List Value) : Array Value → State → Prop := fun a U => CP D cO e9 S sz av a U ∧ va_Nw (.castable tISE tISE) U
theorem CPX.blind {D : va_G} {cO : ClassId} {e9 : Nat × Nat} {S : wPS} {sz : Nat} {av : List Value} : FrameBlind (CPX D cO e9 S sz av) := fun a U g mk h => ⟨CP.blind a U g mk h.1, va_Nw.warmC (s := U) (State.WarmedH.refl U) h.2⟩
theorem CPX.pre {D : va_G} {cO : ClassId} {e9 : Nat × Nat} {S : wPS} {av : List Value} {s : State} {H : Heap} {A : Nat → Prop} {locs : List Loc} (hK : va_K D vwCl [(cO, .object "java/lang/Object")] s) (hG : GK s) (hH : GH e9.1 A s s.heap) (hmi : va_Mi "[Ljava/lang/Object;" e9.2 s) (hP : va_P D vwCl (pool cO S) H) (hD : va_D A (pool cO S)) (hS : va_S A s.heap H locs) (hA : ∀ q, s.heap.size ≤ q → A q) (hct : va_Nw (.castable tISE tISE) s) : ∀ U : State, U.heap = H → s.WarmedH U.vm → CPX D cO e9 S H.size av av.toArray U := fun U hU hW => ⟨CP.pre hK hG hH hmi hP hD hS hA U hU hW, va_Nw.warmC hW hct⟩
def BXp (D : va_G) (cO : ClassId) (A : Nat → Prop) (S : wPS) : String → Unit → State → Prop := fun E _ t => E = tISE ∧ Bp D cO A S t
def MXi (e9 : Nat × Nat) (y : MethodName) (cb : ByteArray) (maxL : Nat) (ret : Option FieldType) (rm : Room) (S : wPS) (av : List Value) (post : Int32 → wPS → Prop) (mc ms : Nat) : Prop := ∀ (l : Launch) (D : va_G) (cO : ClassId) (sz : Nat), l.stackTraces = false → vx_Met l y (Cond.code y cb maxL ret :: GA) rm (CPX D cO e9 S sz av) (va_Qi post (Bp D cO (va_A (pool cO S) sz)) (va_A (pool cO S) sz)) (vx_X (fun _ : Unit => True) (BXp D cO (va_A (pool cO S) sz) S) (va_A (pool cO S) sz)) mc ms (va_A (pool cO S) sz)
def MWi (e9 : Nat × Nat) (y : MethodName) (cb : ByteArray) (maxL : Nat) (ret : Option FieldType) (hh : List (Nat × Nat × Nat × Nat)) (rm : Room) (S : wPS) (av : List Value) (post : Int32 → wPS → Prop) (mc ms : Nat) : Prop := ∀ (l : Launch) (D : va_G) (cO : ClassId) (sz : Nat), l.stackTraces = false → Met l y (Cond.codeWith y cb maxL ret hh :: GA) rm (CPX D cO e9 S sz av) (va_Qi post (Bp D cO (va_A (pool cO S) sz)) (va_A (pool cO S) sz)) mc ms (va_A (pool cO S) sz)
def atISE : List Cond := vx_atS RX11 81 tISE tXs
theorem at_good : ∀ w ∈ atISE.filter goodWord, w ∈ GA := by
  intro w hw
  have h : ∀ w ∈ atISE.filter goodWord, w ∈ lw_tbl := by decide +kernel
  exact ga_of (h w hw) (List.mem_filter.mp hw).2
theorem at_rest : ∀ w ∈ atISE.filter (fun w => !goodWord w), w ∈ [Cond.castable tISE tISE, Cond.declares ⟨"java/lang/RuntimeException", "<init>", "(Ljava/lang/String;)V"⟩, Cond.declares ⟨"java/lang/Exception", "<init>", "(Ljava/lang/String;)V"⟩, Cond.declares ⟨"java/lang/Throwable", "<init>", "(Ljava/lang/String;)V"⟩] := by decide +kernel
theorem at_ot : ∀ w ∈ Cond.classLink RX11 77 tISE :: Cond.initialized tISE :: atISE, vx_ot w = true := by decide +kernel
theorem at_all {args : Array Value} {s : State} (hts : ∀ w ∈ GA, w.before args s = true) (hG : GK s) (hct : va_Nw (.castable tISE tISE) s) : ∀ w ∈ atISE, w.before args s = true :=
  vx_hat (B := [Cond.castable tISE tISE, Cond.declares ⟨"java/lang/RuntimeException", "<init>", "(Ljava/lang/String;)V"⟩, Cond.declares ⟨"java/lang/Exception", "<init>", "(Ljava/lang/String;)V"⟩, Cond.declares ⟨"java/lang/Throwable", "<init>", "(Ljava/lang/String;)V"⟩]) (fun w hw => hts w (at_good w hw)) at_rest (vx_c (va_Nw.use rfl hct) (vx_c (va_Nw.use rfl (hG.dn (by decide))) (vx_c (va_Nw.use rfl (hG.dn (by decide))) (vx_c (va_Nw.use rfl (hG.dn (by decide))) vx_n))))
theorem stX_i {e9 : Nat × Nat} {y : MethodName} {cc : ByteArray} {nL : Nat} {ret : Option FieldType} {rm : Room} {S : wPS} {av : List Value} {mc ms : Nat} {ty : FieldType} {post : Int32 → wPS → Prop} (hy : plainName y.cls = true) (hcls : y.cls = RX11) (hlen : (lg_sl av).length ≤ nL) (hrm : mc ≤ rm.cells ∧ ms ≤ rm.slots) (hfr : 6 ≤ rm.frames) (hret : ret = some ty) (hfit : ∀ (v : Int32) (S1 : wPS), post v S1 → narrow ty (.int v) = .int v)
    (body : ∀ κ : KX, Cx cc nL y.cls rm κ → Vz e9 κ → (∀ (pc : Nat) (lv : List (Nat × Value)) (r : Int32) (S1 : wPS) (k n : Nat), decode cc pc = .ok (.ireturn, 1) → post r S1 → Gj κ (PV κ S1 k n) pc lv [.int r]) →
      (∀ (pc is : Nat) (tx : String) (lv : List (Nat × Value)) (st : List Value) (k n : Nat), decode cc pc = .ok (.new 77, 3) → decode cc (pc + 3) = .ok (.dup, 1) → decode cc (pc + 4) = .ok (.ldc is, 2) → decode cc (pc + 6) = .ok (.invokespecial 81, 3) → decode cc (pc + 9) = .ok (.athrow, 1) → (RX11, is, tx) ∈ strsR → 1 ≤ k → 6 ≤ n → (st.map fun v => v.category).sum + 82 ≤ rm.locals → Gj κ (PV κ S k n) pc lv st) →
      Gj κ (PV κ S mc ms) 0 (lv_args 0 av) []) : MXi e9 y cc nL ret rm S av post mc ms := by
  intro l D cO sz hl0
  refine vx_ofW (cc := cc) (maxL := nL) (ret := ret) hy rfl ?_
  intro p e s m args below meth c s₁ B hml hout hv
  obtain ⟨⟨rfl, hsz, hP, hK, hG, hD0, hH, hmi⟩, hct⟩ := hv
  have hts0 := atoms_spec (ws := Cond.code y cc nL ret :: GA) B.pre
  have hts : ∀ w ∈ GA, w.before av.toArray s = true := fun w hw => hts0 w (List.mem_cons_of_mem _ hw)
  subst hsz
  have hx := B.exec
  have hb := B.bytes
  have hown := findClass_of_methodNamed B.named
  have hr := B.returns
  have hlk := B.notSynchronized
  have h := body (p, l, e, rm, s, m, av.toArray, below, meth, c, vx_MQ below (va_Qi post (Bp D cO (va_A (pool cO S) s.heap.size)) (va_A (pool cO S) s.heap.size)) (vx_X (fun _ : Unit => True) (BXp D cO (va_A (pool cO S) s.heap.size) S) (va_A (pool cO S) s.heap.size)) av.toArray s mc ms (va_A (pool cO S) s.heap.size), D, cO, e9.1, va_A (pool cO S) s.heap.size, mc, ms)
    ⟨hx, hb, hml, hown, hts, hK, hG, rfl, hlk⟩ ⟨rfl, hmi, fun q h9 => Or.inr h9, hH, hrm.1, hrm.2⟩
    (fun pc lv r S1 k n hd hp H locs cells slots ls hF hl => by
      obtain ⟨hP, hD, hS, hc, hs⟩ := hF
      refine W.widen (k := mc) (n := ms) (by omega) (by omega) ?_
      exact vx_ret (W.zret hx hb (hr.trans hret) (hfit r S1 hp) (fun t ht hW => ⟨⟨r, S1, rfl, hp, by rw [ht]; exact hP, hD⟩, hS.F ht⟩) hS.2.2 hd hlk))
    (fun pc is tx lv st k n d0 d3 d4 d6 d9 hstr hk hn hrl H locs cells slots ls hF hl => by
      obtain ⟨hP, hD, hS, hc, hs⟩ := hF
      obtain ⟨a, ha⟩ := hG.2.2.1 (RX11, is, tx) hstr
      have hown9 : s.vm.findClass RX11 = some m.cls := hcls ▸ hown
      exact vx_throwS (cls := tISE) (names := tXs) (own := RX11) (ik := 77) (ic := 81) (mc := mc) (ms := ms) (sa := a) (A := va_A (pool cO S) s.heap.size) hx hb hl0 hown9 (by decide +kernel) (by decide +kernel) (hts _ qw_231) (hts _ qw_11) ha (at_all hts hG hct) at_ot hH.2.2.1 hH.2.2.2 hS hl.1 d0 d3 d4 d6 d9 (fun x hx9 => absurd (hout x hx9) id) (Nat.lt_of_lt_of_le (show tXs.length + 3 < 6 from by decide) hfr) (Nat.le_trans (show (st.map fun v => v.category).sum + (13 * (tXs.length + 1) + 43) ≤ (st.map fun v => v.category).sum + 82 from Nat.le_refl _) hrl) (by show cells + 1 ≤ rm.cells; omega) (by show slots + 6 ≤ rm.slots; omega) hlk
        (fun t hvm hsz hq => ⟨(), trivial, ⟨rfl, hP.kept (fun k9 q9 hk9 => hq q9.1 (vx_lt hP hk9)), hD⟩, Nat.le_trans hS.1 hsz, fun q h1 h2 => (hq q (Nat.lt_of_lt_of_le h1 hS.1)).trans (hS.2.1 q h1 h2)⟩) hS.2.2 (by omega) (by omega))
    s.heap [] 0 0 _ ⟨hP, hD0.self, va_S.rf, Nat.le_of_eq (Nat.zero_add _), Nat.le_of_eq (Nat.zero_add _)⟩ (hml.symm ▸ lv_entry av hlen)
  rw [lg_entry_eq, ← hml]
  exact h
/-- the method's own table -/
def TBL (hh : List (Nat × Nat × Nat × Nat)) : KX → Prop
  | (p, l, e, R, s, m, args, below, meth, c, Q, D, cO, e0, A, mc, ms) => c.exceptionTable.toList = tableOf hh
theorem vX_i {cc : ByteArray} {nL : Nat} {own : String} {rm : Room} {κ : KX} (hκ : Cx cc nL own rm κ) {pc : Nat} {lv : List (Nat × Value)} {st : List Value} {e9 : Nat × Nat} (hz : Vz e9 κ) (hX : XZ κ) {S : wPS} {k n : Nat} {y : MethodName} {cb : ByteArray} {maxL nA idx mc2 ms2 : Nat} {ret : Option FieldType} {rm2 : Room} {stk : List Value} (av : List Value) {post : Int32 → wPS → Prop} {C : String} {b : Nat} (sd : VD C y cb maxL ret nA) (hlk : Cond.methodLink own idx y ∈ GA) (hrc : ∀ (D : va_G) (cO : ClassId) (H : Heap) (s : State), va_K D vwCl [(cO, .object "java/lang/Object")] s → va_P D vwCl (pool cO S) H → ∃ cell : Cell, H[b]? = some cell ∧ cell.vm.isStatics = false ∧ s.vm.findClass C = some cell.cls) (hM : MXi e9 y cb maxL ret rm2 S (.ref b :: av) post mc2 ms2) (hrm : RmOk rm2 rm mc2 ms2 maxL) (hn : av.length = nA) (hstk : stk = av.reverse ++ .ref b :: st) (hw : (st.map fun v => v.category).sum ≤ 8) (hdg : decode cc pc = .ok (.invokevirtual idx, 3)) (hk9 : mc2 ≤ k) (hn9 : ms2 ≤ n)
    {h1 h2 h3 h4 : Nat} (hT : TBL [(h1, h2, h3, h4)] κ) (hcov : covers ⟨h1, h2, h3, h4⟩ pc = true) (h40 : h4 ≠ 0) (hcl4 : Cond.classLink own h4 tISE ∈ GA) (kx : ∀ q : Nat, Gj κ (PV κ S (k - mc2) (n - ms2)) h3 lv [.ref q])
    (kk : ∀ (r : Int32) (S1 : wPS), post r S1 → Gj κ (PV κ S1 (k - mc2) (n - ms2)) (pc + 3) lv (.int r :: st)) : Gj κ (PV κ S k n) pc lv stk := by
  subst hstk
  obtain ⟨p, l, e, R, s, m, args, below, meth, c, Q, D, cO, e0, A, mc, ms⟩ := κ
  obtain ⟨hx, hb, hml, hown, hts, hK, hG, hR, hlk9⟩ := hκ
  obtain ⟨rfl, hmi, hA, hH, hmc, hms⟩ := hz
  obtain ⟨hl0, hct⟩ := hX
  intro H locs cells slots ls hF hl
  obtain ⟨hP, hD, hS, hc, hs⟩ := hF
  have hf9 := pool_free (D := D) hD hS hA
  refine vx_calli (vx_runV (As := av) (rest := st) ⟨hx, hb, rfl, hown, hts⟩ (hM l D cO H.size hl0) ⟨cb_of hts (hR ▸ hrm) sd.1.2.2.2 sd.1.2.2.1 sd.2.1 sd.2.2.1 sd.2.2.2 hlk, hts _ sd.1.1, hts _ sd.1.2.1⟩ ⟨CPX.blind, hrc D cO H s hK hP, CPX.pre hK hG hH hmi hP hD hS hA hct⟩ rfl hn hl.1 rfl (lv_room hw) hdg ⟨by omega, by omega⟩) hS (fun q _ h9 => hf9 q h9) hf9 (fun q _ h9 => hf9 q h9) (fun E ce q9 u t H1 locs1 ht hvm _ hB hz1 hk1 hS1 hce hcv hcl => ?_) (fun r u t H1 locs1 ht hvm hw1 hB hz1 hk1 hS1 => ?_)
  · obtain ⟨rfl, hP1, hD1⟩ := hB
    rw [ht] at hP1
    exact vx_catch (own := own) (name := tISE) hown [] ⟨h1, h2, h3, h4⟩ [] hT (fun z hz => absurd hz List.not_mem_nil) hcov h40 (hts _ hcl4) (va_Nw.use rfl hct) hce hcv hcl (kx q9 H1 locs1 (cells + mc2) (slots + ms2) ls ⟨hP1, hD1.weaken (fun k9 q9 _ h9 => hf9 q9.1 h9), hS1, by omega, by omega⟩ hl)
  · obtain ⟨hP1, hD1⟩ := hB
    rw [ht] at hP1
    exact kk r u hw1 H1 locs1 (cells + mc2) (slots + ms2) ls ⟨hP1, hD1.weaken (fun k9 q9 _ h9 => hf9 q9.1 h9), hS1, by omega, by omega⟩ hl
theorem stW_i {e9 : Nat × Nat} {y : MethodName} {cc : ByteArray} {nL : Nat} {ret : Option FieldType} {hh : List (Nat × Nat × Nat × Nat)} {rm : Room} {S : wPS} {av : List Value} {mc ms : Nat} {ty : FieldType} {post : Int32 → wPS → Prop} (hy : plainName y.cls = true) (hlen : (lg_sl av).length ≤ nL) (hrm : mc ≤ rm.cells ∧ ms ≤ rm.slots) (hret : ret = some ty) (hfit : ∀ (v : Int32) (S1 : wPS), post v S1 → narrow ty (.int v) = .int v)
    (body : ∀ κ : KX, Cx cc nL y.cls rm κ → Vz e9 κ → XZ κ → TBL hh κ → (∀ (pc : Nat) (lv : List (Nat × Value)) (r : Int32) (S1 : wPS) (k n : Nat), decode cc pc = .ok (.ireturn, 1) → post r S1 → Gj κ (PV κ S1 k n) pc lv [.int r]) →
      Gj κ (PV κ S mc ms) 0 (lv_args 0 av) []) : MWi e9 y cc nL ret hh rm S av post mc ms := by
  intro l D cO sz hl0
  refine MetFree.of_bodyS (code := cc) (maxLocals := nL) (ret := ret) hy ?_ ?_
  · intro args s m h hn
    obtain ⟨m9, meth, c, hn9, h1, h2, h3, h4, -, h5, h6, -⟩ := Cond.codeWith_spec (atoms_spec (ws := Cond.codeWith y cc nL ret hh :: GA) h _ List.mem_cons_self)
    cases hn.symm.trans hn9
    exact ⟨meth, c, h1, h2, h3, h4, h5, h6⟩
  · intro p e s m args below meth c s₁ B hml hv _
    have hh0 : s₁.heap = s.heap := by rw [B.state]; rfl
    obtain ⟨⟨rfl, hsz, hP, hK, hG, hD0, hH, hmi⟩, hct⟩ := hv
    have hts0 := atoms_spec (ws := Cond.codeWith y cc nL ret hh :: GA) B.pre
    have htb := vx_table (x := y) B (hts0 _ List.mem_cons_self)
    have hts : ∀ w ∈ GA, w.before av.toArray s = true := fun w hw => hts0 w (List.mem_cons_of_mem _ hw)
    subst hsz
    have hx := B.exec
    have hb := B.bytes
    have hown := findClass_of_methodNamed B.named
    have hr := B.returns
    have hlk := B.notSynchronized
    have h := body (p, l, e, rm, s, m, av.toArray, below, meth, c, MQ below (va_Qi post (Bp D cO (va_A (pool cO S) s.heap.size)) (va_A (pool cO S) s.heap.size)) av.toArray s mc ms (va_A (pool cO S) s.heap.size), D, cO, e9.1, va_A (pool cO S) s.heap.size, mc, ms)
      ⟨hx, hb, hml, hown, hts, hK, hG, rfl, hlk⟩ ⟨rfl, hmi, fun q h9 => Or.inr h9, hH, hrm.1, hrm.2⟩ ⟨hl0, hct⟩ htb
      (fun pc lv r S1 k n hd hp H locs cells slots ls hF hl => by
        obtain ⟨hP, hD, hS, hc, hs⟩ := hF
        refine W.widen (k := mc) (n := ms) (by omega) (by omega) ?_
        exact W.zret hx hb (hr.trans hret) (hfit r S1 hp) (fun t ht hW => ⟨⟨r, S1, rfl, hp, by rw [ht]; exact hP, hD⟩, hS.F ht⟩) hS.2.2 hd hlk)
      s.heap [] 0 0 _ ⟨hP, hD0.self, va_S.rf, Nat.le_of_eq (Nat.zero_add _), Nat.le_of_eq (Nat.zero_add _)⟩ (hml.symm ▸ lv_entry av hlen)
    have h' : W p l e (headSpec (Cond.codeWith y cc nL ret hh :: GA) rm).room s m av.toArray below meth c s.heap [] 0 0 (MQ below (va_Qi post (Bp D cO (va_A (pool cO S) s.heap.size)) (va_A (pool cO S) s.heap.size)) av.toArray s mc ms (va_A (pool cO S) s.heap.size)) (entryFrame m av.toArray nL) := by
      rw [lg_entry_eq, ← hml]
      exact h
    obtain ⟨t, a1, o, b1, b2, b3⟩ := h' s₁ hh0 (Stand.of_body B)
    exact ⟨t, o, a1, b1, b2, ⟨b3.1, b3.2⟩⟩
theorem vSW_i {cc : ByteArray} {nL : Nat} {own : String} {rm : Room} {κ : KX} (hκ : Cx cc nL own rm κ) {pc : Nat} {lv : List (Nat × Value)} {st : List Value} {e9 : Nat × Nat} (hz : Vz e9 κ) (hX : XZ κ) {S : wPS} {k n : Nat} {y : MethodName} {cb : ByteArray} {maxL nA idx mc2 ms2 : Nat} {ret : Option FieldType} {hh : List (Nat × Nat × Nat × Nat)} {rm2 : Room} {stk : List Value} (av : List Value) {post : Int32 → wPS → Prop} (hst9 : Cond.static y ∈ GA) (hin9 : Cond.initialized y.cls ∈ GA) (hcw9 : Cond.codeWith y cb maxL ret hh ∈ GA) (hyc : y.cls ≠ "java/lang/invoke/MethodHandle" ∧ y.cls ≠ "java/lang/invoke/VarHandle" ∧ (parseMethodDescriptor y.desc).map (fun d => d.parameters.length) = some nA) (hlk : Cond.methodLink own idx y ∈ GA) (hM : MWi e9 y cb maxL ret hh rm2 S av post mc2 ms2) (hrm : RmOk rm2 rm mc2 ms2 maxL) (hn : av.length = nA) (hstk : stk = av.reverse ++ st) (hw : (st.map fun v => v.category).sum ≤ 8) (hdg : decode cc pc = .ok (.invokestatic idx, 3)) (hk9 : mc2 ≤ k) (hn9 : ms2 ≤ n)
    (kk : ∀ (r : Int32) (S1 : wPS), post r S1 → Gj κ (PV κ S1 (k - mc2) (n - ms2)) (pc + 3) lv (.int r :: st)) : Gj κ (PV κ S k n) pc lv stk := by
  subst hstk
  obtain ⟨p, l, e, R, s, m, args, below, meth, c, Q, D, cO, e0, A, mc, ms⟩ := κ
  obtain ⟨hx, hb, hml, hown, hts, hK, hG, hR, hlk9⟩ := hκ
  obtain ⟨rfl, hmi, hA, hH, hmc, hms⟩ := hz
  obtain ⟨hl0, hct⟩ := hX
  intro H locs cells slots ls hF hl
  obtain ⟨hP, hD, hS, hc, hs⟩ := hF
  have hf9 := pool_free (D := D) hD hS hA
  have hrm' := hR ▸ hrm
  have hGd : GoodIn GA (Cond.codeWith y cb maxL ret hh :: GA) := fun w hw => (List.mem_cons.mp hw).elim (fun z => by rw [z]; exact ga_all _ hcw9) (fun z => ga_all _ z)
  refine va_calli (vx_runSW (As := av) (rest := st) (hh := hh) ⟨hx, hb, rfl, hown, hts⟩ (hM l D cO H.size hl0) ⟨⟨hrm'.1, hrm'.2.1, hrm'.2.2.1, hrm'.2.2.2, pay_in hts hGd, List.mem_cons_self⟩, hts _ hcw9, hts _ hin9, ⟨hyc.1, hyc.2.1⟩, sig_of hyc.2.2, hts _ hlk, hts _ hst9⟩ ⟨CPX.blind, CPX.pre hK hG hH hmi hP hD hS hA hct⟩ rfl hn hl.1 rfl (lv_room hw) hdg ⟨by omega, by omega⟩) hS (fun q _ h9 => hf9 q h9) hf9 (fun r u t H1 locs1 ht hvm hw1 hB hz1 hk1 hS1 => ?_)
  obtain ⟨hP1, hD1⟩ := hB
  rw [ht] at hP1
  exact kk r u hw1 H1 locs1 (cells + mc2) (slots + ms2) ls ⟨hP1, hD1.weaken (fun k9 q9 _ h9 => hf9 q9.1 h9), hS1, by omega, by omega⟩ hl

