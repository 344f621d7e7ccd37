def nestF : List (String × Nat × String × String × String × String) := [("Plotroom", 613, "Plotroom$Lots", "drawn", "I", "Plotroom"), ("Plotroom", 263, "Plotroom$Tally", "refused", "I", "Plotroom"), ("Plotroom", 485, "Plotroom$Tally", "plotsWithoutTrack", "I", "Plotroom"), ("Plotroom", 539, "Plotroom$Tally", "fights", "I", "Plotroom"), ("Plotroom", 367, "Plotroom$Tally", "claims", "I", "Plotroom"), ("Plotroom", 522, "Plotroom$Tally", "machinesLost", "I", "Plotroom"), ("Plotroom", 562, "Plotroom$Tally", "shames", "I", "Plotroom"), ("Plotroom", 565, "Plotroom$Tally", "work", "I", "Plotroom"), ("Plotroom", 573, "Plotroom$Tally", "lives", "I", "Plotroom"), ("Plotroom", 426, "Plotroom$Mast", "slip", "I", "Plotroom"), ("Plotroom$Plot", 30, "Plotroom$Mast", "lag", "I", "Plotroom"), ("Plotroom", 103, "Plotroom$Mast", "isCut", "Z", "Plotroom"), ("Plotroom", 453, "Plotroom$Mast", "made", "I", "Plotroom"), ("Plotroom", 472, "Plotroom$Mast", "came", "I", "Plotroom"), ("Plotroom", 469, "Plotroom$Mast", "lost", "I", "Plotroom"), ("Plotroom", 509, "Plotroom$Squadron", "base", "LPlotroom$Place;", "Plotroom"), ("Plotroom", 626, "Plotroom$Squadron", "tank", "I", "Plotroom"), ("Plotroom", 208, "Plotroom$Squadron", "ready", "I", "Plotroom"), ("Plotroom", 247, "Plotroom$Squadron", "machines", "I", "Plotroom"), ("Plotroom", 234, "Plotroom$Squadron", "state", "I", "Plotroom"), ("Plotroom", 500, "Plotroom$Squadron", "fuel", "I", "Plotroom"), ("Plotroom", 226, "Plotroom$Squadron", "target", "LPlotroom$Track;", "Plotroom"), ("Plotroom", 215, "Plotroom$Squadron", "due", "I", "Plotroom"), ("Plotroom", 536, "Plotroom$Squadron", "won", "I", "Plotroom"), ("Plotroom", 551, "Plotroom$Gun", "radius", "I", "Plotroom"), ("Plotroom", 138, "Plotroom$Gun", "isLent", "Z", "Plotroom"), ("Plotroom", 568, "Plotroom$Town", "people", "I", "Plotroom"), ("Plotroom", 545, "Plotroom$Flight", "isFoe", "Z", "Plotroom"), ("Plotroom$Mast", 28, "Plotroom$Flight", "height", "I", "Plotroom"), ("Plotroom", 542, "Plotroom$Flight", "count", "I", "Plotroom"), ("Plotroom$Mast", 22, "Plotroom$Flight", "isUp", "Z", "Plotroom"), ("Plotroom", 166, "Plotroom$Flight", "isUp", "Z", "Plotroom"), ("Plotroom", 465, "Plotroom$Plot", "mast", "LPlotroom$Mast;", "Plotroom"), ("Plotroom$Track", 27, "Plotroom$Plot", "guess", "I", "Plotroom"), ("Plotroom$Track", 21, "Plotroom$Plot", "seenAt", "I", "Plotroom"), ("Plotroom", 488, "Plotroom$Plot", "seenAt", "I", "Plotroom"), ("Plotroom", 456, "Plotroom$Plot", "due", "I", "Plotroom"), ("Plotroom$Squadron", 52, "Plotroom$Track", "number", "I", "Plotroom"), ("Plotroom", 620, "Plotroom$Track", "number", "I", "Plotroom"), ("Plotroom$Plan", 19, "Plotroom$Track", "minute", "I", "Plotroom"), ("Plotroom", 297, "Plotroom$Track", "minute", "I", "Plotroom"), ("Plotroom", 582, "Plotroom$Track", "hits", "I", "Plotroom"), ("Plotroom", 197, "Plotroom$Track", "isLive", "Z", "Plotroom")]
def nestM : List (String × Nat × MethodName × String) := [("Plotroom", 49, ⟨"Plotroom$Tally", "<init>", "()V"⟩, "Plotroom"), ("Plotroom$Flight", 37, ⟨"Plotroom", "isPlace", "(II)Z"⟩, "Plotroom"), ("Plotroom$Track", 42, ⟨"Plotroom", "hold", "(I)I"⟩, "Plotroom"), ("Plotroom$Squadron", 65, ⟨"Plotroom", "rootAbove", "(I)I"⟩, "Plotroom"), ("Plotroom$Plan", 24, ⟨"Plotroom", "isIn", "(III)Z"⟩, "Plotroom"), ("Plotroom$Place", 16, ⟨"Plotroom", "isPlace", "(II)Z"⟩, "Plotroom")]
def strsR : List (String × Nat × String) := [("Plotroom", 68, "no such mast can be"), ("Plotroom", 79, "no more masts"), ("Plotroom", 107, "no such place"), ("Plotroom", 109, "no more stations"), ("Plotroom", 116, "no such station"), ("Plotroom", 118, "no such squadron can be"), ("Plotroom", 120, "no more squadrons"), ("Plotroom", 127, "no such gun can be"), ("Plotroom", 129, "no more guns"), ("Plotroom", 141, "no such town can be"), ("Plotroom", 143, "no more towns"), ("Plotroom", 153, "no such flight can be"), ("Plotroom", 155, "no more flights"), ("Plotroom", 256, "no such number of minutes"), ("Plotroom", 258, "the day is over by then"), ("Plotroom", 230, "no such squadron"), ("Plotroom", 281, "nothing such is told of a squadron"), ("Plotroom", 284, "nothing such is told of the room"), ("Plotroom", 289, "no such track"), ("Plotroom", 310, "no such town"), ("Plotroom", 189, "no such squadron, or track"), ("Plotroom", 203, "the squadron can not be scrambled to that"), ("Plotroom", 221, "the squadron can not be led to that"), ("Plotroom", 232, "the squadron is neither ordered nor up"), ("Plotroom", 243, "no such number of machines"), ("Plotroom", 245, "the squadron is not grounded"), ("Plotroom", 96, "no such mast"), ("Plotroom", 278, "nothing such is told of a mast"), ("Plotroom", 291, "nothing such is told of a track"), ("Plotroom", 162, "no such flight"), ("Plotroom", 266, "nothing such is told of a flight")]
def castO : List String := ["Plotroom", "java/util/ArrayList", "Plotroom$Lots", "Plotroom$Tally", "java/lang/IllegalArgumentException", "java/lang/IllegalStateException", "Plotroom$Mast", "Plotroom$Place", "java/lang/IndexOutOfBoundsException", "Plotroom$Squadron", "Plotroom$Gun", "Plotroom$Town", "Plotroom$Flight", "Plotroom$Plot", "Plotroom$Track", "java/lang/Throwable", "java/lang/String", "[B", "[Ljava/lang/Object;"]
def declN : List MethodName := [⟨"java/lang/RuntimeException", "<init>", "()V"⟩, ⟨"java/lang/RuntimeException", "<init>", "(Ljava/lang/String;)V"⟩, ⟨"java/lang/Exception", "<init>", "()V"⟩, ⟨"java/lang/Exception", "<init>", "(Ljava/lang/String;)V"⟩, ⟨"java/lang/Throwable", "<init>", "()V"⟩, ⟨"java/lang/Throwable", "<init>", "(Ljava/lang/String;)V"⟩, ⟨"Plotroom$Place", "isWithin", "(III)Z"⟩, ⟨"Plotroom$Place", "farFrom", "(II)I"⟩, ⟨"Plotroom$Place", "isOnMap", "()Z"⟩, ⟨"java/lang/Object", "getClass", "()Ljava/lang/Class;"⟩]
def GK (U : State) : Prop := (∀ q ∈ nestF, va_Nw (.fieldLinkNest q.1 q.2.1 q.2.2.1 q.2.2.2.1 q.2.2.2.2.1 q.2.2.2.2.2) U) ∧ (∀ q ∈ nestM, va_Nw (.methodLinkNest q.1 q.2.1 q.2.2.1 q.2.2.2) U) ∧ (∀ q ∈ strsR, ∃ a : Nat, vk_R q.1 q.2.1 q.2.2 a U) ∧ (∀ q ∈ castO, va_Nw (.castable q "java/lang/Object") U) ∧ (∀ q ∈ declN, va_Nw (.declares q) U) ∧ va_AO "java/lang/Object" U ∧ ∃ mi : Nat, va_Mi "[Ljava/lang/Object;" mi U
theorem GK.warm {s U : State} (hW : s.WarmedH U.vm) (h : GK s) : GK U := by
  obtain ⟨h1, h2, h3, h4, h5, h6, mi, h7⟩ := h
  refine ⟨fun q hq => va_Nw.warmF hW (h1 q hq), fun q hq => va_Nw.warmM hW (h2 q hq), fun q hq => ?_, fun q hq => va_Nw.warmC hW (h4 q hq), fun q hq => va_Nw.warmD hW (h5 q hq), va_AO.moved hW.alike h6, mi, va_Mi.moved hW.alike h7⟩
  obtain ⟨a, ha⟩ := h3 q hq
  exact ⟨a, vk_R.warm hW ha⟩
theorem GK.nf {U : State} (hG : GK U) {own ref nm d host : String} {idx : Nat} (h : (own, idx, ref, nm, d, host) ∈ nestF) : va_Nw (Cond.fieldLinkNest own idx ref nm d host) U := by
  obtain ⟨h1, -⟩ := hG
  exact h1 (own, idx, ref, nm, d, host) h
theorem GK.nm {U : State} (hG : GK U) {own host : String} {y : MethodName} {idx : Nat} (h : (own, idx, y, host) ∈ nestM) : va_Nw (Cond.methodLinkNest own idx y host) U := by
  obtain ⟨-, h1, -⟩ := hG
  exact h1 (own, idx, y, host) h
theorem GK.dn {U : State} (hG : GK U) {y : MethodName} (h : y ∈ declN) : va_Nw (Cond.declares y) U := by
  obtain ⟨-, -, -, -, h1, -⟩ := hG
  exact h1 y h
theorem GK.co {U : State} (hG : GK U) {C : String} (h : C ∈ castO) : va_Nw (Cond.castable C "java/lang/Object") U := by
  obtain ⟨-, -, -, h1, -⟩ := hG
  exact h1 C h
theorem GK.ao {U : State} (hG : GK U) : va_AO "java/lang/Object" U := by
  obtain ⟨-, -, -, -, -, h1, -⟩ := hG
  exact h1
theorem GK.call {U : State} {g : JFrame} {mk : MethodId} {a : Array Value} (h : GK U) : GK (U.calling g mk a) := GK.warm (s := U) (State.WarmedH.refl U) h
def GH (e0 : Nat) (A : Nat → Prop) (U : State) (H : Heap) : Prop := va_Z "java/util/ArrayList" "DEFAULTCAPACITY_EMPTY_ELEMENTDATA" "[Ljava/lang/Object;" (.ref e0) A U H ∧ va_T (.object "java/lang/Object") e0 0 (fun _ => .null) A U H ∧ vx_Zq Bundle.tN "UNASSIGNED_STACK" Bundle.steD A U H ∧ vx_Zq Bundle.tN "SUPPRESSED_SENTINEL" Bundle.listD A U H
theorem GH.moved {e0 : Nat} {A : Nat → Prop} {u U : State} {H : Heap} (hvm : u.vm.Alike U.vm) (h : GH e0 A u H) : GH e0 A U H := ⟨va_Z.moved hvm h.1, va_T.moved hvm h.2.1, vx_Zq.moved hvm h.2.2.1, vx_Zq.moved hvm h.2.2.2⟩
theorem GH.kept {e0 : Nat} {A : Nat → Prop} {U : State} {H H1 : Heap} (h : GH e0 A U H) (hq : ∀ a : Nat, a < H.size → ¬ A a → H1[a]? = H[a]?) : GH e0 A U H1 := ⟨va_Z.kept h.1 hq, va_T.kept h.2.1 hq, vx_Zq.kept h.2.2.1 hq, vx_Zq.kept h.2.2.2 hq⟩
theorem GH.narrow {e0 : Nat} {A B : Nat → Prop} {U : State} {H : Heap} (h : GH e0 A U H) (hAB : ∀ q, B q → A q) : GH e0 B U H := ⟨va_Z.narrow h.1 hAB, va_T.narrow h.2.1 hAB, vx_Zq.narrow h.2.2.1 hAB, vx_Zq.narrow h.2.2.2 hAB⟩
abbrev KX : Type := Program × Launch × Env × Room × State × MethodId × Array Value × List Frame × Method × Code × (State → Prop) × va_G × ClassId × Nat × (Nat → Prop) × Nat × Nat
abbrev HQ : Type := Heap → List Loc → Nat → Nat → Prop
/-- the walk stands at pc with these locals and this stack, in any heap that Φ allows: it comes to its end -/
def Gj : KX → HQ → Nat → List (Nat × Value) → List Value → Prop
  | (p, l, e, R, s, m, args, below, meth, c, Q, _, _, _, _, _, _), Φ, pc, lv, st => ∀ (H : Heap) (locs : List Loc) (cells slots : Nat) (ls : Array Slot), Φ H locs cells slots → lv_has ls c.maxLocals lv → W p l e R s m args below meth c H locs cells slots Q (F0 m pc ls st)
/-- what stands over the whole method -/
def Cx (cc : ByteArray) (nL : Nat) (own : String) (rm : Room) : KX → Prop
  | (p, l, e, R, s, m, args, below, meth, c, Q, D, cO, e0, A, mc, ms) => p.tables.exec = Jvm.exec ∧ c.code = cc ∧ c.maxLocals = nL ∧ s.vm.findClass own = some m.cls ∧ (∀ w ∈ GA, w.before args s = true) ∧ va_K D vwCl [(cO, .object "java/lang/Object")] s ∧ GK s ∧ R = rm ∧ meth.locks = false
/-- .. where the heap may change -/
def Vz (e9 : Nat × Nat) : KX → Prop
  | (p, l, e, R, s, m, args, below, meth, c, Q, D, cO, e0, A, mc, ms) => e0 = e9.1 ∧ va_Mi "[Ljava/lang/Object;" e9.2 s ∧ (∀ q : Nat, s.heap.size ≤ q → A q) ∧ GH e0 A s s.heap ∧ mc ≤ R.cells ∧ ms ≤ R.slots
def Nm (nm : String) : KX → Prop
  | (p, l, e, R, s, m, args, below, meth, c, Q, D, cO, e0, A, mc, ms) => meth.name = nm
def PR : KX → wPS → HQ
  | (p, l, e, R, s, m, args, below, meth, c, Q, D, cO, e0, A, mc, ms), S => fun H locs cells slots => va_P D vwCl (pool cO S) H ∧ H = s.heap ∧ locs = [] ∧ cells = 0 ∧ slots = 0
def PV : KX → wPS → Nat → Nat → HQ
  | (p, l, e, R, s, m, args, below, meth, c, Q, D, cO, e0, A, mc, ms), S, k, n => fun H locs cells slots => va_P D vwCl (pool cO S) H ∧ va_D A (pool cO S) ∧ va_S A s.heap H locs ∧ cells + k ≤ mc ∧ slots + n ≤ ms
def Hd : KX → HQ → wPS → Prop
  | (p, l, e, R, s, m, args, below, meth, c, Q, D, cO, e0, A, mc, ms), Φ, S => ∀ (H : Heap) (locs : List Loc) (cells slots : Nat), Φ H locs cells slots → va_P D vwCl (pool cO S) H ∧ cells ≤ R.cells ∧ slots ≤ R.slots
theorem hdR {κ : KX} {S : wPS} : Hd κ (PR κ S) S := by
  obtain ⟨p, l, e, R, s, m, args, below, meth, c, Q, D, cO, e0, A, mc, ms⟩ := κ
  exact fun H locs cells slots h => ⟨h.1, by rw [h.2.2.2.1]; exact Nat.zero_le _, by rw [h.2.2.2.2]; exact Nat.zero_le _⟩
theorem hdV {κ : KX} {e9 : Nat × Nat} (hz : Vz e9 κ) {S : wPS} {k n : Nat} : Hd κ (PV κ S k n) S := by
  obtain ⟨p, l, e, R, s, m, args, below, meth, c, Q, D, cO, e0, A, mc, ms⟩ := κ
  obtain ⟨-, -, -, -, h1, h2⟩ := hz
  exact fun H locs cells slots h => ⟨h.1, by have := h.2.2.2.1; omega, by have := h.2.2.2.2; omega⟩
theorem g_iconst {cc : ByteArray} {nL : Nat} {own : String} {rm : Room} {κ : KX} (hκ : Cx cc nL own rm κ) {Φ : HQ} {pc : Nat} {lv : List (Nat × Value)} {st : List Value} {n : Int} {v : Int32} (hdg : decode cc pc = .ok (.iconst n, 1)) (hv : Int32.ofInt n = v) (kk : Gj κ Φ (pc + 1) lv (.int v :: st)) : Gj κ Φ pc lv st := by
  obtain ⟨p, l, e, R, s, m, args, below, meth, c, Q, D, cO, e0, A, mc, ms⟩ := κ
  obtain ⟨hx, hb, hml, hown, hts, hK, hG, hR, hlk9⟩ := hκ
  intro H locs cells slots ls hF hl
  exact lv_iconst hx hb hdg hv (kk H locs cells slots ls hF hl)
theorem g_bipush {cc : ByteArray} {nL : Nat} {own : String} {rm : Room} {κ : KX} (hκ : Cx cc nL own rm κ) {Φ : HQ} {pc : Nat} {lv : List (Nat × Value)} {st : List Value} {n : Int} {v : Int32} (hdg : decode cc pc = .ok (.bipush n, 2)) (hv : (Int8.ofInt n).toInt32 = v) (kk : Gj κ Φ (pc + 2) lv (.int v :: st)) : Gj κ Φ pc lv st := by
  obtain ⟨p, l, e, R, s, m, args, below, meth, c, Q, D, cO, e0, A, mc, ms⟩ := κ
  obtain ⟨hx, hb, hml, hown, hts, hK, hG, hR, hlk9⟩ := hκ
  intro H locs cells slots ls hF hl
  exact lv_bipush hx hb hdg hv (kk H locs cells slots ls hF hl)
theorem g_sipush {cc : ByteArray} {nL : Nat} {own : String} {rm : Room} {κ : KX} (hκ : Cx cc nL own rm κ) {Φ : HQ} {pc : Nat} {lv : List (Nat × Value)} {st : List Value} {n : Int} {v : Int32} (hdg : decode cc pc = .ok (.sipush n, 3)) (hv : (Int16.ofInt n).toInt32 = v) (kk : Gj κ Φ (pc + 3) lv (.int v :: st)) : Gj κ Φ pc lv st := by
  obtain ⟨p, l, e, R, s, m, args, below, meth, c, Q, D, cO, e0, A, mc, ms⟩ := κ
  obtain ⟨hx, hb, hml, hown, hts, hK, hG, hR, hlk9⟩ := hκ
  intro H locs cells slots ls hF hl
  exact lv_sipush hx hb hdg hv (kk H locs cells slots ls hF hl)
theorem g_null {cc : ByteArray} {nL : Nat} {own : String} {rm : Room} {κ : KX} (hκ : Cx cc nL own rm κ) {Φ : HQ} {pc : Nat} {lv : List (Nat × Value)} {st : List Value} (hdg : decode cc pc = .ok (.aconst_null, 1)) (kk : Gj κ Φ (pc + 1) lv (.null :: st)) : Gj κ Φ pc lv st := by
  obtain ⟨p, l, e, R, s, m, args, below, meth, c, Q, D, cO, e0, A, mc, ms⟩ := κ
  obtain ⟨hx, hb, hml, hown, hts, hK, hG, hR, hlk9⟩ := hκ
  intro H locs cells slots ls hF hl
  exact lv_null hx hb hdg (kk H locs cells slots ls hF hl)
theorem g_dconst1 {cc : ByteArray} {nL : Nat} {own : String} {rm : Room} {κ : KX} (hκ : Cx cc nL own rm κ) {Φ : HQ} {pc : Nat} {lv : List (Nat × Value)} {st : List Value} (hdg : decode cc pc = .ok (.dconst 1, 1)) (kk : Gj κ Φ (pc + 1) lv (.double FP.dconst1 :: st)) : Gj κ Φ pc lv st := by
  obtain ⟨p, l, e, R, s, m, args, below, meth, c, Q, D, cO, e0, A, mc, ms⟩ := κ
  obtain ⟨hx, hb, hml, hown, hts, hK, hG, hR, hlk9⟩ := hκ
  intro H locs cells slots ls hF hl
  exact lv_dconst1 hx hb hdg (kk H locs cells slots ls hF hl)
theorem g_dconst0 {cc : ByteArray} {nL : Nat} {own : String} {rm : Room} {κ : KX} (hκ : Cx cc nL own rm κ) {Φ : HQ} {pc : Nat} {lv : List (Nat × Value)} {st : List Value} (hdg : decode cc pc = .ok (.dconst 0, 1)) (kk : Gj κ Φ (pc + 1) lv (.double FP.dconst0 :: st)) : Gj κ Φ pc lv st := by
  obtain ⟨p, l, e, R, s, m, args, below, meth, c, Q, D, cO, e0, A, mc, ms⟩ := κ
  obtain ⟨hx, hb, hml, hown, hts, hK, hG, hR, hlk9⟩ := hκ
  intro H locs cells slots ls hF hl
  exact lv_dconst0 hx hb hdg (kk H locs cells slots ls hF hl)
theorem g_ldc2 {cc : ByteArray} {nL : Nat} {own : String} {rm : Room} {κ : KX} (hκ : Cx cc nL own rm κ) {Φ : HQ} {pc : Nat} {lv : List (Nat × Value)} {st : List Value} {idx : Nat} {v : Int64} (hc : Cond.constantLong own idx v ∈ GA) (hdg : decode cc pc = .ok (.ldc2_w idx, 3)) (kk : Gj κ Φ (pc + 3) lv (.long v :: st)) : Gj κ Φ pc lv st := by
  obtain ⟨p, l, e, R, s, m, args, below, meth, c, Q, D, cO, e0, A, mc, ms⟩ := κ
  obtain ⟨hx, hb, hml, hown, hts, hK, hG, hR, hlk9⟩ := hκ
  intro H locs cells slots ls hF hl
  exact lv_ldc2 hx hb hown (hts _ hc) hdg (kk H locs cells slots ls hF hl)
theorem g_ldc2d {cc : ByteArray} {nL : Nat} {own : String} {rm : Room} {κ : KX} (hκ : Cx cc nL own rm κ) {Φ : HQ} {pc : Nat} {lv : List (Nat × Value)} {st : List Value} {idx : Nat} {v : UInt64} (hc : Cond.constantDouble own idx v ∈ GA) (hdg : decode cc pc = .ok (.ldc2_w idx, 3)) (kk : Gj κ Φ (pc + 3) lv (.double v :: st)) : Gj κ Φ pc lv st := by
  obtain ⟨p, l, e, R, s, m, args, below, meth, c, Q, D, cO, e0, A, mc, ms⟩ := κ
  obtain ⟨hx, hb, hml, hown, hts, hK, hG, hR, hlk9⟩ := hκ
  intro H locs cells slots ls hF hl
  exact lv_ldc2d hx hb hown (hts _ hc) hdg (kk H locs cells slots ls hF hl)
theorem g_ldc {cc : ByteArray} {nL : Nat} {own : String} {rm : Room} {κ : KX} (hκ : Cx cc nL own rm κ) {Φ : HQ} {pc : Nat} {lv : List (Nat × Value)} {st : List Value} {idx : Nat} {v : Int32} (hc : Cond.constant own idx v ∈ GA) (hdg : decode cc pc = .ok (.ldc idx, 2)) (kk : Gj κ Φ (pc + 2) lv (.int v :: st)) : Gj κ Φ pc lv st := by
  obtain ⟨p, l, e, R, s, m, args, below, meth, c, Q, D, cO, e0, A, mc, ms⟩ := κ
  obtain ⟨hx, hb, hml, hown, hts, hK, hG, hR, hlk9⟩ := hκ
  intro H locs cells slots ls hF hl
  exact lv_ldc hx hb hown (hts _ hc) hdg (kk H locs cells slots ls hF hl)
theorem g_iload_n {cc : ByteArray} {nL : Nat} {own : String} {rm : Room} {κ : KX} (hκ : Cx cc nL own rm κ) {Φ : HQ} {pc : Nat} {lv : List (Nat × Value)} {st : List Value} {k : Fin 4} {i : Nat} {x : Int32} (j : Nat) (hdg : decode cc pc = .ok (.iload_n k, 1)) (hi : (k : Nat) = i) (hj : lv[j]? = some (i, .int x)) (kk : Gj κ Φ (pc + 1) lv (.int x :: st)) : Gj κ Φ pc lv st := by
  obtain ⟨p, l, e, R, s, m, args, below, meth, c, Q, D, cO, e0, A, mc, ms⟩ := κ
  obtain ⟨hx, hb, hml, hown, hts, hK, hG, hR, hlk9⟩ := hκ
  intro H locs cells slots ls hF hl
  exact lv_iload_n hx hb hdg hi (lv_at hl j hj) (kk H locs cells slots ls hF hl)
theorem g_iload {cc : ByteArray} {nL : Nat} {own : String} {rm : Room} {κ : KX} (hκ : Cx cc nL own rm κ) {Φ : HQ} {pc : Nat} {lv : List (Nat × Value)} {st : List Value} {i : Nat} {x : Int32} (j : Nat) (hdg : decode cc pc = .ok (.iload i, 2)) (hj : lv[j]? = some (i, .int x)) (kk : Gj κ Φ (pc + 2) lv (.int x :: st)) : Gj κ Φ pc lv st := by
  obtain ⟨p, l, e, R, s, m, args, below, meth, c, Q, D, cO, e0, A, mc, ms⟩ := κ
  obtain ⟨hx, hb, hml, hown, hts, hK, hG, hR, hlk9⟩ := hκ
  intro H locs cells slots ls hF hl
  exact lv_iload hx hb hdg (lv_at hl j hj) (kk H locs cells slots ls hF hl)
theorem g_lload_n {cc : ByteArray} {nL : Nat} {own : String} {rm : Room} {κ : KX} (hκ : Cx cc nL own rm κ) {Φ : HQ} {pc : Nat} {lv : List (Nat × Value)} {st : List Value} {k : Fin 4} {i : Nat} {x : Int64} (j : Nat) (hdg : decode cc pc = .ok (.lload_n k, 1)) (hi : (k : Nat) = i) (hj : lv[j]? = some (i, .long x)) (kk : Gj κ Φ (pc + 1) lv (.long x :: st)) : Gj κ Φ pc lv st := by
  obtain ⟨p, l, e, R, s, m, args, below, meth, c, Q, D, cO, e0, A, mc, ms⟩ := κ
  obtain ⟨hx, hb, hml, hown, hts, hK, hG, hR, hlk9⟩ := hκ
  intro H locs cells slots ls hF hl
  exact lv_lload_n hx hb hdg hi (lv_at hl j hj) (kk H locs cells slots ls hF hl)
theorem g_lload {cc : ByteArray} {nL : Nat} {own : String} {rm : Room} {κ : KX} (hκ : Cx cc nL own rm κ) {Φ : HQ} {pc : Nat} {lv : List (Nat × Value)} {st : List Value} {i : Nat} {x : Int64} (j : Nat) (hdg : decode cc pc = .ok (.lload i, 2)) (hj : lv[j]? = some (i, .long x)) (kk : Gj κ Φ (pc + 2) lv (.long x :: st)) : Gj κ Φ pc lv st := by
  obtain ⟨p, l, e, R, s, m, args, below, meth, c, Q, D, cO, e0, A, mc, ms⟩ := κ
  obtain ⟨hx, hb, hml, hown, hts, hK, hG, hR, hlk9⟩ := hκ
  intro H locs cells slots ls hF hl
  exact lv_lload hx hb hdg (lv_at hl j hj) (kk H locs cells slots ls hF hl)
theorem g_dload_n {cc : ByteArray} {nL : Nat} {own : String} {rm : Room} {κ : KX} (hκ : Cx cc nL own rm κ) {Φ : HQ} {pc : Nat} {lv : List (Nat × Value)} {st : List Value} {k : Fin 4} {i : Nat} {x : UInt64} (j : Nat) (hdg : decode cc pc = .ok (.dload_n k, 1)) (hi : (k : Nat) = i) (hj : lv[j]? = some (i, .double x)) (kk : Gj κ Φ (pc + 1) lv (.double x :: st)) : Gj κ Φ pc lv st := by
  obtain ⟨p, l, e, R, s, m, args, below, meth, c, Q, D, cO, e0, A, mc, ms⟩ := κ
  obtain ⟨hx, hb, hml, hown, hts, hK, hG, hR, hlk9⟩ := hκ
  intro H locs cells slots ls hF hl
  exact lv_dload_n hx hb hdg hi (lv_at hl j hj) (kk H locs cells slots ls hF hl)
theorem g_dload {cc : ByteArray} {nL : Nat} {own : String} {rm : Room} {κ : KX} (hκ : Cx cc nL own rm κ) {Φ : HQ} {pc : Nat} {lv : List (Nat × Value)} {st : List Value} {i : Nat} {x : UInt64} (j : Nat) (hdg : decode cc pc = .ok (.dload i, 2)) (hj : lv[j]? = some (i, .double x)) (kk : Gj κ Φ (pc + 2) lv (.double x :: st)) : Gj κ Φ pc lv st := by
  obtain ⟨p, l, e, R, s, m, args, below, meth, c, Q, D, cO, e0, A, mc, ms⟩ := κ
  obtain ⟨hx, hb, hml, hown, hts, hK, hG, hR, hlk9⟩ := hκ
  intro H locs cells slots ls hF hl
  exact lv_dload hx hb hdg (lv_at hl j hj) (kk H locs cells slots ls hF hl)
theorem g_aload_n {cc : ByteArray} {nL : Nat} {own : String} {rm : Room} {κ : KX} (hκ : Cx cc nL own rm κ) {Φ : HQ} {pc : Nat} {lv : List (Nat × Value)} {st : List Value} {k : Fin 4} {i : Nat} {x : Nat} (j : Nat) (hdg : decode cc pc = .ok (.aload_n k, 1)) (hi : (k : Nat) = i) (hj : lv[j]? = some (i, .ref x)) (kk : Gj κ Φ (pc + 1) lv (.ref x :: st)) : Gj κ Φ pc lv st := by
  obtain ⟨p, l, e, R, s, m, args, below, meth, c, Q, D, cO, e0, A, mc, ms⟩ := κ
  obtain ⟨hx, hb, hml, hown, hts, hK, hG, hR, hlk9⟩ := hκ
  intro H locs cells slots ls hF hl
  exact lv_aload_n hx hb hdg hi (lv_at hl j hj) (kk H locs cells slots ls hF hl)
theorem g_aload {cc : ByteArray} {nL : Nat} {own : String} {rm : Room} {κ : KX} (hκ : Cx cc nL own rm κ) {Φ : HQ} {pc : Nat} {lv : List (Nat × Value)} {st : List Value} {i : Nat} {x : Nat} (j : Nat) (hdg : decode cc pc = .ok (.aload i, 2)) (hj : lv[j]? = some (i, .ref x)) (kk : Gj κ Φ (pc + 2) lv (.ref x :: st)) : Gj κ Φ pc lv st := by
  obtain ⟨p, l, e, R, s, m, args, below, meth, c, Q, D, cO, e0, A, mc, ms⟩ := κ
  obtain ⟨hx, hb, hml, hown, hts, hK, hG, hR, hlk9⟩ := hκ
  intro H locs cells slots ls hF hl
  exact lv_aload hx hb hdg (lv_at hl j hj) (kk H locs cells slots ls hF hl)
theorem g_aload_nN {cc : ByteArray} {nL : Nat} {own : String} {rm : Room} {κ : KX} (hκ : Cx cc nL own rm κ) {Φ : HQ} {pc : Nat} {lv : List (Nat × Value)} {st : List Value} {k : Fin 4} {i : Nat} (j : Nat) (hdg : decode cc pc = .ok (.aload_n k, 1)) (hi : (k : Nat) = i) (hj : lv[j]? = some (i, .null)) (kk : Gj κ Φ (pc + 1) lv (.null :: st)) : Gj κ Φ pc lv st := by
  obtain ⟨p, l, e, R, s, m, args, below, meth, c, Q, D, cO, e0, A, mc, ms⟩ := κ
  obtain ⟨hx, hb, hml, hown, hts, hK, hG, hR, hlk9⟩ := hκ
  intro H locs cells slots ls hF hl
  exact lv_aload_nN hx hb hdg hi (lv_at hl j hj) (kk H locs cells slots ls hF hl)
theorem g_aloadN {cc : ByteArray} {nL : Nat} {own : String} {rm : Room} {κ : KX} (hκ : Cx cc nL own rm κ) {Φ : HQ} {pc : Nat} {lv : List (Nat × Value)} {st : List Value} {i : Nat} (j : Nat) (hdg : decode cc pc = .ok (.aload i, 2)) (hj : lv[j]? = some (i, .null)) (kk : Gj κ Φ (pc + 2) lv (.null :: st)) : Gj κ Φ pc lv st := by
  obtain ⟨p, l, e, R, s, m, args, below, meth, c, Q, D, cO, e0, A, mc, ms⟩ := κ
  obtain ⟨hx, hb, hml, hown, hts, hK, hG, hR, hlk9⟩ := hκ
  intro H locs cells slots ls hF hl
  exact lv_aloadN hx hb hdg (lv_at hl j hj) (kk H locs cells slots ls hF hl)
theorem g_istore_n {cc : ByteArray} {nL : Nat} {own : String} {rm : Room} {κ : KX} (hκ : Cx cc nL own rm κ) {Φ : HQ} {pc : Nat} {lv : List (Nat × Value)} {st : List Value} {k : Fin 4} {i : Nat} {x : Int32} (lv' : List (Nat × Value)) (hdg : decode cc pc = .ok (.istore_n k, 1)) (hi : (k : Nat) = i) (hn : i < nL) (hlv : (i, Value.int x) :: lv.filter (fun q => !(q.1 == i) && !(q.1 + 1 == i && q.2.category == 2)) = lv') (kk : Gj κ Φ (pc + 1) lv' st) : Gj κ Φ pc lv (.int x :: st) := by
  obtain ⟨p, l, e, R, s, m, args, below, meth, c, Q, D, cO, e0, A, mc, ms⟩ := κ
  obtain ⟨hx, hb, hml, hown, hts, hK, hG, hR, hlk9⟩ := hκ
  intro H locs cells slots ls hF hl
  exact lv_istore_n hx hb hdg hi hl (by rw [hml]; exact hn) hlv (fun ls hl => kk H locs cells slots ls hF hl)
theorem g_istore {cc : ByteArray} {nL : Nat} {own : String} {rm : Room} {κ : KX} (hκ : Cx cc nL own rm κ) {Φ : HQ} {pc : Nat} {lv : List (Nat × Value)} {st : List Value} {i : Nat} {x : Int32} (lv' : List (Nat × Value)) (hdg : decode cc pc = .ok (.istore i, 2)) (hn : i < nL) (hlv : (i, Value.int x) :: lv.filter (fun q => !(q.1 == i) && !(q.1 + 1 == i && q.2.category == 2)) = lv') (kk : Gj κ Φ (pc + 2) lv' st) : Gj κ Φ pc lv (.int x :: st) := by
  obtain ⟨p, l, e, R, s, m, args, below, meth, c, Q, D, cO, e0, A, mc, ms⟩ := κ
  obtain ⟨hx, hb, hml, hown, hts, hK, hG, hR, hlk9⟩ := hκ
  intro H locs cells slots ls hF hl
  exact lv_istore hx hb hdg hl (by rw [hml]; exact hn) hlv (fun ls hl => kk H locs cells slots ls hF hl)
theorem g_astore_n {cc : ByteArray} {nL : Nat} {own : String} {rm : Room} {κ : KX} (hκ : Cx cc nL own rm κ) {Φ : HQ} {pc : Nat} {lv : List (Nat × Value)} {st : List Value} {k : Fin 4} {i : Nat} {x : Nat} (lv' : List (Nat × Value)) (hdg : decode cc pc = .ok (.astore_n k, 1)) (hi : (k : Nat) = i) (hn : i < nL) (hlv : (i, Value.ref x) :: lv.filter (fun q => !(q.1 == i) && !(q.1 + 1 == i && q.2.category == 2)) = lv') (kk : Gj κ Φ (pc + 1) lv' st) : Gj κ Φ pc lv (.ref x :: st) := by
  obtain ⟨p, l, e, R, s, m, args, below, meth, c, Q, D, cO, e0, A, mc, ms⟩ := κ
  obtain ⟨hx, hb, hml, hown, hts, hK, hG, hR, hlk9⟩ := hκ
  intro H locs cells slots ls hF hl
  exact lv_astore_n hx hb hdg hi hl (by rw [hml]; exact hn) hlv (fun ls hl => kk H locs cells slots ls hF hl)
theorem g_astore {cc : ByteArray} {nL : Nat} {own : String} {rm : Room} {κ : KX} (hκ : Cx cc nL own rm κ) {Φ : HQ} {pc : Nat} {lv : List (Nat × Value)} {st : List Value} {i : Nat} {x : Nat} (lv' : List (Nat × Value)) (hdg : decode cc pc = .ok (.astore i, 2)) (hn : i < nL) (hlv : (i, Value.ref x) :: lv.filter (fun q => !(q.1 == i) && !(q.1 + 1 == i && q.2.category == 2)) = lv') (kk : Gj κ Φ (pc + 2) lv' st) : Gj κ Φ pc lv (.ref x :: st) := by
  obtain ⟨p, l, e, R, s, m, args, below, meth, c, Q, D, cO, e0, A, mc, ms⟩ := κ
  obtain ⟨hx, hb, hml, hown, hts, hK, hG, hR, hlk9⟩ := hκ
  intro H locs cells slots ls hF hl
  exact lv_astore hx hb hdg hl (by rw [hml]; exact hn) hlv (fun ls hl => kk H locs cells slots ls hF hl)
theorem g_lstore_n {cc : ByteArray} {nL : Nat} {own : String} {rm : Room} {κ : KX} (hκ : Cx cc nL own rm κ) {Φ : HQ} {pc : Nat} {lv : List (Nat × Value)} {st : List Value} {k : Fin 4} {i : Nat} {x : Int64} (lv' : List (Nat × Value)) (hdg : decode cc pc = .ok (.lstore_n k, 1)) (hi : (k : Nat) = i) (hn : i + 1 < nL) (hlv : (i, Value.long x) :: lv.filter (fun q => !(q.1 == i) && (!(q.1 == i + 1) && !(q.1 + 1 == i && q.2.category == 2))) = lv') (kk : Gj κ Φ (pc + 1) lv' st) : Gj κ Φ pc lv (.long x :: st) := by
  obtain ⟨p, l, e, R, s, m, args, below, meth, c, Q, D, cO, e0, A, mc, ms⟩ := κ
  obtain ⟨hx, hb, hml, hown, hts, hK, hG, hR, hlk9⟩ := hκ
  intro H locs cells slots ls hF hl
  exact lv_lstore_n hx hb hdg hi hl (by rw [hml]; exact hn) hlv (fun ls hl => kk H locs cells slots ls hF hl)
theorem g_lstore {cc : ByteArray} {nL : Nat} {own : String} {rm : Room} {κ : KX} (hκ : Cx cc nL own rm κ) {Φ : HQ} {pc : Nat} {lv : List (Nat × Value)} {st : List Value} {i : Nat} {x : Int64} (lv' : List (Nat × Value)) (hdg : decode cc pc = .ok (.lstore i, 2)) (hn : i + 1 < nL) (hlv : (i, Value.long x) :: lv.filter (fun q => !(q.1 == i) && (!(q.1 == i + 1) && !(q.1 + 1 == i && q.2.category == 2))) = lv') (kk : Gj κ Φ (pc + 2) lv' st) : Gj κ Φ pc lv (.long x :: st) := by
  obtain ⟨p, l, e, R, s, m, args, below, meth, c, Q, D, cO, e0, A, mc, ms⟩ := κ
  obtain ⟨hx, hb, hml, hown, hts, hK, hG, hR, hlk9⟩ := hκ
  intro H locs cells slots ls hF hl
  exact lv_lstore hx hb hdg hl (by rw [hml]; exact hn) hlv (fun ls hl => kk H locs cells slots ls hF hl)
theorem g_dstore_n {cc : ByteArray} {nL : Nat} {own : String} {rm : Room} {κ : KX} (hκ : Cx cc nL own rm κ) {Φ : HQ} {pc : Nat} {lv : List (Nat × Value)} {st : List Value} {k : Fin 4} {i : Nat} {x : UInt64} (lv' : List (Nat × Value)) (hdg : decode cc pc = .ok (.dstore_n k, 1)) (hi : (k : Nat) = i) (hn : i + 1 < nL) (hlv : (i, Value.double x) :: lv.filter (fun q => !(q.1 == i) && (!(q.1 == i + 1) && !(q.1 + 1 == i && q.2.category == 2))) = lv') (kk : Gj κ Φ (pc + 1) lv' st) : Gj κ Φ pc lv (.double x :: st) := by
  obtain ⟨p, l, e, R, s, m, args, below, meth, c, Q, D, cO, e0, A, mc, ms⟩ := κ
  obtain ⟨hx, hb, hml, hown, hts, hK, hG, hR, hlk9⟩ := hκ
  intro H locs cells slots ls hF hl
  exact lv_dstore_n hx hb hdg hi hl (by rw [hml]; exact hn) hlv (fun ls hl => kk H locs cells slots ls hF hl)
theorem g_dstore {cc : ByteArray} {nL : Nat} {own : String} {rm : Room} {κ : KX} (hκ : Cx cc nL own rm κ) {Φ : HQ} {pc : Nat} {lv : List (Nat × Value)} {st : List Value} {i : Nat} {x : UInt64} (lv' : List (Nat × Value)) (hdg : decode cc pc = .ok (.dstore i, 2)) (hn : i + 1 < nL) (hlv : (i, Value.double x) :: lv.filter (fun q => !(q.1 == i) && (!(q.1 == i + 1) && !(q.1 + 1 == i && q.2.category == 2))) = lv') (kk : Gj κ Φ (pc + 2) lv' st) : Gj κ Φ pc lv (.double x :: st) := by
  obtain ⟨p, l, e, R, s, m, args, below, meth, c, Q, D, cO, e0, A, mc, ms⟩ := κ
  obtain ⟨hx, hb, hml, hown, hts, hK, hG, hR, hlk9⟩ := hκ
  intro H locs cells slots ls hF hl
  exact lv_dstore hx hb hdg hl (by rw [hml]; exact hn) hlv (fun ls hl => kk H locs cells slots ls hF hl)
theorem g_astore_nN {cc : ByteArray} {nL : Nat} {own : String} {rm : Room} {κ : KX} (hκ : Cx cc nL own rm κ) {Φ : HQ} {pc : Nat} {lv : List (Nat × Value)} {st : List Value} {k : Fin 4} {i : Nat} (lv' : List (Nat × Value)) (hdg : decode cc pc = .ok (.astore_n k, 1)) (hi : (k : Nat) = i) (hn : i < nL) (hlv : (i, Value.null) :: lv.filter (fun q => !(q.1 == i) && !(q.1 + 1 == i && q.2.category == 2)) = lv') (kk : Gj κ Φ (pc + 1) lv' st) : Gj κ Φ pc lv (.null :: st) := by
  obtain ⟨p, l, e, R, s, m, args, below, meth, c, Q, D, cO, e0, A, mc, ms⟩ := κ
  obtain ⟨hx, hb, hml, hown, hts, hK, hG, hR, hlk9⟩ := hκ
  intro H locs cells slots ls hF hl
  exact lv_astore_nN hx hb hdg hi hl (by rw [hml]; exact hn) hlv (fun ls hl => kk H locs cells slots ls hF hl)
theorem g_astoreN {cc : ByteArray} {nL : Nat} {own : String} {rm : Room} {κ : KX} (hκ : Cx cc nL own rm κ) {Φ : HQ} {pc : Nat} {lv : List (Nat × Value)} {st : List Value} {i : Nat} (lv' : List (Nat × Value)) (hdg : decode cc pc = .ok (.astore i, 2)) (hn : i < nL) (hlv : (i, Value.null) :: lv.filter (fun q => !(q.1 == i) && !(q.1 + 1 == i && q.2.category == 2)) = lv') (kk : Gj κ Φ (pc + 2) lv' st) : Gj κ Φ pc lv (.null :: st) := by
  obtain ⟨p, l, e, R, s, m, args, below, meth, c, Q, D, cO, e0, A, mc, ms⟩ := κ
  obtain ⟨hx, hb, hml, hown, hts, hK, hG, hR, hlk9⟩ := hκ
  intro H locs cells slots ls hF hl
  exact lv_astoreN hx hb hdg hl (by rw [hml]; exact hn) hlv (fun ls hl => kk H locs cells slots ls hF hl)
theorem g_iinc {cc : ByteArray} {nL : Nat} {own : String} {rm : Room} {κ : KX} (hκ : Cx cc nL own rm κ) {Φ : HQ} {pc : Nat} {lv : List (Nat × Value)} {st : List Value} {i k : Nat} {n : Int} {x v : Int32} (lv' : List (Nat × Value)) (hdg : decode cc pc = .ok (.iinc i n, 3)) (hk : lv[k]? = some (i, .int x)) (hv : x + Int32.ofInt n = v) (hn : i < nL) (hlv : (i, Value.int v) :: lv.filter (fun q => !(q.1 == i) && !(q.1 + 1 == i && q.2.category == 2)) = lv') (kk : Gj κ Φ (pc + 3) lv' st) : Gj κ Φ pc lv st := by
  obtain ⟨p, l, e, R, s, m, args, below, meth, c, Q, D, cO, e0, A, mc, ms⟩ := κ
  obtain ⟨hx, hb, hml, hown, hts, hK, hG, hR, hlk9⟩ := hκ
  intro H locs cells slots ls hF hl
  exact lv_iinc hx hb hdg hl hk hv (by rw [hml]; exact hn) hlv (fun ls hl => kk H locs cells slots ls hF hl)
theorem g_iadd {cc : ByteArray} {nL : Nat} {own : String} {rm : Room} {κ : KX} (hκ : Cx cc nL own rm κ) {Φ : HQ} {pc : Nat} {lv : List (Nat × Value)} {st : List Value} {x y : Int32} (hdg : decode cc pc = .ok (.iadd, 1)) (kk : Gj κ Φ (pc + 1) lv (.int (x + y) :: st)) : Gj κ Φ pc lv (.int y :: .int x :: st) := by
  obtain ⟨p, l, e, R, s, m, args, below, meth, c, Q, D, cO, e0, A, mc, ms⟩ := κ
  obtain ⟨hx, hb, hml, hown, hts, hK, hG, hR, hlk9⟩ := hκ
  intro H locs cells slots ls hF hl
  exact lv_iadd hx hb hdg (kk H locs cells slots ls hF hl)
theorem g_isub {cc : ByteArray} {nL : Nat} {own : String} {rm : Room} {κ : KX} (hκ : Cx cc nL own rm κ) {Φ : HQ} {pc : Nat} {lv : List (Nat × Value)} {st : List Value} {x y : Int32} (hdg : decode cc pc = .ok (.isub, 1)) (kk : Gj κ Φ (pc + 1) lv (.int (x - y) :: st)) : Gj κ Φ pc lv (.int y :: .int x :: st) := by
  obtain ⟨p, l, e, R, s, m, args, below, meth, c, Q, D, cO, e0, A, mc, ms⟩ := κ
  obtain ⟨hx, hb, hml, hown, hts, hK, hG, hR, hlk9⟩ := hκ
  intro H locs cells slots ls hF hl
  exact lv_isub hx hb hdg (kk H locs cells slots ls hF hl)
theorem g_imul {cc : ByteArray} {nL : Nat} {own : String} {rm : Room} {κ : KX} (hκ : Cx cc nL own rm κ) {Φ : HQ} {pc : Nat} {lv : List (Nat × Value)} {st : List Value} {x y : Int32} (hdg : decode cc pc = .ok (.imul, 1)) (kk : Gj κ Φ (pc + 1) lv (.int (x * y) :: st)) : Gj κ Φ pc lv (.int y :: .int x :: st) := by
  obtain ⟨p, l, e, R, s, m, args, below, meth, c, Q, D, cO, e0, A, mc, ms⟩ := κ
  obtain ⟨hx, hb, hml, hown, hts, hK, hG, hR, hlk9⟩ := hκ
  intro H locs cells slots ls hF hl
  exact lv_imul hx hb hdg (kk H locs cells slots ls hF hl)
theorem g_iand {cc : ByteArray} {nL : Nat} {own : String} {rm : Room} {κ : KX} (hκ : Cx cc nL own rm κ) {Φ : HQ} {pc : Nat} {lv : List (Nat × Value)} {st : List Value} {x y : Int32} (hdg : decode cc pc = .ok (.iand, 1)) (kk : Gj κ Φ (pc + 1) lv (.int (x &&& y) :: st)) : Gj κ Φ pc lv (.int y :: .int x :: st) := by
  obtain ⟨p, l, e, R, s, m, args, below, meth, c, Q, D, cO, e0, A, mc, ms⟩ := κ
  obtain ⟨hx, hb, hml, hown, hts, hK, hG, hR, hlk9⟩ := hκ
  intro H locs cells slots ls hF hl
  exact lv_iand hx hb hdg (kk H locs cells slots ls hF hl)
theorem g_ishr {cc : ByteArray} {nL : Nat} {own : String} {rm : Room} {κ : KX} (hκ : Cx cc nL own rm κ) {Φ : HQ} {pc : Nat} {lv : List (Nat × Value)} {st : List Value} {x y : Int32} (hdg : decode cc pc = .ok (.ishr, 1)) (kk : Gj κ Φ (pc + 1) lv (.int (x >>> (y &&& 31)) :: st)) : Gj κ Φ pc lv (.int y :: .int x :: st) := by
  obtain ⟨p, l, e, R, s, m, args, below, meth, c, Q, D, cO, e0, A, mc, ms⟩ := κ
  obtain ⟨hx, hb, hml, hown, hts, hK, hG, hR, hlk9⟩ := hκ
  intro H locs cells slots ls hF hl
  exact lv_ishr hx hb hdg (kk H locs cells slots ls hF hl)
theorem g_idiv {cc : ByteArray} {nL : Nat} {own : String} {rm : Room} {κ : KX} (hκ : Cx cc nL own rm κ) {Φ : HQ} {pc : Nat} {lv : List (Nat × Value)} {st : List Value} {x y : Int32} (hdg : decode cc pc = .ok (.idiv, 1)) (hne : ¬ y = 0) (kk : Gj κ Φ (pc + 1) lv (.int (x / y) :: st)) : Gj κ Φ pc lv (.int y :: .int x :: st) := by
  obtain ⟨p, l, e, R, s, m, args, below, meth, c, Q, D, cO, e0, A, mc, ms⟩ := κ
  obtain ⟨hx, hb, hml, hown, hts, hK, hG, hR, hlk9⟩ := hκ
  intro H locs cells slots ls hF hl
  exact lv_idiv hx hb hdg hne (kk H locs cells slots ls hF hl)
theorem g_irem {cc : ByteArray} {nL : Nat} {own : String} {rm : Room} {κ : KX} (hκ : Cx cc nL own rm κ) {Φ : HQ} {pc : Nat} {lv : List (Nat × Value)} {st : List Value} {x y : Int32} (hdg : decode cc pc = .ok (.irem, 1)) (hne : ¬ y = 0) (kk : Gj κ Φ (pc + 1) lv (.int (x - x / y * y) :: st)) : Gj κ Φ pc lv (.int y :: .int x :: st) := by
  obtain ⟨p, l, e, R, s, m, args, below, meth, c, Q, D, cO, e0, A, mc, ms⟩ := κ
  obtain ⟨hx, hb, hml, hown, hts, hK, hG, hR, hlk9⟩ := hκ
  intro H locs cells slots ls hF hl
  exact lv_irem hx hb hdg hne (kk H locs cells slots ls hF hl)
theorem g_ladd {cc : ByteArray} {nL : Nat} {own : String} {rm : Room} {κ : KX} (hκ : Cx cc nL own rm κ) {Φ : HQ} {pc : Nat} {lv : List (Nat × Value)} {st : List Value} {x y : Int64} (hdg : decode cc pc = .ok (.ladd, 1)) (kk : Gj κ Φ (pc + 1) lv (.long (x + y) :: st)) : Gj κ Φ pc lv (.long y :: .long x :: st) := by
  obtain ⟨p, l, e, R, s, m, args, below, meth, c, Q, D, cO, e0, A, mc, ms⟩ := κ
  obtain ⟨hx, hb, hml, hown, hts, hK, hG, hR, hlk9⟩ := hκ
  intro H locs cells slots ls hF hl
  exact lv_ladd hx hb hdg (kk H locs cells slots ls hF hl)
theorem g_lmul {cc : ByteArray} {nL : Nat} {own : String} {rm : Room} {κ : KX} (hκ : Cx cc nL own rm κ) {Φ : HQ} {pc : Nat} {lv : List (Nat × Value)} {st : List Value} {x y : Int64} (hdg : decode cc pc = .ok (.lmul, 1)) (kk : Gj κ Φ (pc + 1) lv (.long (x * y) :: st)) : Gj κ Φ pc lv (.long y :: .long x :: st) := by
  obtain ⟨p, l, e, R, s, m, args, below, meth, c, Q, D, cO, e0, A, mc, ms⟩ := κ
  obtain ⟨hx, hb, hml, hown, hts, hK, hG, hR, hlk9⟩ := hκ
  intro H locs cells slots ls hF hl
  exact lv_lmul hx hb hdg (kk H locs cells slots ls hF hl)
theorem g_lcmp {cc : ByteArray} {nL : Nat} {own : String} {rm : Room} {κ : KX} (hκ : Cx cc nL own rm κ) {Φ : HQ} {pc : Nat} {lv : List (Nat × Value)} {st : List Value} {x y : Int64} (hdg : decode cc pc = .ok (.lcmp, 1)) (kk : Gj κ Φ (pc + 1) lv (.int (lg_cmp x y) :: st)) : Gj κ Φ pc lv (.long y :: .long x :: st) := by
  obtain ⟨p, l, e, R, s, m, args, below, meth, c, Q, D, cO, e0, A, mc, ms⟩ := κ
  obtain ⟨hx, hb, hml, hown, hts, hK, hG, hR, hlk9⟩ := hκ
  intro H locs cells slots ls hF hl
  exact W.lcmp hx hb hdg (kk H locs cells slots ls hF hl)
theorem g_dmul {cc : ByteArray} {nL : Nat} {own : String} {rm : Room} {κ : KX} (hκ : Cx cc nL own rm κ) {Φ : HQ} {pc : Nat} {lv : List (Nat × Value)} {st : List Value} {x y : UInt64} (hdg : decode cc pc = .ok (.dmul, 1)) (hne : vf_n64 (FP.dmul x y)) (kk : Gj κ Φ (pc + 1) lv (.double (FP.dmul x y) :: st)) : Gj κ Φ pc lv (.double y :: .double x :: st) := by
  obtain ⟨p, l, e, R, s, m, args, below, meth, c, Q, D, cO, e0, A, mc, ms⟩ := κ
  obtain ⟨hx, hb, hml, hown, hts, hK, hG, hR, hlk9⟩ := hκ
  intro H locs cells slots ls hF hl
  exact lv_dmul hx hb hdg hne (kk H locs cells slots ls hF hl)
theorem g_ddiv {cc : ByteArray} {nL : Nat} {own : String} {rm : Room} {κ : KX} (hκ : Cx cc nL own rm κ) {Φ : HQ} {pc : Nat} {lv : List (Nat × Value)} {st : List Value} {x y : UInt64} (hdg : decode cc pc = .ok (.ddiv, 1)) (hne : vf_n64 (FP.ddiv x y)) (kk : Gj κ Φ (pc + 1) lv (.double (FP.ddiv x y) :: st)) : Gj κ Φ pc lv (.double y :: .double x :: st) := by
  obtain ⟨p, l, e, R, s, m, args, below, meth, c, Q, D, cO, e0, A, mc, ms⟩ := κ
  obtain ⟨hx, hb, hml, hown, hts, hK, hG, hR, hlk9⟩ := hκ
  intro H locs cells slots ls hF hl
  exact lv_ddiv hx hb hdg hne (kk H locs cells slots ls hF hl)
theorem g_dcmp {cc : ByteArray} {nL : Nat} {own : String} {rm : Room} {κ : KX} (hκ : Cx cc nL own rm κ) {Φ : HQ} {pc : Nat} {lv : List (Nat × Value)} {st : List Value} {x y : UInt64} {op : CmpOp} (hdg : decode cc pc = .ok (.dcmp op, 1)) (kk : Gj κ Φ (pc + 1) lv (.int (Op.cmpValue (FP.dcmp x y) op) :: st)) : Gj κ Φ pc lv (.double y :: .double x :: st) := by
  obtain ⟨p, l, e, R, s, m, args, below, meth, c, Q, D, cO, e0, A, mc, ms⟩ := κ
  obtain ⟨hx, hb, hml, hown, hts, hK, hG, hR, hlk9⟩ := hκ
  intro H locs cells slots ls hF hl
  exact lv_dcmp hx hb hdg (kk H locs cells slots ls hF hl)
theorem g_i2d {cc : ByteArray} {nL : Nat} {own : String} {rm : Room} {κ : KX} (hκ : Cx cc nL own rm κ) {Φ : HQ} {pc : Nat} {lv : List (Nat × Value)} {st : List Value} {x : Int32} (hdg : decode cc pc = .ok (.i2d, 1)) (kk : Gj κ Φ (pc + 1) lv (.double (FP.i2d x) :: st)) : Gj κ Φ pc lv (.int x :: st) := by
  obtain ⟨p, l, e, R, s, m, args, below, meth, c, Q, D, cO, e0, A, mc, ms⟩ := κ
  obtain ⟨hx, hb, hml, hown, hts, hK, hG, hR, hlk9⟩ := hκ
  intro H locs cells slots ls hF hl
  exact lv_i2d hx hb hdg (kk H locs cells slots ls hF hl)
theorem g_d2l {cc : ByteArray} {nL : Nat} {own : String} {rm : Room} {κ : KX} (hκ : Cx cc nL own rm κ) {Φ : HQ} {pc : Nat} {lv : List (Nat × Value)} {st : List Value} {x : UInt64} (hdg : decode cc pc = .ok (.d2l, 1)) (kk : Gj κ Φ (pc + 1) lv (.long (FP.d2l x) :: st)) : Gj κ Φ pc lv (.double x :: st) := by
  obtain ⟨p, l, e, R, s, m, args, below, meth, c, Q, D, cO, e0, A, mc, ms⟩ := κ
  obtain ⟨hx, hb, hml, hown, hts, hK, hG, hR, hlk9⟩ := hκ
  intro H locs cells slots ls hF hl
  exact lv_d2l hx hb hdg (kk H locs cells slots ls hF hl)
theorem g_i2l {cc : ByteArray} {nL : Nat} {own : String} {rm : Room} {κ : KX} (hκ : Cx cc nL own rm κ) {Φ : HQ} {pc : Nat} {lv : List (Nat × Value)} {st : List Value} {x : Int32} (hdg : decode cc pc = .ok (.i2l, 1)) (kk : Gj κ Φ (pc + 1) lv (.long x.toInt64 :: st)) : Gj κ Φ pc lv (.int x :: st) := by
  obtain ⟨p, l, e, R, s, m, args, below, meth, c, Q, D, cO, e0, A, mc, ms⟩ := κ
  obtain ⟨hx, hb, hml, hown, hts, hK, hG, hR, hlk9⟩ := hκ
  intro H locs cells slots ls hF hl
  exact lv_i2l hx hb hdg rfl (kk H locs cells slots ls hF hl)
theorem g_dup {cc : ByteArray} {nL : Nat} {own : String} {rm : Room} {κ : KX} (hκ : Cx cc nL own rm κ) {Φ : HQ} {pc : Nat} {lv : List (Nat × Value)} {st : List Value} {va : Value} (hdg : decode cc pc = .ok (.dup, 1)) (hva : va.category = 1) (kk : Gj κ Φ (pc + 1) lv (va :: va :: st)) : Gj κ Φ pc lv (va :: st) := by
  obtain ⟨p, l, e, R, s, m, args, below, meth, c, Q, D, cO, e0, A, mc, ms⟩ := κ
  obtain ⟨hx, hb, hml, hown, hts, hK, hG, hR, hlk9⟩ := hκ
  intro H locs cells slots ls hF hl
  exact lv_dup hx hb hdg hva (kk H locs cells slots ls hF hl)
theorem g_pop {cc : ByteArray} {nL : Nat} {own : String} {rm : Room} {κ : KX} (hκ : Cx cc nL own rm κ) {Φ : HQ} {pc : Nat} {lv : List (Nat × Value)} {st : List Value} {va : Value} (hdg : decode cc pc = .ok (.pop, 1)) (hva : va.category = 1) (kk : Gj κ Φ (pc + 1) lv st) : Gj κ Φ pc lv (va :: st) := by
  obtain ⟨p, l, e, R, s, m, args, below, meth, c, Q, D, cO, e0, A, mc, ms⟩ := κ
  obtain ⟨hx, hb, hml, hown, hts, hK, hG, hR, hlk9⟩ := hκ
  intro H locs cells slots ls hF hl
  exact lv_pop hx hb hdg hva (kk H locs cells slots ls hF hl)
theorem g_dup_x1 {cc : ByteArray} {nL : Nat} {own : String} {rm : Room} {κ : KX} (hκ : Cx cc nL own rm κ) {Φ : HQ} {pc : Nat} {lv : List (Nat × Value)} {st : List Value} {va vb : Value} (hdg : decode cc pc = .ok (.dup_x1, 1)) (hva : va.category = 1) (hvb : vb.category = 1) (kk : Gj κ Φ (pc + 1) lv (va :: vb :: va :: st)) : Gj κ Φ pc lv (va :: vb :: st) := by
  obtain ⟨p, l, e, R, s, m, args, below, meth, c, Q, D, cO, e0, A, mc, ms⟩ := κ
  obtain ⟨hx, hb, hml, hown, hts, hK, hG, hR, hlk9⟩ := hκ
  intro H locs cells slots ls hF hl
  exact lv_dup_x1 hx hb hdg hva hvb (kk H locs cells slots ls hF hl)
theorem g_if_eq {cc : ByteArray} {nL : Nat} {own : String} {rm : Room} {κ : KX} (hκ : Cx cc nL own rm κ) {Φ : HQ} {pc : Nat} {lv : List (Nat × Value)} {st : List Value} {x : Int32} {off : Int} (tgt : Nat) (hdg : decode cc pc = .ok (.ifCond .eq off, 3)) (ht : (pc : Int) + off = (tgt : Int)) (kt : x = 0 → Gj κ Φ tgt lv st) (kf : ¬ x = 0 → Gj κ Φ (pc + 3) lv st) : Gj κ Φ pc lv (.int x :: st) := by
  obtain ⟨p, l, e, R, s, m, args, below, meth, c, Q, D, cO, e0, A, mc, ms⟩ := κ
  obtain ⟨hx, hb, hml, hown, hts, hK, hG, hR, hlk9⟩ := hκ
  intro H locs cells slots ls hF hl
  exact lv_if_eq hx hb hdg ht (fun z => kt z H locs cells slots ls hF hl) (fun z => kf z H locs cells slots ls hF hl)
theorem g_icmp_eq {cc : ByteArray} {nL : Nat} {own : String} {rm : Room} {κ : KX} (hκ : Cx cc nL own rm κ) {Φ : HQ} {pc : Nat} {lv : List (Nat × Value)} {st : List Value} {x y : Int32} {off : Int} (tgt : Nat) (hdg : decode cc pc = .ok (.if_icmp .eq off, 3)) (ht : (pc : Int) + off = (tgt : Int)) (kt : x = y → Gj κ Φ tgt lv st) (kf : ¬ x = y → Gj κ Φ (pc + 3) lv st) : Gj κ Φ pc lv (.int y :: .int x :: st) := by
  obtain ⟨p, l, e, R, s, m, args, below, meth, c, Q, D, cO, e0, A, mc, ms⟩ := κ
  obtain ⟨hx, hb, hml, hown, hts, hK, hG, hR, hlk9⟩ := hκ
  intro H locs cells slots ls hF hl
  exact lv_icmp_eq hx hb hdg ht (fun z => kt z H locs cells slots ls hF hl) (fun z => kf z H locs cells slots ls hF hl)
theorem g_if_ne {cc : ByteArray} {nL : Nat} {own : String} {rm : Room} {κ : KX} (hκ : Cx cc nL own rm κ) {Φ : HQ} {pc : Nat} {lv : List (Nat × Value)} {st : List Value} {x : Int32} {off : Int} (tgt : Nat) (hdg : decode cc pc = .ok (.ifCond .ne off, 3)) (ht : (pc : Int) + off = (tgt : Int)) (kt : ¬ x = 0 → Gj κ Φ tgt lv st) (kf : x = 0 → Gj κ Φ (pc + 3) lv st) : Gj κ Φ pc lv (.int x :: st) := by
  obtain ⟨p, l, e, R, s, m, args, below, meth, c, Q, D, cO, e0, A, mc, ms⟩ := κ
  obtain ⟨hx, hb, hml, hown, hts, hK, hG, hR, hlk9⟩ := hκ
  intro H locs cells slots ls hF hl
  exact lv_if_ne hx hb hdg ht (fun z => kt z H locs cells slots ls hF hl) (fun z => kf z H locs cells slots ls hF hl)
theorem g_icmp_ne {cc : ByteArray} {nL : Nat} {own : String} {rm : Room} {κ : KX} (hκ : Cx cc nL own rm κ) {Φ : HQ} {pc : Nat} {lv : List (Nat × Value)} {st : List Value} {x y : Int32} {off : Int} (tgt : Nat) (hdg : decode cc pc = .ok (.if_icmp .ne off, 3)) (ht : (pc : Int) + off = (tgt : Int)) (kt : ¬ x = y → Gj κ Φ tgt lv st) (kf : x = y → Gj κ Φ (pc + 3) lv st) : Gj κ Φ pc lv (.int y :: .int x :: st) := by
  obtain ⟨p, l, e, R, s, m, args, below, meth, c, Q, D, cO, e0, A, mc, ms⟩ := κ
  obtain ⟨hx, hb, hml, hown, hts, hK, hG, hR, hlk9⟩ := hκ
  intro H locs cells slots ls hF hl
  exact lv_icmp_ne hx hb hdg ht (fun z => kt z H locs cells slots ls hF hl) (fun z => kf z H locs cells slots ls hF hl)
theorem g_if_lt {cc : ByteArray} {nL : Nat} {own : String} {rm : Room} {κ : KX} (hκ : Cx cc nL own rm κ) {Φ : HQ} {pc : Nat} {lv : List (Nat × Value)} {st : List Value} {x : Int32} {off : Int} (tgt : Nat) (hdg : decode cc pc = .ok (.ifCond .lt off, 3)) (ht : (pc : Int) + off = (tgt : Int)) (kt : x < 0 → Gj κ Φ tgt lv st) (kf : ¬ x < 0 → Gj κ Φ (pc + 3) lv st) : Gj κ Φ pc lv (.int x :: st) := by
  obtain ⟨p, l, e, R, s, m, args, below, meth, c, Q, D, cO, e0, A, mc, ms⟩ := κ
  obtain ⟨hx, hb, hml, hown, hts, hK, hG, hR, hlk9⟩ := hκ
  intro H locs cells slots ls hF hl
  exact lv_if_lt hx hb hdg ht (fun z => kt z H locs cells slots ls hF hl) (fun z => kf z H locs cells slots ls hF hl)
theorem g_icmp_lt {cc : ByteArray} {nL : Nat} {own : String} {rm : Room} {κ : KX} (hκ : Cx cc nL own rm κ) {Φ : HQ} {pc : Nat} {lv : List (Nat × Value)} {st : List Value} {x y : Int32} {off : Int} (tgt : Nat) (hdg : decode cc pc = .ok (.if_icmp .lt off, 3)) (ht : (pc : Int) + off = (tgt : Int)) (kt : x < y → Gj κ Φ tgt lv st) (kf : ¬ x < y → Gj κ Φ (pc + 3) lv st) : Gj κ Φ pc lv (.int y :: .int x :: st) := by
  obtain ⟨p, l, e, R, s, m, args, below, meth, c, Q, D, cO, e0, A, mc, ms⟩ := κ
  obtain ⟨hx, hb, hml, hown, hts, hK, hG, hR, hlk9⟩ := hκ
  intro H locs cells slots ls hF hl
  exact lv_icmp_lt hx hb hdg ht (fun z => kt z H locs cells slots ls hF hl) (fun z => kf z H locs cells slots ls hF hl)
theorem g_if_ge {cc : ByteArray} {nL : Nat} {own : String} {rm : Room} {κ : KX} (hκ : Cx cc nL own rm κ) {Φ : HQ} {pc : Nat} {lv : List (Nat × Value)} {st : List Value} {x : Int32} {off : Int} (tgt : Nat) (hdg : decode cc pc = .ok (.ifCond .ge off, 3)) (ht : (pc : Int) + off = (tgt : Int)) (kt : 0 ≤ x → Gj κ Φ tgt lv st) (kf : ¬ 0 ≤ x → Gj κ Φ (pc + 3) lv st) : Gj κ Φ pc lv (.int x :: st) := by
  obtain ⟨p, l, e, R, s, m, args, below, meth, c, Q, D, cO, e0, A, mc, ms⟩ := κ
  obtain ⟨hx, hb, hml, hown, hts, hK, hG, hR, hlk9⟩ := hκ
  intro H locs cells slots ls hF hl
  exact lv_if_ge hx hb hdg ht (fun z => kt z H locs cells slots ls hF hl) (fun z => kf z H locs cells slots ls hF hl)
theorem g_icmp_ge {cc : ByteArray} {nL : Nat} {own : String} {rm : Room} {κ : KX} (hκ : Cx cc nL own rm κ) {Φ : HQ} {pc : Nat} {lv : List (Nat × Value)} {st : List Value} {x y : Int32} {off : Int} (tgt : Nat) (hdg : decode cc pc = .ok (.if_icmp .ge off, 3)) (ht : (pc : Int) + off = (tgt : Int)) (kt : y ≤ x → Gj κ Φ tgt lv st) (kf : ¬ y ≤ x → Gj κ Φ (pc + 3) lv st) : Gj κ Φ pc lv (.int y :: .int x :: st) := by
  obtain ⟨p, l, e, R, s, m, args, below, meth, c, Q, D, cO, e0, A, mc, ms⟩ := κ
  obtain ⟨hx, hb, hml, hown, hts, hK, hG, hR, hlk9⟩ := hκ
  intro H locs cells slots ls hF hl
  exact lv_icmp_ge hx hb hdg ht (fun z => kt z H locs cells slots ls hF hl) (fun z => kf z H locs cells slots ls hF hl)
theorem g_if_gt {cc : ByteArray} {nL : Nat} {own : String} {rm : Room} {κ : KX} (hκ : Cx cc nL own rm κ) {Φ : HQ} {pc : Nat} {lv : List (Nat × Value)} {st : List Value} {x : Int32} {off : Int} (tgt : Nat) (hdg : decode cc pc = .ok (.ifCond .gt off, 3)) (ht : (pc : Int) + off = (tgt : Int)) (kt : 0 < x → Gj κ Φ tgt lv st) (kf : ¬ 0 < x → Gj κ Φ (pc + 3) lv st) : Gj κ Φ pc lv (.int x :: st) := by
  obtain ⟨p, l, e, R, s, m, args, below, meth, c, Q, D, cO, e0, A, mc, ms⟩ := κ
  obtain ⟨hx, hb, hml, hown, hts, hK, hG, hR, hlk9⟩ := hκ
  intro H locs cells slots ls hF hl
  exact lv_if_gt hx hb hdg ht (fun z => kt z H locs cells slots ls hF hl) (fun z => kf z H locs cells slots ls hF hl)
theorem g_icmp_gt {cc : ByteArray} {nL : Nat} {own : String} {rm : Room} {κ : KX} (hκ : Cx cc nL own rm κ) {Φ : HQ} {pc : Nat} {lv : List (Nat × Value)} {st : List Value} {x y : Int32} {off : Int} (tgt : Nat) (hdg : decode cc pc = .ok (.if_icmp .gt off, 3)) (ht : (pc : Int) + off = (tgt : Int)) (kt : y < x → Gj κ Φ tgt lv st) (kf : ¬ y < x → Gj κ Φ (pc + 3) lv st) : Gj κ Φ pc lv (.int y :: .int x :: st) := by
  obtain ⟨p, l, e, R, s, m, args, below, meth, c, Q, D, cO, e0, A, mc, ms⟩ := κ
  obtain ⟨hx, hb, hml, hown, hts, hK, hG, hR, hlk9⟩ := hκ
  intro H locs cells slots ls hF hl
  exact lv_icmp_gt hx hb hdg ht (fun z => kt z H locs cells slots ls hF hl) (fun z => kf z H locs cells slots ls hF hl)
theorem g_if_le {cc : ByteArray} {nL : Nat} {own : String} {rm : Room} {κ : KX} (hκ : Cx cc nL own rm κ) {Φ : HQ} {pc : Nat} {lv : List (Nat × Value)} {st : List Value} {x : Int32} {off : Int} (tgt : Nat) (hdg : decode cc pc = .ok (.ifCond .le off, 3)) (ht : (pc : Int) + off = (tgt : Int)) (kt : x ≤ 0 → Gj κ Φ tgt lv st) (kf : ¬ x ≤ 0 → Gj κ Φ (pc + 3) lv st) : Gj κ Φ pc lv (.int x :: st) := by
  obtain ⟨p, l, e, R, s, m, args, below, meth, c, Q, D, cO, e0, A, mc, ms⟩ := κ
  obtain ⟨hx, hb, hml, hown, hts, hK, hG, hR, hlk9⟩ := hκ
  intro H locs cells slots ls hF hl
  exact lv_if_le hx hb hdg ht (fun z => kt z H locs cells slots ls hF hl) (fun z => kf z H locs cells slots ls hF hl)
theorem g_icmp_le {cc : ByteArray} {nL : Nat} {own : String} {rm : Room} {κ : KX} (hκ : Cx cc nL own rm κ) {Φ : HQ} {pc : Nat} {lv : List (Nat × Value)} {st : List Value} {x y : Int32} {off : Int} (tgt : Nat) (hdg : decode cc pc = .ok (.if_icmp .le off, 3)) (ht : (pc : Int) + off = (tgt : Int)) (kt : x ≤ y → Gj κ Φ tgt lv st) (kf : ¬ x ≤ y → Gj κ Φ (pc + 3) lv st) : Gj κ Φ pc lv (.int y :: .int x :: st) := by
  obtain ⟨p, l, e, R, s, m, args, below, meth, c, Q, D, cO, e0, A, mc, ms⟩ := κ
  obtain ⟨hx, hb, hml, hown, hts, hK, hG, hR, hlk9⟩ := hκ
  intro H locs cells slots ls hF hl
  exact lv_icmp_le hx hb hdg ht (fun z => kt z H locs cells slots ls hF hl) (fun z => kf z H locs cells slots ls hF hl)
theorem g_goto {cc : ByteArray} {nL : Nat} {own : String} {rm : Room} {κ : KX} (hκ : Cx cc nL own rm κ) {Φ : HQ} {pc : Nat} {lv : List (Nat × Value)} {st : List Value} {off : Int} (tgt : Nat) (hdg : decode cc pc = .ok (.goto off, 3)) (ht : (pc : Int) + off = (tgt : Int)) (kk : Gj κ Φ tgt lv st) : Gj κ Φ pc lv st := by
  obtain ⟨p, l, e, R, s, m, args, below, meth, c, Q, D, cO, e0, A, mc, ms⟩ := κ
  obtain ⟨hx, hb, hml, hown, hts, hK, hG, hR, hlk9⟩ := hκ
  intro H locs cells slots ls hF hl
  exact lv_goto hx hb hdg ht (kk H locs cells slots ls hF hl)
theorem g_ifnull {cc : ByteArray} {nL : Nat} {own : String} {rm : Room} {κ : KX} (hκ : Cx cc nL own rm κ) {Φ : HQ} {pc : Nat} {lv : List (Nat × Value)} {st : List Value} {x : Nat} {off : Int} (hdg : decode cc pc = .ok (.ifnull off, 3)) (kk : Gj κ Φ (pc + 3) lv st) : Gj κ Φ pc lv (.ref x :: st) := by
  obtain ⟨p, l, e, R, s, m, args, below, meth, c, Q, D, cO, e0, A, mc, ms⟩ := κ
  obtain ⟨hx, hb, hml, hown, hts, hK, hG, hR, hlk9⟩ := hκ
  intro H locs cells slots ls hF hl
  exact lv_ifnull hx hb hdg (kk H locs cells slots ls hF hl)
theorem g_ifnullN {cc : ByteArray} {nL : Nat} {own : String} {rm : Room} {κ : KX} (hκ : Cx cc nL own rm κ) {Φ : HQ} {pc : Nat} {lv : List (Nat × Value)} {st : List Value} {off : Int} (tgt : Nat) (hdg : decode cc pc = .ok (.ifnull off, 3)) (ht : (pc : Int) + off = (tgt : Int)) (kk : Gj κ Φ tgt lv st) : Gj κ Φ pc lv (.null :: st) := by
  obtain ⟨p, l, e, R, s, m, args, below, meth, c, Q, D, cO, e0, A, mc, ms⟩ := κ
  obtain ⟨hx, hb, hml, hown, hts, hK, hG, hR, hlk9⟩ := hκ
  intro H locs cells slots ls hF hl
  exact lv_ifnullN hx hb hdg ht (kk H locs cells slots ls hF hl)
theorem g_ifnonnull {cc : ByteArray} {nL : Nat} {own : String} {rm : Room} {κ : KX} (hκ : Cx cc nL own rm κ) {Φ : HQ} {pc : Nat} {lv : List (Nat × Value)} {st : List Value} {x : Nat} {off : Int} (tgt : Nat) (hdg : decode cc pc = .ok (.ifnonnull off, 3)) (ht : (pc : Int) + off = (tgt : Int)) (kk : Gj κ Φ tgt lv st) : Gj κ Φ pc lv (.ref x :: st) := by
  obtain ⟨p, l, e, R, s, m, args, below, meth, c, Q, D, cO, e0, A, mc, ms⟩ := κ
  obtain ⟨hx, hb, hml, hown, hts, hK, hG, hR, hlk9⟩ := hκ
  intro H locs cells slots ls hF hl
  exact lv_ifnonnull hx hb hdg ht (kk H locs cells slots ls hF hl)
theorem g_ifnonnullN {cc : ByteArray} {nL : Nat} {own : String} {rm : Room} {κ : KX} (hκ : Cx cc nL own rm κ) {Φ : HQ} {pc : Nat} {lv : List (Nat × Value)} {st : List Value} {off : Int} (hdg : decode cc pc = .ok (.ifnonnull off, 3)) (kk : Gj κ Φ (pc + 3) lv st) : Gj κ Φ pc lv (.null :: st) := by
  obtain ⟨p, l, e, R, s, m, args, below, meth, c, Q, D, cO, e0, A, mc, ms⟩ := κ
  obtain ⟨hx, hb, hml, hown, hts, hK, hG, hR, hlk9⟩ := hκ
  intro H locs cells slots ls hF hl
  exact lv_ifnonnullN hx hb hdg (kk H locs cells slots ls hF hl)
theorem g_acmp_ne {cc : ByteArray} {nL : Nat} {own : String} {rm : Room} {κ : KX} (hκ : Cx cc nL own rm κ) {Φ : HQ} {pc : Nat} {lv : List (Nat × Value)} {st : List Value} {rx ry : Option Nat} {off : Int} (tgt : Nat) (hdg : decode cc pc = .ok (.if_acmp .ne off, 3)) (ht : (pc : Int) + off = (tgt : Int)) (kt : ¬ rx = ry → Gj κ Φ tgt lv st) (kf : rx = ry → Gj κ Φ (pc + 3) lv st) : Gj κ Φ pc lv (va_rf ry :: va_rf rx :: st) := by
  obtain ⟨p, l, e, R, s, m, args, below, meth, c, Q, D, cO, e0, A, mc, ms⟩ := κ
  obtain ⟨hx, hb, hml, hown, hts, hK, hG, hR, hlk9⟩ := hκ
  intro H locs cells slots ls hF hl
  exact lv_acmp_ne hx hb hdg ht (fun z => kt z H locs cells slots ls hF hl) (fun z => kf z H locs cells slots ls hF hl)
theorem g_acmp_eq {cc : ByteArray} {nL : Nat} {own : String} {rm : Room} {κ : KX} (hκ : Cx cc nL own rm κ) {Φ : HQ} {pc : Nat} {lv : List (Nat × Value)} {st : List Value} {rx ry : Option Nat} {off : Int} (tgt : Nat) (hdg : decode cc pc = .ok (.if_acmp .eq off, 3)) (ht : (pc : Int) + off = (tgt : Int)) (kt : rx = ry → Gj κ Φ tgt lv st) (kf : ¬ rx = ry → Gj κ Φ (pc + 3) lv st) : Gj κ Φ pc lv (va_rf ry :: va_rf rx :: st) := by
  obtain ⟨p, l, e, R, s, m, args, below, meth, c, Q, D, cO, e0, A, mc, ms⟩ := κ
  obtain ⟨hx, hb, hml, hown, hts, hK, hG, hR, hlk9⟩ := hκ
  intro H locs cells slots ls hF hl
  exact lv_acmp_eq hx hb hdg ht (fun z => kt z H locs cells slots ls hF hl) (fun z => kf z H locs cells slots ls hF hl)
theorem g_tableIn {cc : ByteArray} {nL : Nat} {own : String} {rm : Room} {κ : KX} (hκ : Cx cc nL own rm κ) {Φ : HQ} {pc : Nat} {lv : List (Nat × Value)} {st : List Value} {dflt lo hi : Int} {offs : Array Int} {len : Nat} {x : Int32} {off : Int} (tgt : Nat) (hdg : decode cc pc = .ok (.tableswitch dflt lo hi offs, len)) (h1 : ¬ x.toInt < lo) (h2 : ¬ hi < x.toInt) (ho : offs[(x.toInt - lo).toNat]? = some off) (ht : (pc : Int) + off = (tgt : Int)) (kk : Gj κ Φ tgt lv st) : Gj κ Φ pc lv (.int x :: st) := by
  obtain ⟨p, l, e, R, s, m, args, below, meth, c, Q, D, cO, e0, A, mc, ms⟩ := κ
  obtain ⟨hx, hb, hml, hown, hts, hK, hG, hR, hlk9⟩ := hκ
  intro H locs cells slots ls hF hl
  exact lv_tableIn hx hb hdg h1 h2 ho ht (kk H locs cells slots ls hF hl)
theorem g_tableOut {cc : ByteArray} {nL : Nat} {own : String} {rm : Room} {κ : KX} (hκ : Cx cc nL own rm κ) {Φ : HQ} {pc : Nat} {lv : List (Nat × Value)} {st : List Value} {dflt lo hi : Int} {offs : Array Int} {len : Nat} {x : Int32} (tgt : Nat) (hdg : decode cc pc = .ok (.tableswitch dflt lo hi offs, len)) (h : x.toInt < lo ∨ hi < x.toInt) (ht : (pc : Int) + dflt = (tgt : Int)) (kk : Gj κ Φ tgt lv st) : Gj κ Φ pc lv (.int x :: st) := by
  obtain ⟨p, l, e, R, s, m, args, below, meth, c, Q, D, cO, e0, A, mc, ms⟩ := κ
  obtain ⟨hx, hb, hml, hown, hts, hK, hG, hR, hlk9⟩ := hκ
  intro H locs cells slots ls hF hl
  exact lv_tableOut hx hb hdg h ht (kk H locs cells slots ls hF hl)
theorem g_topi {κ : KX} {Φ : HQ} {pc : Nat} {lv : List (Nat × Value)} {st : List Value} {x : Int32} (k : ∀ y : Int32, y = x → Gj κ Φ pc lv (.int y :: st)) : Gj κ Φ pc lv (.int x :: st) := k x rfl
theorem g_topl {κ : KX} {Φ : HQ} {pc : Nat} {lv : List (Nat × Value)} {st : List Value} {x : Int64} (k : ∀ y : Int64, y = x → Gj κ Φ pc lv (.long y :: st)) : Gj κ Φ pc lv (.long x :: st) := k x rfl
theorem g_topd {κ : KX} {Φ : HQ} {pc : Nat} {lv : List (Nat × Value)} {st : List Value} {x : UInt64} (k : ∀ y : UInt64, y = x → Gj κ Φ pc lv (.double y :: st)) : Gj κ Φ pc lv (.double x :: st) := k x rfl
theorem g_lv {κ : KX} {Φ : HQ} {pc : Nat} {lv : List (Nat × Value)} {st : List Value} (lv2 : List (Nat × Value)) (ks : List Nat) (hl2 : lv_pick lv ks = lv2) (kk : Gj κ Φ pc lv2 st) : Gj κ Φ pc lv st := by
  obtain ⟨p, l, e, R, s, m, args, below, meth, c, Q, D, cO, e0, A, mc, ms⟩ := κ
  exact fun H locs cells slots ls hF hl => kk H locs cells slots ls hF (lv_sub hl ks hl2)
theorem g_eq {κ : KX} {Φ : HQ} {pc : Nat} {lv : List (Nat × Value)} {st : List Value} {st2 : List Value} (h : st = st2) (kk : Gj κ Φ pc lv st2) : Gj κ Φ pc lv st := h ▸ kk
theorem g_wid {κ : KX} {S : wPS} {k n k2 n2 : Nat} {pc : Nat} {lv : List (Nat × Value)} {st : List Value} (h1 : k2 ≤ k) (h2 : n2 ≤ n) (kk : Gj κ (PV κ S k2 n2) pc lv st) : Gj κ (PV κ S k n) pc lv st := by
  obtain ⟨p, l, e, R, s, m, args, below, meth, c, Q, D, cO, e0, A, mc, ms⟩ := κ
  exact fun H locs cells slots ls hF hl => kk H locs cells slots ls ⟨hF.1, hF.2.1, hF.2.2.1, by have := hF.2.2.2.1; omega, by have := hF.2.2.2.2; omega⟩ hl
