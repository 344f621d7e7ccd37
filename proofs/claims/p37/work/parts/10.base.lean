def nestF : List (String × Nat × String × String × String × String) := [("Plotroom", 613, "Plotroom$Lots", "drawn", "I", "Plotroom"), ("Plotroom", 263, "Plotroom$Tally", "refused", "I", "Plotroom"), ("Plotroom", 485, "Plotroom$Tally", "plotsWithoutTrack", "I", "Plotroom"), ("Plotroom", 539, "Plotroom$Tally", "fights", "I", "Plotroom"), ("Plotroom", 367, "Plotroom$Tally", "claims", "I", "Plotroom"), ("Plotroom", 522, "Plotroom$Tally", "machinesLost", "I", "Plotroom"), ("Plotroom", 562, "Plotroom$Tally", "shames", "I", "Plotroom"), ("Plotroom", 565, "Plotroom$Tally", "work", "I", "Plotroom"), ("Plotroom", 573, "Plotroom$Tally", "lives", "I", "Plotroom"), ("Plotroom", 426, "Plotroom$Mast", "slip", "I", "Plotroom"), ("Plotroom$Plot", 30, "Plotroom$Mast", "lag", "I", "Plotroom"), ("Plotroom", 103, "Plotroom$Mast", "isCut", "Z", "Plotroom"), ("Plotroom", 453, "Plotroom$Mast", "made", "I", "Plotroom"), ("Plotroom", 472, "Plotroom$Mast", "came", "I", "Plotroom"), ("Plotroom", 469, "Plotroom$Mast", "lost", "I", "Plotroom"), ("Plotroom", 509, "Plotroom$Squadron", "base", "LPlotroom$Place;", "Plotroom"), ("Plotroom", 626, "Plotroom$Squadron", "tank", "I", "Plotroom"), ("Plotroom", 208, "Plotroom$Squadron", "ready", "I", "Plotroom"), ("Plotroom", 247, "Plotroom$Squadron", "machines", "I", "Plotroom"), ("Plotroom", 234, "Plotroom$Squadron", "state", "I", "Plotroom"), ("Plotroom", 500, "Plotroom$Squadron", "fuel", "I", "Plotroom"), ("Plotroom", 226, "Plotroom$Squadron", "target", "LPlotroom$Track;", "Plotroom"), ("Plotroom", 215, "Plotroom$Squadron", "due", "I", "Plotroom"), ("Plotroom", 536, "Plotroom$Squadron", "won", "I", "Plotroom"), ("Plotroom", 551, "Plotroom$Gun", "radius", "I", "Plotroom"), ("Plotroom", 138, "Plotroom$Gun", "isLent", "Z", "Plotroom"), ("Plotroom", 568, "Plotroom$Town", "people", "I", "Plotroom"), ("Plotroom", 545, "Plotroom$Flight", "isFoe", "Z", "Plotroom"), ("Plotroom$Mast", 28, "Plotroom$Flight", "height", "I", "Plotroom"), ("Plotroom", 542, "Plotroom$Flight", "count", "I", "Plotroom"), ("Plotroom$Mast", 22, "Plotroom$Flight", "isUp", "Z", "Plotroom"), ("Plotroom", 166, "Plotroom$Flight", "isUp", "Z", "Plotroom"), ("Plotroom", 465, "Plotroom$Plot", "mast", "LPlotroom$Mast;", "Plotroom"), ("Plotroom$Track", 27, "Plotroom$Plot", "guess", "I", "Plotroom"), ("Plotroom$Track", 21, "Plotroom$Plot", "seenAt", "I", "Plotroom"), ("Plotroom", 488, "Plotroom$Plot", "seenAt", "I", "Plotroom"), ("Plotroom", 456, "Plotroom$Plot", "due", "I", "Plotroom"), ("Plotroom$Squadron", 52, "Plotroom$Track", "number", "I", "Plotroom"), ("Plotroom", 620, "Plotroom$Track", "number", "I", "Plotroom"), ("Plotroom$Plan", 19, "Plotroom$Track", "minute", "I", "Plotroom"), ("Plotroom", 297, "Plotroom$Track", "minute", "I", "Plotroom"), ("Plotroom", 582, "Plotroom$Track", "hits", "I", "Plotroom"), ("Plotroom", 197, "Plotroom$Track", "isLive", "Z", "Plotroom")]
def nestM : List (String × Nat × MethodName × String) := [("Plotroom", 49, ⟨"Plotroom$Tally", "<init>", "()V"⟩, "Plotroom"), ("Plotroom$Flight", 37, ⟨"Plotroom", "isPlace", "(II)Z"⟩, "Plotroom"), ("Plotroom$Track", 42, ⟨"Plotroom", "hold", "(I)I"⟩, "Plotroom"), ("Plotroom$Squadron", 65, ⟨"Plotroom", "rootAbove", "(I)I"⟩, "Plotroom"), ("Plotroom$Plan", 24, ⟨"Plotroom", "isIn", "(III)Z"⟩, "Plotroom"), ("Plotroom$Place", 16, ⟨"Plotroom", "isPlace", "(II)Z"⟩, "Plotroom")]
def strsR : List (String × Nat × String) := [("Plotroom", 68, "no such mast can be"), ("Plotroom", 79, "no more masts"), ("Plotroom", 107, "no such place"), ("Plotroom", 109, "no more stations"), ("Plotroom", 116, "no such station"), ("Plotroom", 118, "no such squadron can be"), ("Plotroom", 120, "no more squadrons"), ("Plotroom", 127, "no such gun can be"), ("Plotroom", 129, "no more guns"), ("Plotroom", 141, "no such town can be"), ("Plotroom", 143, "no more towns"), ("Plotroom", 153, "no such flight can be"), ("Plotroom", 155, "no more flights"), ("Plotroom", 256, "no such number of minutes"), ("Plotroom", 258, "the day is over by then"), ("Plotroom", 230, "no such squadron"), ("Plotroom", 281, "nothing such is told of a squadron"), ("Plotroom", 284, "nothing such is told of the room"), ("Plotroom", 289, "no such track"), ("Plotroom", 310, "no such town"), ("Plotroom", 189, "no such squadron, or track"), ("Plotroom", 203, "the squadron can not be scrambled to that"), ("Plotroom", 221, "the squadron can not be led to that"), ("Plotroom", 232, "the squadron is neither ordered nor up"), ("Plotroom", 243, "no such number of machines"), ("Plotroom", 245, "the squadron is not grounded"), ("Plotroom", 96, "no such mast"), ("Plotroom", 278, "nothing such is told of a mast"), ("Plotroom", 291, "nothing such is told of a track"), ("Plotroom", 162, "no such flight"), ("Plotroom", 266, "nothing such is told of a flight")]
def castO : List String := ["Plotroom", "java/util/ArrayList", "Plotroom$Lots", "Plotroom$Tally", "java/lang/IllegalArgumentException", "java/lang/IllegalStateException", "Plotroom$Mast", "Plotroom$Place", "java/lang/IndexOutOfBoundsException", "Plotroom$Squadron", "Plotroom$Gun", "Plotroom$Town", "Plotroom$Flight", "Plotroom$Plot", "Plotroom$Track", "java/lang/Throwable", "java/lang/String", "[B", "[Ljava/lang/Object;"]
def declN : List MethodName := [⟨"java/lang/RuntimeException", "<init>", "()V"⟩, ⟨"java/lang/RuntimeException", "<init>", "(Ljava/lang/String;)V"⟩, ⟨"java/lang/Exception", "<init>", "()V"⟩, ⟨"java/lang/Exception", "<init>", "(Ljava/lang/String;)V"⟩, ⟨"java/lang/Throwable", "<init>", "()V"⟩, ⟨"java/lang/Throwable", "<init>", "(Ljava/lang/String;)V"⟩, ⟨"Plotroom$Place", "isWithin", "(III)Z"⟩, ⟨"Plotroom$Place", "farFrom", "(II)I"⟩, ⟨"Plotroom$Place", "isOnMap", "()Z"⟩, ⟨"java/lang/Object", "getClass", "()Ljava/lang/Class;"⟩]
def GK (U : State) : Prop := (∀ q ∈ nestF, va_Nw (.fieldLinkNest q.1 q.2.1 q.2.2.1 q.2.2.2.1 q.2.2.2.2.1 q.2.2.2.2.2) U) ∧ (∀ q ∈ nestM, va_Nw (.methodLinkNest q.1 q.2.1 q.2.2.1 q.2.2.2) U) ∧ (∀ q ∈ strsR, ∃ a : Nat, vk_R q.1 q.2.1 q.2.2 a U) ∧ (∀ q ∈ castO, va_Nw (.castable q "java/lang/Object") U) ∧ (∀ q ∈ declN, va_Nw (.declares q) U) ∧ va_AO "java/lang/Object" U ∧ ∃ mi : Nat, va_Mi "[Ljava/lang/Object;" mi U
theorem GK.warm {s U : State} (hW : s.WarmedH U.vm) (h : GK s) : GK U := by
  obtain ⟨h1, h2, h3, h4, h5, h6, mi, h7⟩ := h
  refine ⟨fun q hq => va_Nw.warmF hW (h1 q hq), fun q hq => va_Nw.warmM hW (h2 q hq), fun q hq => ?_, fun q hq => va_Nw.warmC hW (h4 q hq), fun q hq => va_Nw.warmD hW (h5 q hq), va_AO.moved hW.alike h6, mi, va_Mi.moved hW.alike h7⟩
  obtain ⟨a, ha⟩ := h3 q hq
  exact ⟨a, vk_R.warm hW ha⟩
theorem GK.call {U : State} {g : JFrame} {mk : MethodId} {a : Array Value} (h : GK U) : GK (U.calling g mk a) := GK.warm (s := U) (State.WarmedH.refl U) h
def GH (e0 : Nat) (A : Nat → Prop) (U : State) (H : Heap) : Prop := va_Z "java/util/ArrayList" "DEFAULTCAPACITY_EMPTY_ELEMENTDATA" "[Ljava/lang/Object;" (.ref e0) A U H ∧ va_T (.object "java/lang/Object") e0 0 (fun _ => .null) A U H ∧ vx_Zq Bundle.tN "UNASSIGNED_STACK" Bundle.steD A U H ∧ vx_Zq Bundle.tN "SUPPRESSED_SENTINEL" Bundle.listD A U H
theorem GH.moved {e0 : Nat} {A : Nat → Prop} {u U : State} {H : Heap} (hvm : u.vm.Alike U.vm) (h : GH e0 A u H) : GH e0 A U H := ⟨va_Z.moved hvm h.1, va_T.moved hvm h.2.1, vx_Zq.moved hvm h.2.2.1, vx_Zq.moved hvm h.2.2.2⟩
theorem GH.kept {e0 : Nat} {A : Nat → Prop} {U : State} {H H1 : Heap} (h : GH e0 A U H) (hq : ∀ a : Nat, a < H.size → ¬ A a → H1[a]? = H[a]?) : GH e0 A U H1 := ⟨va_Z.kept h.1 hq, va_T.kept h.2.1 hq, vx_Zq.kept h.2.2.1 hq, vx_Zq.kept h.2.2.2 hq⟩
theorem GH.narrow {e0 : Nat} {A B : Nat → Prop} {U : State} {H : Heap} (h : GH e0 A U H) (hAB : ∀ q, B q → A q) : GH e0 B U H := ⟨va_Z.narrow h.1 hAB, va_T.narrow h.2.1 hAB, vx_Zq.narrow h.2.2.1 hAB, vx_Zq.narrow h.2.2.2 hAB⟩
abbrev KX : Type := Program × Launch × Env × Room × State × MethodId × Array Value × List Frame × Method × Code × (State → Prop) × va_G × ClassId × Nat × (Nat → Prop) × Nat × Nat
abbrev HQ : Type := Heap → List Loc → Nat → Nat → Prop
/-- the walk stands at pc with these locals and this stack, in any heap that Φ allows: it comes to its end -/
def Gj : KX → HQ → Nat → List (Nat × Value) → List Value → Prop
  | (p, l, e, R, s, m, args, below, meth, c, Q, _, _, _, _, _, _), Φ, pc, lv, st => ∀ (H : Heap) (locs : List Loc) (cells slots : Nat) (ls : Array Slot), Φ H locs cells slots → lv_has ls c.maxLocals lv → W p l e R s m args below meth c H locs cells slots Q (F0 m pc ls st)
/-- what stands over the whole method -/
def Cx (cc : ByteArray) (nL : Nat) (own : String) (rm : Room) : KX → Prop
  | (p, l, e, R, s, m, args, below, meth, c, Q, D, cO, e0, A, mc, ms) => p.tables.exec = Jvm.exec ∧ c.code = cc ∧ c.maxLocals = nL ∧ s.vm.findClass own = some m.cls ∧ (∀ w ∈ GA, w.before args s = true) ∧ va_K D vwCl [(cO, .object "java/lang/Object")] s ∧ GK s ∧ R = rm ∧ meth.locks = false
/-- .. where the heap may change -/
def Vz : KX → Prop
  | (p, l, e, R, s, m, args, below, meth, c, Q, D, cO, e0, A, mc, ms) => (∀ q : Nat, s.heap.size ≤ q → A q) ∧ GH e0 A s s.heap ∧ mc ≤ R.cells ∧ ms ≤ R.slots
def Nm (nm : String) : KX → Prop
  | (p, l, e, R, s, m, args, below, meth, c, Q, D, cO, e0, A, mc, ms) => meth.name = nm
def PR : KX → wPS → HQ
  | (p, l, e, R, s, m, args, below, meth, c, Q, D, cO, e0, A, mc, ms), S => fun H locs cells slots => va_P D vwCl (pool cO S) H ∧ H = s.heap ∧ locs = [] ∧ cells = 0 ∧ slots = 0
def PV : KX → wPS → Nat → Nat → HQ
  | (p, l, e, R, s, m, args, below, meth, c, Q, D, cO, e0, A, mc, ms), S, k, n => fun H locs cells slots => va_P D vwCl (pool cO S) H ∧ va_D A (pool cO S) ∧ va_S A s.heap H locs ∧ cells + k ≤ mc ∧ slots + n ≤ ms
def Hd : KX → HQ → wPS → Prop
  | (p, l, e, R, s, m, args, below, meth, c, Q, D, cO, e0, A, mc, ms), Φ, S => ∀ (H : Heap) (locs : List Loc) (cells slots : Nat), Φ H locs cells slots → va_P D vwCl (pool cO S) H ∧ cells ≤ R.cells ∧ slots ≤ R.slots
theorem hdR {κ : KX} {S : wPS} : Hd κ (PR κ S) S := by
  obtain ⟨p, l, e, R, s, m, args, below, meth, c, Q, D, cO, e0, A, mc, ms⟩ := κ
  exact fun H locs cells slots h => ⟨h.1, by rw [h.2.2.2.1]; exact Nat.zero_le _, by rw [h.2.2.2.2]; exact Nat.zero_le _⟩
theorem hdV {κ : KX} (hz : Vz κ) {S : wPS} {k n : Nat} : Hd κ (PV κ S k n) S := by
  obtain ⟨p, l, e, R, s, m, args, below, meth, c, Q, D, cO, e0, A, mc, ms⟩ := κ
  obtain ⟨-, -, h1, h2⟩ := hz
  exact fun H locs cells slots h => ⟨h.1, by have := h.2.2.2.1; omega, by have := h.2.2.2.2; omega⟩
theorem g_iconst {cc : ByteArray} {nL : Nat} {own : String} {rm : Room} {κ : KX} (hκ : Cx cc nL own rm κ) {Φ : HQ} {pc : Nat} {lv : List (Nat × Value)} {st : List Value} {n : Int} {v : Int32} (hdg : decode cc pc = .ok (.iconst n, 1)) (hv : Int32.ofInt n = v) (kk : Gj κ Φ (pc + 1) lv (.int v :: st)) : Gj κ Φ pc lv st := by
  obtain ⟨p, l, e, R, s, m, args, below, meth, c, Q, D, cO, e0, A, mc, ms⟩ := κ
  obtain ⟨hx, hb, hml, hown, hts, hK, hG, hR, hlk⟩ := hκ
  intro H locs cells slots ls hF hl
  exact lv_iconst hx hb hdg hv (kk H locs cells slots ls hF hl)
theorem g_bipush {cc : ByteArray} {nL : Nat} {own : String} {rm : Room} {κ : KX} (hκ : Cx cc nL own rm κ) {Φ : HQ} {pc : Nat} {lv : List (Nat × Value)} {st : List Value} {n : Int} {v : Int32} (hdg : decode cc pc = .ok (.bipush n, 2)) (hv : (Int8.ofInt n).toInt32 = v) (kk : Gj κ Φ (pc + 2) lv (.int v :: st)) : Gj κ Φ pc lv st := by
  obtain ⟨p, l, e, R, s, m, args, below, meth, c, Q, D, cO, e0, A, mc, ms⟩ := κ
  obtain ⟨hx, hb, hml, hown, hts, hK, hG, hR, hlk⟩ := hκ
  intro H locs cells slots ls hF hl
  exact lv_bipush hx hb hdg hv (kk H locs cells slots ls hF hl)
theorem g_sipush {cc : ByteArray} {nL : Nat} {own : String} {rm : Room} {κ : KX} (hκ : Cx cc nL own rm κ) {Φ : HQ} {pc : Nat} {lv : List (Nat × Value)} {st : List Value} {n : Int} {v : Int32} (hdg : decode cc pc = .ok (.sipush n, 3)) (hv : (Int16.ofInt n).toInt32 = v) (kk : Gj κ Φ (pc + 3) lv (.int v :: st)) : Gj κ Φ pc lv st := by
  obtain ⟨p, l, e, R, s, m, args, below, meth, c, Q, D, cO, e0, A, mc, ms⟩ := κ
  obtain ⟨hx, hb, hml, hown, hts, hK, hG, hR, hlk⟩ := hκ
  intro H locs cells slots ls hF hl
  exact lv_sipush hx hb hdg hv (kk H locs cells slots ls hF hl)
theorem g_null {cc : ByteArray} {nL : Nat} {own : String} {rm : Room} {κ : KX} (hκ : Cx cc nL own rm κ) {Φ : HQ} {pc : Nat} {lv : List (Nat × Value)} {st : List Value} (hdg : decode cc pc = .ok (.aconst_null, 1)) (kk : Gj κ Φ (pc + 1) lv (.null :: st)) : Gj κ Φ pc lv st := by
  obtain ⟨p, l, e, R, s, m, args, below, meth, c, Q, D, cO, e0, A, mc, ms⟩ := κ
  obtain ⟨hx, hb, hml, hown, hts, hK, hG, hR, hlk⟩ := hκ
  intro H locs cells slots ls hF hl
  exact lv_null hx hb hdg (kk H locs cells slots ls hF hl)
theorem g_dconst1 {cc : ByteArray} {nL : Nat} {own : String} {rm : Room} {κ : KX} (hκ : Cx cc nL own rm κ) {Φ : HQ} {pc : Nat} {lv : List (Nat × Value)} {st : List Value} (hdg : decode cc pc = .ok (.dconst 1, 1)) (kk : Gj κ Φ (pc + 1) lv (.double FP.dconst1 :: st)) : Gj κ Φ pc lv st := by
  obtain ⟨p, l, e, R, s, m, args, below, meth, c, Q, D, cO, e0, A, mc, ms⟩ := κ
  obtain ⟨hx, hb, hml, hown, hts, hK, hG, hR, hlk⟩ := hκ
  intro H locs cells slots ls hF hl
  exact lv_dconst1 hx hb hdg (kk H locs cells slots ls hF hl)
theorem g_dconst0 {cc : ByteArray} {nL : Nat} {own : String} {rm : Room} {κ : KX} (hκ : Cx cc nL own rm κ) {Φ : HQ} {pc : Nat} {lv : List (Nat × Value)} {st : List Value} (hdg : decode cc pc = .ok (.dconst 0, 1)) (kk : Gj κ Φ (pc + 1) lv (.double FP.dconst0 :: st)) : Gj κ Φ pc lv st := by
  obtain ⟨p, l, e, R, s, m, args, below, meth, c, Q, D, cO, e0, A, mc, ms⟩ := κ
  obtain ⟨hx, hb, hml, hown, hts, hK, hG, hR, hlk⟩ := hκ
  intro H locs cells slots ls hF hl
  exact lv_dconst0 hx hb hdg (kk H locs cells slots ls hF hl)
theorem g_ldc2 {cc : ByteArray} {nL : Nat} {own : String} {rm : Room} {κ : KX} (hκ : Cx cc nL own rm κ) {Φ : HQ} {pc : Nat} {lv : List (Nat × Value)} {st : List Value} {idx : Nat} {v : Int64} (hc : Cond.constantLong own idx v ∈ GA) (hdg : decode cc pc = .ok (.ldc2_w idx, 3)) (kk : Gj κ Φ (pc + 3) lv (.long v :: st)) : Gj κ Φ pc lv st := by
  obtain ⟨p, l, e, R, s, m, args, below, meth, c, Q, D, cO, e0, A, mc, ms⟩ := κ
  obtain ⟨hx, hb, hml, hown, hts, hK, hG, hR, hlk⟩ := hκ
  intro H locs cells slots ls hF hl
  exact lv_ldc2 hx hb hown (hts _ hc) hdg (kk H locs cells slots ls hF hl)
theorem g_ldc2d {cc : ByteArray} {nL : Nat} {own : String} {rm : Room} {κ : KX} (hκ : Cx cc nL own rm κ) {Φ : HQ} {pc : Nat} {lv : List (Nat × Value)} {st : List Value} {idx : Nat} {v : UInt64} (hc : Cond.constantDouble own idx v ∈ GA) (hdg : decode cc pc = .ok (.ldc2_w idx, 3)) (kk : Gj κ Φ (pc + 3) lv (.double v :: st)) : Gj κ Φ pc lv st := by
  obtain ⟨p, l, e, R, s, m, args, below, meth, c, Q, D, cO, e0, A, mc, ms⟩ := κ
  obtain ⟨hx, hb, hml, hown, hts, hK, hG, hR, hlk⟩ := hκ
  intro H locs cells slots ls hF hl
  exact lv_ldc2d hx hb hown (hts _ hc) hdg (kk H locs cells slots ls hF hl)
theorem g_ldc {cc : ByteArray} {nL : Nat} {own : String} {rm : Room} {κ : KX} (hκ : Cx cc nL own rm κ) {Φ : HQ} {pc : Nat} {lv : List (Nat × Value)} {st : List Value} {idx : Nat} {v : Int32} (hc : Cond.constant own idx v ∈ GA) (hdg : decode cc pc = .ok (.ldc idx, 2)) (kk : Gj κ Φ (pc + 2) lv (.int v :: st)) : Gj κ Φ pc lv st := by
  obtain ⟨p, l, e, R, s, m, args, below, meth, c, Q, D, cO, e0, A, mc, ms⟩ := κ
  obtain ⟨hx, hb, hml, hown, hts, hK, hG, hR, hlk⟩ := hκ
  intro H locs cells slots ls hF hl
  exact lv_ldc hx hb hown (hts _ hc) hdg (kk H locs cells slots ls hF hl)
theorem g_iload_n {cc : ByteArray} {nL : Nat} {own : String} {rm : Room} {κ : KX} (hκ : Cx cc nL own rm κ) {Φ : HQ} {pc : Nat} {lv : List (Nat × Value)} {st : List Value} {k : Fin 4} {i : Nat} {x : Int32} (j : Nat) (hdg : decode cc pc = .ok (.iload_n k, 1)) (hi : (k : Nat) = i) (hj : lv[j]? = some (i, .int x)) (kk : Gj κ Φ (pc + 1) lv (.int x :: st)) : Gj κ Φ pc lv st := by
  obtain ⟨p, l, e, R, s, m, args, below, meth, c, Q, D, cO, e0, A, mc, ms⟩ := κ
  obtain ⟨hx, hb, hml, hown, hts, hK, hG, hR, hlk⟩ := hκ
  intro H locs cells slots ls hF hl
  exact lv_iload_n hx hb hdg hi (lv_at hl j hj) (kk H locs cells slots ls hF hl)
theorem g_iload {cc : ByteArray} {nL : Nat} {own : String} {rm : Room} {κ : KX} (hκ : Cx cc nL own rm κ) {Φ : HQ} {pc : Nat} {lv : List (Nat × Value)} {st : List Value} {i : Nat} {x : Int32} (j : Nat) (hdg : decode cc pc = .ok (.iload i, 2)) (hj : lv[j]? = some (i, .int x)) (kk : Gj κ Φ (pc + 2) lv (.int x :: st)) : Gj κ Φ pc lv st := by
  obtain ⟨p, l, e, R, s, m, args, below, meth, c, Q, D, cO, e0, A, mc, ms⟩ := κ
  obtain ⟨hx, hb, hml, hown, hts, hK, hG, hR, hlk⟩ := hκ
  intro H locs cells slots ls hF hl
  exact lv_iload hx hb hdg (lv_at hl j hj) (kk H locs cells slots ls hF hl)
theorem g_lload_n {cc : ByteArray} {nL : Nat} {own : String} {rm : Room} {κ : KX} (hκ : Cx cc nL own rm κ) {Φ : HQ} {pc : Nat} {lv : List (Nat × Value)} {st : List Value} {k : Fin 4} {i : Nat} {x : Int64} (j : Nat) (hdg : decode cc pc = .ok (.lload_n k, 1)) (hi : (k : Nat) = i) (hj : lv[j]? = some (i, .long x)) (kk : Gj κ Φ (pc + 1) lv (.long x :: st)) : Gj κ Φ pc lv st := by
  obtain ⟨p, l, e, R, s, m, args, below, meth, c, Q, D, cO, e0, A, mc, ms⟩ := κ
  obtain ⟨hx, hb, hml, hown, hts, hK, hG, hR, hlk⟩ := hκ
  intro H locs cells slots ls hF hl
  exact lv_lload_n hx hb hdg hi (lv_at hl j hj) (kk H locs cells slots ls hF hl)
theorem g_lload {cc : ByteArray} {nL : Nat} {own : String} {rm : Room} {κ : KX} (hκ : Cx cc nL own rm κ) {Φ : HQ} {pc : Nat} {lv : List (Nat × Value)} {st : List Value} {i : Nat} {x : Int64} (j : Nat) (hdg : decode cc pc = .ok (.lload i, 2)) (hj : lv[j]? = some (i, .long x)) (kk : Gj κ Φ (pc + 2) lv (.long x :: st)) : Gj κ Φ pc lv st := by
  obtain ⟨p, l, e, R, s, m, args, below, meth, c, Q, D, cO, e0, A, mc, ms⟩ := κ
  obtain ⟨hx, hb, hml, hown, hts, hK, hG, hR, hlk⟩ := hκ
  intro H locs cells slots ls hF hl
  exact lv_lload hx hb hdg (lv_at hl j hj) (kk H locs cells slots ls hF hl)
theorem g_dload_n {cc : ByteArray} {nL : Nat} {own : String} {rm : Room} {κ : KX} (hκ : Cx cc nL own rm κ) {Φ : HQ} {pc : Nat} {lv : List (Nat × Value)} {st : List Value} {k : Fin 4} {i : Nat} {x : UInt64} (j : Nat) (hdg : decode cc pc = .ok (.dload_n k, 1)) (hi : (k : Nat) = i) (hj : lv[j]? = some (i, .double x)) (kk : Gj κ Φ (pc + 1) lv (.double x :: st)) : Gj κ Φ pc lv st := by
  obtain ⟨p, l, e, R, s, m, args, below, meth, c, Q, D, cO, e0, A, mc, ms⟩ := κ
  obtain ⟨hx, hb, hml, hown, hts, hK, hG, hR, hlk⟩ := hκ
  intro H locs cells slots ls hF hl
  exact lv_dload_n hx hb hdg hi (lv_at hl j hj) (kk H locs cells slots ls hF hl)
theorem g_dload {cc : ByteArray} {nL : Nat} {own : String} {rm : Room} {κ : KX} (hκ : Cx cc nL own rm κ) {Φ : HQ} {pc : Nat} {lv : List (Nat × Value)} {st : List Value} {i : Nat} {x : UInt64} (j : Nat) (hdg : decode cc pc = .ok (.dload i, 2)) (hj : lv[j]? = some (i, .double x)) (kk : Gj κ Φ (pc + 2) lv (.double x :: st)) : Gj κ Φ pc lv st := by
  obtain ⟨p, l, e, R, s, m, args, below, meth, c, Q, D, cO, e0, A, mc, ms⟩ := κ
  obtain ⟨hx, hb, hml, hown, hts, hK, hG, hR, hlk⟩ := hκ
  intro H locs cells slots ls hF hl
  exact lv_dload hx hb hdg (lv_at hl j hj) (kk H locs cells slots ls hF hl)
theorem g_aload_n {cc : ByteArray} {nL : Nat} {own : String} {rm : Room} {κ : KX} (hκ : Cx cc nL own rm κ) {Φ : HQ} {pc : Nat} {lv : List (Nat × Value)} {st : List Value} {k : Fin 4} {i : Nat} {x : Nat} (j : Nat) (hdg : decode cc pc = .ok (.aload_n k, 1)) (hi : (k : Nat) = i) (hj : lv[j]? = some (i, .ref x)) (kk : Gj κ Φ (pc + 1) lv (.ref x :: st)) : Gj κ Φ pc lv st := by
  obtain ⟨p, l, e, R, s, m, args, below, meth, c, Q, D, cO, e0, A, mc, ms⟩ := κ
  obtain ⟨hx, hb, hml, hown, hts, hK, hG, hR, hlk⟩ := hκ
  intro H locs cells slots ls hF hl
  exact lv_aload_n hx hb hdg hi (lv_at hl j hj) (kk H locs cells slots ls hF hl)
theorem g_aload {cc : ByteArray} {nL : Nat} {own : String} {rm : Room} {κ : KX} (hκ : Cx cc nL own rm κ) {Φ : HQ} {pc : Nat} {lv : List (Nat × Value)} {st : List Value} {i : Nat} {x : Nat} (j : Nat) (hdg : decode cc pc = .ok (.aload i, 2)) (hj : lv[j]? = some (i, .ref x)) (kk : Gj κ Φ (pc + 2) lv (.ref x :: st)) : Gj κ Φ pc lv st := by
  obtain ⟨p, l, e, R, s, m, args, below, meth, c, Q, D, cO, e0, A, mc, ms⟩ := κ
  obtain ⟨hx, hb, hml, hown, hts, hK, hG, hR, hlk⟩ := hκ
  intro H locs cells slots ls hF hl
  exact lv_aload hx hb hdg (lv_at hl j hj) (kk H locs cells slots ls hF hl)
theorem g_aload_nN {cc : ByteArray} {nL : Nat} {own : String} {rm : Room} {κ : KX} (hκ : Cx cc nL own rm κ) {Φ : HQ} {pc : Nat} {lv : List (Nat × Value)} {st : List Value} {k : Fin 4} {i : Nat} (j : Nat) (hdg : decode cc pc = .ok (.aload_n k, 1)) (hi : (k : Nat) = i) (hj : lv[j]? = some (i, .null)) (kk : Gj κ Φ (pc + 1) lv (.null :: st)) : Gj κ Φ pc lv st := by
  obtain ⟨p, l, e, R, s, m, args, below, meth, c, Q, D, cO, e0, A, mc, ms⟩ := κ
  obtain ⟨hx, hb, hml, hown, hts, hK, hG, hR, hlk⟩ := hκ
  intro H locs cells slots ls hF hl
  exact lv_aload_nN hx hb hdg hi (lv_at hl j hj) (kk H locs cells slots ls hF hl)
theorem g_aloadN {cc : ByteArray} {nL : Nat} {own : String} {rm : Room} {κ : KX} (hκ : Cx cc nL own rm κ) {Φ : HQ} {pc : Nat} {lv : List (Nat × Value)} {st : List Value} {i : Nat} (j : Nat) (hdg : decode cc pc = .ok (.aload i, 2)) (hj : lv[j]? = some (i, .null)) (kk : Gj κ Φ (pc + 2) lv (.null :: st)) : Gj κ Φ pc lv st := by
  obtain ⟨p, l, e, R, s, m, args, below, meth, c, Q, D, cO, e0, A, mc, ms⟩ := κ
  obtain ⟨hx, hb, hml, hown, hts, hK, hG, hR, hlk⟩ := hκ
  intro H locs cells slots ls hF hl
  exact lv_aloadN hx hb hdg (lv_at hl j hj) (kk H locs cells slots ls hF hl)
theorem g_istore_n {cc : ByteArray} {nL : Nat} {own : String} {rm : Room} {κ : KX} (hκ : Cx cc nL own rm κ) {Φ : HQ} {pc : Nat} {lv : List (Nat × Value)} {st : List Value} {k : Fin 4} {i : Nat} {x : Int32} (lv' : List (Nat × Value)) (hdg : decode cc pc = .ok (.istore_n k, 1)) (hi : (k : Nat) = i) (hn : i < nL) (hlv : (i, Value.int x) :: lv.filter (fun q => !(q.1 == i) && !(q.1 + 1 == i && q.2.category == 2)) = lv') (kk : Gj κ Φ (pc + 1) lv' st) : Gj κ Φ pc lv (.int x :: st) := by
  obtain ⟨p, l, e, R, s, m, args, below, meth, c, Q, D, cO, e0, A, mc, ms⟩ := κ
  obtain ⟨hx, hb, hml, hown, hts, hK, hG, hR, hlk⟩ := hκ
  intro H locs cells slots ls hF hl
  exact lv_istore_n hx hb hdg hi hl (by rw [hml]; exact hn) hlv (fun ls hl => kk H locs cells slots ls hF hl)
theorem g_istore {cc : ByteArray} {nL : Nat} {own : String} {rm : Room} {κ : KX} (hκ : Cx cc nL own rm κ) {Φ : HQ} {pc : Nat} {lv : List (Nat × Value)} {st : List Value} {i : Nat} {x : Int32} (lv' : List (Nat × Value)) (hdg : decode cc pc = .ok (.istore i, 2)) (hn : i < nL) (hlv : (i, Value.int x) :: lv.filter (fun q => !(q.1 == i) && !(q.1 + 1 == i && q.2.category == 2)) = lv') (kk : Gj κ Φ (pc + 2) lv' st) : Gj κ Φ pc lv (.int x :: st) := by
  obtain ⟨p, l, e, R, s, m, args, below, meth, c, Q, D, cO, e0, A, mc, ms⟩ := κ
  obtain ⟨hx, hb, hml, hown, hts, hK, hG, hR, hlk⟩ := hκ
  intro H locs cells slots ls hF hl
  exact lv_istore hx hb hdg hl (by rw [hml]; exact hn) hlv (fun ls hl => kk H locs cells slots ls hF hl)
theorem g_astore_n {cc : ByteArray} {nL : Nat} {own : String} {rm : Room} {κ : KX} (hκ : Cx cc nL own rm κ) {Φ : HQ} {pc : Nat} {lv : List (Nat × Value)} {st : List Value} {k : Fin 4} {i : Nat} {x : Nat} (lv' : List (Nat × Value)) (hdg : decode cc pc = .ok (.astore_n k, 1)) (hi : (k : Nat) = i) (hn : i < nL) (hlv : (i, Value.ref x) :: lv.filter (fun q => !(q.1 == i) && !(q.1 + 1 == i && q.2.category == 2)) = lv') (kk : Gj κ Φ (pc + 1) lv' st) : Gj κ Φ pc lv (.ref x :: st) := by
  obtain ⟨p, l, e, R, s, m, args, below, meth, c, Q, D, cO, e0, A, mc, ms⟩ := κ
  obtain ⟨hx, hb, hml, hown, hts, hK, hG, hR, hlk⟩ := hκ
  intro H locs cells slots ls hF hl
  exact lv_astore_n hx hb hdg hi hl (by rw [hml]; exact hn) hlv (fun ls hl => kk H locs cells slots ls hF hl)
theorem g_astore {cc : ByteArray} {nL : Nat} {own : String} {rm : Room} {κ : KX} (hκ : Cx cc nL own rm κ) {Φ : HQ} {pc : Nat} {lv : List (Nat × Value)} {st : List Value} {i : Nat} {x : Nat} (lv' : List (Nat × Value)) (hdg : decode cc pc = .ok (.astore i, 2)) (hn : i < nL) (hlv : (i, Value.ref x) :: lv.filter (fun q => !(q.1 == i) && !(q.1 + 1 == i && q.2.category == 2)) = lv') (kk : Gj κ Φ (pc + 2) lv' st) : Gj κ Φ pc lv (.ref x :: st) := by
  obtain ⟨p, l, e, R, s, m, args, below, meth, c, Q, D, cO, e0, A, mc, ms⟩ := κ
  obtain ⟨hx, hb, hml, hown, hts, hK, hG, hR, hlk⟩ := hκ
  intro H locs cells slots ls hF hl
  exact lv_astore hx hb hdg hl (by rw [hml]; exact hn) hlv (fun ls hl => kk H locs cells slots ls hF hl)
theorem g_lstore_n {cc : ByteArray} {nL : Nat} {own : String} {rm : Room} {κ : KX} (hκ : Cx cc nL own rm κ) {Φ : HQ} {pc : Nat} {lv : List (Nat × Value)} {st : List Value} {k : Fin 4} {i : Nat} {x : Int64} (lv' : List (Nat × Value)) (hdg : decode cc pc = .ok (.lstore_n k, 1)) (hi : (k : Nat) = i) (hn : i + 1 < nL) (hlv : (i, Value.long x) :: lv.filter (fun q => !(q.1 == i) && (!(q.1 == i + 1) && !(q.1 + 1 == i && q.2.category == 2))) = lv') (kk : Gj κ Φ (pc + 1) lv' st) : Gj κ Φ pc lv (.long x :: st) := by
  obtain ⟨p, l, e, R, s, m, args, below, meth, c, Q, D, cO, e0, A, mc, ms⟩ := κ
  obtain ⟨hx, hb, hml, hown, hts, hK, hG, hR, hlk⟩ := hκ
  intro H locs cells slots ls hF hl
  exact lv_lstore_n hx hb hdg hi hl (by rw [hml]; exact hn) hlv (fun ls hl => kk H locs cells slots ls hF hl)
theorem g_lstore {cc : ByteArray} {nL : Nat} {own : String} {rm : Room} {κ : KX} (hκ : Cx cc nL own rm κ) {Φ : HQ} {pc : Nat} {lv : List (Nat × Value)} {st : List Value} {i : Nat} {x : Int64} (lv' : List (Nat × Value)) (hdg : decode cc pc = .ok (.lstore i, 2)) (hn : i + 1 < nL) (hlv : (i, Value.long x) :: lv.filter (fun q => !(q.1 == i) && (!(q.1 == i + 1) && !(q.1 + 1 == i && q.2.category == 2))) = lv') (kk : Gj κ Φ (pc + 2) lv' st) : Gj κ Φ pc lv (.long x :: st) := by
  obtain ⟨p, l, e, R, s, m, args, below, meth, c, Q, D, cO, e0, A, mc, ms⟩ := κ
  obtain ⟨hx, hb, hml, hown, hts, hK, hG, hR, hlk⟩ := hκ
  intro H locs cells slots ls hF hl
  exact lv_lstore hx hb hdg hl (by rw [hml]; exact hn) hlv (fun ls hl => kk H locs cells slots ls hF hl)
theorem g_dstore_n {cc : ByteArray} {nL : Nat} {own : String} {rm : Room} {κ : KX} (hκ : Cx cc nL own rm κ) {Φ : HQ} {pc : Nat} {lv : List (Nat × Value)} {st : List Value} {k : Fin 4} {i : Nat} {x : UInt64} (lv' : List (Nat × Value)) (hdg : decode cc pc = .ok (.dstore_n k, 1)) (hi : (k : Nat) = i) (hn : i + 1 < nL) (hlv : (i, Value.double x) :: lv.filter (fun q => !(q.1 == i) && (!(q.1 == i + 1) && !(q.1 + 1 == i && q.2.category == 2))) = lv') (kk : Gj κ Φ (pc + 1) lv' st) : Gj κ Φ pc lv (.double x :: st) := by
  obtain ⟨p, l, e, R, s, m, args, below, meth, c, Q, D, cO, e0, A, mc, ms⟩ := κ
  obtain ⟨hx, hb, hml, hown, hts, hK, hG, hR, hlk⟩ := hκ
  intro H locs cells slots ls hF hl
  exact lv_dstore_n hx hb hdg hi hl (by rw [hml]; exact hn) hlv (fun ls hl => kk H locs cells slots ls hF hl)
theorem g_dstore {cc : ByteArray} {nL : Nat} {own : String} {rm : Room} {κ : KX} (hκ : Cx cc nL own rm κ) {Φ : HQ} {pc : Nat} {lv : List (Nat × Value)} {st : List Value} {i : Nat} {x : UInt64} (lv' : List (Nat × Value)) (hdg : decode cc pc = .ok (.dstore i, 2)) (hn : i + 1 < nL) (hlv : (i, Value.double x) :: lv.filter (fun q => !(q.1 == i) && (!(q.1 == i + 1) && !(q.1 + 1 == i && q.2.category == 2))) = lv') (kk : Gj κ Φ (pc + 2) lv' st) : Gj κ Φ pc lv (.double x :: st) := by
  obtain ⟨p, l, e, R, s, m, args, below, meth, c, Q, D, cO, e0, A, mc, ms⟩ := κ
  obtain ⟨hx, hb, hml, hown, hts, hK, hG, hR, hlk⟩ := hκ
  intro H locs cells slots ls hF hl
  exact lv_dstore hx hb hdg hl (by rw [hml]; exact hn) hlv (fun ls hl => kk H locs cells slots ls hF hl)
theorem g_astore_nN {cc : ByteArray} {nL : Nat} {own : String} {rm : Room} {κ : KX} (hκ : Cx cc nL own rm κ) {Φ : HQ} {pc : Nat} {lv : List (Nat × Value)} {st : List Value} {k : Fin 4} {i : Nat} (lv' : List (Nat × Value)) (hdg : decode cc pc = .ok (.astore_n k, 1)) (hi : (k : Nat) = i) (hn : i < nL) (hlv : (i, Value.null) :: lv.filter (fun q => !(q.1 == i) && !(q.1 + 1 == i && q.2.category == 2)) = lv') (kk : Gj κ Φ (pc + 1) lv' st) : Gj κ Φ pc lv (.null :: st) := by
  obtain ⟨p, l, e, R, s, m, args, below, meth, c, Q, D, cO, e0, A, mc, ms⟩ := κ
  obtain ⟨hx, hb, hml, hown, hts, hK, hG, hR, hlk⟩ := hκ
  intro H locs cells slots ls hF hl
  exact lv_astore_nN hx hb hdg hi hl (by rw [hml]; exact hn) hlv (fun ls hl => kk H locs cells slots ls hF hl)
theorem g_astoreN {cc : ByteArray} {nL : Nat} {own : String} {rm : Room} {κ : KX} (hκ : Cx cc nL own rm κ) {Φ : HQ} {pc : Nat} {lv : List (Nat × Value)} {st : List Value} {i : Nat} (lv' : List (Nat × Value)) (hdg : decode cc pc = .ok (.astore i, 2)) (hn : i < nL) (hlv : (i, Value.null) :: lv.filter (fun q => !(q.1 == i) && !(q.1 + 1 == i && q.2.category == 2)) = lv') (kk : Gj κ Φ (pc + 2) lv' st) : Gj κ Φ pc lv (.null :: st) := by
  obtain ⟨p, l, e, R, s, m, args, below, meth, c, Q, D, cO, e0, A, mc, ms⟩ := κ
  obtain ⟨hx, hb, hml, hown, hts, hK, hG, hR, hlk⟩ := hκ
  intro H locs cells slots ls hF hl
  exact lv_astoreN hx hb hdg hl (by rw [hml]; exact hn) hlv (fun ls hl => kk H locs cells slots ls hF hl)
theorem g_iinc {cc : ByteArray} {nL : Nat} {own : String} {rm : Room} {κ : KX} (hκ : Cx cc nL own rm κ) {Φ : HQ} {pc : Nat} {lv : List (Nat × Value)} {st : List Value} {i k : Nat} {n : Int} {x v : Int32} (lv' : List (Nat × Value)) (hdg : decode cc pc = .ok (.iinc i n, 3)) (hk : lv[k]? = some (i, .int x)) (hv : x + Int32.ofInt n = v) (hn : i < nL) (hlv : (i, Value.int v) :: lv.filter (fun q => !(q.1 == i) && !(q.1 + 1 == i && q.2.category == 2)) = lv') (kk : Gj κ Φ (pc + 3) lv' st) : Gj κ Φ pc lv st := by
  obtain ⟨p, l, e, R, s, m, args, below, meth, c, Q, D, cO, e0, A, mc, ms⟩ := κ
  obtain ⟨hx, hb, hml, hown, hts, hK, hG, hR, hlk⟩ := hκ
  intro H locs cells slots ls hF hl
  exact lv_iinc hx hb hdg hl hk hv (by rw [hml]; exact hn) hlv (fun ls hl => kk H locs cells slots ls hF hl)
theorem g_iadd {cc : ByteArray} {nL : Nat} {own : String} {rm : Room} {κ : KX} (hκ : Cx cc nL own rm κ) {Φ : HQ} {pc : Nat} {lv : List (Nat × Value)} {st : List Value} {x y : Int32} (hdg : decode cc pc = .ok (.iadd, 1)) (kk : Gj κ Φ (pc + 1) lv (.int (x + y) :: st)) : Gj κ Φ pc lv (.int y :: .int x :: st) := by
  obtain ⟨p, l, e, R, s, m, args, below, meth, c, Q, D, cO, e0, A, mc, ms⟩ := κ
  obtain ⟨hx, hb, hml, hown, hts, hK, hG, hR, hlk⟩ := hκ
  intro H locs cells slots ls hF hl
  exact lv_iadd hx hb hdg (kk H locs cells slots ls hF hl)
theorem g_isub {cc : ByteArray} {nL : Nat} {own : String} {rm : Room} {κ : KX} (hκ : Cx cc nL own rm κ) {Φ : HQ} {pc : Nat} {lv : List (Nat × Value)} {st : List Value} {x y : Int32} (hdg : decode cc pc = .ok (.isub, 1)) (kk : Gj κ Φ (pc + 1) lv (.int (x - y) :: st)) : Gj κ Φ pc lv (.int y :: .int x :: st) := by
  obtain ⟨p, l, e, R, s, m, args, below, meth, c, Q, D, cO, e0, A, mc, ms⟩ := κ
  obtain ⟨hx, hb, hml, hown, hts, hK, hG, hR, hlk⟩ := hκ
  intro H locs cells slots ls hF hl
  exact lv_isub hx hb hdg (kk H locs cells slots ls hF hl)
theorem g_imul {cc : ByteArray} {nL : Nat} {own : String} {rm : Room} {κ : KX} (hκ : Cx cc nL own rm κ) {Φ : HQ} {pc : Nat} {lv : List (Nat × Value)} {st : List Value} {x y : Int32} (hdg : decode cc pc = .ok (.imul, 1)) (kk : Gj κ Φ (pc + 1) lv (.int (x * y) :: st)) : Gj κ Φ pc lv (.int y :: .int x :: st) := by
  obtain ⟨p, l, e, R, s, m, args, below, meth, c, Q, D, cO, e0, A, mc, ms⟩ := κ
  obtain ⟨hx, hb, hml, hown, hts, hK, hG, hR, hlk⟩ := hκ
  intro H locs cells slots ls hF hl
  exact lv_imul hx hb hdg (kk H locs cells slots ls hF hl)
theorem g_iand {cc : ByteArray} {nL : Nat} {own : String} {rm : Room} {κ : KX} (hκ : Cx cc nL own rm κ) {Φ : HQ} {pc : Nat} {lv : List (Nat × Value)} {st : List Value} {x y : Int32} (hdg : decode cc pc = .ok (.iand, 1)) (kk : Gj κ Φ (pc + 1) lv (.int (x &&& y) :: st)) : Gj κ Φ pc lv (.int y :: .int x :: st) := by
  obtain ⟨p, l, e, R, s, m, args, below, meth, c, Q, D, cO, e0, A, mc, ms⟩ := κ
  obtain ⟨hx, hb, hml, hown, hts, hK, hG, hR, hlk⟩ := hκ
  intro H locs cells slots ls hF hl
  exact lv_iand hx hb hdg (kk H locs cells slots ls hF hl)
theorem g_idiv {cc : ByteArray} {nL : Nat} {own : String} {rm : Room} {κ : KX} (hκ : Cx cc nL own rm κ) {Φ : HQ} {pc : Nat} {lv : List (Nat × Value)} {st : List Value} {x y : Int32} (hdg : decode cc pc = .ok (.idiv, 1)) (hne : ¬ y = 0) (kk : Gj κ Φ (pc + 1) lv (.int (x / y) :: st)) : Gj κ Φ pc lv (.int y :: .int x :: st) := by
  obtain ⟨p, l, e, R, s, m, args, below, meth, c, Q, D, cO, e0, A, mc, ms⟩ := κ
  obtain ⟨hx, hb, hml, hown, hts, hK, hG, hR, hlk⟩ := hκ
  intro H locs cells slots ls hF hl
  exact lv_idiv hx hb hdg hne (kk H locs cells slots ls hF hl)
theorem g_irem {cc : ByteArray} {nL : Nat} {own : String} {rm : Room} {κ : KX} (hκ : Cx cc nL own rm κ) {Φ : HQ} {pc : Nat} {lv : List (Nat × Value)} {st : List Value} {x y : Int32} (hdg : decode cc pc = .ok (.irem, 1)) (hne : ¬ y = 0) (kk : Gj κ Φ (pc + 1) lv (.int (x - x / y * y) :: st)) : Gj κ Φ pc lv (.int y :: .int x :: st) := by
  obtain ⟨p, l, e, R, s, m, args, below, meth, c, Q, D, cO, e0, A, mc, ms⟩ := κ
  obtain ⟨hx, hb, hml, hown, hts, hK, hG, hR, hlk⟩ := hκ
  intro H locs cells slots ls hF hl
  exact lv_irem hx hb hdg hne (kk H locs cells slots ls hF hl)
theorem g_ladd {cc : ByteArray} {nL : Nat} {own : String} {rm : Room} {κ : KX} (hκ : Cx cc nL own rm κ) {Φ : HQ} {pc : Nat} {lv : List (Nat × Value)} {st : List Value} {x y : Int64} (hdg : decode cc pc = .ok (.ladd, 1)) (kk : Gj κ Φ (pc + 1) lv (.long (x + y) :: st)) : Gj κ Φ pc lv (.long y :: .long x :: st) := by
  obtain ⟨p, l, e, R, s, m, args, below, meth, c, Q, D, cO, e0, A, mc, ms⟩ := κ
  obtain ⟨hx, hb, hml, hown, hts, hK, hG, hR, hlk⟩ := hκ
  intro H locs cells slots ls hF hl
  exact lv_ladd hx hb hdg (kk H locs cells slots ls hF hl)
theorem g_lmul {cc : ByteArray} {nL : Nat} {own : String} {rm : Room} {κ : KX} (hκ : Cx cc nL own rm κ) {Φ : HQ} {pc : Nat} {lv : List (Nat × Value)} {st : List Value} {x y : Int64} (hdg : decode cc pc = .ok (.lmul, 1)) (kk : Gj κ Φ (pc + 1) lv (.long (x * y) :: st)) : Gj κ Φ pc lv (.long y :: .long x :: st) := by
  obtain ⟨p, l, e, R, s, m, args, below, meth, c, Q, D, cO, e0, A, mc, ms⟩ := κ
  obtain ⟨hx, hb, hml, hown, hts, hK, hG, hR, hlk⟩ := hκ
  intro H locs cells slots ls hF hl
  exact lv_lmul hx hb hdg (kk H locs cells slots ls hF hl)
theorem g_lcmp {cc : ByteArray} {nL : Nat} {own : String} {rm : Room} {κ : KX} (hκ : Cx cc nL own rm κ) {Φ : HQ} {pc : Nat} {lv : List (Nat × Value)} {st : List Value} {x y : Int64} (hdg : decode cc pc = .ok (.lcmp, 1)) (kk : Gj κ Φ (pc + 1) lv (.int (lg_cmp x y) :: st)) : Gj κ Φ pc lv (.long y :: .long x :: st) := by
  obtain ⟨p, l, e, R, s, m, args, below, meth, c, Q, D, cO, e0, A, mc, ms⟩ := κ
  obtain ⟨hx, hb, hml, hown, hts, hK, hG, hR, hlk⟩ := hκ
  intro H locs cells slots ls hF hl
  exact W.lcmp hx hb hdg (kk H locs cells slots ls hF hl)
theorem g_dmul {cc : ByteArray} {nL : Nat} {own : String} {rm : Room} {κ : KX} (hκ : Cx cc nL own rm κ) {Φ : HQ} {pc : Nat} {lv : List (Nat × Value)} {st : List Value} {x y : UInt64} (hdg : decode cc pc = .ok (.dmul, 1)) (hne : vf_n64 (FP.dmul x y)) (kk : Gj κ Φ (pc + 1) lv (.double (FP.dmul x y) :: st)) : Gj κ Φ pc lv (.double y :: .double x :: st) := by
  obtain ⟨p, l, e, R, s, m, args, below, meth, c, Q, D, cO, e0, A, mc, ms⟩ := κ
  obtain ⟨hx, hb, hml, hown, hts, hK, hG, hR, hlk⟩ := hκ
  intro H locs cells slots ls hF hl
  exact lv_dmul hx hb hdg hne (kk H locs cells slots ls hF hl)
theorem g_ddiv {cc : ByteArray} {nL : Nat} {own : String} {rm : Room} {κ : KX} (hκ : Cx cc nL own rm κ) {Φ : HQ} {pc : Nat} {lv : List (Nat × Value)} {st : List Value} {x y : UInt64} (hdg : decode cc pc = .ok (.ddiv, 1)) (hne : vf_n64 (FP.ddiv x y)) (kk : Gj κ Φ (pc + 1) lv (.double (FP.ddiv x y) :: st)) : Gj κ Φ pc lv (.double y :: .double x :: st) := by
  obtain ⟨p, l, e, R, s, m, args, below, meth, c, Q, D, cO, e0, A, mc, ms⟩ := κ
  obtain ⟨hx, hb, hml, hown, hts, hK, hG, hR, hlk⟩ := hκ
  intro H locs cells slots ls hF hl
  exact lv_ddiv hx hb hdg hne (kk H locs cells slots ls hF hl)
theorem g_dcmp {cc : ByteArray} {nL : Nat} {own : String} {rm : Room} {κ : KX} (hκ : Cx cc nL own rm κ) {Φ : HQ} {pc : Nat} {lv : List (Nat × Value)} {st : List Value} {x y : UInt64} {op : CmpOp} (hdg : decode cc pc = .ok (.dcmp op, 1)) (kk : Gj κ Φ (pc + 1) lv (.int (Op.cmpValue (FP.dcmp x y) op) :: st)) : Gj κ Φ pc lv (.double y :: .double x :: st) := by
  obtain ⟨p, l, e, R, s, m, args, below, meth, c, Q, D, cO, e0, A, mc, ms⟩ := κ
  obtain ⟨hx, hb, hml, hown, hts, hK, hG, hR, hlk⟩ := hκ
  intro H locs cells slots ls hF hl
  exact lv_dcmp hx hb hdg (kk H locs cells slots ls hF hl)
theorem g_i2d {cc : ByteArray} {nL : Nat} {own : String} {rm : Room} {κ : KX} (hκ : Cx cc nL own rm κ) {Φ : HQ} {pc : Nat} {lv : List (Nat × Value)} {st : List Value} {x : Int32} (hdg : decode cc pc = .ok (.i2d, 1)) (kk : Gj κ Φ (pc + 1) lv (.double (FP.i2d x) :: st)) : Gj κ Φ pc lv (.int x :: st) := by
  obtain ⟨p, l, e, R, s, m, args, below, meth, c, Q, D, cO, e0, A, mc, ms⟩ := κ
  obtain ⟨hx, hb, hml, hown, hts, hK, hG, hR, hlk⟩ := hκ
  intro H locs cells slots ls hF hl
  exact lv_i2d hx hb hdg (kk H locs cells slots ls hF hl)
theorem g_d2l {cc : ByteArray} {nL : Nat} {own : String} {rm : Room} {κ : KX} (hκ : Cx cc nL own rm κ) {Φ : HQ} {pc : Nat} {lv : List (Nat × Value)} {st : List Value} {x : UInt64} (hdg : decode cc pc = .ok (.d2l, 1)) (kk : Gj κ Φ (pc + 1) lv (.long (FP.d2l x) :: st)) : Gj κ Φ pc lv (.double x :: st) := by
  obtain ⟨p, l, e, R, s, m, args, below, meth, c, Q, D, cO, e0, A, mc, ms⟩ := κ
  obtain ⟨hx, hb, hml, hown, hts, hK, hG, hR, hlk⟩ := hκ
  intro H locs cells slots ls hF hl
  exact lv_d2l hx hb hdg (kk H locs cells slots ls hF hl)
theorem g_i2l {cc : ByteArray} {nL : Nat} {own : String} {rm : Room} {κ : KX} (hκ : Cx cc nL own rm κ) {Φ : HQ} {pc : Nat} {lv : List (Nat × Value)} {st : List Value} {x : Int32} (hdg : decode cc pc = .ok (.i2l, 1)) (kk : Gj κ Φ (pc + 1) lv (.long x.toInt64 :: st)) : Gj κ Φ pc lv (.int x :: st) := by
  obtain ⟨p, l, e, R, s, m, args, below, meth, c, Q, D, cO, e0, A, mc, ms⟩ := κ
  obtain ⟨hx, hb, hml, hown, hts, hK, hG, hR, hlk⟩ := hκ
  intro H locs cells slots ls hF hl
  exact lv_i2l hx hb hdg rfl (kk H locs cells slots ls hF hl)
theorem g_dup {cc : ByteArray} {nL : Nat} {own : String} {rm : Room} {κ : KX} (hκ : Cx cc nL own rm κ) {Φ : HQ} {pc : Nat} {lv : List (Nat × Value)} {st : List Value} {va : Value} (hdg : decode cc pc = .ok (.dup, 1)) (hva : va.category = 1) (kk : Gj κ Φ (pc + 1) lv (va :: va :: st)) : Gj κ Φ pc lv (va :: st) := by
  obtain ⟨p, l, e, R, s, m, args, below, meth, c, Q, D, cO, e0, A, mc, ms⟩ := κ
  obtain ⟨hx, hb, hml, hown, hts, hK, hG, hR, hlk⟩ := hκ
  intro H locs cells slots ls hF hl
  exact lv_dup hx hb hdg hva (kk H locs cells slots ls hF hl)
theorem g_pop {cc : ByteArray} {nL : Nat} {own : String} {rm : Room} {κ : KX} (hκ : Cx cc nL own rm κ) {Φ : HQ} {pc : Nat} {lv : List (Nat × Value)} {st : List Value} {va : Value} (hdg : decode cc pc = .ok (.pop, 1)) (hva : va.category = 1) (kk : Gj κ Φ (pc + 1) lv st) : Gj κ Φ pc lv (va :: st) := by
  obtain ⟨p, l, e, R, s, m, args, below, meth, c, Q, D, cO, e0, A, mc, ms⟩ := κ
  obtain ⟨hx, hb, hml, hown, hts, hK, hG, hR, hlk⟩ := hκ
  intro H locs cells slots ls hF hl
  exact lv_pop hx hb hdg hva (kk H locs cells slots ls hF hl)
theorem g_dup_x1 {cc : ByteArray} {nL : Nat} {own : String} {rm : Room} {κ : KX} (hκ : Cx cc nL own rm κ) {Φ : HQ} {pc : Nat} {lv : List (Nat × Value)} {st : List Value} {va vb : Value} (hdg : decode cc pc = .ok (.dup_x1, 1)) (hva : va.category = 1) (hvb : vb.category = 1) (kk : Gj κ Φ (pc + 1) lv (va :: vb :: va :: st)) : Gj κ Φ pc lv (va :: vb :: st) := by
  obtain ⟨p, l, e, R, s, m, args, below, meth, c, Q, D, cO, e0, A, mc, ms⟩ := κ
  obtain ⟨hx, hb, hml, hown, hts, hK, hG, hR, hlk⟩ := hκ
  intro H locs cells slots ls hF hl
  exact lv_dup_x1 hx hb hdg hva hvb (kk H locs cells slots ls hF hl)
theorem g_if_eq {cc : ByteArray} {nL : Nat} {own : String} {rm : Room} {κ : KX} (hκ : Cx cc nL own rm κ) {Φ : HQ} {pc : Nat} {lv : List (Nat × Value)} {st : List Value} {x : Int32} {off : Int} (tgt : Nat) (hdg : decode cc pc = .ok (.ifCond .eq off, 3)) (ht : (pc : Int) + off = (tgt : Int)) (kt : x = 0 → Gj κ Φ tgt lv st) (kf : ¬ x = 0 → Gj κ Φ (pc + 3) lv st) : Gj κ Φ pc lv (.int x :: st) := by
  obtain ⟨p, l, e, R, s, m, args, below, meth, c, Q, D, cO, e0, A, mc, ms⟩ := κ
  obtain ⟨hx, hb, hml, hown, hts, hK, hG, hR, hlk⟩ := hκ
  intro H locs cells slots ls hF hl
  exact lv_if_eq hx hb hdg ht (fun z => kt z H locs cells slots ls hF hl) (fun z => kf z H locs cells slots ls hF hl)
theorem g_icmp_eq {cc : ByteArray} {nL : Nat} {own : String} {rm : Room} {κ : KX} (hκ : Cx cc nL own rm κ) {Φ : HQ} {pc : Nat} {lv : List (Nat × Value)} {st : List Value} {x y : Int32} {off : Int} (tgt : Nat) (hdg : decode cc pc = .ok (.if_icmp .eq off, 3)) (ht : (pc : Int) + off = (tgt : Int)) (kt : x = y → Gj κ Φ tgt lv st) (kf : ¬ x = y → Gj κ Φ (pc + 3) lv st) : Gj κ Φ pc lv (.int y :: .int x :: st) := by
  obtain ⟨p, l, e, R, s, m, args, below, meth, c, Q, D, cO, e0, A, mc, ms⟩ := κ
  obtain ⟨hx, hb, hml, hown, hts, hK, hG, hR, hlk⟩ := hκ
  intro H locs cells slots ls hF hl
  exact lv_icmp_eq hx hb hdg ht (fun z => kt z H locs cells slots ls hF hl) (fun z => kf z H locs cells slots ls hF hl)
theorem g_if_ne {cc : ByteArray} {nL : Nat} {own : String} {rm : Room} {κ : KX} (hκ : Cx cc nL own rm κ) {Φ : HQ} {pc : Nat} {lv : List (Nat × Value)} {st : List Value} {x : Int32} {off : Int} (tgt : Nat) (hdg : decode cc pc = .ok (.ifCond .ne off, 3)) (ht : (pc : Int) + off = (tgt : Int)) (kt : ¬ x = 0 → Gj κ Φ tgt lv st) (kf : x = 0 → Gj κ Φ (pc + 3) lv st) : Gj κ Φ pc lv (.int x :: st) := by
  obtain ⟨p, l, e, R, s, m, args, below, meth, c, Q, D, cO, e0, A, mc, ms⟩ := κ
  obtain ⟨hx, hb, hml, hown, hts, hK, hG, hR, hlk⟩ := hκ
  intro H locs cells slots ls hF hl
  exact lv_if_ne hx hb hdg ht (fun z => kt z H locs cells slots ls hF hl) (fun z => kf z H locs cells slots ls hF hl)
theorem g_icmp_ne {cc : ByteArray} {nL : Nat} {own : String} {rm : Room} {κ : KX} (hκ : Cx cc nL own rm κ) {Φ : HQ} {pc : Nat} {lv : List (Nat × Value)} {st : List Value} {x y : Int32} {off : Int} (tgt : Nat) (hdg : decode cc pc = .ok (.if_icmp .ne off, 3)) (ht : (pc : Int) + off = (tgt : Int)) (kt : ¬ x = y → Gj κ Φ tgt lv st) (kf : x = y → Gj κ Φ (pc + 3) lv st) : Gj κ Φ pc lv (.int y :: .int x :: st) := by
  obtain ⟨p, l, e, R, s, m, args, below, meth, c, Q, D, cO, e0, A, mc, ms⟩ := κ
  obtain ⟨hx, hb, hml, hown, hts, hK, hG, hR, hlk⟩ := hκ
  intro H locs cells slots ls hF hl
  exact lv_icmp_ne hx hb hdg ht (fun z => kt z H locs cells slots ls hF hl) (fun z => kf z H locs cells slots ls hF hl)
theorem g_if_lt {cc : ByteArray} {nL : Nat} {own : String} {rm : Room} {κ : KX} (hκ : Cx cc nL own rm κ) {Φ : HQ} {pc : Nat} {lv : List (Nat × Value)} {st : List Value} {x : Int32} {off : Int} (tgt : Nat) (hdg : decode cc pc = .ok (.ifCond .lt off, 3)) (ht : (pc : Int) + off = (tgt : Int)) (kt : x < 0 → Gj κ Φ tgt lv st) (kf : ¬ x < 0 → Gj κ Φ (pc + 3) lv st) : Gj κ Φ pc lv (.int x :: st) := by
  obtain ⟨p, l, e, R, s, m, args, below, meth, c, Q, D, cO, e0, A, mc, ms⟩ := κ
  obtain ⟨hx, hb, hml, hown, hts, hK, hG, hR, hlk⟩ := hκ
  intro H locs cells slots ls hF hl
  exact lv_if_lt hx hb hdg ht (fun z => kt z H locs cells slots ls hF hl) (fun z => kf z H locs cells slots ls hF hl)
theorem g_icmp_lt {cc : ByteArray} {nL : Nat} {own : String} {rm : Room} {κ : KX} (hκ : Cx cc nL own rm κ) {Φ : HQ} {pc : Nat} {lv : List (Nat × Value)} {st : List Value} {x y : Int32} {off : Int} (tgt : Nat) (hdg : decode cc pc = .ok (.if_icmp .lt off, 3)) (ht : (pc : Int) + off = (tgt : Int)) (kt : x < y → Gj κ Φ tgt lv st) (kf : ¬ x < y → Gj κ Φ (pc + 3) lv st) : Gj κ Φ pc lv (.int y :: .int x :: st) := by
  obtain ⟨p, l, e, R, s, m, args, below, meth, c, Q, D, cO, e0, A, mc, ms⟩ := κ
  obtain ⟨hx, hb, hml, hown, hts, hK, hG, hR, hlk⟩ := hκ
  intro H locs cells slots ls hF hl
  exact lv_icmp_lt hx hb hdg ht (fun z => kt z H locs cells slots ls hF hl) (fun z => kf z H locs cells slots ls hF hl)
theorem g_if_ge {cc : ByteArray} {nL : Nat} {own : String} {rm : Room} {κ : KX} (hκ : Cx cc nL own rm κ) {Φ : HQ} {pc : Nat} {lv : List (Nat × Value)} {st : List Value} {x : Int32} {off : Int} (tgt : Nat) (hdg : decode cc pc = .ok (.ifCond .ge off, 3)) (ht : (pc : Int) + off = (tgt : Int)) (kt : 0 ≤ x → Gj κ Φ tgt lv st) (kf : ¬ 0 ≤ x → Gj κ Φ (pc + 3) lv st) : Gj κ Φ pc lv (.int x :: st) := by
  obtain ⟨p, l, e, R, s, m, args, below, meth, c, Q, D, cO, e0, A, mc, ms⟩ := κ
  obtain ⟨hx, hb, hml, hown, hts, hK, hG, hR, hlk⟩ := hκ
  intro H locs cells slots ls hF hl
  exact lv_if_ge hx hb hdg ht (fun z => kt z H locs cells slots ls hF hl) (fun z => kf z H locs cells slots ls hF hl)
theorem g_icmp_ge {cc : ByteArray} {nL : Nat} {own : String} {rm : Room} {κ : KX} (hκ : Cx cc nL own rm κ) {Φ : HQ} {pc : Nat} {lv : List (Nat × Value)} {st : List Value} {x y : Int32} {off : Int} (tgt : Nat) (hdg : decode cc pc = .ok (.if_icmp .ge off, 3)) (ht : (pc : Int) + off = (tgt : Int)) (kt : y ≤ x → Gj κ Φ tgt lv st) (kf : ¬ y ≤ x → Gj κ Φ (pc + 3) lv st) : Gj κ Φ pc lv (.int y :: .int x :: st) := by
  obtain ⟨p, l, e, R, s, m, args, below, meth, c, Q, D, cO, e0, A, mc, ms⟩ := κ
  obtain ⟨hx, hb, hml, hown, hts, hK, hG, hR, hlk⟩ := hκ
  intro H locs cells slots ls hF hl
  exact lv_icmp_ge hx hb hdg ht (fun z => kt z H locs cells slots ls hF hl) (fun z => kf z H locs cells slots ls hF hl)
theorem g_if_gt {cc : ByteArray} {nL : Nat} {own : String} {rm : Room} {κ : KX} (hκ : Cx cc nL own rm κ) {Φ : HQ} {pc : Nat} {lv : List (Nat × Value)} {st : List Value} {x : Int32} {off : Int} (tgt : Nat) (hdg : decode cc pc = .ok (.ifCond .gt off, 3)) (ht : (pc : Int) + off = (tgt : Int)) (kt : 0 < x → Gj κ Φ tgt lv st) (kf : ¬ 0 < x → Gj κ Φ (pc + 3) lv st) : Gj κ Φ pc lv (.int x :: st) := by
  obtain ⟨p, l, e, R, s, m, args, below, meth, c, Q, D, cO, e0, A, mc, ms⟩ := κ
  obtain ⟨hx, hb, hml, hown, hts, hK, hG, hR, hlk⟩ := hκ
  intro H locs cells slots ls hF hl
  exact lv_if_gt hx hb hdg ht (fun z => kt z H locs cells slots ls hF hl) (fun z => kf z H locs cells slots ls hF hl)
theorem g_icmp_gt {cc : ByteArray} {nL : Nat} {own : String} {rm : Room} {κ : KX} (hκ : Cx cc nL own rm κ) {Φ : HQ} {pc : Nat} {lv : List (Nat × Value)} {st : List Value} {x y : Int32} {off : Int} (tgt : Nat) (hdg : decode cc pc = .ok (.if_icmp .gt off, 3)) (ht : (pc : Int) + off = (tgt : Int)) (kt : y < x → Gj κ Φ tgt lv st) (kf : ¬ y < x → Gj κ Φ (pc + 3) lv st) : Gj κ Φ pc lv (.int y :: .int x :: st) := by
  obtain ⟨p, l, e, R, s, m, args, below, meth, c, Q, D, cO, e0, A, mc, ms⟩ := κ
  obtain ⟨hx, hb, hml, hown, hts, hK, hG, hR, hlk⟩ := hκ
  intro H locs cells slots ls hF hl
  exact lv_icmp_gt hx hb hdg ht (fun z => kt z H locs cells slots ls hF hl) (fun z => kf z H locs cells slots ls hF hl)
theorem g_if_le {cc : ByteArray} {nL : Nat} {own : String} {rm : Room} {κ : KX} (hκ : Cx cc nL own rm κ) {Φ : HQ} {pc : Nat} {lv : List (Nat × Value)} {st : List Value} {x : Int32} {off : Int} (tgt : Nat) (hdg : decode cc pc = .ok (.ifCond .le off, 3)) (ht : (pc : Int) + off = (tgt : Int)) (kt : x ≤ 0 → Gj κ Φ tgt lv st) (kf : ¬ x ≤ 0 → Gj κ Φ (pc + 3) lv st) : Gj κ Φ pc lv (.int x :: st) := by
  obtain ⟨p, l, e, R, s, m, args, below, meth, c, Q, D, cO, e0, A, mc, ms⟩ := κ
  obtain ⟨hx, hb, hml, hown, hts, hK, hG, hR, hlk⟩ := hκ
  intro H locs cells slots ls hF hl
  exact lv_if_le hx hb hdg ht (fun z => kt z H locs cells slots ls hF hl) (fun z => kf z H locs cells slots ls hF hl)
theorem g_icmp_le {cc : ByteArray} {nL : Nat} {own : String} {rm : Room} {κ : KX} (hκ : Cx cc nL own rm κ) {Φ : HQ} {pc : Nat} {lv : List (Nat × Value)} {st : List Value} {x y : Int32} {off : Int} (tgt : Nat) (hdg : decode cc pc = .ok (.if_icmp .le off, 3)) (ht : (pc : Int) + off = (tgt : Int)) (kt : x ≤ y → Gj κ Φ tgt lv st) (kf : ¬ x ≤ y → Gj κ Φ (pc + 3) lv st) : Gj κ Φ pc lv (.int y :: .int x :: st) := by
  obtain ⟨p, l, e, R, s, m, args, below, meth, c, Q, D, cO, e0, A, mc, ms⟩ := κ
  obtain ⟨hx, hb, hml, hown, hts, hK, hG, hR, hlk⟩ := hκ
  intro H locs cells slots ls hF hl
  exact lv_icmp_le hx hb hdg ht (fun z => kt z H locs cells slots ls hF hl) (fun z => kf z H locs cells slots ls hF hl)
theorem g_goto {cc : ByteArray} {nL : Nat} {own : String} {rm : Room} {κ : KX} (hκ : Cx cc nL own rm κ) {Φ : HQ} {pc : Nat} {lv : List (Nat × Value)} {st : List Value} {off : Int} (tgt : Nat) (hdg : decode cc pc = .ok (.goto off, 3)) (ht : (pc : Int) + off = (tgt : Int)) (kk : Gj κ Φ tgt lv st) : Gj κ Φ pc lv st := by
  obtain ⟨p, l, e, R, s, m, args, below, meth, c, Q, D, cO, e0, A, mc, ms⟩ := κ
  obtain ⟨hx, hb, hml, hown, hts, hK, hG, hR, hlk⟩ := hκ
  intro H locs cells slots ls hF hl
  exact lv_goto hx hb hdg ht (kk H locs cells slots ls hF hl)
theorem g_ifnull {cc : ByteArray} {nL : Nat} {own : String} {rm : Room} {κ : KX} (hκ : Cx cc nL own rm κ) {Φ : HQ} {pc : Nat} {lv : List (Nat × Value)} {st : List Value} {x : Nat} {off : Int} (hdg : decode cc pc = .ok (.ifnull off, 3)) (kk : Gj κ Φ (pc + 3) lv st) : Gj κ Φ pc lv (.ref x :: st) := by
  obtain ⟨p, l, e, R, s, m, args, below, meth, c, Q, D, cO, e0, A, mc, ms⟩ := κ
  obtain ⟨hx, hb, hml, hown, hts, hK, hG, hR, hlk⟩ := hκ
  intro H locs cells slots ls hF hl
  exact lv_ifnull hx hb hdg (kk H locs cells slots ls hF hl)
theorem g_ifnullN {cc : ByteArray} {nL : Nat} {own : String} {rm : Room} {κ : KX} (hκ : Cx cc nL own rm κ) {Φ : HQ} {pc : Nat} {lv : List (Nat × Value)} {st : List Value} {off : Int} (tgt : Nat) (hdg : decode cc pc = .ok (.ifnull off, 3)) (ht : (pc : Int) + off = (tgt : Int)) (kk : Gj κ Φ tgt lv st) : Gj κ Φ pc lv (.null :: st) := by
  obtain ⟨p, l, e, R, s, m, args, below, meth, c, Q, D, cO, e0, A, mc, ms⟩ := κ
  obtain ⟨hx, hb, hml, hown, hts, hK, hG, hR, hlk⟩ := hκ
  intro H locs cells slots ls hF hl
  exact lv_ifnullN hx hb hdg ht (kk H locs cells slots ls hF hl)
theorem g_ifnonnull {cc : ByteArray} {nL : Nat} {own : String} {rm : Room} {κ : KX} (hκ : Cx cc nL own rm κ) {Φ : HQ} {pc : Nat} {lv : List (Nat × Value)} {st : List Value} {x : Nat} {off : Int} (tgt : Nat) (hdg : decode cc pc = .ok (.ifnonnull off, 3)) (ht : (pc : Int) + off = (tgt : Int)) (kk : Gj κ Φ tgt lv st) : Gj κ Φ pc lv (.ref x :: st) := by
  obtain ⟨p, l, e, R, s, m, args, below, meth, c, Q, D, cO, e0, A, mc, ms⟩ := κ
  obtain ⟨hx, hb, hml, hown, hts, hK, hG, hR, hlk⟩ := hκ
  intro H locs cells slots ls hF hl
  exact lv_ifnonnull hx hb hdg ht (kk H locs cells slots ls hF hl)
theorem g_ifnonnullN {cc : ByteArray} {nL : Nat} {own : String} {rm : Room} {κ : KX} (hκ : Cx cc nL own rm κ) {Φ : HQ} {pc : Nat} {lv : List (Nat × Value)} {st : List Value} {off : Int} (hdg : decode cc pc = .ok (.ifnonnull off, 3)) (kk : Gj κ Φ (pc + 3) lv st) : Gj κ Φ pc lv (.null :: st) := by
  obtain ⟨p, l, e, R, s, m, args, below, meth, c, Q, D, cO, e0, A, mc, ms⟩ := κ
  obtain ⟨hx, hb, hml, hown, hts, hK, hG, hR, hlk⟩ := hκ
  intro H locs cells slots ls hF hl
  exact lv_ifnonnullN hx hb hdg (kk H locs cells slots ls hF hl)
theorem g_acmp_ne {cc : ByteArray} {nL : Nat} {own : String} {rm : Room} {κ : KX} (hκ : Cx cc nL own rm κ) {Φ : HQ} {pc : Nat} {lv : List (Nat × Value)} {st : List Value} {rx ry : Option Nat} {off : Int} (tgt : Nat) (hdg : decode cc pc = .ok (.if_acmp .ne off, 3)) (ht : (pc : Int) + off = (tgt : Int)) (kt : ¬ rx = ry → Gj κ Φ tgt lv st) (kf : rx = ry → Gj κ Φ (pc + 3) lv st) : Gj κ Φ pc lv (va_rf ry :: va_rf rx :: st) := by
  obtain ⟨p, l, e, R, s, m, args, below, meth, c, Q, D, cO, e0, A, mc, ms⟩ := κ
  obtain ⟨hx, hb, hml, hown, hts, hK, hG, hR, hlk⟩ := hκ
  intro H locs cells slots ls hF hl
  exact lv_acmp_ne hx hb hdg ht (fun z => kt z H locs cells slots ls hF hl) (fun z => kf z H locs cells slots ls hF hl)
theorem g_acmp_eq {cc : ByteArray} {nL : Nat} {own : String} {rm : Room} {κ : KX} (hκ : Cx cc nL own rm κ) {Φ : HQ} {pc : Nat} {lv : List (Nat × Value)} {st : List Value} {rx ry : Option Nat} {off : Int} (tgt : Nat) (hdg : decode cc pc = .ok (.if_acmp .eq off, 3)) (ht : (pc : Int) + off = (tgt : Int)) (kt : rx = ry → Gj κ Φ tgt lv st) (kf : ¬ rx = ry → Gj κ Φ (pc + 3) lv st) : Gj κ Φ pc lv (va_rf ry :: va_rf rx :: st) := by
  obtain ⟨p, l, e, R, s, m, args, below, meth, c, Q, D, cO, e0, A, mc, ms⟩ := κ
  obtain ⟨hx, hb, hml, hown, hts, hK, hG, hR, hlk⟩ := hκ
  intro H locs cells slots ls hF hl
  exact lv_acmp_eq hx hb hdg ht (fun z => kt z H locs cells slots ls hF hl) (fun z => kf z H locs cells slots ls hF hl)
theorem g_tableIn {cc : ByteArray} {nL : Nat} {own : String} {rm : Room} {κ : KX} (hκ : Cx cc nL own rm κ) {Φ : HQ} {pc : Nat} {lv : List (Nat × Value)} {st : List Value} {dflt lo hi : Int} {offs : Array Int} {len : Nat} {x : Int32} {off : Int} (tgt : Nat) (hdg : decode cc pc = .ok (.tableswitch dflt lo hi offs, len)) (h1 : ¬ x.toInt < lo) (h2 : ¬ hi < x.toInt) (ho : offs[(x.toInt - lo).toNat]? = some off) (ht : (pc : Int) + off = (tgt : Int)) (kk : Gj κ Φ tgt lv st) : Gj κ Φ pc lv (.int x :: st) := by
  obtain ⟨p, l, e, R, s, m, args, below, meth, c, Q, D, cO, e0, A, mc, ms⟩ := κ
  obtain ⟨hx, hb, hml, hown, hts, hK, hG, hR, hlk⟩ := hκ
  intro H locs cells slots ls hF hl
  exact lv_tableIn hx hb hdg h1 h2 ho ht (kk H locs cells slots ls hF hl)
theorem g_tableOut {cc : ByteArray} {nL : Nat} {own : String} {rm : Room} {κ : KX} (hκ : Cx cc nL own rm κ) {Φ : HQ} {pc : Nat} {lv : List (Nat × Value)} {st : List Value} {dflt lo hi : Int} {offs : Array Int} {len : Nat} {x : Int32} (tgt : Nat) (hdg : decode cc pc = .ok (.tableswitch dflt lo hi offs, len)) (h : x.toInt < lo ∨ hi < x.toInt) (ht : (pc : Int) + dflt = (tgt : Int)) (kk : Gj κ Φ tgt lv st) : Gj κ Φ pc lv (.int x :: st) := by
  obtain ⟨p, l, e, R, s, m, args, below, meth, c, Q, D, cO, e0, A, mc, ms⟩ := κ
  obtain ⟨hx, hb, hml, hown, hts, hK, hG, hR, hlk⟩ := hκ
  intro H locs cells slots ls hF hl
  exact lv_tableOut hx hb hdg h ht (kk H locs cells slots ls hF hl)
theorem g_topi {κ : KX} {Φ : HQ} {pc : Nat} {lv : List (Nat × Value)} {st : List Value} {x : Int32} (k : ∀ y : Int32, y = x → Gj κ Φ pc lv (.int y :: st)) : Gj κ Φ pc lv (.int x :: st) := k x rfl
theorem g_topl {κ : KX} {Φ : HQ} {pc : Nat} {lv : List (Nat × Value)} {st : List Value} {x : Int64} (k : ∀ y : Int64, y = x → Gj κ Φ pc lv (.long y :: st)) : Gj κ Φ pc lv (.long x :: st) := k x rfl
theorem g_topd {κ : KX} {Φ : HQ} {pc : Nat} {lv : List (Nat × Value)} {st : List Value} {x : UInt64} (k : ∀ y : UInt64, y = x → Gj κ Φ pc lv (.double y :: st)) : Gj κ Φ pc lv (.double x :: st) := k x rfl
theorem g_lv {κ : KX} {Φ : HQ} {pc : Nat} {lv : List (Nat × Value)} {st : List Value} (lv2 : List (Nat × Value)) (ks : List Nat) (hl2 : lv_pick lv ks = lv2) (kk : Gj κ Φ pc lv2 st) : Gj κ Φ pc lv st := by
  obtain ⟨p, l, e, R, s, m, args, below, meth, c, Q, D, cO, e0, A, mc, ms⟩ := κ
  exact fun H locs cells slots ls hF hl => kk H locs cells slots ls hF (lv_sub hl ks hl2)
theorem g_eq {κ : KX} {Φ : HQ} {pc : Nat} {lv : List (Nat × Value)} {st : List Value} {st2 : List Value} (h : st = st2) (kk : Gj κ Φ pc lv st2) : Gj κ Φ pc lv st := h ▸ kk
theorem g_wid {κ : KX} {S : wPS} {k n k2 n2 : Nat} {pc : Nat} {lv : List (Nat × Value)} {st : List Value} (h1 : k2 ≤ k) (h2 : n2 ≤ n) (kk : Gj κ (PV κ S k2 n2) pc lv st) : Gj κ (PV κ S k n) pc lv st := by
  obtain ⟨p, l, e, R, s, m, args, below, meth, c, Q, D, cO, e0, A, mc, ms⟩ := κ
  exact fun H locs cells slots ls hF hl => kk H locs cells slots ls ⟨hF.1, hF.2.1, hF.2.2.1, by have := hF.2.2.2.1; omega, by have := hF.2.2.2.2; omega⟩ hl
theorem gt_Flight_x {cc : ByteArray} {nL : Nat} {own : String} {rm : Room} {κ : KX} (hκ : Cx cc nL own rm κ) {Φ : HQ} {pc : Nat} {lv : List (Nat × Value)} {st : List Value} {S : wPS} (hΦ : Hd κ Φ S) {a idx : Nat} {ref : String} (hO : a ∈ sL S ∧ sK S a = 0) (hlink : Cond.fieldLink own idx ref "x" "I" ∈ GA) (hsm : ref = "Plotroom$Place" ∨ Cond.sameField ref "Plotroom$Place" "x" "I" ∈ GA) (hdg : decode cc pc = .ok (.getfield idx, 3)) (kk : Gj κ Φ (pc + 3) lv (.int (sI S 0 a) :: st)) : Gj κ Φ pc lv (.ref a :: st) := by
  obtain ⟨p, l, e, R, s, m, args, below, meth, c, Q, D, cO, e0, A, mc, ms⟩ := κ
  obtain ⟨hx, hb, hml, hown, hts, hK, hG, hR, hlk⟩ := hκ
  intro H locs cells slots ls hF hl
  obtain ⟨k0, hk0, hk1⟩ := wG_Flight cO S hO
  exact va_get (D := D) (ci := 1) (C := RX0) (T := TX0) (N := 8) hx hb hts inlX0 hown hK (hΦ H locs cells slots hF).1 k0 hk1 rfl 0 (by decide) (hts _ hlink) (fun x9 h9 => hsm.elim (fun z => by rw [z]; exact h9) (fun z => u_same (hts _ z) x9 h9)) rfl hdg (kk H locs cells slots ls hF hl)
theorem pt_Flight_x {cc : ByteArray} {nL : Nat} {own : String} {rm : Room} {κ : KX} (hκ : Cx cc nL own rm κ) {pc : Nat} {lv : List (Nat × Value)} {st : List Value} {S : wPS} {k n : Nat} {a idx : Nat} {ref : String} {v : Int32} (hO : a ∈ sL S ∧ sK S a = 0) (hlink : Cond.fieldLink own idx ref "x" "I" ∈ GA) (hsm : ref = "Plotroom$Place" ∨ Cond.sameField ref "Plotroom$Place" "x" "I" ∈ GA)   (hdg : decode cc pc = .ok (.putfield idx, 3)) (kk : Gj κ (PV κ (putI S 0 a v) k n) (pc + 3) lv st) : Gj κ (PV κ S k n) pc lv (.int v :: .ref a :: st) := by
  obtain ⟨p, l, e, R, s, m, args, below, meth, c, Q, D, cO, e0, A, mc, ms⟩ := κ
  obtain ⟨hx, hb, hml, hown, hts, hK, hG, hR, hlk⟩ := hκ
  intro H locs cells slots ls hF hl
  obtain ⟨hP, hD, hS, hc, hs⟩ := hF
  obtain ⟨k0, hk0, hk1⟩ := wG_Flight cO S hO
  have eq9 := wU_Flight_x cO S hD hO hk0 v
  refine va_put (D := D) (ci := 1) (v := .int v) (ty := .int) (C := RX0) (T := TX0) (N := 8) hx hb hts inlX0 tyX0 tyX0_ok nmX0 hown hK hP hD hS k0 hk1 rfl 0 (by decide) (hts _ hlink) (fun x9 h9 => hsm.elim (fun z => by rw [z]; exact h9) (fun z => u_same (hts _ z) x9 h9)) rfl rfl rfl rfl (by decide) hdg (fun H1 locs1 hP1 hD1 hS1 => ?_)
  exact kk H1 locs1 cells slots ls ⟨Eq.mp (congrArg (fun z => va_P D vwCl z H1) eq9) hP1, Eq.mp (congrArg (fun z => va_D A z) eq9) hD1, hS1, hc, hs⟩ hl
theorem gtN_Flight_x {cc : ByteArray} {nL : Nat} {own : String} {rm : Room} {κ : KX} (hκ : Cx cc nL own rm κ) {Φ : HQ} {pc : Nat} {lv : List (Nat × Value)} {st : List Value} {S : wPS} (hΦ : Hd κ Φ S) {a idx : Nat} {ref host : String} (hO : a ∈ sL S ∧ sK S a = 0) (hlink : (own, idx, ref, "x", "I", host) ∈ nestF) (hsm : ref = "Plotroom$Place" ∨ Cond.sameField ref "Plotroom$Place" "x" "I" ∈ GA) (hdg : decode cc pc = .ok (.getfield idx, 3)) (kk : Gj κ Φ (pc + 3) lv (.int (sI S 0 a) :: st)) : Gj κ Φ pc lv (.ref a :: st) := by
  obtain ⟨p, l, e, R, s, m, args, below, meth, c, Q, D, cO, e0, A, mc, ms⟩ := κ
  obtain ⟨hx, hb, hml, hown, hts, hK, hG, hR, hlk⟩ := hκ
  intro H locs cells slots ls hF hl
  obtain ⟨k0, hk0, hk1⟩ := wG_Flight cO S hO
  exact va_getN (D := D) (ci := 1) (C := RX0) (T := TX0) (N := 8) hx hb hts inlX0 hown hK (hΦ H locs cells slots hF).1 k0 hk1 rfl 0 (by decide) (va_Nw.use rfl (hG.1 _ hlink)) (fun x9 h9 => hsm.elim (fun z => by rw [z]; exact h9) (fun z => u_same (hts _ z) x9 h9)) rfl hdg (kk H locs cells slots ls hF hl)
theorem ptN_Flight_x {cc : ByteArray} {nL : Nat} {own : String} {rm : Room} {κ : KX} (hκ : Cx cc nL own rm κ) {pc : Nat} {lv : List (Nat × Value)} {st : List Value} {S : wPS} {k n : Nat} {a idx : Nat} {ref host : String} {v : Int32} (hO : a ∈ sL S ∧ sK S a = 0) (hlink : (own, idx, ref, "x", "I", host) ∈ nestF) (hsm : ref = "Plotroom$Place" ∨ Cond.sameField ref "Plotroom$Place" "x" "I" ∈ GA)   (hdg : decode cc pc = .ok (.putfield idx, 3)) (kk : Gj κ (PV κ (putI S 0 a v) k n) (pc + 3) lv st) : Gj κ (PV κ S k n) pc lv (.int v :: .ref a :: st) := by
  obtain ⟨p, l, e, R, s, m, args, below, meth, c, Q, D, cO, e0, A, mc, ms⟩ := κ
  obtain ⟨hx, hb, hml, hown, hts, hK, hG, hR, hlk⟩ := hκ
  intro H locs cells slots ls hF hl
  obtain ⟨hP, hD, hS, hc, hs⟩ := hF
  obtain ⟨k0, hk0, hk1⟩ := wG_Flight cO S hO
  have eq9 := wU_Flight_x cO S hD hO hk0 v
  refine va_putN (D := D) (ci := 1) (v := .int v) (ty := .int) (C := RX0) (T := TX0) (N := 8) hx hb hts inlX0 tyX0 tyX0_ok nmX0 hown hK hP hD hS k0 hk1 rfl 0 (by decide) (va_Nw.use rfl (hG.1 _ hlink)) (fun x9 h9 => hsm.elim (fun z => by rw [z]; exact h9) (fun z => u_same (hts _ z) x9 h9)) rfl rfl rfl rfl (by decide) hdg (fun H1 locs1 hP1 hD1 hS1 => ?_)
  exact kk H1 locs1 cells slots ls ⟨Eq.mp (congrArg (fun z => va_P D vwCl z H1) eq9) hP1, Eq.mp (congrArg (fun z => va_D A z) eq9) hD1, hS1, hc, hs⟩ hl
theorem gt_Flight_y {cc : ByteArray} {nL : Nat} {own : String} {rm : Room} {κ : KX} (hκ : Cx cc nL own rm κ) {Φ : HQ} {pc : Nat} {lv : List (Nat × Value)} {st : List Value} {S : wPS} (hΦ : Hd κ Φ S) {a idx : Nat} {ref : String} (hO : a ∈ sL S ∧ sK S a = 0) (hlink : Cond.fieldLink own idx ref "y" "I" ∈ GA) (hsm : ref = "Plotroom$Place" ∨ Cond.sameField ref "Plotroom$Place" "y" "I" ∈ GA) (hdg : decode cc pc = .ok (.getfield idx, 3)) (kk : Gj κ Φ (pc + 3) lv (.int (sI S 1 a) :: st)) : Gj κ Φ pc lv (.ref a :: st) := by
  obtain ⟨p, l, e, R, s, m, args, below, meth, c, Q, D, cO, e0, A, mc, ms⟩ := κ
  obtain ⟨hx, hb, hml, hown, hts, hK, hG, hR, hlk⟩ := hκ
  intro H locs cells slots ls hF hl
  obtain ⟨k0, hk0, hk1⟩ := wG_Flight cO S hO
  exact va_get (D := D) (ci := 1) (C := RX0) (T := TX0) (N := 8) hx hb hts inlX0 hown hK (hΦ H locs cells slots hF).1 k0 hk1 rfl 1 (by decide) (hts _ hlink) (fun x9 h9 => hsm.elim (fun z => by rw [z]; exact h9) (fun z => u_same (hts _ z) x9 h9)) rfl hdg (kk H locs cells slots ls hF hl)
theorem pt_Flight_y {cc : ByteArray} {nL : Nat} {own : String} {rm : Room} {κ : KX} (hκ : Cx cc nL own rm κ) {pc : Nat} {lv : List (Nat × Value)} {st : List Value} {S : wPS} {k n : Nat} {a idx : Nat} {ref : String} {v : Int32} (hO : a ∈ sL S ∧ sK S a = 0) (hlink : Cond.fieldLink own idx ref "y" "I" ∈ GA) (hsm : ref = "Plotroom$Place" ∨ Cond.sameField ref "Plotroom$Place" "y" "I" ∈ GA)   (hdg : decode cc pc = .ok (.putfield idx, 3)) (kk : Gj κ (PV κ (putI S 1 a v) k n) (pc + 3) lv st) : Gj κ (PV κ S k n) pc lv (.int v :: .ref a :: st) := by
  obtain ⟨p, l, e, R, s, m, args, below, meth, c, Q, D, cO, e0, A, mc, ms⟩ := κ
  obtain ⟨hx, hb, hml, hown, hts, hK, hG, hR, hlk⟩ := hκ
  intro H locs cells slots ls hF hl
  obtain ⟨hP, hD, hS, hc, hs⟩ := hF
  obtain ⟨k0, hk0, hk1⟩ := wG_Flight cO S hO
  have eq9 := wU_Flight_y cO S hD hO hk0 v
  refine va_put (D := D) (ci := 1) (v := .int v) (ty := .int) (C := RX0) (T := TX0) (N := 8) hx hb hts inlX0 tyX0 tyX0_ok nmX0 hown hK hP hD hS k0 hk1 rfl 1 (by decide) (hts _ hlink) (fun x9 h9 => hsm.elim (fun z => by rw [z]; exact h9) (fun z => u_same (hts _ z) x9 h9)) rfl rfl rfl rfl (by decide) hdg (fun H1 locs1 hP1 hD1 hS1 => ?_)
  exact kk H1 locs1 cells slots ls ⟨Eq.mp (congrArg (fun z => va_P D vwCl z H1) eq9) hP1, Eq.mp (congrArg (fun z => va_D A z) eq9) hD1, hS1, hc, hs⟩ hl
theorem gtN_Flight_y {cc : ByteArray} {nL : Nat} {own : String} {rm : Room} {κ : KX} (hκ : Cx cc nL own rm κ) {Φ : HQ} {pc : Nat} {lv : List (Nat × Value)} {st : List Value} {S : wPS} (hΦ : Hd κ Φ S) {a idx : Nat} {ref host : String} (hO : a ∈ sL S ∧ sK S a = 0) (hlink : (own, idx, ref, "y", "I", host) ∈ nestF) (hsm : ref = "Plotroom$Place" ∨ Cond.sameField ref "Plotroom$Place" "y" "I" ∈ GA) (hdg : decode cc pc = .ok (.getfield idx, 3)) (kk : Gj κ Φ (pc + 3) lv (.int (sI S 1 a) :: st)) : Gj κ Φ pc lv (.ref a :: st) := by
  obtain ⟨p, l, e, R, s, m, args, below, meth, c, Q, D, cO, e0, A, mc, ms⟩ := κ
  obtain ⟨hx, hb, hml, hown, hts, hK, hG, hR, hlk⟩ := hκ
  intro H locs cells slots ls hF hl
  obtain ⟨k0, hk0, hk1⟩ := wG_Flight cO S hO
  exact va_getN (D := D) (ci := 1) (C := RX0) (T := TX0) (N := 8) hx hb hts inlX0 hown hK (hΦ H locs cells slots hF).1 k0 hk1 rfl 1 (by decide) (va_Nw.use rfl (hG.1 _ hlink)) (fun x9 h9 => hsm.elim (fun z => by rw [z]; exact h9) (fun z => u_same (hts _ z) x9 h9)) rfl hdg (kk H locs cells slots ls hF hl)
theorem ptN_Flight_y {cc : ByteArray} {nL : Nat} {own : String} {rm : Room} {κ : KX} (hκ : Cx cc nL own rm κ) {pc : Nat} {lv : List (Nat × Value)} {st : List Value} {S : wPS} {k n : Nat} {a idx : Nat} {ref host : String} {v : Int32} (hO : a ∈ sL S ∧ sK S a = 0) (hlink : (own, idx, ref, "y", "I", host) ∈ nestF) (hsm : ref = "Plotroom$Place" ∨ Cond.sameField ref "Plotroom$Place" "y" "I" ∈ GA)   (hdg : decode cc pc = .ok (.putfield idx, 3)) (kk : Gj κ (PV κ (putI S 1 a v) k n) (pc + 3) lv st) : Gj κ (PV κ S k n) pc lv (.int v :: .ref a :: st) := by
  obtain ⟨p, l, e, R, s, m, args, below, meth, c, Q, D, cO, e0, A, mc, ms⟩ := κ
  obtain ⟨hx, hb, hml, hown, hts, hK, hG, hR, hlk⟩ := hκ
  intro H locs cells slots ls hF hl
  obtain ⟨hP, hD, hS, hc, hs⟩ := hF
  obtain ⟨k0, hk0, hk1⟩ := wG_Flight cO S hO
  have eq9 := wU_Flight_y cO S hD hO hk0 v
  refine va_putN (D := D) (ci := 1) (v := .int v) (ty := .int) (C := RX0) (T := TX0) (N := 8) hx hb hts inlX0 tyX0 tyX0_ok nmX0 hown hK hP hD hS k0 hk1 rfl 1 (by decide) (va_Nw.use rfl (hG.1 _ hlink)) (fun x9 h9 => hsm.elim (fun z => by rw [z]; exact h9) (fun z => u_same (hts _ z) x9 h9)) rfl rfl rfl rfl (by decide) hdg (fun H1 locs1 hP1 hD1 hS1 => ?_)
  exact kk H1 locs1 cells slots ls ⟨Eq.mp (congrArg (fun z => va_P D vwCl z H1) eq9) hP1, Eq.mp (congrArg (fun z => va_D A z) eq9) hD1, hS1, hc, hs⟩ hl
theorem gt_Flight_isFoe {cc : ByteArray} {nL : Nat} {own : String} {rm : Room} {κ : KX} (hκ : Cx cc nL own rm κ) {Φ : HQ} {pc : Nat} {lv : List (Nat × Value)} {st : List Value} {S : wPS} (hΦ : Hd κ Φ S) {a idx : Nat} {ref : String} (hO : a ∈ sL S ∧ sK S a = 0) (hlink : Cond.fieldLink own idx ref "isFoe" "Z" ∈ GA) (hsm : ref = "Plotroom$Flight" ∨ Cond.sameField ref "Plotroom$Flight" "isFoe" "Z" ∈ GA) (hdg : decode cc pc = .ok (.getfield idx, 3)) (kk : Gj κ Φ (pc + 3) lv (.int (sI S 2 a) :: st)) : Gj κ Φ pc lv (.ref a :: st) := by
  obtain ⟨p, l, e, R, s, m, args, below, meth, c, Q, D, cO, e0, A, mc, ms⟩ := κ
  obtain ⟨hx, hb, hml, hown, hts, hK, hG, hR, hlk⟩ := hκ
  intro H locs cells slots ls hF hl
  obtain ⟨k0, hk0, hk1⟩ := wG_Flight cO S hO
  exact va_get (D := D) (ci := 1) (C := RX0) (T := TX0) (N := 8) hx hb hts inlX0 hown hK (hΦ H locs cells slots hF).1 k0 hk1 rfl 2 (by decide) (hts _ hlink) (fun x9 h9 => hsm.elim (fun z => by rw [z]; exact h9) (fun z => u_same (hts _ z) x9 h9)) rfl hdg (kk H locs cells slots ls hF hl)
theorem pt_Flight_isFoe {cc : ByteArray} {nL : Nat} {own : String} {rm : Room} {κ : KX} (hκ : Cx cc nL own rm κ) {pc : Nat} {lv : List (Nat × Value)} {st : List Value} {S : wPS} {k n : Nat} {a idx : Nat} {ref : String} {v : Int32} (hO : a ∈ sL S ∧ sK S a = 0) (hlink : Cond.fieldLink own idx ref "isFoe" "Z" ∈ GA) (hsm : ref = "Plotroom$Flight" ∨ Cond.sameField ref "Plotroom$Flight" "isFoe" "Z" ∈ GA) (hv : v = 0 ∨ v = 1) (hin : Nm "<init>" κ) (hde : "Plotroom$Flight" = own) (hdg : decode cc pc = .ok (.putfield idx, 3)) (kk : Gj κ (PV κ (putI S 2 a v) k n) (pc + 3) lv st) : Gj κ (PV κ S k n) pc lv (.int v :: .ref a :: st) := by
  obtain ⟨p, l, e, R, s, m, args, below, meth, c, Q, D, cO, e0, A, mc, ms⟩ := κ
  obtain ⟨hx, hb, hml, hown, hts, hK, hG, hR, hlk⟩ := hκ
  intro H locs cells slots ls hF hl
  obtain ⟨hP, hD, hS, hc, hs⟩ := hF
  obtain ⟨k0, hk0, hk1⟩ := wG_Flight cO S hO
  have eq9 := wU_Flight_isFoe cO S hD hO hk0 v
  refine va_putF (D := D) (ci := 1) (v := .int v) (ty := .boolean) (C := RX0) (T := TX0) (N := 8) hx hb hts inlX0 tyX0 tyX0_ok nmX0 hown hK hP hD hS k0 hk1 rfl 2 (by decide) (hts _ hlink) (fun x9 h9 => hsm.elim (fun z => by rw [z]; exact h9) (fun z => u_same (hts _ z) x9 h9)) rfl hin hde rfl (by rcases hv with rfl | rfl <;> rfl) (by rcases hv with rfl | rfl <;> rfl) (by decide) hdg (fun H1 locs1 hP1 hD1 hS1 => ?_)
  exact kk H1 locs1 cells slots ls ⟨Eq.mp (congrArg (fun z => va_P D vwCl z H1) eq9) hP1, Eq.mp (congrArg (fun z => va_D A z) eq9) hD1, hS1, hc, hs⟩ hl
theorem gtN_Flight_isFoe {cc : ByteArray} {nL : Nat} {own : String} {rm : Room} {κ : KX} (hκ : Cx cc nL own rm κ) {Φ : HQ} {pc : Nat} {lv : List (Nat × Value)} {st : List Value} {S : wPS} (hΦ : Hd κ Φ S) {a idx : Nat} {ref host : String} (hO : a ∈ sL S ∧ sK S a = 0) (hlink : (own, idx, ref, "isFoe", "Z", host) ∈ nestF) (hsm : ref = "Plotroom$Flight" ∨ Cond.sameField ref "Plotroom$Flight" "isFoe" "Z" ∈ GA) (hdg : decode cc pc = .ok (.getfield idx, 3)) (kk : Gj κ Φ (pc + 3) lv (.int (sI S 2 a) :: st)) : Gj κ Φ pc lv (.ref a :: st) := by
  obtain ⟨p, l, e, R, s, m, args, below, meth, c, Q, D, cO, e0, A, mc, ms⟩ := κ
  obtain ⟨hx, hb, hml, hown, hts, hK, hG, hR, hlk⟩ := hκ
  intro H locs cells slots ls hF hl
  obtain ⟨k0, hk0, hk1⟩ := wG_Flight cO S hO
  exact va_getN (D := D) (ci := 1) (C := RX0) (T := TX0) (N := 8) hx hb hts inlX0 hown hK (hΦ H locs cells slots hF).1 k0 hk1 rfl 2 (by decide) (va_Nw.use rfl (hG.1 _ hlink)) (fun x9 h9 => hsm.elim (fun z => by rw [z]; exact h9) (fun z => u_same (hts _ z) x9 h9)) rfl hdg (kk H locs cells slots ls hF hl)
theorem gt_Flight_height {cc : ByteArray} {nL : Nat} {own : String} {rm : Room} {κ : KX} (hκ : Cx cc nL own rm κ) {Φ : HQ} {pc : Nat} {lv : List (Nat × Value)} {st : List Value} {S : wPS} (hΦ : Hd κ Φ S) {a idx : Nat} {ref : String} (hO : a ∈ sL S ∧ sK S a = 0) (hlink : Cond.fieldLink own idx ref "height" "I" ∈ GA) (hsm : ref = "Plotroom$Flight" ∨ Cond.sameField ref "Plotroom$Flight" "height" "I" ∈ GA) (hdg : decode cc pc = .ok (.getfield idx, 3)) (kk : Gj κ Φ (pc + 3) lv (.int (sI S 3 a) :: st)) : Gj κ Φ pc lv (.ref a :: st) := by
  obtain ⟨p, l, e, R, s, m, args, below, meth, c, Q, D, cO, e0, A, mc, ms⟩ := κ
  obtain ⟨hx, hb, hml, hown, hts, hK, hG, hR, hlk⟩ := hκ
  intro H locs cells slots ls hF hl
  obtain ⟨k0, hk0, hk1⟩ := wG_Flight cO S hO
  exact va_get (D := D) (ci := 1) (C := RX0) (T := TX0) (N := 8) hx hb hts inlX0 hown hK (hΦ H locs cells slots hF).1 k0 hk1 rfl 3 (by decide) (hts _ hlink) (fun x9 h9 => hsm.elim (fun z => by rw [z]; exact h9) (fun z => u_same (hts _ z) x9 h9)) rfl hdg (kk H locs cells slots ls hF hl)
theorem pt_Flight_height {cc : ByteArray} {nL : Nat} {own : String} {rm : Room} {κ : KX} (hκ : Cx cc nL own rm κ) {pc : Nat} {lv : List (Nat × Value)} {st : List Value} {S : wPS} {k n : Nat} {a idx : Nat} {ref : String} {v : Int32} (hO : a ∈ sL S ∧ sK S a = 0) (hlink : Cond.fieldLink own idx ref "height" "I" ∈ GA) (hsm : ref = "Plotroom$Flight" ∨ Cond.sameField ref "Plotroom$Flight" "height" "I" ∈ GA)  (hin : Nm "<init>" κ) (hde : "Plotroom$Flight" = own) (hdg : decode cc pc = .ok (.putfield idx, 3)) (kk : Gj κ (PV κ (putI S 3 a v) k n) (pc + 3) lv st) : Gj κ (PV κ S k n) pc lv (.int v :: .ref a :: st) := by
  obtain ⟨p, l, e, R, s, m, args, below, meth, c, Q, D, cO, e0, A, mc, ms⟩ := κ
  obtain ⟨hx, hb, hml, hown, hts, hK, hG, hR, hlk⟩ := hκ
  intro H locs cells slots ls hF hl
  obtain ⟨hP, hD, hS, hc, hs⟩ := hF
  obtain ⟨k0, hk0, hk1⟩ := wG_Flight cO S hO
  have eq9 := wU_Flight_height cO S hD hO hk0 v
  refine va_putF (D := D) (ci := 1) (v := .int v) (ty := .int) (C := RX0) (T := TX0) (N := 8) hx hb hts inlX0 tyX0 tyX0_ok nmX0 hown hK hP hD hS k0 hk1 rfl 3 (by decide) (hts _ hlink) (fun x9 h9 => hsm.elim (fun z => by rw [z]; exact h9) (fun z => u_same (hts _ z) x9 h9)) rfl hin hde rfl rfl rfl (by decide) hdg (fun H1 locs1 hP1 hD1 hS1 => ?_)
  exact kk H1 locs1 cells slots ls ⟨Eq.mp (congrArg (fun z => va_P D vwCl z H1) eq9) hP1, Eq.mp (congrArg (fun z => va_D A z) eq9) hD1, hS1, hc, hs⟩ hl
theorem gtN_Flight_height {cc : ByteArray} {nL : Nat} {own : String} {rm : Room} {κ : KX} (hκ : Cx cc nL own rm κ) {Φ : HQ} {pc : Nat} {lv : List (Nat × Value)} {st : List Value} {S : wPS} (hΦ : Hd κ Φ S) {a idx : Nat} {ref host : String} (hO : a ∈ sL S ∧ sK S a = 0) (hlink : (own, idx, ref, "height", "I", host) ∈ nestF) (hsm : ref = "Plotroom$Flight" ∨ Cond.sameField ref "Plotroom$Flight" "height" "I" ∈ GA) (hdg : decode cc pc = .ok (.getfield idx, 3)) (kk : Gj κ Φ (pc + 3) lv (.int (sI S 3 a) :: st)) : Gj κ Φ pc lv (.ref a :: st) := by
  obtain ⟨p, l, e, R, s, m, args, below, meth, c, Q, D, cO, e0, A, mc, ms⟩ := κ
  obtain ⟨hx, hb, hml, hown, hts, hK, hG, hR, hlk⟩ := hκ
  intro H locs cells slots ls hF hl
  obtain ⟨k0, hk0, hk1⟩ := wG_Flight cO S hO
  exact va_getN (D := D) (ci := 1) (C := RX0) (T := TX0) (N := 8) hx hb hts inlX0 hown hK (hΦ H locs cells slots hF).1 k0 hk1 rfl 3 (by decide) (va_Nw.use rfl (hG.1 _ hlink)) (fun x9 h9 => hsm.elim (fun z => by rw [z]; exact h9) (fun z => u_same (hts _ z) x9 h9)) rfl hdg (kk H locs cells slots ls hF hl)
theorem gt_Flight_courseX {cc : ByteArray} {nL : Nat} {own : String} {rm : Room} {κ : KX} (hκ : Cx cc nL own rm κ) {Φ : HQ} {pc : Nat} {lv : List (Nat × Value)} {st : List Value} {S : wPS} (hΦ : Hd κ Φ S) {a idx : Nat} {ref : String} (hO : a ∈ sL S ∧ sK S a = 0) (hlink : Cond.fieldLink own idx ref "courseX" "I" ∈ GA) (hsm : ref = "Plotroom$Flight" ∨ Cond.sameField ref "Plotroom$Flight" "courseX" "I" ∈ GA) (hdg : decode cc pc = .ok (.getfield idx, 3)) (kk : Gj κ Φ (pc + 3) lv (.int (sI S 4 a) :: st)) : Gj κ Φ pc lv (.ref a :: st) := by
  obtain ⟨p, l, e, R, s, m, args, below, meth, c, Q, D, cO, e0, A, mc, ms⟩ := κ
  obtain ⟨hx, hb, hml, hown, hts, hK, hG, hR, hlk⟩ := hκ
  intro H locs cells slots ls hF hl
  obtain ⟨k0, hk0, hk1⟩ := wG_Flight cO S hO
  exact va_get (D := D) (ci := 1) (C := RX0) (T := TX0) (N := 8) hx hb hts inlX0 hown hK (hΦ H locs cells slots hF).1 k0 hk1 rfl 4 (by decide) (hts _ hlink) (fun x9 h9 => hsm.elim (fun z => by rw [z]; exact h9) (fun z => u_same (hts _ z) x9 h9)) rfl hdg (kk H locs cells slots ls hF hl)
theorem pt_Flight_courseX {cc : ByteArray} {nL : Nat} {own : String} {rm : Room} {κ : KX} (hκ : Cx cc nL own rm κ) {pc : Nat} {lv : List (Nat × Value)} {st : List Value} {S : wPS} {k n : Nat} {a idx : Nat} {ref : String} {v : Int32} (hO : a ∈ sL S ∧ sK S a = 0) (hlink : Cond.fieldLink own idx ref "courseX" "I" ∈ GA) (hsm : ref = "Plotroom$Flight" ∨ Cond.sameField ref "Plotroom$Flight" "courseX" "I" ∈ GA)   (hdg : decode cc pc = .ok (.putfield idx, 3)) (kk : Gj κ (PV κ (putI S 4 a v) k n) (pc + 3) lv st) : Gj κ (PV κ S k n) pc lv (.int v :: .ref a :: st) := by
  obtain ⟨p, l, e, R, s, m, args, below, meth, c, Q, D, cO, e0, A, mc, ms⟩ := κ
  obtain ⟨hx, hb, hml, hown, hts, hK, hG, hR, hlk⟩ := hκ
  intro H locs cells slots ls hF hl
  obtain ⟨hP, hD, hS, hc, hs⟩ := hF
  obtain ⟨k0, hk0, hk1⟩ := wG_Flight cO S hO
  have eq9 := wU_Flight_courseX cO S hD hO hk0 v
  refine va_put (D := D) (ci := 1) (v := .int v) (ty := .int) (C := RX0) (T := TX0) (N := 8) hx hb hts inlX0 tyX0 tyX0_ok nmX0 hown hK hP hD hS k0 hk1 rfl 4 (by decide) (hts _ hlink) (fun x9 h9 => hsm.elim (fun z => by rw [z]; exact h9) (fun z => u_same (hts _ z) x9 h9)) rfl rfl rfl rfl (by decide) hdg (fun H1 locs1 hP1 hD1 hS1 => ?_)
  exact kk H1 locs1 cells slots ls ⟨Eq.mp (congrArg (fun z => va_P D vwCl z H1) eq9) hP1, Eq.mp (congrArg (fun z => va_D A z) eq9) hD1, hS1, hc, hs⟩ hl
theorem gtN_Flight_courseX {cc : ByteArray} {nL : Nat} {own : String} {rm : Room} {κ : KX} (hκ : Cx cc nL own rm κ) {Φ : HQ} {pc : Nat} {lv : List (Nat × Value)} {st : List Value} {S : wPS} (hΦ : Hd κ Φ S) {a idx : Nat} {ref host : String} (hO : a ∈ sL S ∧ sK S a = 0) (hlink : (own, idx, ref, "courseX", "I", host) ∈ nestF) (hsm : ref = "Plotroom$Flight" ∨ Cond.sameField ref "Plotroom$Flight" "courseX" "I" ∈ GA) (hdg : decode cc pc = .ok (.getfield idx, 3)) (kk : Gj κ Φ (pc + 3) lv (.int (sI S 4 a) :: st)) : Gj κ Φ pc lv (.ref a :: st) := by
  obtain ⟨p, l, e, R, s, m, args, below, meth, c, Q, D, cO, e0, A, mc, ms⟩ := κ
  obtain ⟨hx, hb, hml, hown, hts, hK, hG, hR, hlk⟩ := hκ
  intro H locs cells slots ls hF hl
  obtain ⟨k0, hk0, hk1⟩ := wG_Flight cO S hO
  exact va_getN (D := D) (ci := 1) (C := RX0) (T := TX0) (N := 8) hx hb hts inlX0 hown hK (hΦ H locs cells slots hF).1 k0 hk1 rfl 4 (by decide) (va_Nw.use rfl (hG.1 _ hlink)) (fun x9 h9 => hsm.elim (fun z => by rw [z]; exact h9) (fun z => u_same (hts _ z) x9 h9)) rfl hdg (kk H locs cells slots ls hF hl)
theorem ptN_Flight_courseX {cc : ByteArray} {nL : Nat} {own : String} {rm : Room} {κ : KX} (hκ : Cx cc nL own rm κ) {pc : Nat} {lv : List (Nat × Value)} {st : List Value} {S : wPS} {k n : Nat} {a idx : Nat} {ref host : String} {v : Int32} (hO : a ∈ sL S ∧ sK S a = 0) (hlink : (own, idx, ref, "courseX", "I", host) ∈ nestF) (hsm : ref = "Plotroom$Flight" ∨ Cond.sameField ref "Plotroom$Flight" "courseX" "I" ∈ GA)   (hdg : decode cc pc = .ok (.putfield idx, 3)) (kk : Gj κ (PV κ (putI S 4 a v) k n) (pc + 3) lv st) : Gj κ (PV κ S k n) pc lv (.int v :: .ref a :: st) := by
  obtain ⟨p, l, e, R, s, m, args, below, meth, c, Q, D, cO, e0, A, mc, ms⟩ := κ
  obtain ⟨hx, hb, hml, hown, hts, hK, hG, hR, hlk⟩ := hκ
  intro H locs cells slots ls hF hl
  obtain ⟨hP, hD, hS, hc, hs⟩ := hF
  obtain ⟨k0, hk0, hk1⟩ := wG_Flight cO S hO
  have eq9 := wU_Flight_courseX cO S hD hO hk0 v
  refine va_putN (D := D) (ci := 1) (v := .int v) (ty := .int) (C := RX0) (T := TX0) (N := 8) hx hb hts inlX0 tyX0 tyX0_ok nmX0 hown hK hP hD hS k0 hk1 rfl 4 (by decide) (va_Nw.use rfl (hG.1 _ hlink)) (fun x9 h9 => hsm.elim (fun z => by rw [z]; exact h9) (fun z => u_same (hts _ z) x9 h9)) rfl rfl rfl rfl (by decide) hdg (fun H1 locs1 hP1 hD1 hS1 => ?_)
  exact kk H1 locs1 cells slots ls ⟨Eq.mp (congrArg (fun z => va_P D vwCl z H1) eq9) hP1, Eq.mp (congrArg (fun z => va_D A z) eq9) hD1, hS1, hc, hs⟩ hl
theorem gt_Flight_courseY {cc : ByteArray} {nL : Nat} {own : String} {rm : Room} {κ : KX} (hκ : Cx cc nL own rm κ) {Φ : HQ} {pc : Nat} {lv : List (Nat × Value)} {st : List Value} {S : wPS} (hΦ : Hd κ Φ S) {a idx : Nat} {ref : String} (hO : a ∈ sL S ∧ sK S a = 0) (hlink : Cond.fieldLink own idx ref "courseY" "I" ∈ GA) (hsm : ref = "Plotroom$Flight" ∨ Cond.sameField ref "Plotroom$Flight" "courseY" "I" ∈ GA) (hdg : decode cc pc = .ok (.getfield idx, 3)) (kk : Gj κ Φ (pc + 3) lv (.int (sI S 5 a) :: st)) : Gj κ Φ pc lv (.ref a :: st) := by
  obtain ⟨p, l, e, R, s, m, args, below, meth, c, Q, D, cO, e0, A, mc, ms⟩ := κ
  obtain ⟨hx, hb, hml, hown, hts, hK, hG, hR, hlk⟩ := hκ
  intro H locs cells slots ls hF hl
  obtain ⟨k0, hk0, hk1⟩ := wG_Flight cO S hO
  exact va_get (D := D) (ci := 1) (C := RX0) (T := TX0) (N := 8) hx hb hts inlX0 hown hK (hΦ H locs cells slots hF).1 k0 hk1 rfl 5 (by decide) (hts _ hlink) (fun x9 h9 => hsm.elim (fun z => by rw [z]; exact h9) (fun z => u_same (hts _ z) x9 h9)) rfl hdg (kk H locs cells slots ls hF hl)
theorem pt_Flight_courseY {cc : ByteArray} {nL : Nat} {own : String} {rm : Room} {κ : KX} (hκ : Cx cc nL own rm κ) {pc : Nat} {lv : List (Nat × Value)} {st : List Value} {S : wPS} {k n : Nat} {a idx : Nat} {ref : String} {v : Int32} (hO : a ∈ sL S ∧ sK S a = 0) (hlink : Cond.fieldLink own idx ref "courseY" "I" ∈ GA) (hsm : ref = "Plotroom$Flight" ∨ Cond.sameField ref "Plotroom$Flight" "courseY" "I" ∈ GA)   (hdg : decode cc pc = .ok (.putfield idx, 3)) (kk : Gj κ (PV κ (putI S 5 a v) k n) (pc + 3) lv st) : Gj κ (PV κ S k n) pc lv (.int v :: .ref a :: st) := by
  obtain ⟨p, l, e, R, s, m, args, below, meth, c, Q, D, cO, e0, A, mc, ms⟩ := κ
  obtain ⟨hx, hb, hml, hown, hts, hK, hG, hR, hlk⟩ := hκ
  intro H locs cells slots ls hF hl
  obtain ⟨hP, hD, hS, hc, hs⟩ := hF
  obtain ⟨k0, hk0, hk1⟩ := wG_Flight cO S hO
  have eq9 := wU_Flight_courseY cO S hD hO hk0 v
  refine va_put (D := D) (ci := 1) (v := .int v) (ty := .int) (C := RX0) (T := TX0) (N := 8) hx hb hts inlX0 tyX0 tyX0_ok nmX0 hown hK hP hD hS k0 hk1 rfl 5 (by decide) (hts _ hlink) (fun x9 h9 => hsm.elim (fun z => by rw [z]; exact h9) (fun z => u_same (hts _ z) x9 h9)) rfl rfl rfl rfl (by decide) hdg (fun H1 locs1 hP1 hD1 hS1 => ?_)
  exact kk H1 locs1 cells slots ls ⟨Eq.mp (congrArg (fun z => va_P D vwCl z H1) eq9) hP1, Eq.mp (congrArg (fun z => va_D A z) eq9) hD1, hS1, hc, hs⟩ hl
theorem gtN_Flight_courseY {cc : ByteArray} {nL : Nat} {own : String} {rm : Room} {κ : KX} (hκ : Cx cc nL own rm κ) {Φ : HQ} {pc : Nat} {lv : List (Nat × Value)} {st : List Value} {S : wPS} (hΦ : Hd κ Φ S) {a idx : Nat} {ref host : String} (hO : a ∈ sL S ∧ sK S a = 0) (hlink : (own, idx, ref, "courseY", "I", host) ∈ nestF) (hsm : ref = "Plotroom$Flight" ∨ Cond.sameField ref "Plotroom$Flight" "courseY" "I" ∈ GA) (hdg : decode cc pc = .ok (.getfield idx, 3)) (kk : Gj κ Φ (pc + 3) lv (.int (sI S 5 a) :: st)) : Gj κ Φ pc lv (.ref a :: st) := by
  obtain ⟨p, l, e, R, s, m, args, below, meth, c, Q, D, cO, e0, A, mc, ms⟩ := κ
  obtain ⟨hx, hb, hml, hown, hts, hK, hG, hR, hlk⟩ := hκ
  intro H locs cells slots ls hF hl
  obtain ⟨k0, hk0, hk1⟩ := wG_Flight cO S hO
  exact va_getN (D := D) (ci := 1) (C := RX0) (T := TX0) (N := 8) hx hb hts inlX0 hown hK (hΦ H locs cells slots hF).1 k0 hk1 rfl 5 (by decide) (va_Nw.use rfl (hG.1 _ hlink)) (fun x9 h9 => hsm.elim (fun z => by rw [z]; exact h9) (fun z => u_same (hts _ z) x9 h9)) rfl hdg (kk H locs cells slots ls hF hl)
theorem ptN_Flight_courseY {cc : ByteArray} {nL : Nat} {own : String} {rm : Room} {κ : KX} (hκ : Cx cc nL own rm κ) {pc : Nat} {lv : List (Nat × Value)} {st : List Value} {S : wPS} {k n : Nat} {a idx : Nat} {ref host : String} {v : Int32} (hO : a ∈ sL S ∧ sK S a = 0) (hlink : (own, idx, ref, "courseY", "I", host) ∈ nestF) (hsm : ref = "Plotroom$Flight" ∨ Cond.sameField ref "Plotroom$Flight" "courseY" "I" ∈ GA)   (hdg : decode cc pc = .ok (.putfield idx, 3)) (kk : Gj κ (PV κ (putI S 5 a v) k n) (pc + 3) lv st) : Gj κ (PV κ S k n) pc lv (.int v :: .ref a :: st) := by
  obtain ⟨p, l, e, R, s, m, args, below, meth, c, Q, D, cO, e0, A, mc, ms⟩ := κ
  obtain ⟨hx, hb, hml, hown, hts, hK, hG, hR, hlk⟩ := hκ
  intro H locs cells slots ls hF hl
  obtain ⟨hP, hD, hS, hc, hs⟩ := hF
  obtain ⟨k0, hk0, hk1⟩ := wG_Flight cO S hO
  have eq9 := wU_Flight_courseY cO S hD hO hk0 v
  refine va_putN (D := D) (ci := 1) (v := .int v) (ty := .int) (C := RX0) (T := TX0) (N := 8) hx hb hts inlX0 tyX0 tyX0_ok nmX0 hown hK hP hD hS k0 hk1 rfl 5 (by decide) (va_Nw.use rfl (hG.1 _ hlink)) (fun x9 h9 => hsm.elim (fun z => by rw [z]; exact h9) (fun z => u_same (hts _ z) x9 h9)) rfl rfl rfl rfl (by decide) hdg (fun H1 locs1 hP1 hD1 hS1 => ?_)
  exact kk H1 locs1 cells slots ls ⟨Eq.mp (congrArg (fun z => va_P D vwCl z H1) eq9) hP1, Eq.mp (congrArg (fun z => va_D A z) eq9) hD1, hS1, hc, hs⟩ hl
theorem gt_Flight_count {cc : ByteArray} {nL : Nat} {own : String} {rm : Room} {κ : KX} (hκ : Cx cc nL own rm κ) {Φ : HQ} {pc : Nat} {lv : List (Nat × Value)} {st : List Value} {S : wPS} (hΦ : Hd κ Φ S) {a idx : Nat} {ref : String} (hO : a ∈ sL S ∧ sK S a = 0) (hlink : Cond.fieldLink own idx ref "count" "I" ∈ GA) (hsm : ref = "Plotroom$Flight" ∨ Cond.sameField ref "Plotroom$Flight" "count" "I" ∈ GA) (hdg : decode cc pc = .ok (.getfield idx, 3)) (kk : Gj κ Φ (pc + 3) lv (.int (sI S 6 a) :: st)) : Gj κ Φ pc lv (.ref a :: st) := by
  obtain ⟨p, l, e, R, s, m, args, below, meth, c, Q, D, cO, e0, A, mc, ms⟩ := κ
  obtain ⟨hx, hb, hml, hown, hts, hK, hG, hR, hlk⟩ := hκ
  intro H locs cells slots ls hF hl
  obtain ⟨k0, hk0, hk1⟩ := wG_Flight cO S hO
  exact va_get (D := D) (ci := 1) (C := RX0) (T := TX0) (N := 8) hx hb hts inlX0 hown hK (hΦ H locs cells slots hF).1 k0 hk1 rfl 6 (by decide) (hts _ hlink) (fun x9 h9 => hsm.elim (fun z => by rw [z]; exact h9) (fun z => u_same (hts _ z) x9 h9)) rfl hdg (kk H locs cells slots ls hF hl)
theorem pt_Flight_count {cc : ByteArray} {nL : Nat} {own : String} {rm : Room} {κ : KX} (hκ : Cx cc nL own rm κ) {pc : Nat} {lv : List (Nat × Value)} {st : List Value} {S : wPS} {k n : Nat} {a idx : Nat} {ref : String} {v : Int32} (hO : a ∈ sL S ∧ sK S a = 0) (hlink : Cond.fieldLink own idx ref "count" "I" ∈ GA) (hsm : ref = "Plotroom$Flight" ∨ Cond.sameField ref "Plotroom$Flight" "count" "I" ∈ GA)   (hdg : decode cc pc = .ok (.putfield idx, 3)) (kk : Gj κ (PV κ (putI S 6 a v) k n) (pc + 3) lv st) : Gj κ (PV κ S k n) pc lv (.int v :: .ref a :: st) := by
  obtain ⟨p, l, e, R, s, m, args, below, meth, c, Q, D, cO, e0, A, mc, ms⟩ := κ
  obtain ⟨hx, hb, hml, hown, hts, hK, hG, hR, hlk⟩ := hκ
  intro H locs cells slots ls hF hl
  obtain ⟨hP, hD, hS, hc, hs⟩ := hF
  obtain ⟨k0, hk0, hk1⟩ := wG_Flight cO S hO
  have eq9 := wU_Flight_count cO S hD hO hk0 v
  refine va_put (D := D) (ci := 1) (v := .int v) (ty := .int) (C := RX0) (T := TX0) (N := 8) hx hb hts inlX0 tyX0 tyX0_ok nmX0 hown hK hP hD hS k0 hk1 rfl 6 (by decide) (hts _ hlink) (fun x9 h9 => hsm.elim (fun z => by rw [z]; exact h9) (fun z => u_same (hts _ z) x9 h9)) rfl rfl rfl rfl (by decide) hdg (fun H1 locs1 hP1 hD1 hS1 => ?_)
  exact kk H1 locs1 cells slots ls ⟨Eq.mp (congrArg (fun z => va_P D vwCl z H1) eq9) hP1, Eq.mp (congrArg (fun z => va_D A z) eq9) hD1, hS1, hc, hs⟩ hl
theorem gtN_Flight_count {cc : ByteArray} {nL : Nat} {own : String} {rm : Room} {κ : KX} (hκ : Cx cc nL own rm κ) {Φ : HQ} {pc : Nat} {lv : List (Nat × Value)} {st : List Value} {S : wPS} (hΦ : Hd κ Φ S) {a idx : Nat} {ref host : String} (hO : a ∈ sL S ∧ sK S a = 0) (hlink : (own, idx, ref, "count", "I", host) ∈ nestF) (hsm : ref = "Plotroom$Flight" ∨ Cond.sameField ref "Plotroom$Flight" "count" "I" ∈ GA) (hdg : decode cc pc = .ok (.getfield idx, 3)) (kk : Gj κ Φ (pc + 3) lv (.int (sI S 6 a) :: st)) : Gj κ Φ pc lv (.ref a :: st) := by
  obtain ⟨p, l, e, R, s, m, args, below, meth, c, Q, D, cO, e0, A, mc, ms⟩ := κ
  obtain ⟨hx, hb, hml, hown, hts, hK, hG, hR, hlk⟩ := hκ
  intro H locs cells slots ls hF hl
  obtain ⟨k0, hk0, hk1⟩ := wG_Flight cO S hO
  exact va_getN (D := D) (ci := 1) (C := RX0) (T := TX0) (N := 8) hx hb hts inlX0 hown hK (hΦ H locs cells slots hF).1 k0 hk1 rfl 6 (by decide) (va_Nw.use rfl (hG.1 _ hlink)) (fun x9 h9 => hsm.elim (fun z => by rw [z]; exact h9) (fun z => u_same (hts _ z) x9 h9)) rfl hdg (kk H locs cells slots ls hF hl)
theorem ptN_Flight_count {cc : ByteArray} {nL : Nat} {own : String} {rm : Room} {κ : KX} (hκ : Cx cc nL own rm κ) {pc : Nat} {lv : List (Nat × Value)} {st : List Value} {S : wPS} {k n : Nat} {a idx : Nat} {ref host : String} {v : Int32} (hO : a ∈ sL S ∧ sK S a = 0) (hlink : (own, idx, ref, "count", "I", host) ∈ nestF) (hsm : ref = "Plotroom$Flight" ∨ Cond.sameField ref "Plotroom$Flight" "count" "I" ∈ GA)   (hdg : decode cc pc = .ok (.putfield idx, 3)) (kk : Gj κ (PV κ (putI S 6 a v) k n) (pc + 3) lv st) : Gj κ (PV κ S k n) pc lv (.int v :: .ref a :: st) := by
  obtain ⟨p, l, e, R, s, m, args, below, meth, c, Q, D, cO, e0, A, mc, ms⟩ := κ
  obtain ⟨hx, hb, hml, hown, hts, hK, hG, hR, hlk⟩ := hκ
  intro H locs cells slots ls hF hl
  obtain ⟨hP, hD, hS, hc, hs⟩ := hF
  obtain ⟨k0, hk0, hk1⟩ := wG_Flight cO S hO
  have eq9 := wU_Flight_count cO S hD hO hk0 v
  refine va_putN (D := D) (ci := 1) (v := .int v) (ty := .int) (C := RX0) (T := TX0) (N := 8) hx hb hts inlX0 tyX0 tyX0_ok nmX0 hown hK hP hD hS k0 hk1 rfl 6 (by decide) (va_Nw.use rfl (hG.1 _ hlink)) (fun x9 h9 => hsm.elim (fun z => by rw [z]; exact h9) (fun z => u_same (hts _ z) x9 h9)) rfl rfl rfl rfl (by decide) hdg (fun H1 locs1 hP1 hD1 hS1 => ?_)
  exact kk H1 locs1 cells slots ls ⟨Eq.mp (congrArg (fun z => va_P D vwCl z H1) eq9) hP1, Eq.mp (congrArg (fun z => va_D A z) eq9) hD1, hS1, hc, hs⟩ hl
theorem gt_Flight_isUp {cc : ByteArray} {nL : Nat} {own : String} {rm : Room} {κ : KX} (hκ : Cx cc nL own rm κ) {Φ : HQ} {pc : Nat} {lv : List (Nat × Value)} {st : List Value} {S : wPS} (hΦ : Hd κ Φ S) {a idx : Nat} {ref : String} (hO : a ∈ sL S ∧ sK S a = 0) (hlink : Cond.fieldLink own idx ref "isUp" "Z" ∈ GA) (hsm : ref = "Plotroom$Flight" ∨ Cond.sameField ref "Plotroom$Flight" "isUp" "Z" ∈ GA) (hdg : decode cc pc = .ok (.getfield idx, 3)) (kk : Gj κ Φ (pc + 3) lv (.int (sI S 7 a) :: st)) : Gj κ Φ pc lv (.ref a :: st) := by
  obtain ⟨p, l, e, R, s, m, args, below, meth, c, Q, D, cO, e0, A, mc, ms⟩ := κ
  obtain ⟨hx, hb, hml, hown, hts, hK, hG, hR, hlk⟩ := hκ
  intro H locs cells slots ls hF hl
  obtain ⟨k0, hk0, hk1⟩ := wG_Flight cO S hO
  exact va_get (D := D) (ci := 1) (C := RX0) (T := TX0) (N := 8) hx hb hts inlX0 hown hK (hΦ H locs cells slots hF).1 k0 hk1 rfl 7 (by decide) (hts _ hlink) (fun x9 h9 => hsm.elim (fun z => by rw [z]; exact h9) (fun z => u_same (hts _ z) x9 h9)) rfl hdg (kk H locs cells slots ls hF hl)
theorem pt_Flight_isUp {cc : ByteArray} {nL : Nat} {own : String} {rm : Room} {κ : KX} (hκ : Cx cc nL own rm κ) {pc : Nat} {lv : List (Nat × Value)} {st : List Value} {S : wPS} {k n : Nat} {a idx : Nat} {ref : String} {v : Int32} (hO : a ∈ sL S ∧ sK S a = 0) (hlink : Cond.fieldLink own idx ref "isUp" "Z" ∈ GA) (hsm : ref = "Plotroom$Flight" ∨ Cond.sameField ref "Plotroom$Flight" "isUp" "Z" ∈ GA) (hv : v = 0 ∨ v = 1)  (hdg : decode cc pc = .ok (.putfield idx, 3)) (kk : Gj κ (PV κ (putI S 7 a v) k n) (pc + 3) lv st) : Gj κ (PV κ S k n) pc lv (.int v :: .ref a :: st) := by
  obtain ⟨p, l, e, R, s, m, args, below, meth, c, Q, D, cO, e0, A, mc, ms⟩ := κ
  obtain ⟨hx, hb, hml, hown, hts, hK, hG, hR, hlk⟩ := hκ
  intro H locs cells slots ls hF hl
  obtain ⟨hP, hD, hS, hc, hs⟩ := hF
  obtain ⟨k0, hk0, hk1⟩ := wG_Flight cO S hO
  have eq9 := wU_Flight_isUp cO S hD hO hk0 v
  refine va_put (D := D) (ci := 1) (v := .int v) (ty := .boolean) (C := RX0) (T := TX0) (N := 8) hx hb hts inlX0 tyX0 tyX0_ok nmX0 hown hK hP hD hS k0 hk1 rfl 7 (by decide) (hts _ hlink) (fun x9 h9 => hsm.elim (fun z => by rw [z]; exact h9) (fun z => u_same (hts _ z) x9 h9)) rfl rfl (by rcases hv with rfl | rfl <;> rfl) (by rcases hv with rfl | rfl <;> rfl) (by decide) hdg (fun H1 locs1 hP1 hD1 hS1 => ?_)
  exact kk H1 locs1 cells slots ls ⟨Eq.mp (congrArg (fun z => va_P D vwCl z H1) eq9) hP1, Eq.mp (congrArg (fun z => va_D A z) eq9) hD1, hS1, hc, hs⟩ hl
theorem gtN_Flight_isUp {cc : ByteArray} {nL : Nat} {own : String} {rm : Room} {κ : KX} (hκ : Cx cc nL own rm κ) {Φ : HQ} {pc : Nat} {lv : List (Nat × Value)} {st : List Value} {S : wPS} (hΦ : Hd κ Φ S) {a idx : Nat} {ref host : String} (hO : a ∈ sL S ∧ sK S a = 0) (hlink : (own, idx, ref, "isUp", "Z", host) ∈ nestF) (hsm : ref = "Plotroom$Flight" ∨ Cond.sameField ref "Plotroom$Flight" "isUp" "Z" ∈ GA) (hdg : decode cc pc = .ok (.getfield idx, 3)) (kk : Gj κ Φ (pc + 3) lv (.int (sI S 7 a) :: st)) : Gj κ Φ pc lv (.ref a :: st) := by
  obtain ⟨p, l, e, R, s, m, args, below, meth, c, Q, D, cO, e0, A, mc, ms⟩ := κ
  obtain ⟨hx, hb, hml, hown, hts, hK, hG, hR, hlk⟩ := hκ
  intro H locs cells slots ls hF hl
  obtain ⟨k0, hk0, hk1⟩ := wG_Flight cO S hO
  exact va_getN (D := D) (ci := 1) (C := RX0) (T := TX0) (N := 8) hx hb hts inlX0 hown hK (hΦ H locs cells slots hF).1 k0 hk1 rfl 7 (by decide) (va_Nw.use rfl (hG.1 _ hlink)) (fun x9 h9 => hsm.elim (fun z => by rw [z]; exact h9) (fun z => u_same (hts _ z) x9 h9)) rfl hdg (kk H locs cells slots ls hF hl)
theorem ptN_Flight_isUp {cc : ByteArray} {nL : Nat} {own : String} {rm : Room} {κ : KX} (hκ : Cx cc nL own rm κ) {pc : Nat} {lv : List (Nat × Value)} {st : List Value} {S : wPS} {k n : Nat} {a idx : Nat} {ref host : String} {v : Int32} (hO : a ∈ sL S ∧ sK S a = 0) (hlink : (own, idx, ref, "isUp", "Z", host) ∈ nestF) (hsm : ref = "Plotroom$Flight" ∨ Cond.sameField ref "Plotroom$Flight" "isUp" "Z" ∈ GA) (hv : v = 0 ∨ v = 1)  (hdg : decode cc pc = .ok (.putfield idx, 3)) (kk : Gj κ (PV κ (putI S 7 a v) k n) (pc + 3) lv st) : Gj κ (PV κ S k n) pc lv (.int v :: .ref a :: st) := by
  obtain ⟨p, l, e, R, s, m, args, below, meth, c, Q, D, cO, e0, A, mc, ms⟩ := κ
  obtain ⟨hx, hb, hml, hown, hts, hK, hG, hR, hlk⟩ := hκ
  intro H locs cells slots ls hF hl
  obtain ⟨hP, hD, hS, hc, hs⟩ := hF
  obtain ⟨k0, hk0, hk1⟩ := wG_Flight cO S hO
  have eq9 := wU_Flight_isUp cO S hD hO hk0 v
  refine va_putN (D := D) (ci := 1) (v := .int v) (ty := .boolean) (C := RX0) (T := TX0) (N := 8) hx hb hts inlX0 tyX0 tyX0_ok nmX0 hown hK hP hD hS k0 hk1 rfl 7 (by decide) (va_Nw.use rfl (hG.1 _ hlink)) (fun x9 h9 => hsm.elim (fun z => by rw [z]; exact h9) (fun z => u_same (hts _ z) x9 h9)) rfl rfl (by rcases hv with rfl | rfl <;> rfl) (by rcases hv with rfl | rfl <;> rfl) (by decide) hdg (fun H1 locs1 hP1 hD1 hS1 => ?_)
  exact kk H1 locs1 cells slots ls ⟨Eq.mp (congrArg (fun z => va_P D vwCl z H1) eq9) hP1, Eq.mp (congrArg (fun z => va_D A z) eq9) hD1, hS1, hc, hs⟩ hl
theorem gt_Gun_x {cc : ByteArray} {nL : Nat} {own : String} {rm : Room} {κ : KX} (hκ : Cx cc nL own rm κ) {Φ : HQ} {pc : Nat} {lv : List (Nat × Value)} {st : List Value} {S : wPS} (hΦ : Hd κ Φ S) {a idx : Nat} {ref : String} (hO : a ∈ sL S ∧ sK S a = 1) (hlink : Cond.fieldLink own idx ref "x" "I" ∈ GA) (hsm : ref = "Plotroom$Place" ∨ Cond.sameField ref "Plotroom$Place" "x" "I" ∈ GA) (hdg : decode cc pc = .ok (.getfield idx, 3)) (kk : Gj κ Φ (pc + 3) lv (.int (sI S 8 a) :: st)) : Gj κ Φ pc lv (.ref a :: st) := by
  obtain ⟨p, l, e, R, s, m, args, below, meth, c, Q, D, cO, e0, A, mc, ms⟩ := κ
  obtain ⟨hx, hb, hml, hown, hts, hK, hG, hR, hlk⟩ := hκ
  intro H locs cells slots ls hF hl
  obtain ⟨k0, hk0, hk1⟩ := wG_Gun cO S hO
  exact va_get (D := D) (ci := 2) (C := RX1) (T := TX1) (N := 4) hx hb hts inlX1 hown hK (hΦ H locs cells slots hF).1 k0 hk1 rfl 0 (by decide) (hts _ hlink) (fun x9 h9 => hsm.elim (fun z => by rw [z]; exact h9) (fun z => u_same (hts _ z) x9 h9)) rfl hdg (kk H locs cells slots ls hF hl)
theorem pt_Gun_x {cc : ByteArray} {nL : Nat} {own : String} {rm : Room} {κ : KX} (hκ : Cx cc nL own rm κ) {pc : Nat} {lv : List (Nat × Value)} {st : List Value} {S : wPS} {k n : Nat} {a idx : Nat} {ref : String} {v : Int32} (hO : a ∈ sL S ∧ sK S a = 1) (hlink : Cond.fieldLink own idx ref "x" "I" ∈ GA) (hsm : ref = "Plotroom$Place" ∨ Cond.sameField ref "Plotroom$Place" "x" "I" ∈ GA)   (hdg : decode cc pc = .ok (.putfield idx, 3)) (kk : Gj κ (PV κ (putI S 8 a v) k n) (pc + 3) lv st) : Gj κ (PV κ S k n) pc lv (.int v :: .ref a :: st) := by
  obtain ⟨p, l, e, R, s, m, args, below, meth, c, Q, D, cO, e0, A, mc, ms⟩ := κ
  obtain ⟨hx, hb, hml, hown, hts, hK, hG, hR, hlk⟩ := hκ
  intro H locs cells slots ls hF hl
  obtain ⟨hP, hD, hS, hc, hs⟩ := hF
  obtain ⟨k0, hk0, hk1⟩ := wG_Gun cO S hO
  have eq9 := wU_Gun_x cO S hD hO hk0 v
  refine va_put (D := D) (ci := 2) (v := .int v) (ty := .int) (C := RX1) (T := TX1) (N := 4) hx hb hts inlX1 tyX1 tyX1_ok nmX1 hown hK hP hD hS k0 hk1 rfl 0 (by decide) (hts _ hlink) (fun x9 h9 => hsm.elim (fun z => by rw [z]; exact h9) (fun z => u_same (hts _ z) x9 h9)) rfl rfl rfl rfl (by decide) hdg (fun H1 locs1 hP1 hD1 hS1 => ?_)
  exact kk H1 locs1 cells slots ls ⟨Eq.mp (congrArg (fun z => va_P D vwCl z H1) eq9) hP1, Eq.mp (congrArg (fun z => va_D A z) eq9) hD1, hS1, hc, hs⟩ hl
theorem gtN_Gun_x {cc : ByteArray} {nL : Nat} {own : String} {rm : Room} {κ : KX} (hκ : Cx cc nL own rm κ) {Φ : HQ} {pc : Nat} {lv : List (Nat × Value)} {st : List Value} {S : wPS} (hΦ : Hd κ Φ S) {a idx : Nat} {ref host : String} (hO : a ∈ sL S ∧ sK S a = 1) (hlink : (own, idx, ref, "x", "I", host) ∈ nestF) (hsm : ref = "Plotroom$Place" ∨ Cond.sameField ref "Plotroom$Place" "x" "I" ∈ GA) (hdg : decode cc pc = .ok (.getfield idx, 3)) (kk : Gj κ Φ (pc + 3) lv (.int (sI S 8 a) :: st)) : Gj κ Φ pc lv (.ref a :: st) := by
  obtain ⟨p, l, e, R, s, m, args, below, meth, c, Q, D, cO, e0, A, mc, ms⟩ := κ
  obtain ⟨hx, hb, hml, hown, hts, hK, hG, hR, hlk⟩ := hκ
  intro H locs cells slots ls hF hl
  obtain ⟨k0, hk0, hk1⟩ := wG_Gun cO S hO
  exact va_getN (D := D) (ci := 2) (C := RX1) (T := TX1) (N := 4) hx hb hts inlX1 hown hK (hΦ H locs cells slots hF).1 k0 hk1 rfl 0 (by decide) (va_Nw.use rfl (hG.1 _ hlink)) (fun x9 h9 => hsm.elim (fun z => by rw [z]; exact h9) (fun z => u_same (hts _ z) x9 h9)) rfl hdg (kk H locs cells slots ls hF hl)
theorem ptN_Gun_x {cc : ByteArray} {nL : Nat} {own : String} {rm : Room} {κ : KX} (hκ : Cx cc nL own rm κ) {pc : Nat} {lv : List (Nat × Value)} {st : List Value} {S : wPS} {k n : Nat} {a idx : Nat} {ref host : String} {v : Int32} (hO : a ∈ sL S ∧ sK S a = 1) (hlink : (own, idx, ref, "x", "I", host) ∈ nestF) (hsm : ref = "Plotroom$Place" ∨ Cond.sameField ref "Plotroom$Place" "x" "I" ∈ GA)   (hdg : decode cc pc = .ok (.putfield idx, 3)) (kk : Gj κ (PV κ (putI S 8 a v) k n) (pc + 3) lv st) : Gj κ (PV κ S k n) pc lv (.int v :: .ref a :: st) := by
  obtain ⟨p, l, e, R, s, m, args, below, meth, c, Q, D, cO, e0, A, mc, ms⟩ := κ
  obtain ⟨hx, hb, hml, hown, hts, hK, hG, hR, hlk⟩ := hκ
  intro H locs cells slots ls hF hl
  obtain ⟨hP, hD, hS, hc, hs⟩ := hF
  obtain ⟨k0, hk0, hk1⟩ := wG_Gun cO S hO
  have eq9 := wU_Gun_x cO S hD hO hk0 v
  refine va_putN (D := D) (ci := 2) (v := .int v) (ty := .int) (C := RX1) (T := TX1) (N := 4) hx hb hts inlX1 tyX1 tyX1_ok nmX1 hown hK hP hD hS k0 hk1 rfl 0 (by decide) (va_Nw.use rfl (hG.1 _ hlink)) (fun x9 h9 => hsm.elim (fun z => by rw [z]; exact h9) (fun z => u_same (hts _ z) x9 h9)) rfl rfl rfl rfl (by decide) hdg (fun H1 locs1 hP1 hD1 hS1 => ?_)
  exact kk H1 locs1 cells slots ls ⟨Eq.mp (congrArg (fun z => va_P D vwCl z H1) eq9) hP1, Eq.mp (congrArg (fun z => va_D A z) eq9) hD1, hS1, hc, hs⟩ hl
theorem gt_Gun_y {cc : ByteArray} {nL : Nat} {own : String} {rm : Room} {κ : KX} (hκ : Cx cc nL own rm κ) {Φ : HQ} {pc : Nat} {lv : List (Nat × Value)} {st : List Value} {S : wPS} (hΦ : Hd κ Φ S) {a idx : Nat} {ref : String} (hO : a ∈ sL S ∧ sK S a = 1) (hlink : Cond.fieldLink own idx ref "y" "I" ∈ GA) (hsm : ref = "Plotroom$Place" ∨ Cond.sameField ref "Plotroom$Place" "y" "I" ∈ GA) (hdg : decode cc pc = .ok (.getfield idx, 3)) (kk : Gj κ Φ (pc + 3) lv (.int (sI S 9 a) :: st)) : Gj κ Φ pc lv (.ref a :: st) := by
  obtain ⟨p, l, e, R, s, m, args, below, meth, c, Q, D, cO, e0, A, mc, ms⟩ := κ
  obtain ⟨hx, hb, hml, hown, hts, hK, hG, hR, hlk⟩ := hκ
  intro H locs cells slots ls hF hl
  obtain ⟨k0, hk0, hk1⟩ := wG_Gun cO S hO
  exact va_get (D := D) (ci := 2) (C := RX1) (T := TX1) (N := 4) hx hb hts inlX1 hown hK (hΦ H locs cells slots hF).1 k0 hk1 rfl 1 (by decide) (hts _ hlink) (fun x9 h9 => hsm.elim (fun z => by rw [z]; exact h9) (fun z => u_same (hts _ z) x9 h9)) rfl hdg (kk H locs cells slots ls hF hl)
theorem pt_Gun_y {cc : ByteArray} {nL : Nat} {own : String} {rm : Room} {κ : KX} (hκ : Cx cc nL own rm κ) {pc : Nat} {lv : List (Nat × Value)} {st : List Value} {S : wPS} {k n : Nat} {a idx : Nat} {ref : String} {v : Int32} (hO : a ∈ sL S ∧ sK S a = 1) (hlink : Cond.fieldLink own idx ref "y" "I" ∈ GA) (hsm : ref = "Plotroom$Place" ∨ Cond.sameField ref "Plotroom$Place" "y" "I" ∈ GA)   (hdg : decode cc pc = .ok (.putfield idx, 3)) (kk : Gj κ (PV κ (putI S 9 a v) k n) (pc + 3) lv st) : Gj κ (PV κ S k n) pc lv (.int v :: .ref a :: st) := by
  obtain ⟨p, l, e, R, s, m, args, below, meth, c, Q, D, cO, e0, A, mc, ms⟩ := κ
  obtain ⟨hx, hb, hml, hown, hts, hK, hG, hR, hlk⟩ := hκ
  intro H locs cells slots ls hF hl
  obtain ⟨hP, hD, hS, hc, hs⟩ := hF
  obtain ⟨k0, hk0, hk1⟩ := wG_Gun cO S hO
  have eq9 := wU_Gun_y cO S hD hO hk0 v
  refine va_put (D := D) (ci := 2) (v := .int v) (ty := .int) (C := RX1) (T := TX1) (N := 4) hx hb hts inlX1 tyX1 tyX1_ok nmX1 hown hK hP hD hS k0 hk1 rfl 1 (by decide) (hts _ hlink) (fun x9 h9 => hsm.elim (fun z => by rw [z]; exact h9) (fun z => u_same (hts _ z) x9 h9)) rfl rfl rfl rfl (by decide) hdg (fun H1 locs1 hP1 hD1 hS1 => ?_)
  exact kk H1 locs1 cells slots ls ⟨Eq.mp (congrArg (fun z => va_P D vwCl z H1) eq9) hP1, Eq.mp (congrArg (fun z => va_D A z) eq9) hD1, hS1, hc, hs⟩ hl
theorem gtN_Gun_y {cc : ByteArray} {nL : Nat} {own : String} {rm : Room} {κ : KX} (hκ : Cx cc nL own rm κ) {Φ : HQ} {pc : Nat} {lv : List (Nat × Value)} {st : List Value} {S : wPS} (hΦ : Hd κ Φ S) {a idx : Nat} {ref host : String} (hO : a ∈ sL S ∧ sK S a = 1) (hlink : (own, idx, ref, "y", "I", host) ∈ nestF) (hsm : ref = "Plotroom$Place" ∨ Cond.sameField ref "Plotroom$Place" "y" "I" ∈ GA) (hdg : decode cc pc = .ok (.getfield idx, 3)) (kk : Gj κ Φ (pc + 3) lv (.int (sI S 9 a) :: st)) : Gj κ Φ pc lv (.ref a :: st) := by
  obtain ⟨p, l, e, R, s, m, args, below, meth, c, Q, D, cO, e0, A, mc, ms⟩ := κ
  obtain ⟨hx, hb, hml, hown, hts, hK, hG, hR, hlk⟩ := hκ
  intro H locs cells slots ls hF hl
  obtain ⟨k0, hk0, hk1⟩ := wG_Gun cO S hO
  exact va_getN (D := D) (ci := 2) (C := RX1) (T := TX1) (N := 4) hx hb hts inlX1 hown hK (hΦ H locs cells slots hF).1 k0 hk1 rfl 1 (by decide) (va_Nw.use rfl (hG.1 _ hlink)) (fun x9 h9 => hsm.elim (fun z => by rw [z]; exact h9) (fun z => u_same (hts _ z) x9 h9)) rfl hdg (kk H locs cells slots ls hF hl)
theorem ptN_Gun_y {cc : ByteArray} {nL : Nat} {own : String} {rm : Room} {κ : KX} (hκ : Cx cc nL own rm κ) {pc : Nat} {lv : List (Nat × Value)} {st : List Value} {S : wPS} {k n : Nat} {a idx : Nat} {ref host : String} {v : Int32} (hO : a ∈ sL S ∧ sK S a = 1) (hlink : (own, idx, ref, "y", "I", host) ∈ nestF) (hsm : ref = "Plotroom$Place" ∨ Cond.sameField ref "Plotroom$Place" "y" "I" ∈ GA)   (hdg : decode cc pc = .ok (.putfield idx, 3)) (kk : Gj κ (PV κ (putI S 9 a v) k n) (pc + 3) lv st) : Gj κ (PV κ S k n) pc lv (.int v :: .ref a :: st) := by
  obtain ⟨p, l, e, R, s, m, args, below, meth, c, Q, D, cO, e0, A, mc, ms⟩ := κ
  obtain ⟨hx, hb, hml, hown, hts, hK, hG, hR, hlk⟩ := hκ
  intro H locs cells slots ls hF hl
  obtain ⟨hP, hD, hS, hc, hs⟩ := hF
  obtain ⟨k0, hk0, hk1⟩ := wG_Gun cO S hO
  have eq9 := wU_Gun_y cO S hD hO hk0 v
  refine va_putN (D := D) (ci := 2) (v := .int v) (ty := .int) (C := RX1) (T := TX1) (N := 4) hx hb hts inlX1 tyX1 tyX1_ok nmX1 hown hK hP hD hS k0 hk1 rfl 1 (by decide) (va_Nw.use rfl (hG.1 _ hlink)) (fun x9 h9 => hsm.elim (fun z => by rw [z]; exact h9) (fun z => u_same (hts _ z) x9 h9)) rfl rfl rfl rfl (by decide) hdg (fun H1 locs1 hP1 hD1 hS1 => ?_)
  exact kk H1 locs1 cells slots ls ⟨Eq.mp (congrArg (fun z => va_P D vwCl z H1) eq9) hP1, Eq.mp (congrArg (fun z => va_D A z) eq9) hD1, hS1, hc, hs⟩ hl
theorem gt_Gun_radius {cc : ByteArray} {nL : Nat} {own : String} {rm : Room} {κ : KX} (hκ : Cx cc nL own rm κ) {Φ : HQ} {pc : Nat} {lv : List (Nat × Value)} {st : List Value} {S : wPS} (hΦ : Hd κ Φ S) {a idx : Nat} {ref : String} (hO : a ∈ sL S ∧ sK S a = 1) (hlink : Cond.fieldLink own idx ref "radius" "I" ∈ GA) (hsm : ref = "Plotroom$Gun" ∨ Cond.sameField ref "Plotroom$Gun" "radius" "I" ∈ GA) (hdg : decode cc pc = .ok (.getfield idx, 3)) (kk : Gj κ Φ (pc + 3) lv (.int (sI S 10 a) :: st)) : Gj κ Φ pc lv (.ref a :: st) := by
  obtain ⟨p, l, e, R, s, m, args, below, meth, c, Q, D, cO, e0, A, mc, ms⟩ := κ
  obtain ⟨hx, hb, hml, hown, hts, hK, hG, hR, hlk⟩ := hκ
  intro H locs cells slots ls hF hl
  obtain ⟨k0, hk0, hk1⟩ := wG_Gun cO S hO
  exact va_get (D := D) (ci := 2) (C := RX1) (T := TX1) (N := 4) hx hb hts inlX1 hown hK (hΦ H locs cells slots hF).1 k0 hk1 rfl 2 (by decide) (hts _ hlink) (fun x9 h9 => hsm.elim (fun z => by rw [z]; exact h9) (fun z => u_same (hts _ z) x9 h9)) rfl hdg (kk H locs cells slots ls hF hl)
theorem pt_Gun_radius {cc : ByteArray} {nL : Nat} {own : String} {rm : Room} {κ : KX} (hκ : Cx cc nL own rm κ) {pc : Nat} {lv : List (Nat × Value)} {st : List Value} {S : wPS} {k n : Nat} {a idx : Nat} {ref : String} {v : Int32} (hO : a ∈ sL S ∧ sK S a = 1) (hlink : Cond.fieldLink own idx ref "radius" "I" ∈ GA) (hsm : ref = "Plotroom$Gun" ∨ Cond.sameField ref "Plotroom$Gun" "radius" "I" ∈ GA)  (hin : Nm "<init>" κ) (hde : "Plotroom$Gun" = own) (hdg : decode cc pc = .ok (.putfield idx, 3)) (kk : Gj κ (PV κ (putI S 10 a v) k n) (pc + 3) lv st) : Gj κ (PV κ S k n) pc lv (.int v :: .ref a :: st) := by
  obtain ⟨p, l, e, R, s, m, args, below, meth, c, Q, D, cO, e0, A, mc, ms⟩ := κ
  obtain ⟨hx, hb, hml, hown, hts, hK, hG, hR, hlk⟩ := hκ
  intro H locs cells slots ls hF hl
  obtain ⟨hP, hD, hS, hc, hs⟩ := hF
  obtain ⟨k0, hk0, hk1⟩ := wG_Gun cO S hO
  have eq9 := wU_Gun_radius cO S hD hO hk0 v
  refine va_putF (D := D) (ci := 2) (v := .int v) (ty := .int) (C := RX1) (T := TX1) (N := 4) hx hb hts inlX1 tyX1 tyX1_ok nmX1 hown hK hP hD hS k0 hk1 rfl 2 (by decide) (hts _ hlink) (fun x9 h9 => hsm.elim (fun z => by rw [z]; exact h9) (fun z => u_same (hts _ z) x9 h9)) rfl hin hde rfl rfl rfl (by decide) hdg (fun H1 locs1 hP1 hD1 hS1 => ?_)
  exact kk H1 locs1 cells slots ls ⟨Eq.mp (congrArg (fun z => va_P D vwCl z H1) eq9) hP1, Eq.mp (congrArg (fun z => va_D A z) eq9) hD1, hS1, hc, hs⟩ hl
theorem gtN_Gun_radius {cc : ByteArray} {nL : Nat} {own : String} {rm : Room} {κ : KX} (hκ : Cx cc nL own rm κ) {Φ : HQ} {pc : Nat} {lv : List (Nat × Value)} {st : List Value} {S : wPS} (hΦ : Hd κ Φ S) {a idx : Nat} {ref host : String} (hO : a ∈ sL S ∧ sK S a = 1) (hlink : (own, idx, ref, "radius", "I", host) ∈ nestF) (hsm : ref = "Plotroom$Gun" ∨ Cond.sameField ref "Plotroom$Gun" "radius" "I" ∈ GA) (hdg : decode cc pc = .ok (.getfield idx, 3)) (kk : Gj κ Φ (pc + 3) lv (.int (sI S 10 a) :: st)) : Gj κ Φ pc lv (.ref a :: st) := by
  obtain ⟨p, l, e, R, s, m, args, below, meth, c, Q, D, cO, e0, A, mc, ms⟩ := κ
  obtain ⟨hx, hb, hml, hown, hts, hK, hG, hR, hlk⟩ := hκ
  intro H locs cells slots ls hF hl
  obtain ⟨k0, hk0, hk1⟩ := wG_Gun cO S hO
  exact va_getN (D := D) (ci := 2) (C := RX1) (T := TX1) (N := 4) hx hb hts inlX1 hown hK (hΦ H locs cells slots hF).1 k0 hk1 rfl 2 (by decide) (va_Nw.use rfl (hG.1 _ hlink)) (fun x9 h9 => hsm.elim (fun z => by rw [z]; exact h9) (fun z => u_same (hts _ z) x9 h9)) rfl hdg (kk H locs cells slots ls hF hl)
theorem gt_Gun_isLent {cc : ByteArray} {nL : Nat} {own : String} {rm : Room} {κ : KX} (hκ : Cx cc nL own rm κ) {Φ : HQ} {pc : Nat} {lv : List (Nat × Value)} {st : List Value} {S : wPS} (hΦ : Hd κ Φ S) {a idx : Nat} {ref : String} (hO : a ∈ sL S ∧ sK S a = 1) (hlink : Cond.fieldLink own idx ref "isLent" "Z" ∈ GA) (hsm : ref = "Plotroom$Gun" ∨ Cond.sameField ref "Plotroom$Gun" "isLent" "Z" ∈ GA) (hdg : decode cc pc = .ok (.getfield idx, 3)) (kk : Gj κ Φ (pc + 3) lv (.int (sI S 11 a) :: st)) : Gj κ Φ pc lv (.ref a :: st) := by
  obtain ⟨p, l, e, R, s, m, args, below, meth, c, Q, D, cO, e0, A, mc, ms⟩ := κ
  obtain ⟨hx, hb, hml, hown, hts, hK, hG, hR, hlk⟩ := hκ
  intro H locs cells slots ls hF hl
  obtain ⟨k0, hk0, hk1⟩ := wG_Gun cO S hO
  exact va_get (D := D) (ci := 2) (C := RX1) (T := TX1) (N := 4) hx hb hts inlX1 hown hK (hΦ H locs cells slots hF).1 k0 hk1 rfl 3 (by decide) (hts _ hlink) (fun x9 h9 => hsm.elim (fun z => by rw [z]; exact h9) (fun z => u_same (hts _ z) x9 h9)) rfl hdg (kk H locs cells slots ls hF hl)
theorem pt_Gun_isLent {cc : ByteArray} {nL : Nat} {own : String} {rm : Room} {κ : KX} (hκ : Cx cc nL own rm κ) {pc : Nat} {lv : List (Nat × Value)} {st : List Value} {S : wPS} {k n : Nat} {a idx : Nat} {ref : String} {v : Int32} (hO : a ∈ sL S ∧ sK S a = 1) (hlink : Cond.fieldLink own idx ref "isLent" "Z" ∈ GA) (hsm : ref = "Plotroom$Gun" ∨ Cond.sameField ref "Plotroom$Gun" "isLent" "Z" ∈ GA) (hv : v = 0 ∨ v = 1)  (hdg : decode cc pc = .ok (.putfield idx, 3)) (kk : Gj κ (PV κ (putI S 11 a v) k n) (pc + 3) lv st) : Gj κ (PV κ S k n) pc lv (.int v :: .ref a :: st) := by
  obtain ⟨p, l, e, R, s, m, args, below, meth, c, Q, D, cO, e0, A, mc, ms⟩ := κ
  obtain ⟨hx, hb, hml, hown, hts, hK, hG, hR, hlk⟩ := hκ
  intro H locs cells slots ls hF hl
  obtain ⟨hP, hD, hS, hc, hs⟩ := hF
  obtain ⟨k0, hk0, hk1⟩ := wG_Gun cO S hO
  have eq9 := wU_Gun_isLent cO S hD hO hk0 v
  refine va_put (D := D) (ci := 2) (v := .int v) (ty := .boolean) (C := RX1) (T := TX1) (N := 4) hx hb hts inlX1 tyX1 tyX1_ok nmX1 hown hK hP hD hS k0 hk1 rfl 3 (by decide) (hts _ hlink) (fun x9 h9 => hsm.elim (fun z => by rw [z]; exact h9) (fun z => u_same (hts _ z) x9 h9)) rfl rfl (by rcases hv with rfl | rfl <;> rfl) (by rcases hv with rfl | rfl <;> rfl) (by decide) hdg (fun H1 locs1 hP1 hD1 hS1 => ?_)
  exact kk H1 locs1 cells slots ls ⟨Eq.mp (congrArg (fun z => va_P D vwCl z H1) eq9) hP1, Eq.mp (congrArg (fun z => va_D A z) eq9) hD1, hS1, hc, hs⟩ hl
theorem gtN_Gun_isLent {cc : ByteArray} {nL : Nat} {own : String} {rm : Room} {κ : KX} (hκ : Cx cc nL own rm κ) {Φ : HQ} {pc : Nat} {lv : List (Nat × Value)} {st : List Value} {S : wPS} (hΦ : Hd κ Φ S) {a idx : Nat} {ref host : String} (hO : a ∈ sL S ∧ sK S a = 1) (hlink : (own, idx, ref, "isLent", "Z", host) ∈ nestF) (hsm : ref = "Plotroom$Gun" ∨ Cond.sameField ref "Plotroom$Gun" "isLent" "Z" ∈ GA) (hdg : decode cc pc = .ok (.getfield idx, 3)) (kk : Gj κ Φ (pc + 3) lv (.int (sI S 11 a) :: st)) : Gj κ Φ pc lv (.ref a :: st) := by
  obtain ⟨p, l, e, R, s, m, args, below, meth, c, Q, D, cO, e0, A, mc, ms⟩ := κ
  obtain ⟨hx, hb, hml, hown, hts, hK, hG, hR, hlk⟩ := hκ
  intro H locs cells slots ls hF hl
  obtain ⟨k0, hk0, hk1⟩ := wG_Gun cO S hO
  exact va_getN (D := D) (ci := 2) (C := RX1) (T := TX1) (N := 4) hx hb hts inlX1 hown hK (hΦ H locs cells slots hF).1 k0 hk1 rfl 3 (by decide) (va_Nw.use rfl (hG.1 _ hlink)) (fun x9 h9 => hsm.elim (fun z => by rw [z]; exact h9) (fun z => u_same (hts _ z) x9 h9)) rfl hdg (kk H locs cells slots ls hF hl)
theorem ptN_Gun_isLent {cc : ByteArray} {nL : Nat} {own : String} {rm : Room} {κ : KX} (hκ : Cx cc nL own rm κ) {pc : Nat} {lv : List (Nat × Value)} {st : List Value} {S : wPS} {k n : Nat} {a idx : Nat} {ref host : String} {v : Int32} (hO : a ∈ sL S ∧ sK S a = 1) (hlink : (own, idx, ref, "isLent", "Z", host) ∈ nestF) (hsm : ref = "Plotroom$Gun" ∨ Cond.sameField ref "Plotroom$Gun" "isLent" "Z" ∈ GA) (hv : v = 0 ∨ v = 1)  (hdg : decode cc pc = .ok (.putfield idx, 3)) (kk : Gj κ (PV κ (putI S 11 a v) k n) (pc + 3) lv st) : Gj κ (PV κ S k n) pc lv (.int v :: .ref a :: st) := by
  obtain ⟨p, l, e, R, s, m, args, below, meth, c, Q, D, cO, e0, A, mc, ms⟩ := κ
  obtain ⟨hx, hb, hml, hown, hts, hK, hG, hR, hlk⟩ := hκ
  intro H locs cells slots ls hF hl
  obtain ⟨hP, hD, hS, hc, hs⟩ := hF
  obtain ⟨k0, hk0, hk1⟩ := wG_Gun cO S hO
  have eq9 := wU_Gun_isLent cO S hD hO hk0 v
  refine va_putN (D := D) (ci := 2) (v := .int v) (ty := .boolean) (C := RX1) (T := TX1) (N := 4) hx hb hts inlX1 tyX1 tyX1_ok nmX1 hown hK hP hD hS k0 hk1 rfl 3 (by decide) (va_Nw.use rfl (hG.1 _ hlink)) (fun x9 h9 => hsm.elim (fun z => by rw [z]; exact h9) (fun z => u_same (hts _ z) x9 h9)) rfl rfl (by rcases hv with rfl | rfl <;> rfl) (by rcases hv with rfl | rfl <;> rfl) (by decide) hdg (fun H1 locs1 hP1 hD1 hS1 => ?_)
  exact kk H1 locs1 cells slots ls ⟨Eq.mp (congrArg (fun z => va_P D vwCl z H1) eq9) hP1, Eq.mp (congrArg (fun z => va_D A z) eq9) hD1, hS1, hc, hs⟩ hl
theorem gt_Lots_next {cc : ByteArray} {nL : Nat} {own : String} {rm : Room} {κ : KX} (hκ : Cx cc nL own rm κ) {Φ : HQ} {pc : Nat} {lv : List (Nat × Value)} {st : List Value} {S : wPS} (hΦ : Hd κ Φ S) {a idx : Nat} {ref : String} (hO : a ∈ sL S ∧ sK S a = 2) (hlink : Cond.fieldLink own idx ref "next" "I" ∈ GA) (hsm : ref = "Plotroom$Lots" ∨ Cond.sameField ref "Plotroom$Lots" "next" "I" ∈ GA) (hdg : decode cc pc = .ok (.getfield idx, 3)) (kk : Gj κ Φ (pc + 3) lv (.int (sI S 12 a) :: st)) : Gj κ Φ pc lv (.ref a :: st) := by
  obtain ⟨p, l, e, R, s, m, args, below, meth, c, Q, D, cO, e0, A, mc, ms⟩ := κ
  obtain ⟨hx, hb, hml, hown, hts, hK, hG, hR, hlk⟩ := hκ
  intro H locs cells slots ls hF hl
  obtain ⟨k0, hk0, hk1⟩ := wG_Lots cO S hO
  exact va_get (D := D) (ci := 3) (C := RX2) (T := TX2) (N := 2) hx hb hts inlX2 hown hK (hΦ H locs cells slots hF).1 k0 hk1 rfl 0 (by decide) (hts _ hlink) (fun x9 h9 => hsm.elim (fun z => by rw [z]; exact h9) (fun z => u_same (hts _ z) x9 h9)) rfl hdg (kk H locs cells slots ls hF hl)
theorem pt_Lots_next {cc : ByteArray} {nL : Nat} {own : String} {rm : Room} {κ : KX} (hκ : Cx cc nL own rm κ) {pc : Nat} {lv : List (Nat × Value)} {st : List Value} {S : wPS} {k n : Nat} {a idx : Nat} {ref : String} {v : Int32} (hO : a ∈ sL S ∧ sK S a = 2) (hlink : Cond.fieldLink own idx ref "next" "I" ∈ GA) (hsm : ref = "Plotroom$Lots" ∨ Cond.sameField ref "Plotroom$Lots" "next" "I" ∈ GA)   (hdg : decode cc pc = .ok (.putfield idx, 3)) (kk : Gj κ (PV κ (putI S 12 a v) k n) (pc + 3) lv st) : Gj κ (PV κ S k n) pc lv (.int v :: .ref a :: st) := by
  obtain ⟨p, l, e, R, s, m, args, below, meth, c, Q, D, cO, e0, A, mc, ms⟩ := κ
  obtain ⟨hx, hb, hml, hown, hts, hK, hG, hR, hlk⟩ := hκ
  intro H locs cells slots ls hF hl
  obtain ⟨hP, hD, hS, hc, hs⟩ := hF
  obtain ⟨k0, hk0, hk1⟩ := wG_Lots cO S hO
  have eq9 := wU_Lots_next cO S hD hO hk0 v
  refine va_put (D := D) (ci := 3) (v := .int v) (ty := .int) (C := RX2) (T := TX2) (N := 2) hx hb hts inlX2 tyX2 tyX2_ok nmX2 hown hK hP hD hS k0 hk1 rfl 0 (by decide) (hts _ hlink) (fun x9 h9 => hsm.elim (fun z => by rw [z]; exact h9) (fun z => u_same (hts _ z) x9 h9)) rfl rfl rfl rfl (by decide) hdg (fun H1 locs1 hP1 hD1 hS1 => ?_)
  exact kk H1 locs1 cells slots ls ⟨Eq.mp (congrArg (fun z => va_P D vwCl z H1) eq9) hP1, Eq.mp (congrArg (fun z => va_D A z) eq9) hD1, hS1, hc, hs⟩ hl
theorem gtN_Lots_next {cc : ByteArray} {nL : Nat} {own : String} {rm : Room} {κ : KX} (hκ : Cx cc nL own rm κ) {Φ : HQ} {pc : Nat} {lv : List (Nat × Value)} {st : List Value} {S : wPS} (hΦ : Hd κ Φ S) {a idx : Nat} {ref host : String} (hO : a ∈ sL S ∧ sK S a = 2) (hlink : (own, idx, ref, "next", "I", host) ∈ nestF) (hsm : ref = "Plotroom$Lots" ∨ Cond.sameField ref "Plotroom$Lots" "next" "I" ∈ GA) (hdg : decode cc pc = .ok (.getfield idx, 3)) (kk : Gj κ Φ (pc + 3) lv (.int (sI S 12 a) :: st)) : Gj κ Φ pc lv (.ref a :: st) := by
  obtain ⟨p, l, e, R, s, m, args, below, meth, c, Q, D, cO, e0, A, mc, ms⟩ := κ
  obtain ⟨hx, hb, hml, hown, hts, hK, hG, hR, hlk⟩ := hκ
  intro H locs cells slots ls hF hl
  obtain ⟨k0, hk0, hk1⟩ := wG_Lots cO S hO
  exact va_getN (D := D) (ci := 3) (C := RX2) (T := TX2) (N := 2) hx hb hts inlX2 hown hK (hΦ H locs cells slots hF).1 k0 hk1 rfl 0 (by decide) (va_Nw.use rfl (hG.1 _ hlink)) (fun x9 h9 => hsm.elim (fun z => by rw [z]; exact h9) (fun z => u_same (hts _ z) x9 h9)) rfl hdg (kk H locs cells slots ls hF hl)
theorem ptN_Lots_next {cc : ByteArray} {nL : Nat} {own : String} {rm : Room} {κ : KX} (hκ : Cx cc nL own rm κ) {pc : Nat} {lv : List (Nat × Value)} {st : List Value} {S : wPS} {k n : Nat} {a idx : Nat} {ref host : String} {v : Int32} (hO : a ∈ sL S ∧ sK S a = 2) (hlink : (own, idx, ref, "next", "I", host) ∈ nestF) (hsm : ref = "Plotroom$Lots" ∨ Cond.sameField ref "Plotroom$Lots" "next" "I" ∈ GA)   (hdg : decode cc pc = .ok (.putfield idx, 3)) (kk : Gj κ (PV κ (putI S 12 a v) k n) (pc + 3) lv st) : Gj κ (PV κ S k n) pc lv (.int v :: .ref a :: st) := by
  obtain ⟨p, l, e, R, s, m, args, below, meth, c, Q, D, cO, e0, A, mc, ms⟩ := κ
  obtain ⟨hx, hb, hml, hown, hts, hK, hG, hR, hlk⟩ := hκ
  intro H locs cells slots ls hF hl
  obtain ⟨hP, hD, hS, hc, hs⟩ := hF
  obtain ⟨k0, hk0, hk1⟩ := wG_Lots cO S hO
  have eq9 := wU_Lots_next cO S hD hO hk0 v
  refine va_putN (D := D) (ci := 3) (v := .int v) (ty := .int) (C := RX2) (T := TX2) (N := 2) hx hb hts inlX2 tyX2 tyX2_ok nmX2 hown hK hP hD hS k0 hk1 rfl 0 (by decide) (va_Nw.use rfl (hG.1 _ hlink)) (fun x9 h9 => hsm.elim (fun z => by rw [z]; exact h9) (fun z => u_same (hts _ z) x9 h9)) rfl rfl rfl rfl (by decide) hdg (fun H1 locs1 hP1 hD1 hS1 => ?_)
  exact kk H1 locs1 cells slots ls ⟨Eq.mp (congrArg (fun z => va_P D vwCl z H1) eq9) hP1, Eq.mp (congrArg (fun z => va_D A z) eq9) hD1, hS1, hc, hs⟩ hl
theorem gt_Lots_drawn {cc : ByteArray} {nL : Nat} {own : String} {rm : Room} {κ : KX} (hκ : Cx cc nL own rm κ) {Φ : HQ} {pc : Nat} {lv : List (Nat × Value)} {st : List Value} {S : wPS} (hΦ : Hd κ Φ S) {a idx : Nat} {ref : String} (hO : a ∈ sL S ∧ sK S a = 2) (hlink : Cond.fieldLink own idx ref "drawn" "I" ∈ GA) (hsm : ref = "Plotroom$Lots" ∨ Cond.sameField ref "Plotroom$Lots" "drawn" "I" ∈ GA) (hdg : decode cc pc = .ok (.getfield idx, 3)) (kk : Gj κ Φ (pc + 3) lv (.int (sI S 13 a) :: st)) : Gj κ Φ pc lv (.ref a :: st) := by
  obtain ⟨p, l, e, R, s, m, args, below, meth, c, Q, D, cO, e0, A, mc, ms⟩ := κ
  obtain ⟨hx, hb, hml, hown, hts, hK, hG, hR, hlk⟩ := hκ
  intro H locs cells slots ls hF hl
  obtain ⟨k0, hk0, hk1⟩ := wG_Lots cO S hO
  exact va_get (D := D) (ci := 3) (C := RX2) (T := TX2) (N := 2) hx hb hts inlX2 hown hK (hΦ H locs cells slots hF).1 k0 hk1 rfl 1 (by decide) (hts _ hlink) (fun x9 h9 => hsm.elim (fun z => by rw [z]; exact h9) (fun z => u_same (hts _ z) x9 h9)) rfl hdg (kk H locs cells slots ls hF hl)
theorem pt_Lots_drawn {cc : ByteArray} {nL : Nat} {own : String} {rm : Room} {κ : KX} (hκ : Cx cc nL own rm κ) {pc : Nat} {lv : List (Nat × Value)} {st : List Value} {S : wPS} {k n : Nat} {a idx : Nat} {ref : String} {v : Int32} (hO : a ∈ sL S ∧ sK S a = 2) (hlink : Cond.fieldLink own idx ref "drawn" "I" ∈ GA) (hsm : ref = "Plotroom$Lots" ∨ Cond.sameField ref "Plotroom$Lots" "drawn" "I" ∈ GA)   (hdg : decode cc pc = .ok (.putfield idx, 3)) (kk : Gj κ (PV κ (putI S 13 a v) k n) (pc + 3) lv st) : Gj κ (PV κ S k n) pc lv (.int v :: .ref a :: st) := by
  obtain ⟨p, l, e, R, s, m, args, below, meth, c, Q, D, cO, e0, A, mc, ms⟩ := κ
  obtain ⟨hx, hb, hml, hown, hts, hK, hG, hR, hlk⟩ := hκ
  intro H locs cells slots ls hF hl
  obtain ⟨hP, hD, hS, hc, hs⟩ := hF
  obtain ⟨k0, hk0, hk1⟩ := wG_Lots cO S hO
  have eq9 := wU_Lots_drawn cO S hD hO hk0 v
  refine va_put (D := D) (ci := 3) (v := .int v) (ty := .int) (C := RX2) (T := TX2) (N := 2) hx hb hts inlX2 tyX2 tyX2_ok nmX2 hown hK hP hD hS k0 hk1 rfl 1 (by decide) (hts _ hlink) (fun x9 h9 => hsm.elim (fun z => by rw [z]; exact h9) (fun z => u_same (hts _ z) x9 h9)) rfl rfl rfl rfl (by decide) hdg (fun H1 locs1 hP1 hD1 hS1 => ?_)
  exact kk H1 locs1 cells slots ls ⟨Eq.mp (congrArg (fun z => va_P D vwCl z H1) eq9) hP1, Eq.mp (congrArg (fun z => va_D A z) eq9) hD1, hS1, hc, hs⟩ hl
theorem gtN_Lots_drawn {cc : ByteArray} {nL : Nat} {own : String} {rm : Room} {κ : KX} (hκ : Cx cc nL own rm κ) {Φ : HQ} {pc : Nat} {lv : List (Nat × Value)} {st : List Value} {S : wPS} (hΦ : Hd κ Φ S) {a idx : Nat} {ref host : String} (hO : a ∈ sL S ∧ sK S a = 2) (hlink : (own, idx, ref, "drawn", "I", host) ∈ nestF) (hsm : ref = "Plotroom$Lots" ∨ Cond.sameField ref "Plotroom$Lots" "drawn" "I" ∈ GA) (hdg : decode cc pc = .ok (.getfield idx, 3)) (kk : Gj κ Φ (pc + 3) lv (.int (sI S 13 a) :: st)) : Gj κ Φ pc lv (.ref a :: st) := by
  obtain ⟨p, l, e, R, s, m, args, below, meth, c, Q, D, cO, e0, A, mc, ms⟩ := κ
  obtain ⟨hx, hb, hml, hown, hts, hK, hG, hR, hlk⟩ := hκ
  intro H locs cells slots ls hF hl
  obtain ⟨k0, hk0, hk1⟩ := wG_Lots cO S hO
  exact va_getN (D := D) (ci := 3) (C := RX2) (T := TX2) (N := 2) hx hb hts inlX2 hown hK (hΦ H locs cells slots hF).1 k0 hk1 rfl 1 (by decide) (va_Nw.use rfl (hG.1 _ hlink)) (fun x9 h9 => hsm.elim (fun z => by rw [z]; exact h9) (fun z => u_same (hts _ z) x9 h9)) rfl hdg (kk H locs cells slots ls hF hl)
theorem ptN_Lots_drawn {cc : ByteArray} {nL : Nat} {own : String} {rm : Room} {κ : KX} (hκ : Cx cc nL own rm κ) {pc : Nat} {lv : List (Nat × Value)} {st : List Value} {S : wPS} {k n : Nat} {a idx : Nat} {ref host : String} {v : Int32} (hO : a ∈ sL S ∧ sK S a = 2) (hlink : (own, idx, ref, "drawn", "I", host) ∈ nestF) (hsm : ref = "Plotroom$Lots" ∨ Cond.sameField ref "Plotroom$Lots" "drawn" "I" ∈ GA)   (hdg : decode cc pc = .ok (.putfield idx, 3)) (kk : Gj κ (PV κ (putI S 13 a v) k n) (pc + 3) lv st) : Gj κ (PV κ S k n) pc lv (.int v :: .ref a :: st) := by
  obtain ⟨p, l, e, R, s, m, args, below, meth, c, Q, D, cO, e0, A, mc, ms⟩ := κ
  obtain ⟨hx, hb, hml, hown, hts, hK, hG, hR, hlk⟩ := hκ
  intro H locs cells slots ls hF hl
  obtain ⟨hP, hD, hS, hc, hs⟩ := hF
  obtain ⟨k0, hk0, hk1⟩ := wG_Lots cO S hO
  have eq9 := wU_Lots_drawn cO S hD hO hk0 v
  refine va_putN (D := D) (ci := 3) (v := .int v) (ty := .int) (C := RX2) (T := TX2) (N := 2) hx hb hts inlX2 tyX2 tyX2_ok nmX2 hown hK hP hD hS k0 hk1 rfl 1 (by decide) (va_Nw.use rfl (hG.1 _ hlink)) (fun x9 h9 => hsm.elim (fun z => by rw [z]; exact h9) (fun z => u_same (hts _ z) x9 h9)) rfl rfl rfl rfl (by decide) hdg (fun H1 locs1 hP1 hD1 hS1 => ?_)
  exact kk H1 locs1 cells slots ls ⟨Eq.mp (congrArg (fun z => va_P D vwCl z H1) eq9) hP1, Eq.mp (congrArg (fun z => va_D A z) eq9) hD1, hS1, hc, hs⟩ hl
theorem gt_Mast_x {cc : ByteArray} {nL : Nat} {own : String} {rm : Room} {κ : KX} (hκ : Cx cc nL own rm κ) {Φ : HQ} {pc : Nat} {lv : List (Nat × Value)} {st : List Value} {S : wPS} (hΦ : Hd κ Φ S) {a idx : Nat} {ref : String} (hO : a ∈ sL S ∧ sK S a = 3) (hlink : Cond.fieldLink own idx ref "x" "I" ∈ GA) (hsm : ref = "Plotroom$Place" ∨ Cond.sameField ref "Plotroom$Place" "x" "I" ∈ GA) (hdg : decode cc pc = .ok (.getfield idx, 3)) (kk : Gj κ Φ (pc + 3) lv (.int (sI S 14 a) :: st)) : Gj κ Φ pc lv (.ref a :: st) := by
  obtain ⟨p, l, e, R, s, m, args, below, meth, c, Q, D, cO, e0, A, mc, ms⟩ := κ
  obtain ⟨hx, hb, hml, hown, hts, hK, hG, hR, hlk⟩ := hκ
  intro H locs cells slots ls hF hl
  obtain ⟨k0, hk0, hk1⟩ := wG_Mast cO S hO
  exact va_get (D := D) (ci := 4) (C := RX3) (T := TX3) (N := 10) hx hb hts inlX3 hown hK (hΦ H locs cells slots hF).1 k0 hk1 rfl 0 (by decide) (hts _ hlink) (fun x9 h9 => hsm.elim (fun z => by rw [z]; exact h9) (fun z => u_same (hts _ z) x9 h9)) rfl hdg (kk H locs cells slots ls hF hl)
theorem pt_Mast_x {cc : ByteArray} {nL : Nat} {own : String} {rm : Room} {κ : KX} (hκ : Cx cc nL own rm κ) {pc : Nat} {lv : List (Nat × Value)} {st : List Value} {S : wPS} {k n : Nat} {a idx : Nat} {ref : String} {v : Int32} (hO : a ∈ sL S ∧ sK S a = 3) (hlink : Cond.fieldLink own idx ref "x" "I" ∈ GA) (hsm : ref = "Plotroom$Place" ∨ Cond.sameField ref "Plotroom$Place" "x" "I" ∈ GA)   (hdg : decode cc pc = .ok (.putfield idx, 3)) (kk : Gj κ (PV κ (putI S 14 a v) k n) (pc + 3) lv st) : Gj κ (PV κ S k n) pc lv (.int v :: .ref a :: st) := by
  obtain ⟨p, l, e, R, s, m, args, below, meth, c, Q, D, cO, e0, A, mc, ms⟩ := κ
  obtain ⟨hx, hb, hml, hown, hts, hK, hG, hR, hlk⟩ := hκ
  intro H locs cells slots ls hF hl
  obtain ⟨hP, hD, hS, hc, hs⟩ := hF
  obtain ⟨k0, hk0, hk1⟩ := wG_Mast cO S hO
  have eq9 := wU_Mast_x cO S hD hO hk0 v
  refine va_put (D := D) (ci := 4) (v := .int v) (ty := .int) (C := RX3) (T := TX3) (N := 10) hx hb hts inlX3 tyX3 tyX3_ok nmX3 hown hK hP hD hS k0 hk1 rfl 0 (by decide) (hts _ hlink) (fun x9 h9 => hsm.elim (fun z => by rw [z]; exact h9) (fun z => u_same (hts _ z) x9 h9)) rfl rfl rfl rfl (by decide) hdg (fun H1 locs1 hP1 hD1 hS1 => ?_)
  exact kk H1 locs1 cells slots ls ⟨Eq.mp (congrArg (fun z => va_P D vwCl z H1) eq9) hP1, Eq.mp (congrArg (fun z => va_D A z) eq9) hD1, hS1, hc, hs⟩ hl
theorem gtN_Mast_x {cc : ByteArray} {nL : Nat} {own : String} {rm : Room} {κ : KX} (hκ : Cx cc nL own rm κ) {Φ : HQ} {pc : Nat} {lv : List (Nat × Value)} {st : List Value} {S : wPS} (hΦ : Hd κ Φ S) {a idx : Nat} {ref host : String} (hO : a ∈ sL S ∧ sK S a = 3) (hlink : (own, idx, ref, "x", "I", host) ∈ nestF) (hsm : ref = "Plotroom$Place" ∨ Cond.sameField ref "Plotroom$Place" "x" "I" ∈ GA) (hdg : decode cc pc = .ok (.getfield idx, 3)) (kk : Gj κ Φ (pc + 3) lv (.int (sI S 14 a) :: st)) : Gj κ Φ pc lv (.ref a :: st) := by
  obtain ⟨p, l, e, R, s, m, args, below, meth, c, Q, D, cO, e0, A, mc, ms⟩ := κ
  obtain ⟨hx, hb, hml, hown, hts, hK, hG, hR, hlk⟩ := hκ
  intro H locs cells slots ls hF hl
  obtain ⟨k0, hk0, hk1⟩ := wG_Mast cO S hO
  exact va_getN (D := D) (ci := 4) (C := RX3) (T := TX3) (N := 10) hx hb hts inlX3 hown hK (hΦ H locs cells slots hF).1 k0 hk1 rfl 0 (by decide) (va_Nw.use rfl (hG.1 _ hlink)) (fun x9 h9 => hsm.elim (fun z => by rw [z]; exact h9) (fun z => u_same (hts _ z) x9 h9)) rfl hdg (kk H locs cells slots ls hF hl)
theorem ptN_Mast_x {cc : ByteArray} {nL : Nat} {own : String} {rm : Room} {κ : KX} (hκ : Cx cc nL own rm κ) {pc : Nat} {lv : List (Nat × Value)} {st : List Value} {S : wPS} {k n : Nat} {a idx : Nat} {ref host : String} {v : Int32} (hO : a ∈ sL S ∧ sK S a = 3) (hlink : (own, idx, ref, "x", "I", host) ∈ nestF) (hsm : ref = "Plotroom$Place" ∨ Cond.sameField ref "Plotroom$Place" "x" "I" ∈ GA)   (hdg : decode cc pc = .ok (.putfield idx, 3)) (kk : Gj κ (PV κ (putI S 14 a v) k n) (pc + 3) lv st) : Gj κ (PV κ S k n) pc lv (.int v :: .ref a :: st) := by
  obtain ⟨p, l, e, R, s, m, args, below, meth, c, Q, D, cO, e0, A, mc, ms⟩ := κ
  obtain ⟨hx, hb, hml, hown, hts, hK, hG, hR, hlk⟩ := hκ
  intro H locs cells slots ls hF hl
  obtain ⟨hP, hD, hS, hc, hs⟩ := hF
  obtain ⟨k0, hk0, hk1⟩ := wG_Mast cO S hO
  have eq9 := wU_Mast_x cO S hD hO hk0 v
  refine va_putN (D := D) (ci := 4) (v := .int v) (ty := .int) (C := RX3) (T := TX3) (N := 10) hx hb hts inlX3 tyX3 tyX3_ok nmX3 hown hK hP hD hS k0 hk1 rfl 0 (by decide) (va_Nw.use rfl (hG.1 _ hlink)) (fun x9 h9 => hsm.elim (fun z => by rw [z]; exact h9) (fun z => u_same (hts _ z) x9 h9)) rfl rfl rfl rfl (by decide) hdg (fun H1 locs1 hP1 hD1 hS1 => ?_)
  exact kk H1 locs1 cells slots ls ⟨Eq.mp (congrArg (fun z => va_P D vwCl z H1) eq9) hP1, Eq.mp (congrArg (fun z => va_D A z) eq9) hD1, hS1, hc, hs⟩ hl
theorem gt_Mast_y {cc : ByteArray} {nL : Nat} {own : String} {rm : Room} {κ : KX} (hκ : Cx cc nL own rm κ) {Φ : HQ} {pc : Nat} {lv : List (Nat × Value)} {st : List Value} {S : wPS} (hΦ : Hd κ Φ S) {a idx : Nat} {ref : String} (hO : a ∈ sL S ∧ sK S a = 3) (hlink : Cond.fieldLink own idx ref "y" "I" ∈ GA) (hsm : ref = "Plotroom$Place" ∨ Cond.sameField ref "Plotroom$Place" "y" "I" ∈ GA) (hdg : decode cc pc = .ok (.getfield idx, 3)) (kk : Gj κ Φ (pc + 3) lv (.int (sI S 15 a) :: st)) : Gj κ Φ pc lv (.ref a :: st) := by
  obtain ⟨p, l, e, R, s, m, args, below, meth, c, Q, D, cO, e0, A, mc, ms⟩ := κ
  obtain ⟨hx, hb, hml, hown, hts, hK, hG, hR, hlk⟩ := hκ
  intro H locs cells slots ls hF hl
  obtain ⟨k0, hk0, hk1⟩ := wG_Mast cO S hO
  exact va_get (D := D) (ci := 4) (C := RX3) (T := TX3) (N := 10) hx hb hts inlX3 hown hK (hΦ H locs cells slots hF).1 k0 hk1 rfl 1 (by decide) (hts _ hlink) (fun x9 h9 => hsm.elim (fun z => by rw [z]; exact h9) (fun z => u_same (hts _ z) x9 h9)) rfl hdg (kk H locs cells slots ls hF hl)
theorem pt_Mast_y {cc : ByteArray} {nL : Nat} {own : String} {rm : Room} {κ : KX} (hκ : Cx cc nL own rm κ) {pc : Nat} {lv : List (Nat × Value)} {st : List Value} {S : wPS} {k n : Nat} {a idx : Nat} {ref : String} {v : Int32} (hO : a ∈ sL S ∧ sK S a = 3) (hlink : Cond.fieldLink own idx ref "y" "I" ∈ GA) (hsm : ref = "Plotroom$Place" ∨ Cond.sameField ref "Plotroom$Place" "y" "I" ∈ GA)   (hdg : decode cc pc = .ok (.putfield idx, 3)) (kk : Gj κ (PV κ (putI S 15 a v) k n) (pc + 3) lv st) : Gj κ (PV κ S k n) pc lv (.int v :: .ref a :: st) := by
  obtain ⟨p, l, e, R, s, m, args, below, meth, c, Q, D, cO, e0, A, mc, ms⟩ := κ
  obtain ⟨hx, hb, hml, hown, hts, hK, hG, hR, hlk⟩ := hκ
  intro H locs cells slots ls hF hl
  obtain ⟨hP, hD, hS, hc, hs⟩ := hF
  obtain ⟨k0, hk0, hk1⟩ := wG_Mast cO S hO
  have eq9 := wU_Mast_y cO S hD hO hk0 v
  refine va_put (D := D) (ci := 4) (v := .int v) (ty := .int) (C := RX3) (T := TX3) (N := 10) hx hb hts inlX3 tyX3 tyX3_ok nmX3 hown hK hP hD hS k0 hk1 rfl 1 (by decide) (hts _ hlink) (fun x9 h9 => hsm.elim (fun z => by rw [z]; exact h9) (fun z => u_same (hts _ z) x9 h9)) rfl rfl rfl rfl (by decide) hdg (fun H1 locs1 hP1 hD1 hS1 => ?_)
  exact kk H1 locs1 cells slots ls ⟨Eq.mp (congrArg (fun z => va_P D vwCl z H1) eq9) hP1, Eq.mp (congrArg (fun z => va_D A z) eq9) hD1, hS1, hc, hs⟩ hl
theorem gtN_Mast_y {cc : ByteArray} {nL : Nat} {own : String} {rm : Room} {κ : KX} (hκ : Cx cc nL own rm κ) {Φ : HQ} {pc : Nat} {lv : List (Nat × Value)} {st : List Value} {S : wPS} (hΦ : Hd κ Φ S) {a idx : Nat} {ref host : String} (hO : a ∈ sL S ∧ sK S a = 3) (hlink : (own, idx, ref, "y", "I", host) ∈ nestF) (hsm : ref = "Plotroom$Place" ∨ Cond.sameField ref "Plotroom$Place" "y" "I" ∈ GA) (hdg : decode cc pc = .ok (.getfield idx, 3)) (kk : Gj κ Φ (pc + 3) lv (.int (sI S 15 a) :: st)) : Gj κ Φ pc lv (.ref a :: st) := by
  obtain ⟨p, l, e, R, s, m, args, below, meth, c, Q, D, cO, e0, A, mc, ms⟩ := κ
  obtain ⟨hx, hb, hml, hown, hts, hK, hG, hR, hlk⟩ := hκ
  intro H locs cells slots ls hF hl
  obtain ⟨k0, hk0, hk1⟩ := wG_Mast cO S hO
  exact va_getN (D := D) (ci := 4) (C := RX3) (T := TX3) (N := 10) hx hb hts inlX3 hown hK (hΦ H locs cells slots hF).1 k0 hk1 rfl 1 (by decide) (va_Nw.use rfl (hG.1 _ hlink)) (fun x9 h9 => hsm.elim (fun z => by rw [z]; exact h9) (fun z => u_same (hts _ z) x9 h9)) rfl hdg (kk H locs cells slots ls hF hl)
theorem ptN_Mast_y {cc : ByteArray} {nL : Nat} {own : String} {rm : Room} {κ : KX} (hκ : Cx cc nL own rm κ) {pc : Nat} {lv : List (Nat × Value)} {st : List Value} {S : wPS} {k n : Nat} {a idx : Nat} {ref host : String} {v : Int32} (hO : a ∈ sL S ∧ sK S a = 3) (hlink : (own, idx, ref, "y", "I", host) ∈ nestF) (hsm : ref = "Plotroom$Place" ∨ Cond.sameField ref "Plotroom$Place" "y" "I" ∈ GA)   (hdg : decode cc pc = .ok (.putfield idx, 3)) (kk : Gj κ (PV κ (putI S 15 a v) k n) (pc + 3) lv st) : Gj κ (PV κ S k n) pc lv (.int v :: .ref a :: st) := by
  obtain ⟨p, l, e, R, s, m, args, below, meth, c, Q, D, cO, e0, A, mc, ms⟩ := κ
  obtain ⟨hx, hb, hml, hown, hts, hK, hG, hR, hlk⟩ := hκ
  intro H locs cells slots ls hF hl
  obtain ⟨hP, hD, hS, hc, hs⟩ := hF
  obtain ⟨k0, hk0, hk1⟩ := wG_Mast cO S hO
  have eq9 := wU_Mast_y cO S hD hO hk0 v
  refine va_putN (D := D) (ci := 4) (v := .int v) (ty := .int) (C := RX3) (T := TX3) (N := 10) hx hb hts inlX3 tyX3 tyX3_ok nmX3 hown hK hP hD hS k0 hk1 rfl 1 (by decide) (va_Nw.use rfl (hG.1 _ hlink)) (fun x9 h9 => hsm.elim (fun z => by rw [z]; exact h9) (fun z => u_same (hts _ z) x9 h9)) rfl rfl rfl rfl (by decide) hdg (fun H1 locs1 hP1 hD1 hS1 => ?_)
  exact kk H1 locs1 cells slots ls ⟨Eq.mp (congrArg (fun z => va_P D vwCl z H1) eq9) hP1, Eq.mp (congrArg (fun z => va_D A z) eq9) hD1, hS1, hc, hs⟩ hl
theorem gt_Mast_range {cc : ByteArray} {nL : Nat} {own : String} {rm : Room} {κ : KX} (hκ : Cx cc nL own rm κ) {Φ : HQ} {pc : Nat} {lv : List (Nat × Value)} {st : List Value} {S : wPS} (hΦ : Hd κ Φ S) {a idx : Nat} {ref : String} (hO : a ∈ sL S ∧ sK S a = 3) (hlink : Cond.fieldLink own idx ref "range" "I" ∈ GA) (hsm : ref = "Plotroom$Mast" ∨ Cond.sameField ref "Plotroom$Mast" "range" "I" ∈ GA) (hdg : decode cc pc = .ok (.getfield idx, 3)) (kk : Gj κ Φ (pc + 3) lv (.int (sI S 16 a) :: st)) : Gj κ Φ pc lv (.ref a :: st) := by
  obtain ⟨p, l, e, R, s, m, args, below, meth, c, Q, D, cO, e0, A, mc, ms⟩ := κ
  obtain ⟨hx, hb, hml, hown, hts, hK, hG, hR, hlk⟩ := hκ
  intro H locs cells slots ls hF hl
  obtain ⟨k0, hk0, hk1⟩ := wG_Mast cO S hO
  exact va_get (D := D) (ci := 4) (C := RX3) (T := TX3) (N := 10) hx hb hts inlX3 hown hK (hΦ H locs cells slots hF).1 k0 hk1 rfl 2 (by decide) (hts _ hlink) (fun x9 h9 => hsm.elim (fun z => by rw [z]; exact h9) (fun z => u_same (hts _ z) x9 h9)) rfl hdg (kk H locs cells slots ls hF hl)
theorem pt_Mast_range {cc : ByteArray} {nL : Nat} {own : String} {rm : Room} {κ : KX} (hκ : Cx cc nL own rm κ) {pc : Nat} {lv : List (Nat × Value)} {st : List Value} {S : wPS} {k n : Nat} {a idx : Nat} {ref : String} {v : Int32} (hO : a ∈ sL S ∧ sK S a = 3) (hlink : Cond.fieldLink own idx ref "range" "I" ∈ GA) (hsm : ref = "Plotroom$Mast" ∨ Cond.sameField ref "Plotroom$Mast" "range" "I" ∈ GA)  (hin : Nm "<init>" κ) (hde : "Plotroom$Mast" = own) (hdg : decode cc pc = .ok (.putfield idx, 3)) (kk : Gj κ (PV κ (putI S 16 a v) k n) (pc + 3) lv st) : Gj κ (PV κ S k n) pc lv (.int v :: .ref a :: st) := by
  obtain ⟨p, l, e, R, s, m, args, below, meth, c, Q, D, cO, e0, A, mc, ms⟩ := κ
  obtain ⟨hx, hb, hml, hown, hts, hK, hG, hR, hlk⟩ := hκ
  intro H locs cells slots ls hF hl
  obtain ⟨hP, hD, hS, hc, hs⟩ := hF
  obtain ⟨k0, hk0, hk1⟩ := wG_Mast cO S hO
  have eq9 := wU_Mast_range cO S hD hO hk0 v
  refine va_putF (D := D) (ci := 4) (v := .int v) (ty := .int) (C := RX3) (T := TX3) (N := 10) hx hb hts inlX3 tyX3 tyX3_ok nmX3 hown hK hP hD hS k0 hk1 rfl 2 (by decide) (hts _ hlink) (fun x9 h9 => hsm.elim (fun z => by rw [z]; exact h9) (fun z => u_same (hts _ z) x9 h9)) rfl hin hde rfl rfl rfl (by decide) hdg (fun H1 locs1 hP1 hD1 hS1 => ?_)
  exact kk H1 locs1 cells slots ls ⟨Eq.mp (congrArg (fun z => va_P D vwCl z H1) eq9) hP1, Eq.mp (congrArg (fun z => va_D A z) eq9) hD1, hS1, hc, hs⟩ hl
theorem gtN_Mast_range {cc : ByteArray} {nL : Nat} {own : String} {rm : Room} {κ : KX} (hκ : Cx cc nL own rm κ) {Φ : HQ} {pc : Nat} {lv : List (Nat × Value)} {st : List Value} {S : wPS} (hΦ : Hd κ Φ S) {a idx : Nat} {ref host : String} (hO : a ∈ sL S ∧ sK S a = 3) (hlink : (own, idx, ref, "range", "I", host) ∈ nestF) (hsm : ref = "Plotroom$Mast" ∨ Cond.sameField ref "Plotroom$Mast" "range" "I" ∈ GA) (hdg : decode cc pc = .ok (.getfield idx, 3)) (kk : Gj κ Φ (pc + 3) lv (.int (sI S 16 a) :: st)) : Gj κ Φ pc lv (.ref a :: st) := by
  obtain ⟨p, l, e, R, s, m, args, below, meth, c, Q, D, cO, e0, A, mc, ms⟩ := κ
  obtain ⟨hx, hb, hml, hown, hts, hK, hG, hR, hlk⟩ := hκ
  intro H locs cells slots ls hF hl
  obtain ⟨k0, hk0, hk1⟩ := wG_Mast cO S hO
  exact va_getN (D := D) (ci := 4) (C := RX3) (T := TX3) (N := 10) hx hb hts inlX3 hown hK (hΦ H locs cells slots hF).1 k0 hk1 rfl 2 (by decide) (va_Nw.use rfl (hG.1 _ hlink)) (fun x9 h9 => hsm.elim (fun z => by rw [z]; exact h9) (fun z => u_same (hts _ z) x9 h9)) rfl hdg (kk H locs cells slots ls hF hl)
theorem gt_Mast_blind {cc : ByteArray} {nL : Nat} {own : String} {rm : Room} {κ : KX} (hκ : Cx cc nL own rm κ) {Φ : HQ} {pc : Nat} {lv : List (Nat × Value)} {st : List Value} {S : wPS} (hΦ : Hd κ Φ S) {a idx : Nat} {ref : String} (hO : a ∈ sL S ∧ sK S a = 3) (hlink : Cond.fieldLink own idx ref "blind" "I" ∈ GA) (hsm : ref = "Plotroom$Mast" ∨ Cond.sameField ref "Plotroom$Mast" "blind" "I" ∈ GA) (hdg : decode cc pc = .ok (.getfield idx, 3)) (kk : Gj κ Φ (pc + 3) lv (.int (sI S 17 a) :: st)) : Gj κ Φ pc lv (.ref a :: st) := by
  obtain ⟨p, l, e, R, s, m, args, below, meth, c, Q, D, cO, e0, A, mc, ms⟩ := κ
  obtain ⟨hx, hb, hml, hown, hts, hK, hG, hR, hlk⟩ := hκ
  intro H locs cells slots ls hF hl
  obtain ⟨k0, hk0, hk1⟩ := wG_Mast cO S hO
  exact va_get (D := D) (ci := 4) (C := RX3) (T := TX3) (N := 10) hx hb hts inlX3 hown hK (hΦ H locs cells slots hF).1 k0 hk1 rfl 3 (by decide) (hts _ hlink) (fun x9 h9 => hsm.elim (fun z => by rw [z]; exact h9) (fun z => u_same (hts _ z) x9 h9)) rfl hdg (kk H locs cells slots ls hF hl)
theorem pt_Mast_blind {cc : ByteArray} {nL : Nat} {own : String} {rm : Room} {κ : KX} (hκ : Cx cc nL own rm κ) {pc : Nat} {lv : List (Nat × Value)} {st : List Value} {S : wPS} {k n : Nat} {a idx : Nat} {ref : String} {v : Int32} (hO : a ∈ sL S ∧ sK S a = 3) (hlink : Cond.fieldLink own idx ref "blind" "I" ∈ GA) (hsm : ref = "Plotroom$Mast" ∨ Cond.sameField ref "Plotroom$Mast" "blind" "I" ∈ GA)  (hin : Nm "<init>" κ) (hde : "Plotroom$Mast" = own) (hdg : decode cc pc = .ok (.putfield idx, 3)) (kk : Gj κ (PV κ (putI S 17 a v) k n) (pc + 3) lv st) : Gj κ (PV κ S k n) pc lv (.int v :: .ref a :: st) := by
  obtain ⟨p, l, e, R, s, m, args, below, meth, c, Q, D, cO, e0, A, mc, ms⟩ := κ
  obtain ⟨hx, hb, hml, hown, hts, hK, hG, hR, hlk⟩ := hκ
  intro H locs cells slots ls hF hl
  obtain ⟨hP, hD, hS, hc, hs⟩ := hF
  obtain ⟨k0, hk0, hk1⟩ := wG_Mast cO S hO
  have eq9 := wU_Mast_blind cO S hD hO hk0 v
  refine va_putF (D := D) (ci := 4) (v := .int v) (ty := .int) (C := RX3) (T := TX3) (N := 10) hx hb hts inlX3 tyX3 tyX3_ok nmX3 hown hK hP hD hS k0 hk1 rfl 3 (by decide) (hts _ hlink) (fun x9 h9 => hsm.elim (fun z => by rw [z]; exact h9) (fun z => u_same (hts _ z) x9 h9)) rfl hin hde rfl rfl rfl (by decide) hdg (fun H1 locs1 hP1 hD1 hS1 => ?_)
  exact kk H1 locs1 cells slots ls ⟨Eq.mp (congrArg (fun z => va_P D vwCl z H1) eq9) hP1, Eq.mp (congrArg (fun z => va_D A z) eq9) hD1, hS1, hc, hs⟩ hl
theorem gtN_Mast_blind {cc : ByteArray} {nL : Nat} {own : String} {rm : Room} {κ : KX} (hκ : Cx cc nL own rm κ) {Φ : HQ} {pc : Nat} {lv : List (Nat × Value)} {st : List Value} {S : wPS} (hΦ : Hd κ Φ S) {a idx : Nat} {ref host : String} (hO : a ∈ sL S ∧ sK S a = 3) (hlink : (own, idx, ref, "blind", "I", host) ∈ nestF) (hsm : ref = "Plotroom$Mast" ∨ Cond.sameField ref "Plotroom$Mast" "blind" "I" ∈ GA) (hdg : decode cc pc = .ok (.getfield idx, 3)) (kk : Gj κ Φ (pc + 3) lv (.int (sI S 17 a) :: st)) : Gj κ Φ pc lv (.ref a :: st) := by
  obtain ⟨p, l, e, R, s, m, args, below, meth, c, Q, D, cO, e0, A, mc, ms⟩ := κ
  obtain ⟨hx, hb, hml, hown, hts, hK, hG, hR, hlk⟩ := hκ
  intro H locs cells slots ls hF hl
  obtain ⟨k0, hk0, hk1⟩ := wG_Mast cO S hO
  exact va_getN (D := D) (ci := 4) (C := RX3) (T := TX3) (N := 10) hx hb hts inlX3 hown hK (hΦ H locs cells slots hF).1 k0 hk1 rfl 3 (by decide) (va_Nw.use rfl (hG.1 _ hlink)) (fun x9 h9 => hsm.elim (fun z => by rw [z]; exact h9) (fun z => u_same (hts _ z) x9 h9)) rfl hdg (kk H locs cells slots ls hF hl)
theorem gt_Mast_slip {cc : ByteArray} {nL : Nat} {own : String} {rm : Room} {κ : KX} (hκ : Cx cc nL own rm κ) {Φ : HQ} {pc : Nat} {lv : List (Nat × Value)} {st : List Value} {S : wPS} (hΦ : Hd κ Φ S) {a idx : Nat} {ref : String} (hO : a ∈ sL S ∧ sK S a = 3) (hlink : Cond.fieldLink own idx ref "slip" "I" ∈ GA) (hsm : ref = "Plotroom$Mast" ∨ Cond.sameField ref "Plotroom$Mast" "slip" "I" ∈ GA) (hdg : decode cc pc = .ok (.getfield idx, 3)) (kk : Gj κ Φ (pc + 3) lv (.int (sI S 18 a) :: st)) : Gj κ Φ pc lv (.ref a :: st) := by
  obtain ⟨p, l, e, R, s, m, args, below, meth, c, Q, D, cO, e0, A, mc, ms⟩ := κ
  obtain ⟨hx, hb, hml, hown, hts, hK, hG, hR, hlk⟩ := hκ
  intro H locs cells slots ls hF hl
  obtain ⟨k0, hk0, hk1⟩ := wG_Mast cO S hO
  exact va_get (D := D) (ci := 4) (C := RX3) (T := TX3) (N := 10) hx hb hts inlX3 hown hK (hΦ H locs cells slots hF).1 k0 hk1 rfl 4 (by decide) (hts _ hlink) (fun x9 h9 => hsm.elim (fun z => by rw [z]; exact h9) (fun z => u_same (hts _ z) x9 h9)) rfl hdg (kk H locs cells slots ls hF hl)
theorem pt_Mast_slip {cc : ByteArray} {nL : Nat} {own : String} {rm : Room} {κ : KX} (hκ : Cx cc nL own rm κ) {pc : Nat} {lv : List (Nat × Value)} {st : List Value} {S : wPS} {k n : Nat} {a idx : Nat} {ref : String} {v : Int32} (hO : a ∈ sL S ∧ sK S a = 3) (hlink : Cond.fieldLink own idx ref "slip" "I" ∈ GA) (hsm : ref = "Plotroom$Mast" ∨ Cond.sameField ref "Plotroom$Mast" "slip" "I" ∈ GA)  (hin : Nm "<init>" κ) (hde : "Plotroom$Mast" = own) (hdg : decode cc pc = .ok (.putfield idx, 3)) (kk : Gj κ (PV κ (putI S 18 a v) k n) (pc + 3) lv st) : Gj κ (PV κ S k n) pc lv (.int v :: .ref a :: st) := by
  obtain ⟨p, l, e, R, s, m, args, below, meth, c, Q, D, cO, e0, A, mc, ms⟩ := κ
  obtain ⟨hx, hb, hml, hown, hts, hK, hG, hR, hlk⟩ := hκ
  intro H locs cells slots ls hF hl
  obtain ⟨hP, hD, hS, hc, hs⟩ := hF
  obtain ⟨k0, hk0, hk1⟩ := wG_Mast cO S hO
  have eq9 := wU_Mast_slip cO S hD hO hk0 v
  refine va_putF (D := D) (ci := 4) (v := .int v) (ty := .int) (C := RX3) (T := TX3) (N := 10) hx hb hts inlX3 tyX3 tyX3_ok nmX3 hown hK hP hD hS k0 hk1 rfl 4 (by decide) (hts _ hlink) (fun x9 h9 => hsm.elim (fun z => by rw [z]; exact h9) (fun z => u_same (hts _ z) x9 h9)) rfl hin hde rfl rfl rfl (by decide) hdg (fun H1 locs1 hP1 hD1 hS1 => ?_)
  exact kk H1 locs1 cells slots ls ⟨Eq.mp (congrArg (fun z => va_P D vwCl z H1) eq9) hP1, Eq.mp (congrArg (fun z => va_D A z) eq9) hD1, hS1, hc, hs⟩ hl
theorem gtN_Mast_slip {cc : ByteArray} {nL : Nat} {own : String} {rm : Room} {κ : KX} (hκ : Cx cc nL own rm κ) {Φ : HQ} {pc : Nat} {lv : List (Nat × Value)} {st : List Value} {S : wPS} (hΦ : Hd κ Φ S) {a idx : Nat} {ref host : String} (hO : a ∈ sL S ∧ sK S a = 3) (hlink : (own, idx, ref, "slip", "I", host) ∈ nestF) (hsm : ref = "Plotroom$Mast" ∨ Cond.sameField ref "Plotroom$Mast" "slip" "I" ∈ GA) (hdg : decode cc pc = .ok (.getfield idx, 3)) (kk : Gj κ Φ (pc + 3) lv (.int (sI S 18 a) :: st)) : Gj κ Φ pc lv (.ref a :: st) := by
  obtain ⟨p, l, e, R, s, m, args, below, meth, c, Q, D, cO, e0, A, mc, ms⟩ := κ
  obtain ⟨hx, hb, hml, hown, hts, hK, hG, hR, hlk⟩ := hκ
  intro H locs cells slots ls hF hl
  obtain ⟨k0, hk0, hk1⟩ := wG_Mast cO S hO
  exact va_getN (D := D) (ci := 4) (C := RX3) (T := TX3) (N := 10) hx hb hts inlX3 hown hK (hΦ H locs cells slots hF).1 k0 hk1 rfl 4 (by decide) (va_Nw.use rfl (hG.1 _ hlink)) (fun x9 h9 => hsm.elim (fun z => by rw [z]; exact h9) (fun z => u_same (hts _ z) x9 h9)) rfl hdg (kk H locs cells slots ls hF hl)
theorem gt_Mast_lag {cc : ByteArray} {nL : Nat} {own : String} {rm : Room} {κ : KX} (hκ : Cx cc nL own rm κ) {Φ : HQ} {pc : Nat} {lv : List (Nat × Value)} {st : List Value} {S : wPS} (hΦ : Hd κ Φ S) {a idx : Nat} {ref : String} (hO : a ∈ sL S ∧ sK S a = 3) (hlink : Cond.fieldLink own idx ref "lag" "I" ∈ GA) (hsm : ref = "Plotroom$Mast" ∨ Cond.sameField ref "Plotroom$Mast" "lag" "I" ∈ GA) (hdg : decode cc pc = .ok (.getfield idx, 3)) (kk : Gj κ Φ (pc + 3) lv (.int (sI S 19 a) :: st)) : Gj κ Φ pc lv (.ref a :: st) := by
  obtain ⟨p, l, e, R, s, m, args, below, meth, c, Q, D, cO, e0, A, mc, ms⟩ := κ
  obtain ⟨hx, hb, hml, hown, hts, hK, hG, hR, hlk⟩ := hκ
  intro H locs cells slots ls hF hl
  obtain ⟨k0, hk0, hk1⟩ := wG_Mast cO S hO
  exact va_get (D := D) (ci := 4) (C := RX3) (T := TX3) (N := 10) hx hb hts inlX3 hown hK (hΦ H locs cells slots hF).1 k0 hk1 rfl 5 (by decide) (hts _ hlink) (fun x9 h9 => hsm.elim (fun z => by rw [z]; exact h9) (fun z => u_same (hts _ z) x9 h9)) rfl hdg (kk H locs cells slots ls hF hl)
theorem pt_Mast_lag {cc : ByteArray} {nL : Nat} {own : String} {rm : Room} {κ : KX} (hκ : Cx cc nL own rm κ) {pc : Nat} {lv : List (Nat × Value)} {st : List Value} {S : wPS} {k n : Nat} {a idx : Nat} {ref : String} {v : Int32} (hO : a ∈ sL S ∧ sK S a = 3) (hlink : Cond.fieldLink own idx ref "lag" "I" ∈ GA) (hsm : ref = "Plotroom$Mast" ∨ Cond.sameField ref "Plotroom$Mast" "lag" "I" ∈ GA)  (hin : Nm "<init>" κ) (hde : "Plotroom$Mast" = own) (hdg : decode cc pc = .ok (.putfield idx, 3)) (kk : Gj κ (PV κ (putI S 19 a v) k n) (pc + 3) lv st) : Gj κ (PV κ S k n) pc lv (.int v :: .ref a :: st) := by
  obtain ⟨p, l, e, R, s, m, args, below, meth, c, Q, D, cO, e0, A, mc, ms⟩ := κ
  obtain ⟨hx, hb, hml, hown, hts, hK, hG, hR, hlk⟩ := hκ
  intro H locs cells slots ls hF hl
  obtain ⟨hP, hD, hS, hc, hs⟩ := hF
  obtain ⟨k0, hk0, hk1⟩ := wG_Mast cO S hO
  have eq9 := wU_Mast_lag cO S hD hO hk0 v
  refine va_putF (D := D) (ci := 4) (v := .int v) (ty := .int) (C := RX3) (T := TX3) (N := 10) hx hb hts inlX3 tyX3 tyX3_ok nmX3 hown hK hP hD hS k0 hk1 rfl 5 (by decide) (hts _ hlink) (fun x9 h9 => hsm.elim (fun z => by rw [z]; exact h9) (fun z => u_same (hts _ z) x9 h9)) rfl hin hde rfl rfl rfl (by decide) hdg (fun H1 locs1 hP1 hD1 hS1 => ?_)
  exact kk H1 locs1 cells slots ls ⟨Eq.mp (congrArg (fun z => va_P D vwCl z H1) eq9) hP1, Eq.mp (congrArg (fun z => va_D A z) eq9) hD1, hS1, hc, hs⟩ hl
theorem gtN_Mast_lag {cc : ByteArray} {nL : Nat} {own : String} {rm : Room} {κ : KX} (hκ : Cx cc nL own rm κ) {Φ : HQ} {pc : Nat} {lv : List (Nat × Value)} {st : List Value} {S : wPS} (hΦ : Hd κ Φ S) {a idx : Nat} {ref host : String} (hO : a ∈ sL S ∧ sK S a = 3) (hlink : (own, idx, ref, "lag", "I", host) ∈ nestF) (hsm : ref = "Plotroom$Mast" ∨ Cond.sameField ref "Plotroom$Mast" "lag" "I" ∈ GA) (hdg : decode cc pc = .ok (.getfield idx, 3)) (kk : Gj κ Φ (pc + 3) lv (.int (sI S 19 a) :: st)) : Gj κ Φ pc lv (.ref a :: st) := by
  obtain ⟨p, l, e, R, s, m, args, below, meth, c, Q, D, cO, e0, A, mc, ms⟩ := κ
  obtain ⟨hx, hb, hml, hown, hts, hK, hG, hR, hlk⟩ := hκ
  intro H locs cells slots ls hF hl
  obtain ⟨k0, hk0, hk1⟩ := wG_Mast cO S hO
  exact va_getN (D := D) (ci := 4) (C := RX3) (T := TX3) (N := 10) hx hb hts inlX3 hown hK (hΦ H locs cells slots hF).1 k0 hk1 rfl 5 (by decide) (va_Nw.use rfl (hG.1 _ hlink)) (fun x9 h9 => hsm.elim (fun z => by rw [z]; exact h9) (fun z => u_same (hts _ z) x9 h9)) rfl hdg (kk H locs cells slots ls hF hl)
theorem gt_Mast_isCut {cc : ByteArray} {nL : Nat} {own : String} {rm : Room} {κ : KX} (hκ : Cx cc nL own rm κ) {Φ : HQ} {pc : Nat} {lv : List (Nat × Value)} {st : List Value} {S : wPS} (hΦ : Hd κ Φ S) {a idx : Nat} {ref : String} (hO : a ∈ sL S ∧ sK S a = 3) (hlink : Cond.fieldLink own idx ref "isCut" "Z" ∈ GA) (hsm : ref = "Plotroom$Mast" ∨ Cond.sameField ref "Plotroom$Mast" "isCut" "Z" ∈ GA) (hdg : decode cc pc = .ok (.getfield idx, 3)) (kk : Gj κ Φ (pc + 3) lv (.int (sI S 20 a) :: st)) : Gj κ Φ pc lv (.ref a :: st) := by
  obtain ⟨p, l, e, R, s, m, args, below, meth, c, Q, D, cO, e0, A, mc, ms⟩ := κ
  obtain ⟨hx, hb, hml, hown, hts, hK, hG, hR, hlk⟩ := hκ
  intro H locs cells slots ls hF hl
  obtain ⟨k0, hk0, hk1⟩ := wG_Mast cO S hO
  exact va_get (D := D) (ci := 4) (C := RX3) (T := TX3) (N := 10) hx hb hts inlX3 hown hK (hΦ H locs cells slots hF).1 k0 hk1 rfl 6 (by decide) (hts _ hlink) (fun x9 h9 => hsm.elim (fun z => by rw [z]; exact h9) (fun z => u_same (hts _ z) x9 h9)) rfl hdg (kk H locs cells slots ls hF hl)
theorem pt_Mast_isCut {cc : ByteArray} {nL : Nat} {own : String} {rm : Room} {κ : KX} (hκ : Cx cc nL own rm κ) {pc : Nat} {lv : List (Nat × Value)} {st : List Value} {S : wPS} {k n : Nat} {a idx : Nat} {ref : String} {v : Int32} (hO : a ∈ sL S ∧ sK S a = 3) (hlink : Cond.fieldLink own idx ref "isCut" "Z" ∈ GA) (hsm : ref = "Plotroom$Mast" ∨ Cond.sameField ref "Plotroom$Mast" "isCut" "Z" ∈ GA) (hv : v = 0 ∨ v = 1)  (hdg : decode cc pc = .ok (.putfield idx, 3)) (kk : Gj κ (PV κ (putI S 20 a v) k n) (pc + 3) lv st) : Gj κ (PV κ S k n) pc lv (.int v :: .ref a :: st) := by
  obtain ⟨p, l, e, R, s, m, args, below, meth, c, Q, D, cO, e0, A, mc, ms⟩ := κ
  obtain ⟨hx, hb, hml, hown, hts, hK, hG, hR, hlk⟩ := hκ
  intro H locs cells slots ls hF hl
  obtain ⟨hP, hD, hS, hc, hs⟩ := hF
  obtain ⟨k0, hk0, hk1⟩ := wG_Mast cO S hO
  have eq9 := wU_Mast_isCut cO S hD hO hk0 v
  refine va_put (D := D) (ci := 4) (v := .int v) (ty := .boolean) (C := RX3) (T := TX3) (N := 10) hx hb hts inlX3 tyX3 tyX3_ok nmX3 hown hK hP hD hS k0 hk1 rfl 6 (by decide) (hts _ hlink) (fun x9 h9 => hsm.elim (fun z => by rw [z]; exact h9) (fun z => u_same (hts _ z) x9 h9)) rfl rfl (by rcases hv with rfl | rfl <;> rfl) (by rcases hv with rfl | rfl <;> rfl) (by decide) hdg (fun H1 locs1 hP1 hD1 hS1 => ?_)
  exact kk H1 locs1 cells slots ls ⟨Eq.mp (congrArg (fun z => va_P D vwCl z H1) eq9) hP1, Eq.mp (congrArg (fun z => va_D A z) eq9) hD1, hS1, hc, hs⟩ hl
theorem gtN_Mast_isCut {cc : ByteArray} {nL : Nat} {own : String} {rm : Room} {κ : KX} (hκ : Cx cc nL own rm κ) {Φ : HQ} {pc : Nat} {lv : List (Nat × Value)} {st : List Value} {S : wPS} (hΦ : Hd κ Φ S) {a idx : Nat} {ref host : String} (hO : a ∈ sL S ∧ sK S a = 3) (hlink : (own, idx, ref, "isCut", "Z", host) ∈ nestF) (hsm : ref = "Plotroom$Mast" ∨ Cond.sameField ref "Plotroom$Mast" "isCut" "Z" ∈ GA) (hdg : decode cc pc = .ok (.getfield idx, 3)) (kk : Gj κ Φ (pc + 3) lv (.int (sI S 20 a) :: st)) : Gj κ Φ pc lv (.ref a :: st) := by
  obtain ⟨p, l, e, R, s, m, args, below, meth, c, Q, D, cO, e0, A, mc, ms⟩ := κ
  obtain ⟨hx, hb, hml, hown, hts, hK, hG, hR, hlk⟩ := hκ
  intro H locs cells slots ls hF hl
  obtain ⟨k0, hk0, hk1⟩ := wG_Mast cO S hO
  exact va_getN (D := D) (ci := 4) (C := RX3) (T := TX3) (N := 10) hx hb hts inlX3 hown hK (hΦ H locs cells slots hF).1 k0 hk1 rfl 6 (by decide) (va_Nw.use rfl (hG.1 _ hlink)) (fun x9 h9 => hsm.elim (fun z => by rw [z]; exact h9) (fun z => u_same (hts _ z) x9 h9)) rfl hdg (kk H locs cells slots ls hF hl)
theorem ptN_Mast_isCut {cc : ByteArray} {nL : Nat} {own : String} {rm : Room} {κ : KX} (hκ : Cx cc nL own rm κ) {pc : Nat} {lv : List (Nat × Value)} {st : List Value} {S : wPS} {k n : Nat} {a idx : Nat} {ref host : String} {v : Int32} (hO : a ∈ sL S ∧ sK S a = 3) (hlink : (own, idx, ref, "isCut", "Z", host) ∈ nestF) (hsm : ref = "Plotroom$Mast" ∨ Cond.sameField ref "Plotroom$Mast" "isCut" "Z" ∈ GA) (hv : v = 0 ∨ v = 1)  (hdg : decode cc pc = .ok (.putfield idx, 3)) (kk : Gj κ (PV κ (putI S 20 a v) k n) (pc + 3) lv st) : Gj κ (PV κ S k n) pc lv (.int v :: .ref a :: st) := by
  obtain ⟨p, l, e, R, s, m, args, below, meth, c, Q, D, cO, e0, A, mc, ms⟩ := κ
  obtain ⟨hx, hb, hml, hown, hts, hK, hG, hR, hlk⟩ := hκ
  intro H locs cells slots ls hF hl
  obtain ⟨hP, hD, hS, hc, hs⟩ := hF
  obtain ⟨k0, hk0, hk1⟩ := wG_Mast cO S hO
  have eq9 := wU_Mast_isCut cO S hD hO hk0 v
  refine va_putN (D := D) (ci := 4) (v := .int v) (ty := .boolean) (C := RX3) (T := TX3) (N := 10) hx hb hts inlX3 tyX3 tyX3_ok nmX3 hown hK hP hD hS k0 hk1 rfl 6 (by decide) (va_Nw.use rfl (hG.1 _ hlink)) (fun x9 h9 => hsm.elim (fun z => by rw [z]; exact h9) (fun z => u_same (hts _ z) x9 h9)) rfl rfl (by rcases hv with rfl | rfl <;> rfl) (by rcases hv with rfl | rfl <;> rfl) (by decide) hdg (fun H1 locs1 hP1 hD1 hS1 => ?_)
  exact kk H1 locs1 cells slots ls ⟨Eq.mp (congrArg (fun z => va_P D vwCl z H1) eq9) hP1, Eq.mp (congrArg (fun z => va_D A z) eq9) hD1, hS1, hc, hs⟩ hl
theorem gt_Mast_made {cc : ByteArray} {nL : Nat} {own : String} {rm : Room} {κ : KX} (hκ : Cx cc nL own rm κ) {Φ : HQ} {pc : Nat} {lv : List (Nat × Value)} {st : List Value} {S : wPS} (hΦ : Hd κ Φ S) {a idx : Nat} {ref : String} (hO : a ∈ sL S ∧ sK S a = 3) (hlink : Cond.fieldLink own idx ref "made" "I" ∈ GA) (hsm : ref = "Plotroom$Mast" ∨ Cond.sameField ref "Plotroom$Mast" "made" "I" ∈ GA) (hdg : decode cc pc = .ok (.getfield idx, 3)) (kk : Gj κ Φ (pc + 3) lv (.int (sI S 21 a) :: st)) : Gj κ Φ pc lv (.ref a :: st) := by
  obtain ⟨p, l, e, R, s, m, args, below, meth, c, Q, D, cO, e0, A, mc, ms⟩ := κ
  obtain ⟨hx, hb, hml, hown, hts, hK, hG, hR, hlk⟩ := hκ
  intro H locs cells slots ls hF hl
  obtain ⟨k0, hk0, hk1⟩ := wG_Mast cO S hO
  exact va_get (D := D) (ci := 4) (C := RX3) (T := TX3) (N := 10) hx hb hts inlX3 hown hK (hΦ H locs cells slots hF).1 k0 hk1 rfl 7 (by decide) (hts _ hlink) (fun x9 h9 => hsm.elim (fun z => by rw [z]; exact h9) (fun z => u_same (hts _ z) x9 h9)) rfl hdg (kk H locs cells slots ls hF hl)
theorem pt_Mast_made {cc : ByteArray} {nL : Nat} {own : String} {rm : Room} {κ : KX} (hκ : Cx cc nL own rm κ) {pc : Nat} {lv : List (Nat × Value)} {st : List Value} {S : wPS} {k n : Nat} {a idx : Nat} {ref : String} {v : Int32} (hO : a ∈ sL S ∧ sK S a = 3) (hlink : Cond.fieldLink own idx ref "made" "I" ∈ GA) (hsm : ref = "Plotroom$Mast" ∨ Cond.sameField ref "Plotroom$Mast" "made" "I" ∈ GA)   (hdg : decode cc pc = .ok (.putfield idx, 3)) (kk : Gj κ (PV κ (putI S 21 a v) k n) (pc + 3) lv st) : Gj κ (PV κ S k n) pc lv (.int v :: .ref a :: st) := by
  obtain ⟨p, l, e, R, s, m, args, below, meth, c, Q, D, cO, e0, A, mc, ms⟩ := κ
  obtain ⟨hx, hb, hml, hown, hts, hK, hG, hR, hlk⟩ := hκ
  intro H locs cells slots ls hF hl
  obtain ⟨hP, hD, hS, hc, hs⟩ := hF
  obtain ⟨k0, hk0, hk1⟩ := wG_Mast cO S hO
  have eq9 := wU_Mast_made cO S hD hO hk0 v
  refine va_put (D := D) (ci := 4) (v := .int v) (ty := .int) (C := RX3) (T := TX3) (N := 10) hx hb hts inlX3 tyX3 tyX3_ok nmX3 hown hK hP hD hS k0 hk1 rfl 7 (by decide) (hts _ hlink) (fun x9 h9 => hsm.elim (fun z => by rw [z]; exact h9) (fun z => u_same (hts _ z) x9 h9)) rfl rfl rfl rfl (by decide) hdg (fun H1 locs1 hP1 hD1 hS1 => ?_)
  exact kk H1 locs1 cells slots ls ⟨Eq.mp (congrArg (fun z => va_P D vwCl z H1) eq9) hP1, Eq.mp (congrArg (fun z => va_D A z) eq9) hD1, hS1, hc, hs⟩ hl
theorem gtN_Mast_made {cc : ByteArray} {nL : Nat} {own : String} {rm : Room} {κ : KX} (hκ : Cx cc nL own rm κ) {Φ : HQ} {pc : Nat} {lv : List (Nat × Value)} {st : List Value} {S : wPS} (hΦ : Hd κ Φ S) {a idx : Nat} {ref host : String} (hO : a ∈ sL S ∧ sK S a = 3) (hlink : (own, idx, ref, "made", "I", host) ∈ nestF) (hsm : ref = "Plotroom$Mast" ∨ Cond.sameField ref "Plotroom$Mast" "made" "I" ∈ GA) (hdg : decode cc pc = .ok (.getfield idx, 3)) (kk : Gj κ Φ (pc + 3) lv (.int (sI S 21 a) :: st)) : Gj κ Φ pc lv (.ref a :: st) := by
  obtain ⟨p, l, e, R, s, m, args, below, meth, c, Q, D, cO, e0, A, mc, ms⟩ := κ
  obtain ⟨hx, hb, hml, hown, hts, hK, hG, hR, hlk⟩ := hκ
  intro H locs cells slots ls hF hl
  obtain ⟨k0, hk0, hk1⟩ := wG_Mast cO S hO
  exact va_getN (D := D) (ci := 4) (C := RX3) (T := TX3) (N := 10) hx hb hts inlX3 hown hK (hΦ H locs cells slots hF).1 k0 hk1 rfl 7 (by decide) (va_Nw.use rfl (hG.1 _ hlink)) (fun x9 h9 => hsm.elim (fun z => by rw [z]; exact h9) (fun z => u_same (hts _ z) x9 h9)) rfl hdg (kk H locs cells slots ls hF hl)
theorem ptN_Mast_made {cc : ByteArray} {nL : Nat} {own : String} {rm : Room} {κ : KX} (hκ : Cx cc nL own rm κ) {pc : Nat} {lv : List (Nat × Value)} {st : List Value} {S : wPS} {k n : Nat} {a idx : Nat} {ref host : String} {v : Int32} (hO : a ∈ sL S ∧ sK S a = 3) (hlink : (own, idx, ref, "made", "I", host) ∈ nestF) (hsm : ref = "Plotroom$Mast" ∨ Cond.sameField ref "Plotroom$Mast" "made" "I" ∈ GA)   (hdg : decode cc pc = .ok (.putfield idx, 3)) (kk : Gj κ (PV κ (putI S 21 a v) k n) (pc + 3) lv st) : Gj κ (PV κ S k n) pc lv (.int v :: .ref a :: st) := by
  obtain ⟨p, l, e, R, s, m, args, below, meth, c, Q, D, cO, e0, A, mc, ms⟩ := κ
  obtain ⟨hx, hb, hml, hown, hts, hK, hG, hR, hlk⟩ := hκ
  intro H locs cells slots ls hF hl
  obtain ⟨hP, hD, hS, hc, hs⟩ := hF
  obtain ⟨k0, hk0, hk1⟩ := wG_Mast cO S hO
  have eq9 := wU_Mast_made cO S hD hO hk0 v
  refine va_putN (D := D) (ci := 4) (v := .int v) (ty := .int) (C := RX3) (T := TX3) (N := 10) hx hb hts inlX3 tyX3 tyX3_ok nmX3 hown hK hP hD hS k0 hk1 rfl 7 (by decide) (va_Nw.use rfl (hG.1 _ hlink)) (fun x9 h9 => hsm.elim (fun z => by rw [z]; exact h9) (fun z => u_same (hts _ z) x9 h9)) rfl rfl rfl rfl (by decide) hdg (fun H1 locs1 hP1 hD1 hS1 => ?_)
  exact kk H1 locs1 cells slots ls ⟨Eq.mp (congrArg (fun z => va_P D vwCl z H1) eq9) hP1, Eq.mp (congrArg (fun z => va_D A z) eq9) hD1, hS1, hc, hs⟩ hl
theorem gt_Mast_came {cc : ByteArray} {nL : Nat} {own : String} {rm : Room} {κ : KX} (hκ : Cx cc nL own rm κ) {Φ : HQ} {pc : Nat} {lv : List (Nat × Value)} {st : List Value} {S : wPS} (hΦ : Hd κ Φ S) {a idx : Nat} {ref : String} (hO : a ∈ sL S ∧ sK S a = 3) (hlink : Cond.fieldLink own idx ref "came" "I" ∈ GA) (hsm : ref = "Plotroom$Mast" ∨ Cond.sameField ref "Plotroom$Mast" "came" "I" ∈ GA) (hdg : decode cc pc = .ok (.getfield idx, 3)) (kk : Gj κ Φ (pc + 3) lv (.int (sI S 22 a) :: st)) : Gj κ Φ pc lv (.ref a :: st) := by
  obtain ⟨p, l, e, R, s, m, args, below, meth, c, Q, D, cO, e0, A, mc, ms⟩ := κ
  obtain ⟨hx, hb, hml, hown, hts, hK, hG, hR, hlk⟩ := hκ
  intro H locs cells slots ls hF hl
  obtain ⟨k0, hk0, hk1⟩ := wG_Mast cO S hO
  exact va_get (D := D) (ci := 4) (C := RX3) (T := TX3) (N := 10) hx hb hts inlX3 hown hK (hΦ H locs cells slots hF).1 k0 hk1 rfl 8 (by decide) (hts _ hlink) (fun x9 h9 => hsm.elim (fun z => by rw [z]; exact h9) (fun z => u_same (hts _ z) x9 h9)) rfl hdg (kk H locs cells slots ls hF hl)
theorem pt_Mast_came {cc : ByteArray} {nL : Nat} {own : String} {rm : Room} {κ : KX} (hκ : Cx cc nL own rm κ) {pc : Nat} {lv : List (Nat × Value)} {st : List Value} {S : wPS} {k n : Nat} {a idx : Nat} {ref : String} {v : Int32} (hO : a ∈ sL S ∧ sK S a = 3) (hlink : Cond.fieldLink own idx ref "came" "I" ∈ GA) (hsm : ref = "Plotroom$Mast" ∨ Cond.sameField ref "Plotroom$Mast" "came" "I" ∈ GA)   (hdg : decode cc pc = .ok (.putfield idx, 3)) (kk : Gj κ (PV κ (putI S 22 a v) k n) (pc + 3) lv st) : Gj κ (PV κ S k n) pc lv (.int v :: .ref a :: st) := by
  obtain ⟨p, l, e, R, s, m, args, below, meth, c, Q, D, cO, e0, A, mc, ms⟩ := κ
  obtain ⟨hx, hb, hml, hown, hts, hK, hG, hR, hlk⟩ := hκ
  intro H locs cells slots ls hF hl
  obtain ⟨hP, hD, hS, hc, hs⟩ := hF
  obtain ⟨k0, hk0, hk1⟩ := wG_Mast cO S hO
  have eq9 := wU_Mast_came cO S hD hO hk0 v
  refine va_put (D := D) (ci := 4) (v := .int v) (ty := .int) (C := RX3) (T := TX3) (N := 10) hx hb hts inlX3 tyX3 tyX3_ok nmX3 hown hK hP hD hS k0 hk1 rfl 8 (by decide) (hts _ hlink) (fun x9 h9 => hsm.elim (fun z => by rw [z]; exact h9) (fun z => u_same (hts _ z) x9 h9)) rfl rfl rfl rfl (by decide) hdg (fun H1 locs1 hP1 hD1 hS1 => ?_)
  exact kk H1 locs1 cells slots ls ⟨Eq.mp (congrArg (fun z => va_P D vwCl z H1) eq9) hP1, Eq.mp (congrArg (fun z => va_D A z) eq9) hD1, hS1, hc, hs⟩ hl
theorem gtN_Mast_came {cc : ByteArray} {nL : Nat} {own : String} {rm : Room} {κ : KX} (hκ : Cx cc nL own rm κ) {Φ : HQ} {pc : Nat} {lv : List (Nat × Value)} {st : List Value} {S : wPS} (hΦ : Hd κ Φ S) {a idx : Nat} {ref host : String} (hO : a ∈ sL S ∧ sK S a = 3) (hlink : (own, idx, ref, "came", "I", host) ∈ nestF) (hsm : ref = "Plotroom$Mast" ∨ Cond.sameField ref "Plotroom$Mast" "came" "I" ∈ GA) (hdg : decode cc pc = .ok (.getfield idx, 3)) (kk : Gj κ Φ (pc + 3) lv (.int (sI S 22 a) :: st)) : Gj κ Φ pc lv (.ref a :: st) := by
  obtain ⟨p, l, e, R, s, m, args, below, meth, c, Q, D, cO, e0, A, mc, ms⟩ := κ
  obtain ⟨hx, hb, hml, hown, hts, hK, hG, hR, hlk⟩ := hκ
  intro H locs cells slots ls hF hl
  obtain ⟨k0, hk0, hk1⟩ := wG_Mast cO S hO
  exact va_getN (D := D) (ci := 4) (C := RX3) (T := TX3) (N := 10) hx hb hts inlX3 hown hK (hΦ H locs cells slots hF).1 k0 hk1 rfl 8 (by decide) (va_Nw.use rfl (hG.1 _ hlink)) (fun x9 h9 => hsm.elim (fun z => by rw [z]; exact h9) (fun z => u_same (hts _ z) x9 h9)) rfl hdg (kk H locs cells slots ls hF hl)
theorem ptN_Mast_came {cc : ByteArray} {nL : Nat} {own : String} {rm : Room} {κ : KX} (hκ : Cx cc nL own rm κ) {pc : Nat} {lv : List (Nat × Value)} {st : List Value} {S : wPS} {k n : Nat} {a idx : Nat} {ref host : String} {v : Int32} (hO : a ∈ sL S ∧ sK S a = 3) (hlink : (own, idx, ref, "came", "I", host) ∈ nestF) (hsm : ref = "Plotroom$Mast" ∨ Cond.sameField ref "Plotroom$Mast" "came" "I" ∈ GA)   (hdg : decode cc pc = .ok (.putfield idx, 3)) (kk : Gj κ (PV κ (putI S 22 a v) k n) (pc + 3) lv st) : Gj κ (PV κ S k n) pc lv (.int v :: .ref a :: st) := by
  obtain ⟨p, l, e, R, s, m, args, below, meth, c, Q, D, cO, e0, A, mc, ms⟩ := κ
  obtain ⟨hx, hb, hml, hown, hts, hK, hG, hR, hlk⟩ := hκ
  intro H locs cells slots ls hF hl
  obtain ⟨hP, hD, hS, hc, hs⟩ := hF
  obtain ⟨k0, hk0, hk1⟩ := wG_Mast cO S hO
  have eq9 := wU_Mast_came cO S hD hO hk0 v
  refine va_putN (D := D) (ci := 4) (v := .int v) (ty := .int) (C := RX3) (T := TX3) (N := 10) hx hb hts inlX3 tyX3 tyX3_ok nmX3 hown hK hP hD hS k0 hk1 rfl 8 (by decide) (va_Nw.use rfl (hG.1 _ hlink)) (fun x9 h9 => hsm.elim (fun z => by rw [z]; exact h9) (fun z => u_same (hts _ z) x9 h9)) rfl rfl rfl rfl (by decide) hdg (fun H1 locs1 hP1 hD1 hS1 => ?_)
  exact kk H1 locs1 cells slots ls ⟨Eq.mp (congrArg (fun z => va_P D vwCl z H1) eq9) hP1, Eq.mp (congrArg (fun z => va_D A z) eq9) hD1, hS1, hc, hs⟩ hl
theorem gt_Mast_lost {cc : ByteArray} {nL : Nat} {own : String} {rm : Room} {κ : KX} (hκ : Cx cc nL own rm κ) {Φ : HQ} {pc : Nat} {lv : List (Nat × Value)} {st : List Value} {S : wPS} (hΦ : Hd κ Φ S) {a idx : Nat} {ref : String} (hO : a ∈ sL S ∧ sK S a = 3) (hlink : Cond.fieldLink own idx ref "lost" "I" ∈ GA) (hsm : ref = "Plotroom$Mast" ∨ Cond.sameField ref "Plotroom$Mast" "lost" "I" ∈ GA) (hdg : decode cc pc = .ok (.getfield idx, 3)) (kk : Gj κ Φ (pc + 3) lv (.int (sI S 23 a) :: st)) : Gj κ Φ pc lv (.ref a :: st) := by
  obtain ⟨p, l, e, R, s, m, args, below, meth, c, Q, D, cO, e0, A, mc, ms⟩ := κ
  obtain ⟨hx, hb, hml, hown, hts, hK, hG, hR, hlk⟩ := hκ
  intro H locs cells slots ls hF hl
  obtain ⟨k0, hk0, hk1⟩ := wG_Mast cO S hO
  exact va_get (D := D) (ci := 4) (C := RX3) (T := TX3) (N := 10) hx hb hts inlX3 hown hK (hΦ H locs cells slots hF).1 k0 hk1 rfl 9 (by decide) (hts _ hlink) (fun x9 h9 => hsm.elim (fun z => by rw [z]; exact h9) (fun z => u_same (hts _ z) x9 h9)) rfl hdg (kk H locs cells slots ls hF hl)
theorem pt_Mast_lost {cc : ByteArray} {nL : Nat} {own : String} {rm : Room} {κ : KX} (hκ : Cx cc nL own rm κ) {pc : Nat} {lv : List (Nat × Value)} {st : List Value} {S : wPS} {k n : Nat} {a idx : Nat} {ref : String} {v : Int32} (hO : a ∈ sL S ∧ sK S a = 3) (hlink : Cond.fieldLink own idx ref "lost" "I" ∈ GA) (hsm : ref = "Plotroom$Mast" ∨ Cond.sameField ref "Plotroom$Mast" "lost" "I" ∈ GA)   (hdg : decode cc pc = .ok (.putfield idx, 3)) (kk : Gj κ (PV κ (putI S 23 a v) k n) (pc + 3) lv st) : Gj κ (PV κ S k n) pc lv (.int v :: .ref a :: st) := by
  obtain ⟨p, l, e, R, s, m, args, below, meth, c, Q, D, cO, e0, A, mc, ms⟩ := κ
  obtain ⟨hx, hb, hml, hown, hts, hK, hG, hR, hlk⟩ := hκ
  intro H locs cells slots ls hF hl
  obtain ⟨hP, hD, hS, hc, hs⟩ := hF
  obtain ⟨k0, hk0, hk1⟩ := wG_Mast cO S hO
  have eq9 := wU_Mast_lost cO S hD hO hk0 v
  refine va_put (D := D) (ci := 4) (v := .int v) (ty := .int) (C := RX3) (T := TX3) (N := 10) hx hb hts inlX3 tyX3 tyX3_ok nmX3 hown hK hP hD hS k0 hk1 rfl 9 (by decide) (hts _ hlink) (fun x9 h9 => hsm.elim (fun z => by rw [z]; exact h9) (fun z => u_same (hts _ z) x9 h9)) rfl rfl rfl rfl (by decide) hdg (fun H1 locs1 hP1 hD1 hS1 => ?_)
  exact kk H1 locs1 cells slots ls ⟨Eq.mp (congrArg (fun z => va_P D vwCl z H1) eq9) hP1, Eq.mp (congrArg (fun z => va_D A z) eq9) hD1, hS1, hc, hs⟩ hl
theorem gtN_Mast_lost {cc : ByteArray} {nL : Nat} {own : String} {rm : Room} {κ : KX} (hκ : Cx cc nL own rm κ) {Φ : HQ} {pc : Nat} {lv : List (Nat × Value)} {st : List Value} {S : wPS} (hΦ : Hd κ Φ S) {a idx : Nat} {ref host : String} (hO : a ∈ sL S ∧ sK S a = 3) (hlink : (own, idx, ref, "lost", "I", host) ∈ nestF) (hsm : ref = "Plotroom$Mast" ∨ Cond.sameField ref "Plotroom$Mast" "lost" "I" ∈ GA) (hdg : decode cc pc = .ok (.getfield idx, 3)) (kk : Gj κ Φ (pc + 3) lv (.int (sI S 23 a) :: st)) : Gj κ Φ pc lv (.ref a :: st) := by
  obtain ⟨p, l, e, R, s, m, args, below, meth, c, Q, D, cO, e0, A, mc, ms⟩ := κ
  obtain ⟨hx, hb, hml, hown, hts, hK, hG, hR, hlk⟩ := hκ
  intro H locs cells slots ls hF hl
  obtain ⟨k0, hk0, hk1⟩ := wG_Mast cO S hO
  exact va_getN (D := D) (ci := 4) (C := RX3) (T := TX3) (N := 10) hx hb hts inlX3 hown hK (hΦ H locs cells slots hF).1 k0 hk1 rfl 9 (by decide) (va_Nw.use rfl (hG.1 _ hlink)) (fun x9 h9 => hsm.elim (fun z => by rw [z]; exact h9) (fun z => u_same (hts _ z) x9 h9)) rfl hdg (kk H locs cells slots ls hF hl)
theorem ptN_Mast_lost {cc : ByteArray} {nL : Nat} {own : String} {rm : Room} {κ : KX} (hκ : Cx cc nL own rm κ) {pc : Nat} {lv : List (Nat × Value)} {st : List Value} {S : wPS} {k n : Nat} {a idx : Nat} {ref host : String} {v : Int32} (hO : a ∈ sL S ∧ sK S a = 3) (hlink : (own, idx, ref, "lost", "I", host) ∈ nestF) (hsm : ref = "Plotroom$Mast" ∨ Cond.sameField ref "Plotroom$Mast" "lost" "I" ∈ GA)   (hdg : decode cc pc = .ok (.putfield idx, 3)) (kk : Gj κ (PV κ (putI S 23 a v) k n) (pc + 3) lv st) : Gj κ (PV κ S k n) pc lv (.int v :: .ref a :: st) := by
  obtain ⟨p, l, e, R, s, m, args, below, meth, c, Q, D, cO, e0, A, mc, ms⟩ := κ
  obtain ⟨hx, hb, hml, hown, hts, hK, hG, hR, hlk⟩ := hκ
  intro H locs cells slots ls hF hl
  obtain ⟨hP, hD, hS, hc, hs⟩ := hF
  obtain ⟨k0, hk0, hk1⟩ := wG_Mast cO S hO
  have eq9 := wU_Mast_lost cO S hD hO hk0 v
  refine va_putN (D := D) (ci := 4) (v := .int v) (ty := .int) (C := RX3) (T := TX3) (N := 10) hx hb hts inlX3 tyX3 tyX3_ok nmX3 hown hK hP hD hS k0 hk1 rfl 9 (by decide) (va_Nw.use rfl (hG.1 _ hlink)) (fun x9 h9 => hsm.elim (fun z => by rw [z]; exact h9) (fun z => u_same (hts _ z) x9 h9)) rfl rfl rfl rfl (by decide) hdg (fun H1 locs1 hP1 hD1 hS1 => ?_)
  exact kk H1 locs1 cells slots ls ⟨Eq.mp (congrArg (fun z => va_P D vwCl z H1) eq9) hP1, Eq.mp (congrArg (fun z => va_D A z) eq9) hD1, hS1, hc, hs⟩ hl
theorem gt_Place_x {cc : ByteArray} {nL : Nat} {own : String} {rm : Room} {κ : KX} (hκ : Cx cc nL own rm κ) {Φ : HQ} {pc : Nat} {lv : List (Nat × Value)} {st : List Value} {S : wPS} (hΦ : Hd κ Φ S) {a idx : Nat} {ref : String} (hO : a ∈ sL S ∧ sK S a = 4) (hlink : Cond.fieldLink own idx ref "x" "I" ∈ GA) (hsm : ref = "Plotroom$Place" ∨ Cond.sameField ref "Plotroom$Place" "x" "I" ∈ GA) (hdg : decode cc pc = .ok (.getfield idx, 3)) (kk : Gj κ Φ (pc + 3) lv (.int (sI S 24 a) :: st)) : Gj κ Φ pc lv (.ref a :: st) := by
  obtain ⟨p, l, e, R, s, m, args, below, meth, c, Q, D, cO, e0, A, mc, ms⟩ := κ
  obtain ⟨hx, hb, hml, hown, hts, hK, hG, hR, hlk⟩ := hκ
  intro H locs cells slots ls hF hl
  obtain ⟨k0, hk0, hk1⟩ := wG_Place cO S hO
  exact va_get (D := D) (ci := 5) (C := RX4) (T := TX4) (N := 2) hx hb hts inlX4 hown hK (hΦ H locs cells slots hF).1 k0 hk1 rfl 0 (by decide) (hts _ hlink) (fun x9 h9 => hsm.elim (fun z => by rw [z]; exact h9) (fun z => u_same (hts _ z) x9 h9)) rfl hdg (kk H locs cells slots ls hF hl)
theorem pt_Place_x {cc : ByteArray} {nL : Nat} {own : String} {rm : Room} {κ : KX} (hκ : Cx cc nL own rm κ) {pc : Nat} {lv : List (Nat × Value)} {st : List Value} {S : wPS} {k n : Nat} {a idx : Nat} {ref : String} {v : Int32} (hO : a ∈ sL S ∧ sK S a = 4) (hlink : Cond.fieldLink own idx ref "x" "I" ∈ GA) (hsm : ref = "Plotroom$Place" ∨ Cond.sameField ref "Plotroom$Place" "x" "I" ∈ GA)   (hdg : decode cc pc = .ok (.putfield idx, 3)) (kk : Gj κ (PV κ (putI S 24 a v) k n) (pc + 3) lv st) : Gj κ (PV κ S k n) pc lv (.int v :: .ref a :: st) := by
  obtain ⟨p, l, e, R, s, m, args, below, meth, c, Q, D, cO, e0, A, mc, ms⟩ := κ
  obtain ⟨hx, hb, hml, hown, hts, hK, hG, hR, hlk⟩ := hκ
  intro H locs cells slots ls hF hl
  obtain ⟨hP, hD, hS, hc, hs⟩ := hF
  obtain ⟨k0, hk0, hk1⟩ := wG_Place cO S hO
  have eq9 := wU_Place_x cO S hD hO hk0 v
  refine va_put (D := D) (ci := 5) (v := .int v) (ty := .int) (C := RX4) (T := TX4) (N := 2) hx hb hts inlX4 tyX4 tyX4_ok nmX4 hown hK hP hD hS k0 hk1 rfl 0 (by decide) (hts _ hlink) (fun x9 h9 => hsm.elim (fun z => by rw [z]; exact h9) (fun z => u_same (hts _ z) x9 h9)) rfl rfl rfl rfl (by decide) hdg (fun H1 locs1 hP1 hD1 hS1 => ?_)
  exact kk H1 locs1 cells slots ls ⟨Eq.mp (congrArg (fun z => va_P D vwCl z H1) eq9) hP1, Eq.mp (congrArg (fun z => va_D A z) eq9) hD1, hS1, hc, hs⟩ hl
theorem gtN_Place_x {cc : ByteArray} {nL : Nat} {own : String} {rm : Room} {κ : KX} (hκ : Cx cc nL own rm κ) {Φ : HQ} {pc : Nat} {lv : List (Nat × Value)} {st : List Value} {S : wPS} (hΦ : Hd κ Φ S) {a idx : Nat} {ref host : String} (hO : a ∈ sL S ∧ sK S a = 4) (hlink : (own, idx, ref, "x", "I", host) ∈ nestF) (hsm : ref = "Plotroom$Place" ∨ Cond.sameField ref "Plotroom$Place" "x" "I" ∈ GA) (hdg : decode cc pc = .ok (.getfield idx, 3)) (kk : Gj κ Φ (pc + 3) lv (.int (sI S 24 a) :: st)) : Gj κ Φ pc lv (.ref a :: st) := by
  obtain ⟨p, l, e, R, s, m, args, below, meth, c, Q, D, cO, e0, A, mc, ms⟩ := κ
  obtain ⟨hx, hb, hml, hown, hts, hK, hG, hR, hlk⟩ := hκ
  intro H locs cells slots ls hF hl
  obtain ⟨k0, hk0, hk1⟩ := wG_Place cO S hO
  exact va_getN (D := D) (ci := 5) (C := RX4) (T := TX4) (N := 2) hx hb hts inlX4 hown hK (hΦ H locs cells slots hF).1 k0 hk1 rfl 0 (by decide) (va_Nw.use rfl (hG.1 _ hlink)) (fun x9 h9 => hsm.elim (fun z => by rw [z]; exact h9) (fun z => u_same (hts _ z) x9 h9)) rfl hdg (kk H locs cells slots ls hF hl)
theorem ptN_Place_x {cc : ByteArray} {nL : Nat} {own : String} {rm : Room} {κ : KX} (hκ : Cx cc nL own rm κ) {pc : Nat} {lv : List (Nat × Value)} {st : List Value} {S : wPS} {k n : Nat} {a idx : Nat} {ref host : String} {v : Int32} (hO : a ∈ sL S ∧ sK S a = 4) (hlink : (own, idx, ref, "x", "I", host) ∈ nestF) (hsm : ref = "Plotroom$Place" ∨ Cond.sameField ref "Plotroom$Place" "x" "I" ∈ GA)   (hdg : decode cc pc = .ok (.putfield idx, 3)) (kk : Gj κ (PV κ (putI S 24 a v) k n) (pc + 3) lv st) : Gj κ (PV κ S k n) pc lv (.int v :: .ref a :: st) := by
  obtain ⟨p, l, e, R, s, m, args, below, meth, c, Q, D, cO, e0, A, mc, ms⟩ := κ
  obtain ⟨hx, hb, hml, hown, hts, hK, hG, hR, hlk⟩ := hκ
  intro H locs cells slots ls hF hl
  obtain ⟨hP, hD, hS, hc, hs⟩ := hF
  obtain ⟨k0, hk0, hk1⟩ := wG_Place cO S hO
  have eq9 := wU_Place_x cO S hD hO hk0 v
  refine va_putN (D := D) (ci := 5) (v := .int v) (ty := .int) (C := RX4) (T := TX4) (N := 2) hx hb hts inlX4 tyX4 tyX4_ok nmX4 hown hK hP hD hS k0 hk1 rfl 0 (by decide) (va_Nw.use rfl (hG.1 _ hlink)) (fun x9 h9 => hsm.elim (fun z => by rw [z]; exact h9) (fun z => u_same (hts _ z) x9 h9)) rfl rfl rfl rfl (by decide) hdg (fun H1 locs1 hP1 hD1 hS1 => ?_)
  exact kk H1 locs1 cells slots ls ⟨Eq.mp (congrArg (fun z => va_P D vwCl z H1) eq9) hP1, Eq.mp (congrArg (fun z => va_D A z) eq9) hD1, hS1, hc, hs⟩ hl
theorem gt_Place_y {cc : ByteArray} {nL : Nat} {own : String} {rm : Room} {κ : KX} (hκ : Cx cc nL own rm κ) {Φ : HQ} {pc : Nat} {lv : List (Nat × Value)} {st : List Value} {S : wPS} (hΦ : Hd κ Φ S) {a idx : Nat} {ref : String} (hO : a ∈ sL S ∧ sK S a = 4) (hlink : Cond.fieldLink own idx ref "y" "I" ∈ GA) (hsm : ref = "Plotroom$Place" ∨ Cond.sameField ref "Plotroom$Place" "y" "I" ∈ GA) (hdg : decode cc pc = .ok (.getfield idx, 3)) (kk : Gj κ Φ (pc + 3) lv (.int (sI S 25 a) :: st)) : Gj κ Φ pc lv (.ref a :: st) := by
  obtain ⟨p, l, e, R, s, m, args, below, meth, c, Q, D, cO, e0, A, mc, ms⟩ := κ
  obtain ⟨hx, hb, hml, hown, hts, hK, hG, hR, hlk⟩ := hκ
  intro H locs cells slots ls hF hl
  obtain ⟨k0, hk0, hk1⟩ := wG_Place cO S hO
  exact va_get (D := D) (ci := 5) (C := RX4) (T := TX4) (N := 2) hx hb hts inlX4 hown hK (hΦ H locs cells slots hF).1 k0 hk1 rfl 1 (by decide) (hts _ hlink) (fun x9 h9 => hsm.elim (fun z => by rw [z]; exact h9) (fun z => u_same (hts _ z) x9 h9)) rfl hdg (kk H locs cells slots ls hF hl)
theorem pt_Place_y {cc : ByteArray} {nL : Nat} {own : String} {rm : Room} {κ : KX} (hκ : Cx cc nL own rm κ) {pc : Nat} {lv : List (Nat × Value)} {st : List Value} {S : wPS} {k n : Nat} {a idx : Nat} {ref : String} {v : Int32} (hO : a ∈ sL S ∧ sK S a = 4) (hlink : Cond.fieldLink own idx ref "y" "I" ∈ GA) (hsm : ref = "Plotroom$Place" ∨ Cond.sameField ref "Plotroom$Place" "y" "I" ∈ GA)   (hdg : decode cc pc = .ok (.putfield idx, 3)) (kk : Gj κ (PV κ (putI S 25 a v) k n) (pc + 3) lv st) : Gj κ (PV κ S k n) pc lv (.int v :: .ref a :: st) := by
  obtain ⟨p, l, e, R, s, m, args, below, meth, c, Q, D, cO, e0, A, mc, ms⟩ := κ
  obtain ⟨hx, hb, hml, hown, hts, hK, hG, hR, hlk⟩ := hκ
  intro H locs cells slots ls hF hl
  obtain ⟨hP, hD, hS, hc, hs⟩ := hF
  obtain ⟨k0, hk0, hk1⟩ := wG_Place cO S hO
  have eq9 := wU_Place_y cO S hD hO hk0 v
  refine va_put (D := D) (ci := 5) (v := .int v) (ty := .int) (C := RX4) (T := TX4) (N := 2) hx hb hts inlX4 tyX4 tyX4_ok nmX4 hown hK hP hD hS k0 hk1 rfl 1 (by decide) (hts _ hlink) (fun x9 h9 => hsm.elim (fun z => by rw [z]; exact h9) (fun z => u_same (hts _ z) x9 h9)) rfl rfl rfl rfl (by decide) hdg (fun H1 locs1 hP1 hD1 hS1 => ?_)
  exact kk H1 locs1 cells slots ls ⟨Eq.mp (congrArg (fun z => va_P D vwCl z H1) eq9) hP1, Eq.mp (congrArg (fun z => va_D A z) eq9) hD1, hS1, hc, hs⟩ hl
theorem gtN_Place_y {cc : ByteArray} {nL : Nat} {own : String} {rm : Room} {κ : KX} (hκ : Cx cc nL own rm κ) {Φ : HQ} {pc : Nat} {lv : List (Nat × Value)} {st : List Value} {S : wPS} (hΦ : Hd κ Φ S) {a idx : Nat} {ref host : String} (hO : a ∈ sL S ∧ sK S a = 4) (hlink : (own, idx, ref, "y", "I", host) ∈ nestF) (hsm : ref = "Plotroom$Place" ∨ Cond.sameField ref "Plotroom$Place" "y" "I" ∈ GA) (hdg : decode cc pc = .ok (.getfield idx, 3)) (kk : Gj κ Φ (pc + 3) lv (.int (sI S 25 a) :: st)) : Gj κ Φ pc lv (.ref a :: st) := by
  obtain ⟨p, l, e, R, s, m, args, below, meth, c, Q, D, cO, e0, A, mc, ms⟩ := κ
  obtain ⟨hx, hb, hml, hown, hts, hK, hG, hR, hlk⟩ := hκ
  intro H locs cells slots ls hF hl
  obtain ⟨k0, hk0, hk1⟩ := wG_Place cO S hO
  exact va_getN (D := D) (ci := 5) (C := RX4) (T := TX4) (N := 2) hx hb hts inlX4 hown hK (hΦ H locs cells slots hF).1 k0 hk1 rfl 1 (by decide) (va_Nw.use rfl (hG.1 _ hlink)) (fun x9 h9 => hsm.elim (fun z => by rw [z]; exact h9) (fun z => u_same (hts _ z) x9 h9)) rfl hdg (kk H locs cells slots ls hF hl)
theorem ptN_Place_y {cc : ByteArray} {nL : Nat} {own : String} {rm : Room} {κ : KX} (hκ : Cx cc nL own rm κ) {pc : Nat} {lv : List (Nat × Value)} {st : List Value} {S : wPS} {k n : Nat} {a idx : Nat} {ref host : String} {v : Int32} (hO : a ∈ sL S ∧ sK S a = 4) (hlink : (own, idx, ref, "y", "I", host) ∈ nestF) (hsm : ref = "Plotroom$Place" ∨ Cond.sameField ref "Plotroom$Place" "y" "I" ∈ GA)   (hdg : decode cc pc = .ok (.putfield idx, 3)) (kk : Gj κ (PV κ (putI S 25 a v) k n) (pc + 3) lv st) : Gj κ (PV κ S k n) pc lv (.int v :: .ref a :: st) := by
  obtain ⟨p, l, e, R, s, m, args, below, meth, c, Q, D, cO, e0, A, mc, ms⟩ := κ
  obtain ⟨hx, hb, hml, hown, hts, hK, hG, hR, hlk⟩ := hκ
  intro H locs cells slots ls hF hl
  obtain ⟨hP, hD, hS, hc, hs⟩ := hF
  obtain ⟨k0, hk0, hk1⟩ := wG_Place cO S hO
  have eq9 := wU_Place_y cO S hD hO hk0 v
  refine va_putN (D := D) (ci := 5) (v := .int v) (ty := .int) (C := RX4) (T := TX4) (N := 2) hx hb hts inlX4 tyX4 tyX4_ok nmX4 hown hK hP hD hS k0 hk1 rfl 1 (by decide) (va_Nw.use rfl (hG.1 _ hlink)) (fun x9 h9 => hsm.elim (fun z => by rw [z]; exact h9) (fun z => u_same (hts _ z) x9 h9)) rfl rfl rfl rfl (by decide) hdg (fun H1 locs1 hP1 hD1 hS1 => ?_)
  exact kk H1 locs1 cells slots ls ⟨Eq.mp (congrArg (fun z => va_P D vwCl z H1) eq9) hP1, Eq.mp (congrArg (fun z => va_D A z) eq9) hD1, hS1, hc, hs⟩ hl
theorem gt_Plot_x {cc : ByteArray} {nL : Nat} {own : String} {rm : Room} {κ : KX} (hκ : Cx cc nL own rm κ) {Φ : HQ} {pc : Nat} {lv : List (Nat × Value)} {st : List Value} {S : wPS} (hΦ : Hd κ Φ S) {a idx : Nat} {ref : String} (hO : a ∈ sL S ∧ sK S a = 5) (hlink : Cond.fieldLink own idx ref "x" "I" ∈ GA) (hsm : ref = "Plotroom$Place" ∨ Cond.sameField ref "Plotroom$Place" "x" "I" ∈ GA) (hdg : decode cc pc = .ok (.getfield idx, 3)) (kk : Gj κ Φ (pc + 3) lv (.int (sI S 26 a) :: st)) : Gj κ Φ pc lv (.ref a :: st) := by
  obtain ⟨p, l, e, R, s, m, args, below, meth, c, Q, D, cO, e0, A, mc, ms⟩ := κ
  obtain ⟨hx, hb, hml, hown, hts, hK, hG, hR, hlk⟩ := hκ
  intro H locs cells slots ls hF hl
  obtain ⟨k0, hk0, hk1⟩ := wG_Plot cO S hO
  exact va_get (D := D) (ci := 6) (C := RX6) (T := TX6) (N := 6) hx hb hts inlX6 hown hK (hΦ H locs cells slots hF).1 k0 hk1 rfl 0 (by decide) (hts _ hlink) (fun x9 h9 => hsm.elim (fun z => by rw [z]; exact h9) (fun z => u_same (hts _ z) x9 h9)) rfl hdg (kk H locs cells slots ls hF hl)
theorem pt_Plot_x {cc : ByteArray} {nL : Nat} {own : String} {rm : Room} {κ : KX} (hκ : Cx cc nL own rm κ) {pc : Nat} {lv : List (Nat × Value)} {st : List Value} {S : wPS} {k n : Nat} {a idx : Nat} {ref : String} {v : Int32} (hO : a ∈ sL S ∧ sK S a = 5) (hlink : Cond.fieldLink own idx ref "x" "I" ∈ GA) (hsm : ref = "Plotroom$Place" ∨ Cond.sameField ref "Plotroom$Place" "x" "I" ∈ GA)   (hdg : decode cc pc = .ok (.putfield idx, 3)) (kk : Gj κ (PV κ (putI S 26 a v) k n) (pc + 3) lv st) : Gj κ (PV κ S k n) pc lv (.int v :: .ref a :: st) := by
  obtain ⟨p, l, e, R, s, m, args, below, meth, c, Q, D, cO, e0, A, mc, ms⟩ := κ
  obtain ⟨hx, hb, hml, hown, hts, hK, hG, hR, hlk⟩ := hκ
  intro H locs cells slots ls hF hl
  obtain ⟨hP, hD, hS, hc, hs⟩ := hF
  obtain ⟨k0, hk0, hk1⟩ := wG_Plot cO S hO
  have eq9 := wU_Plot_x cO S hD hO hk0 v
  refine va_put (D := D) (ci := 6) (v := .int v) (ty := .int) (C := RX6) (T := TX6) (N := 6) hx hb hts inlX6 tyX6 tyX6_ok nmX6 hown hK hP hD hS k0 hk1 rfl 0 (by decide) (hts _ hlink) (fun x9 h9 => hsm.elim (fun z => by rw [z]; exact h9) (fun z => u_same (hts _ z) x9 h9)) rfl rfl rfl rfl (by decide) hdg (fun H1 locs1 hP1 hD1 hS1 => ?_)
  exact kk H1 locs1 cells slots ls ⟨Eq.mp (congrArg (fun z => va_P D vwCl z H1) eq9) hP1, Eq.mp (congrArg (fun z => va_D A z) eq9) hD1, hS1, hc, hs⟩ hl
theorem gtN_Plot_x {cc : ByteArray} {nL : Nat} {own : String} {rm : Room} {κ : KX} (hκ : Cx cc nL own rm κ) {Φ : HQ} {pc : Nat} {lv : List (Nat × Value)} {st : List Value} {S : wPS} (hΦ : Hd κ Φ S) {a idx : Nat} {ref host : String} (hO : a ∈ sL S ∧ sK S a = 5) (hlink : (own, idx, ref, "x", "I", host) ∈ nestF) (hsm : ref = "Plotroom$Place" ∨ Cond.sameField ref "Plotroom$Place" "x" "I" ∈ GA) (hdg : decode cc pc = .ok (.getfield idx, 3)) (kk : Gj κ Φ (pc + 3) lv (.int (sI S 26 a) :: st)) : Gj κ Φ pc lv (.ref a :: st) := by
  obtain ⟨p, l, e, R, s, m, args, below, meth, c, Q, D, cO, e0, A, mc, ms⟩ := κ
  obtain ⟨hx, hb, hml, hown, hts, hK, hG, hR, hlk⟩ := hκ
  intro H locs cells slots ls hF hl
  obtain ⟨k0, hk0, hk1⟩ := wG_Plot cO S hO
  exact va_getN (D := D) (ci := 6) (C := RX6) (T := TX6) (N := 6) hx hb hts inlX6 hown hK (hΦ H locs cells slots hF).1 k0 hk1 rfl 0 (by decide) (va_Nw.use rfl (hG.1 _ hlink)) (fun x9 h9 => hsm.elim (fun z => by rw [z]; exact h9) (fun z => u_same (hts _ z) x9 h9)) rfl hdg (kk H locs cells slots ls hF hl)
theorem ptN_Plot_x {cc : ByteArray} {nL : Nat} {own : String} {rm : Room} {κ : KX} (hκ : Cx cc nL own rm κ) {pc : Nat} {lv : List (Nat × Value)} {st : List Value} {S : wPS} {k n : Nat} {a idx : Nat} {ref host : String} {v : Int32} (hO : a ∈ sL S ∧ sK S a = 5) (hlink : (own, idx, ref, "x", "I", host) ∈ nestF) (hsm : ref = "Plotroom$Place" ∨ Cond.sameField ref "Plotroom$Place" "x" "I" ∈ GA)   (hdg : decode cc pc = .ok (.putfield idx, 3)) (kk : Gj κ (PV κ (putI S 26 a v) k n) (pc + 3) lv st) : Gj κ (PV κ S k n) pc lv (.int v :: .ref a :: st) := by
  obtain ⟨p, l, e, R, s, m, args, below, meth, c, Q, D, cO, e0, A, mc, ms⟩ := κ
  obtain ⟨hx, hb, hml, hown, hts, hK, hG, hR, hlk⟩ := hκ
  intro H locs cells slots ls hF hl
  obtain ⟨hP, hD, hS, hc, hs⟩ := hF
  obtain ⟨k0, hk0, hk1⟩ := wG_Plot cO S hO
  have eq9 := wU_Plot_x cO S hD hO hk0 v
  refine va_putN (D := D) (ci := 6) (v := .int v) (ty := .int) (C := RX6) (T := TX6) (N := 6) hx hb hts inlX6 tyX6 tyX6_ok nmX6 hown hK hP hD hS k0 hk1 rfl 0 (by decide) (va_Nw.use rfl (hG.1 _ hlink)) (fun x9 h9 => hsm.elim (fun z => by rw [z]; exact h9) (fun z => u_same (hts _ z) x9 h9)) rfl rfl rfl rfl (by decide) hdg (fun H1 locs1 hP1 hD1 hS1 => ?_)
  exact kk H1 locs1 cells slots ls ⟨Eq.mp (congrArg (fun z => va_P D vwCl z H1) eq9) hP1, Eq.mp (congrArg (fun z => va_D A z) eq9) hD1, hS1, hc, hs⟩ hl
theorem gt_Plot_y {cc : ByteArray} {nL : Nat} {own : String} {rm : Room} {κ : KX} (hκ : Cx cc nL own rm κ) {Φ : HQ} {pc : Nat} {lv : List (Nat × Value)} {st : List Value} {S : wPS} (hΦ : Hd κ Φ S) {a idx : Nat} {ref : String} (hO : a ∈ sL S ∧ sK S a = 5) (hlink : Cond.fieldLink own idx ref "y" "I" ∈ GA) (hsm : ref = "Plotroom$Place" ∨ Cond.sameField ref "Plotroom$Place" "y" "I" ∈ GA) (hdg : decode cc pc = .ok (.getfield idx, 3)) (kk : Gj κ Φ (pc + 3) lv (.int (sI S 27 a) :: st)) : Gj κ Φ pc lv (.ref a :: st) := by
  obtain ⟨p, l, e, R, s, m, args, below, meth, c, Q, D, cO, e0, A, mc, ms⟩ := κ
  obtain ⟨hx, hb, hml, hown, hts, hK, hG, hR, hlk⟩ := hκ
  intro H locs cells slots ls hF hl
  obtain ⟨k0, hk0, hk1⟩ := wG_Plot cO S hO
  exact va_get (D := D) (ci := 6) (C := RX6) (T := TX6) (N := 6) hx hb hts inlX6 hown hK (hΦ H locs cells slots hF).1 k0 hk1 rfl 1 (by decide) (hts _ hlink) (fun x9 h9 => hsm.elim (fun z => by rw [z]; exact h9) (fun z => u_same (hts _ z) x9 h9)) rfl hdg (kk H locs cells slots ls hF hl)
theorem pt_Plot_y {cc : ByteArray} {nL : Nat} {own : String} {rm : Room} {κ : KX} (hκ : Cx cc nL own rm κ) {pc : Nat} {lv : List (Nat × Value)} {st : List Value} {S : wPS} {k n : Nat} {a idx : Nat} {ref : String} {v : Int32} (hO : a ∈ sL S ∧ sK S a = 5) (hlink : Cond.fieldLink own idx ref "y" "I" ∈ GA) (hsm : ref = "Plotroom$Place" ∨ Cond.sameField ref "Plotroom$Place" "y" "I" ∈ GA)   (hdg : decode cc pc = .ok (.putfield idx, 3)) (kk : Gj κ (PV κ (putI S 27 a v) k n) (pc + 3) lv st) : Gj κ (PV κ S k n) pc lv (.int v :: .ref a :: st) := by
  obtain ⟨p, l, e, R, s, m, args, below, meth, c, Q, D, cO, e0, A, mc, ms⟩ := κ
  obtain ⟨hx, hb, hml, hown, hts, hK, hG, hR, hlk⟩ := hκ
  intro H locs cells slots ls hF hl
  obtain ⟨hP, hD, hS, hc, hs⟩ := hF
  obtain ⟨k0, hk0, hk1⟩ := wG_Plot cO S hO
  have eq9 := wU_Plot_y cO S hD hO hk0 v
  refine va_put (D := D) (ci := 6) (v := .int v) (ty := .int) (C := RX6) (T := TX6) (N := 6) hx hb hts inlX6 tyX6 tyX6_ok nmX6 hown hK hP hD hS k0 hk1 rfl 1 (by decide) (hts _ hlink) (fun x9 h9 => hsm.elim (fun z => by rw [z]; exact h9) (fun z => u_same (hts _ z) x9 h9)) rfl rfl rfl rfl (by decide) hdg (fun H1 locs1 hP1 hD1 hS1 => ?_)
  exact kk H1 locs1 cells slots ls ⟨Eq.mp (congrArg (fun z => va_P D vwCl z H1) eq9) hP1, Eq.mp (congrArg (fun z => va_D A z) eq9) hD1, hS1, hc, hs⟩ hl
theorem gtN_Plot_y {cc : ByteArray} {nL : Nat} {own : String} {rm : Room} {κ : KX} (hκ : Cx cc nL own rm κ) {Φ : HQ} {pc : Nat} {lv : List (Nat × Value)} {st : List Value} {S : wPS} (hΦ : Hd κ Φ S) {a idx : Nat} {ref host : String} (hO : a ∈ sL S ∧ sK S a = 5) (hlink : (own, idx, ref, "y", "I", host) ∈ nestF) (hsm : ref = "Plotroom$Place" ∨ Cond.sameField ref "Plotroom$Place" "y" "I" ∈ GA) (hdg : decode cc pc = .ok (.getfield idx, 3)) (kk : Gj κ Φ (pc + 3) lv (.int (sI S 27 a) :: st)) : Gj κ Φ pc lv (.ref a :: st) := by
  obtain ⟨p, l, e, R, s, m, args, below, meth, c, Q, D, cO, e0, A, mc, ms⟩ := κ
  obtain ⟨hx, hb, hml, hown, hts, hK, hG, hR, hlk⟩ := hκ
  intro H locs cells slots ls hF hl
  obtain ⟨k0, hk0, hk1⟩ := wG_Plot cO S hO
  exact va_getN (D := D) (ci := 6) (C := RX6) (T := TX6) (N := 6) hx hb hts inlX6 hown hK (hΦ H locs cells slots hF).1 k0 hk1 rfl 1 (by decide) (va_Nw.use rfl (hG.1 _ hlink)) (fun x9 h9 => hsm.elim (fun z => by rw [z]; exact h9) (fun z => u_same (hts _ z) x9 h9)) rfl hdg (kk H locs cells slots ls hF hl)
theorem ptN_Plot_y {cc : ByteArray} {nL : Nat} {own : String} {rm : Room} {κ : KX} (hκ : Cx cc nL own rm κ) {pc : Nat} {lv : List (Nat × Value)} {st : List Value} {S : wPS} {k n : Nat} {a idx : Nat} {ref host : String} {v : Int32} (hO : a ∈ sL S ∧ sK S a = 5) (hlink : (own, idx, ref, "y", "I", host) ∈ nestF) (hsm : ref = "Plotroom$Place" ∨ Cond.sameField ref "Plotroom$Place" "y" "I" ∈ GA)   (hdg : decode cc pc = .ok (.putfield idx, 3)) (kk : Gj κ (PV κ (putI S 27 a v) k n) (pc + 3) lv st) : Gj κ (PV κ S k n) pc lv (.int v :: .ref a :: st) := by
  obtain ⟨p, l, e, R, s, m, args, below, meth, c, Q, D, cO, e0, A, mc, ms⟩ := κ
  obtain ⟨hx, hb, hml, hown, hts, hK, hG, hR, hlk⟩ := hκ
  intro H locs cells slots ls hF hl
  obtain ⟨hP, hD, hS, hc, hs⟩ := hF
  obtain ⟨k0, hk0, hk1⟩ := wG_Plot cO S hO
  have eq9 := wU_Plot_y cO S hD hO hk0 v
  refine va_putN (D := D) (ci := 6) (v := .int v) (ty := .int) (C := RX6) (T := TX6) (N := 6) hx hb hts inlX6 tyX6 tyX6_ok nmX6 hown hK hP hD hS k0 hk1 rfl 1 (by decide) (va_Nw.use rfl (hG.1 _ hlink)) (fun x9 h9 => hsm.elim (fun z => by rw [z]; exact h9) (fun z => u_same (hts _ z) x9 h9)) rfl rfl rfl rfl (by decide) hdg (fun H1 locs1 hP1 hD1 hS1 => ?_)
  exact kk H1 locs1 cells slots ls ⟨Eq.mp (congrArg (fun z => va_P D vwCl z H1) eq9) hP1, Eq.mp (congrArg (fun z => va_D A z) eq9) hD1, hS1, hc, hs⟩ hl
theorem gt_Plot_mast {cc : ByteArray} {nL : Nat} {own : String} {rm : Room} {κ : KX} (hκ : Cx cc nL own rm κ) {Φ : HQ} {pc : Nat} {lv : List (Nat × Value)} {st : List Value} {S : wPS} (hΦ : Hd κ Φ S) {a idx : Nat} {ref : String} (hO : a ∈ sL S ∧ sK S a = 5) (hlink : Cond.fieldLink own idx ref "mast" "LPlotroom$Mast;" ∈ GA) (hsm : ref = "Plotroom$Plot" ∨ Cond.sameField ref "Plotroom$Plot" "mast" "LPlotroom$Mast;" ∈ GA) (hdg : decode cc pc = .ok (.getfield idx, 3)) (kk : Gj κ Φ (pc + 3) lv (va_rf (sR S 0 a) :: st)) : Gj κ Φ pc lv (.ref a :: st) := by
  obtain ⟨p, l, e, R, s, m, args, below, meth, c, Q, D, cO, e0, A, mc, ms⟩ := κ
  obtain ⟨hx, hb, hml, hown, hts, hK, hG, hR, hlk⟩ := hκ
  intro H locs cells slots ls hF hl
  obtain ⟨k0, hk0, hk1⟩ := wG_Plot cO S hO
  exact va_get (D := D) (ci := 6) (C := RX6) (T := TX6) (N := 6) hx hb hts inlX6 hown hK (hΦ H locs cells slots hF).1 k0 hk1 rfl 2 (by decide) (hts _ hlink) (fun x9 h9 => hsm.elim (fun z => by rw [z]; exact h9) (fun z => u_same (hts _ z) x9 h9)) rfl hdg (kk H locs cells slots ls hF hl)
theorem pt_Plot_mast {cc : ByteArray} {nL : Nat} {own : String} {rm : Room} {κ : KX} (hκ : Cx cc nL own rm κ) {pc : Nat} {lv : List (Nat × Value)} {st : List Value} {S : wPS} {k n : Nat} {a idx : Nat} {ref : String} {v : Option Nat} (hO : a ∈ sL S ∧ sK S a = 5) (hlink : Cond.fieldLink own idx ref "mast" "LPlotroom$Mast;" ∈ GA) (hsm : ref = "Plotroom$Plot" ∨ Cond.sameField ref "Plotroom$Plot" "mast" "LPlotroom$Mast;" ∈ GA)   (hdg : decode cc pc = .ok (.putfield idx, 3)) (kk : Gj κ (PV κ (putR S 0 a v) k n) (pc + 3) lv st) : Gj κ (PV κ S k n) pc lv (va_rf v :: .ref a :: st) := by
  obtain ⟨p, l, e, R, s, m, args, below, meth, c, Q, D, cO, e0, A, mc, ms⟩ := κ
  obtain ⟨hx, hb, hml, hown, hts, hK, hG, hR, hlk⟩ := hκ
  intro H locs cells slots ls hF hl
  obtain ⟨hP, hD, hS, hc, hs⟩ := hF
  obtain ⟨k0, hk0, hk1⟩ := wG_Plot cO S hO
  have eq9 := wU_Plot_mast cO S hD hO hk0 v
  refine va_put (D := D) (ci := 6) (v := va_rf v) (ty := .object "Plotroom$Mast") (C := RX6) (T := TX6) (N := 6) hx hb hts inlX6 tyX6 tyX6_ok nmX6 hown hK hP hD hS k0 hk1 rfl 2 (by decide) (hts _ hlink) (fun x9 h9 => hsm.elim (fun z => by rw [z]; exact h9) (fun z => u_same (hts _ z) x9 h9)) rfl rfl (by cases v <;> rfl) (by cases v <;> rfl) (by decide) hdg (fun H1 locs1 hP1 hD1 hS1 => ?_)
  exact kk H1 locs1 cells slots ls ⟨Eq.mp (congrArg (fun z => va_P D vwCl z H1) eq9) hP1, Eq.mp (congrArg (fun z => va_D A z) eq9) hD1, hS1, hc, hs⟩ hl
theorem gtN_Plot_mast {cc : ByteArray} {nL : Nat} {own : String} {rm : Room} {κ : KX} (hκ : Cx cc nL own rm κ) {Φ : HQ} {pc : Nat} {lv : List (Nat × Value)} {st : List Value} {S : wPS} (hΦ : Hd κ Φ S) {a idx : Nat} {ref host : String} (hO : a ∈ sL S ∧ sK S a = 5) (hlink : (own, idx, ref, "mast", "LPlotroom$Mast;", host) ∈ nestF) (hsm : ref = "Plotroom$Plot" ∨ Cond.sameField ref "Plotroom$Plot" "mast" "LPlotroom$Mast;" ∈ GA) (hdg : decode cc pc = .ok (.getfield idx, 3)) (kk : Gj κ Φ (pc + 3) lv (va_rf (sR S 0 a) :: st)) : Gj κ Φ pc lv (.ref a :: st) := by
  obtain ⟨p, l, e, R, s, m, args, below, meth, c, Q, D, cO, e0, A, mc, ms⟩ := κ
  obtain ⟨hx, hb, hml, hown, hts, hK, hG, hR, hlk⟩ := hκ
  intro H locs cells slots ls hF hl
  obtain ⟨k0, hk0, hk1⟩ := wG_Plot cO S hO
  exact va_getN (D := D) (ci := 6) (C := RX6) (T := TX6) (N := 6) hx hb hts inlX6 hown hK (hΦ H locs cells slots hF).1 k0 hk1 rfl 2 (by decide) (va_Nw.use rfl (hG.1 _ hlink)) (fun x9 h9 => hsm.elim (fun z => by rw [z]; exact h9) (fun z => u_same (hts _ z) x9 h9)) rfl hdg (kk H locs cells slots ls hF hl)
theorem ptN_Plot_mast {cc : ByteArray} {nL : Nat} {own : String} {rm : Room} {κ : KX} (hκ : Cx cc nL own rm κ) {pc : Nat} {lv : List (Nat × Value)} {st : List Value} {S : wPS} {k n : Nat} {a idx : Nat} {ref host : String} {v : Option Nat} (hO : a ∈ sL S ∧ sK S a = 5) (hlink : (own, idx, ref, "mast", "LPlotroom$Mast;", host) ∈ nestF) (hsm : ref = "Plotroom$Plot" ∨ Cond.sameField ref "Plotroom$Plot" "mast" "LPlotroom$Mast;" ∈ GA)   (hdg : decode cc pc = .ok (.putfield idx, 3)) (kk : Gj κ (PV κ (putR S 0 a v) k n) (pc + 3) lv st) : Gj κ (PV κ S k n) pc lv (va_rf v :: .ref a :: st) := by
  obtain ⟨p, l, e, R, s, m, args, below, meth, c, Q, D, cO, e0, A, mc, ms⟩ := κ
  obtain ⟨hx, hb, hml, hown, hts, hK, hG, hR, hlk⟩ := hκ
  intro H locs cells slots ls hF hl
  obtain ⟨hP, hD, hS, hc, hs⟩ := hF
  obtain ⟨k0, hk0, hk1⟩ := wG_Plot cO S hO
  have eq9 := wU_Plot_mast cO S hD hO hk0 v
  refine va_putN (D := D) (ci := 6) (v := va_rf v) (ty := .object "Plotroom$Mast") (C := RX6) (T := TX6) (N := 6) hx hb hts inlX6 tyX6 tyX6_ok nmX6 hown hK hP hD hS k0 hk1 rfl 2 (by decide) (va_Nw.use rfl (hG.1 _ hlink)) (fun x9 h9 => hsm.elim (fun z => by rw [z]; exact h9) (fun z => u_same (hts _ z) x9 h9)) rfl rfl (by cases v <;> rfl) (by cases v <;> rfl) (by decide) hdg (fun H1 locs1 hP1 hD1 hS1 => ?_)
  exact kk H1 locs1 cells slots ls ⟨Eq.mp (congrArg (fun z => va_P D vwCl z H1) eq9) hP1, Eq.mp (congrArg (fun z => va_D A z) eq9) hD1, hS1, hc, hs⟩ hl
theorem gt_Plot_guess {cc : ByteArray} {nL : Nat} {own : String} {rm : Room} {κ : KX} (hκ : Cx cc nL own rm κ) {Φ : HQ} {pc : Nat} {lv : List (Nat × Value)} {st : List Value} {S : wPS} (hΦ : Hd κ Φ S) {a idx : Nat} {ref : String} (hO : a ∈ sL S ∧ sK S a = 5) (hlink : Cond.fieldLink own idx ref "guess" "I" ∈ GA) (hsm : ref = "Plotroom$Plot" ∨ Cond.sameField ref "Plotroom$Plot" "guess" "I" ∈ GA) (hdg : decode cc pc = .ok (.getfield idx, 3)) (kk : Gj κ Φ (pc + 3) lv (.int (sI S 28 a) :: st)) : Gj κ Φ pc lv (.ref a :: st) := by
  obtain ⟨p, l, e, R, s, m, args, below, meth, c, Q, D, cO, e0, A, mc, ms⟩ := κ
  obtain ⟨hx, hb, hml, hown, hts, hK, hG, hR, hlk⟩ := hκ
  intro H locs cells slots ls hF hl
  obtain ⟨k0, hk0, hk1⟩ := wG_Plot cO S hO
  exact va_get (D := D) (ci := 6) (C := RX6) (T := TX6) (N := 6) hx hb hts inlX6 hown hK (hΦ H locs cells slots hF).1 k0 hk1 rfl 3 (by decide) (hts _ hlink) (fun x9 h9 => hsm.elim (fun z => by rw [z]; exact h9) (fun z => u_same (hts _ z) x9 h9)) rfl hdg (kk H locs cells slots ls hF hl)
theorem pt_Plot_guess {cc : ByteArray} {nL : Nat} {own : String} {rm : Room} {κ : KX} (hκ : Cx cc nL own rm κ) {pc : Nat} {lv : List (Nat × Value)} {st : List Value} {S : wPS} {k n : Nat} {a idx : Nat} {ref : String} {v : Int32} (hO : a ∈ sL S ∧ sK S a = 5) (hlink : Cond.fieldLink own idx ref "guess" "I" ∈ GA) (hsm : ref = "Plotroom$Plot" ∨ Cond.sameField ref "Plotroom$Plot" "guess" "I" ∈ GA)   (hdg : decode cc pc = .ok (.putfield idx, 3)) (kk : Gj κ (PV κ (putI S 28 a v) k n) (pc + 3) lv st) : Gj κ (PV κ S k n) pc lv (.int v :: .ref a :: st) := by
  obtain ⟨p, l, e, R, s, m, args, below, meth, c, Q, D, cO, e0, A, mc, ms⟩ := κ
  obtain ⟨hx, hb, hml, hown, hts, hK, hG, hR, hlk⟩ := hκ
  intro H locs cells slots ls hF hl
  obtain ⟨hP, hD, hS, hc, hs⟩ := hF
  obtain ⟨k0, hk0, hk1⟩ := wG_Plot cO S hO
  have eq9 := wU_Plot_guess cO S hD hO hk0 v
  refine va_put (D := D) (ci := 6) (v := .int v) (ty := .int) (C := RX6) (T := TX6) (N := 6) hx hb hts inlX6 tyX6 tyX6_ok nmX6 hown hK hP hD hS k0 hk1 rfl 3 (by decide) (hts _ hlink) (fun x9 h9 => hsm.elim (fun z => by rw [z]; exact h9) (fun z => u_same (hts _ z) x9 h9)) rfl rfl rfl rfl (by decide) hdg (fun H1 locs1 hP1 hD1 hS1 => ?_)
  exact kk H1 locs1 cells slots ls ⟨Eq.mp (congrArg (fun z => va_P D vwCl z H1) eq9) hP1, Eq.mp (congrArg (fun z => va_D A z) eq9) hD1, hS1, hc, hs⟩ hl
theorem gtN_Plot_guess {cc : ByteArray} {nL : Nat} {own : String} {rm : Room} {κ : KX} (hκ : Cx cc nL own rm κ) {Φ : HQ} {pc : Nat} {lv : List (Nat × Value)} {st : List Value} {S : wPS} (hΦ : Hd κ Φ S) {a idx : Nat} {ref host : String} (hO : a ∈ sL S ∧ sK S a = 5) (hlink : (own, idx, ref, "guess", "I", host) ∈ nestF) (hsm : ref = "Plotroom$Plot" ∨ Cond.sameField ref "Plotroom$Plot" "guess" "I" ∈ GA) (hdg : decode cc pc = .ok (.getfield idx, 3)) (kk : Gj κ Φ (pc + 3) lv (.int (sI S 28 a) :: st)) : Gj κ Φ pc lv (.ref a :: st) := by
  obtain ⟨p, l, e, R, s, m, args, below, meth, c, Q, D, cO, e0, A, mc, ms⟩ := κ
  obtain ⟨hx, hb, hml, hown, hts, hK, hG, hR, hlk⟩ := hκ
  intro H locs cells slots ls hF hl
  obtain ⟨k0, hk0, hk1⟩ := wG_Plot cO S hO
  exact va_getN (D := D) (ci := 6) (C := RX6) (T := TX6) (N := 6) hx hb hts inlX6 hown hK (hΦ H locs cells slots hF).1 k0 hk1 rfl 3 (by decide) (va_Nw.use rfl (hG.1 _ hlink)) (fun x9 h9 => hsm.elim (fun z => by rw [z]; exact h9) (fun z => u_same (hts _ z) x9 h9)) rfl hdg (kk H locs cells slots ls hF hl)
theorem ptN_Plot_guess {cc : ByteArray} {nL : Nat} {own : String} {rm : Room} {κ : KX} (hκ : Cx cc nL own rm κ) {pc : Nat} {lv : List (Nat × Value)} {st : List Value} {S : wPS} {k n : Nat} {a idx : Nat} {ref host : String} {v : Int32} (hO : a ∈ sL S ∧ sK S a = 5) (hlink : (own, idx, ref, "guess", "I", host) ∈ nestF) (hsm : ref = "Plotroom$Plot" ∨ Cond.sameField ref "Plotroom$Plot" "guess" "I" ∈ GA)   (hdg : decode cc pc = .ok (.putfield idx, 3)) (kk : Gj κ (PV κ (putI S 28 a v) k n) (pc + 3) lv st) : Gj κ (PV κ S k n) pc lv (.int v :: .ref a :: st) := by
  obtain ⟨p, l, e, R, s, m, args, below, meth, c, Q, D, cO, e0, A, mc, ms⟩ := κ
  obtain ⟨hx, hb, hml, hown, hts, hK, hG, hR, hlk⟩ := hκ
  intro H locs cells slots ls hF hl
  obtain ⟨hP, hD, hS, hc, hs⟩ := hF
  obtain ⟨k0, hk0, hk1⟩ := wG_Plot cO S hO
  have eq9 := wU_Plot_guess cO S hD hO hk0 v
  refine va_putN (D := D) (ci := 6) (v := .int v) (ty := .int) (C := RX6) (T := TX6) (N := 6) hx hb hts inlX6 tyX6 tyX6_ok nmX6 hown hK hP hD hS k0 hk1 rfl 3 (by decide) (va_Nw.use rfl (hG.1 _ hlink)) (fun x9 h9 => hsm.elim (fun z => by rw [z]; exact h9) (fun z => u_same (hts _ z) x9 h9)) rfl rfl rfl rfl (by decide) hdg (fun H1 locs1 hP1 hD1 hS1 => ?_)
  exact kk H1 locs1 cells slots ls ⟨Eq.mp (congrArg (fun z => va_P D vwCl z H1) eq9) hP1, Eq.mp (congrArg (fun z => va_D A z) eq9) hD1, hS1, hc, hs⟩ hl
theorem gt_Plot_seenAt {cc : ByteArray} {nL : Nat} {own : String} {rm : Room} {κ : KX} (hκ : Cx cc nL own rm κ) {Φ : HQ} {pc : Nat} {lv : List (Nat × Value)} {st : List Value} {S : wPS} (hΦ : Hd κ Φ S) {a idx : Nat} {ref : String} (hO : a ∈ sL S ∧ sK S a = 5) (hlink : Cond.fieldLink own idx ref "seenAt" "I" ∈ GA) (hsm : ref = "Plotroom$Plot" ∨ Cond.sameField ref "Plotroom$Plot" "seenAt" "I" ∈ GA) (hdg : decode cc pc = .ok (.getfield idx, 3)) (kk : Gj κ Φ (pc + 3) lv (.int (sI S 29 a) :: st)) : Gj κ Φ pc lv (.ref a :: st) := by
  obtain ⟨p, l, e, R, s, m, args, below, meth, c, Q, D, cO, e0, A, mc, ms⟩ := κ
  obtain ⟨hx, hb, hml, hown, hts, hK, hG, hR, hlk⟩ := hκ
  intro H locs cells slots ls hF hl
  obtain ⟨k0, hk0, hk1⟩ := wG_Plot cO S hO
  exact va_get (D := D) (ci := 6) (C := RX6) (T := TX6) (N := 6) hx hb hts inlX6 hown hK (hΦ H locs cells slots hF).1 k0 hk1 rfl 4 (by decide) (hts _ hlink) (fun x9 h9 => hsm.elim (fun z => by rw [z]; exact h9) (fun z => u_same (hts _ z) x9 h9)) rfl hdg (kk H locs cells slots ls hF hl)
theorem pt_Plot_seenAt {cc : ByteArray} {nL : Nat} {own : String} {rm : Room} {κ : KX} (hκ : Cx cc nL own rm κ) {pc : Nat} {lv : List (Nat × Value)} {st : List Value} {S : wPS} {k n : Nat} {a idx : Nat} {ref : String} {v : Int32} (hO : a ∈ sL S ∧ sK S a = 5) (hlink : Cond.fieldLink own idx ref "seenAt" "I" ∈ GA) (hsm : ref = "Plotroom$Plot" ∨ Cond.sameField ref "Plotroom$Plot" "seenAt" "I" ∈ GA)   (hdg : decode cc pc = .ok (.putfield idx, 3)) (kk : Gj κ (PV κ (putI S 29 a v) k n) (pc + 3) lv st) : Gj κ (PV κ S k n) pc lv (.int v :: .ref a :: st) := by
  obtain ⟨p, l, e, R, s, m, args, below, meth, c, Q, D, cO, e0, A, mc, ms⟩ := κ
  obtain ⟨hx, hb, hml, hown, hts, hK, hG, hR, hlk⟩ := hκ
  intro H locs cells slots ls hF hl
  obtain ⟨hP, hD, hS, hc, hs⟩ := hF
  obtain ⟨k0, hk0, hk1⟩ := wG_Plot cO S hO
  have eq9 := wU_Plot_seenAt cO S hD hO hk0 v
  refine va_put (D := D) (ci := 6) (v := .int v) (ty := .int) (C := RX6) (T := TX6) (N := 6) hx hb hts inlX6 tyX6 tyX6_ok nmX6 hown hK hP hD hS k0 hk1 rfl 4 (by decide) (hts _ hlink) (fun x9 h9 => hsm.elim (fun z => by rw [z]; exact h9) (fun z => u_same (hts _ z) x9 h9)) rfl rfl rfl rfl (by decide) hdg (fun H1 locs1 hP1 hD1 hS1 => ?_)
  exact kk H1 locs1 cells slots ls ⟨Eq.mp (congrArg (fun z => va_P D vwCl z H1) eq9) hP1, Eq.mp (congrArg (fun z => va_D A z) eq9) hD1, hS1, hc, hs⟩ hl
theorem gtN_Plot_seenAt {cc : ByteArray} {nL : Nat} {own : String} {rm : Room} {κ : KX} (hκ : Cx cc nL own rm κ) {Φ : HQ} {pc : Nat} {lv : List (Nat × Value)} {st : List Value} {S : wPS} (hΦ : Hd κ Φ S) {a idx : Nat} {ref host : String} (hO : a ∈ sL S ∧ sK S a = 5) (hlink : (own, idx, ref, "seenAt", "I", host) ∈ nestF) (hsm : ref = "Plotroom$Plot" ∨ Cond.sameField ref "Plotroom$Plot" "seenAt" "I" ∈ GA) (hdg : decode cc pc = .ok (.getfield idx, 3)) (kk : Gj κ Φ (pc + 3) lv (.int (sI S 29 a) :: st)) : Gj κ Φ pc lv (.ref a :: st) := by
  obtain ⟨p, l, e, R, s, m, args, below, meth, c, Q, D, cO, e0, A, mc, ms⟩ := κ
  obtain ⟨hx, hb, hml, hown, hts, hK, hG, hR, hlk⟩ := hκ
  intro H locs cells slots ls hF hl
  obtain ⟨k0, hk0, hk1⟩ := wG_Plot cO S hO
  exact va_getN (D := D) (ci := 6) (C := RX6) (T := TX6) (N := 6) hx hb hts inlX6 hown hK (hΦ H locs cells slots hF).1 k0 hk1 rfl 4 (by decide) (va_Nw.use rfl (hG.1 _ hlink)) (fun x9 h9 => hsm.elim (fun z => by rw [z]; exact h9) (fun z => u_same (hts _ z) x9 h9)) rfl hdg (kk H locs cells slots ls hF hl)
theorem ptN_Plot_seenAt {cc : ByteArray} {nL : Nat} {own : String} {rm : Room} {κ : KX} (hκ : Cx cc nL own rm κ) {pc : Nat} {lv : List (Nat × Value)} {st : List Value} {S : wPS} {k n : Nat} {a idx : Nat} {ref host : String} {v : Int32} (hO : a ∈ sL S ∧ sK S a = 5) (hlink : (own, idx, ref, "seenAt", "I", host) ∈ nestF) (hsm : ref = "Plotroom$Plot" ∨ Cond.sameField ref "Plotroom$Plot" "seenAt" "I" ∈ GA)   (hdg : decode cc pc = .ok (.putfield idx, 3)) (kk : Gj κ (PV κ (putI S 29 a v) k n) (pc + 3) lv st) : Gj κ (PV κ S k n) pc lv (.int v :: .ref a :: st) := by
  obtain ⟨p, l, e, R, s, m, args, below, meth, c, Q, D, cO, e0, A, mc, ms⟩ := κ
  obtain ⟨hx, hb, hml, hown, hts, hK, hG, hR, hlk⟩ := hκ
  intro H locs cells slots ls hF hl
  obtain ⟨hP, hD, hS, hc, hs⟩ := hF
  obtain ⟨k0, hk0, hk1⟩ := wG_Plot cO S hO
  have eq9 := wU_Plot_seenAt cO S hD hO hk0 v
  refine va_putN (D := D) (ci := 6) (v := .int v) (ty := .int) (C := RX6) (T := TX6) (N := 6) hx hb hts inlX6 tyX6 tyX6_ok nmX6 hown hK hP hD hS k0 hk1 rfl 4 (by decide) (va_Nw.use rfl (hG.1 _ hlink)) (fun x9 h9 => hsm.elim (fun z => by rw [z]; exact h9) (fun z => u_same (hts _ z) x9 h9)) rfl rfl rfl rfl (by decide) hdg (fun H1 locs1 hP1 hD1 hS1 => ?_)
  exact kk H1 locs1 cells slots ls ⟨Eq.mp (congrArg (fun z => va_P D vwCl z H1) eq9) hP1, Eq.mp (congrArg (fun z => va_D A z) eq9) hD1, hS1, hc, hs⟩ hl
theorem gt_Plot_due {cc : ByteArray} {nL : Nat} {own : String} {rm : Room} {κ : KX} (hκ : Cx cc nL own rm κ) {Φ : HQ} {pc : Nat} {lv : List (Nat × Value)} {st : List Value} {S : wPS} (hΦ : Hd κ Φ S) {a idx : Nat} {ref : String} (hO : a ∈ sL S ∧ sK S a = 5) (hlink : Cond.fieldLink own idx ref "due" "I" ∈ GA) (hsm : ref = "Plotroom$Plot" ∨ Cond.sameField ref "Plotroom$Plot" "due" "I" ∈ GA) (hdg : decode cc pc = .ok (.getfield idx, 3)) (kk : Gj κ Φ (pc + 3) lv (.int (sI S 30 a) :: st)) : Gj κ Φ pc lv (.ref a :: st) := by
  obtain ⟨p, l, e, R, s, m, args, below, meth, c, Q, D, cO, e0, A, mc, ms⟩ := κ
  obtain ⟨hx, hb, hml, hown, hts, hK, hG, hR, hlk⟩ := hκ
  intro H locs cells slots ls hF hl
  obtain ⟨k0, hk0, hk1⟩ := wG_Plot cO S hO
  exact va_get (D := D) (ci := 6) (C := RX6) (T := TX6) (N := 6) hx hb hts inlX6 hown hK (hΦ H locs cells slots hF).1 k0 hk1 rfl 5 (by decide) (hts _ hlink) (fun x9 h9 => hsm.elim (fun z => by rw [z]; exact h9) (fun z => u_same (hts _ z) x9 h9)) rfl hdg (kk H locs cells slots ls hF hl)
theorem pt_Plot_due {cc : ByteArray} {nL : Nat} {own : String} {rm : Room} {κ : KX} (hκ : Cx cc nL own rm κ) {pc : Nat} {lv : List (Nat × Value)} {st : List Value} {S : wPS} {k n : Nat} {a idx : Nat} {ref : String} {v : Int32} (hO : a ∈ sL S ∧ sK S a = 5) (hlink : Cond.fieldLink own idx ref "due" "I" ∈ GA) (hsm : ref = "Plotroom$Plot" ∨ Cond.sameField ref "Plotroom$Plot" "due" "I" ∈ GA)   (hdg : decode cc pc = .ok (.putfield idx, 3)) (kk : Gj κ (PV κ (putI S 30 a v) k n) (pc + 3) lv st) : Gj κ (PV κ S k n) pc lv (.int v :: .ref a :: st) := by
  obtain ⟨p, l, e, R, s, m, args, below, meth, c, Q, D, cO, e0, A, mc, ms⟩ := κ
  obtain ⟨hx, hb, hml, hown, hts, hK, hG, hR, hlk⟩ := hκ
  intro H locs cells slots ls hF hl
  obtain ⟨hP, hD, hS, hc, hs⟩ := hF
  obtain ⟨k0, hk0, hk1⟩ := wG_Plot cO S hO
  have eq9 := wU_Plot_due cO S hD hO hk0 v
  refine va_put (D := D) (ci := 6) (v := .int v) (ty := .int) (C := RX6) (T := TX6) (N := 6) hx hb hts inlX6 tyX6 tyX6_ok nmX6 hown hK hP hD hS k0 hk1 rfl 5 (by decide) (hts _ hlink) (fun x9 h9 => hsm.elim (fun z => by rw [z]; exact h9) (fun z => u_same (hts _ z) x9 h9)) rfl rfl rfl rfl (by decide) hdg (fun H1 locs1 hP1 hD1 hS1 => ?_)
  exact kk H1 locs1 cells slots ls ⟨Eq.mp (congrArg (fun z => va_P D vwCl z H1) eq9) hP1, Eq.mp (congrArg (fun z => va_D A z) eq9) hD1, hS1, hc, hs⟩ hl
theorem gtN_Plot_due {cc : ByteArray} {nL : Nat} {own : String} {rm : Room} {κ : KX} (hκ : Cx cc nL own rm κ) {Φ : HQ} {pc : Nat} {lv : List (Nat × Value)} {st : List Value} {S : wPS} (hΦ : Hd κ Φ S) {a idx : Nat} {ref host : String} (hO : a ∈ sL S ∧ sK S a = 5) (hlink : (own, idx, ref, "due", "I", host) ∈ nestF) (hsm : ref = "Plotroom$Plot" ∨ Cond.sameField ref "Plotroom$Plot" "due" "I" ∈ GA) (hdg : decode cc pc = .ok (.getfield idx, 3)) (kk : Gj κ Φ (pc + 3) lv (.int (sI S 30 a) :: st)) : Gj κ Φ pc lv (.ref a :: st) := by
  obtain ⟨p, l, e, R, s, m, args, below, meth, c, Q, D, cO, e0, A, mc, ms⟩ := κ
  obtain ⟨hx, hb, hml, hown, hts, hK, hG, hR, hlk⟩ := hκ
  intro H locs cells slots ls hF hl
  obtain ⟨k0, hk0, hk1⟩ := wG_Plot cO S hO
  exact va_getN (D := D) (ci := 6) (C := RX6) (T := TX6) (N := 6) hx hb hts inlX6 hown hK (hΦ H locs cells slots hF).1 k0 hk1 rfl 5 (by decide) (va_Nw.use rfl (hG.1 _ hlink)) (fun x9 h9 => hsm.elim (fun z => by rw [z]; exact h9) (fun z => u_same (hts _ z) x9 h9)) rfl hdg (kk H locs cells slots ls hF hl)
theorem ptN_Plot_due {cc : ByteArray} {nL : Nat} {own : String} {rm : Room} {κ : KX} (hκ : Cx cc nL own rm κ) {pc : Nat} {lv : List (Nat × Value)} {st : List Value} {S : wPS} {k n : Nat} {a idx : Nat} {ref host : String} {v : Int32} (hO : a ∈ sL S ∧ sK S a = 5) (hlink : (own, idx, ref, "due", "I", host) ∈ nestF) (hsm : ref = "Plotroom$Plot" ∨ Cond.sameField ref "Plotroom$Plot" "due" "I" ∈ GA)   (hdg : decode cc pc = .ok (.putfield idx, 3)) (kk : Gj κ (PV κ (putI S 30 a v) k n) (pc + 3) lv st) : Gj κ (PV κ S k n) pc lv (.int v :: .ref a :: st) := by
  obtain ⟨p, l, e, R, s, m, args, below, meth, c, Q, D, cO, e0, A, mc, ms⟩ := κ
  obtain ⟨hx, hb, hml, hown, hts, hK, hG, hR, hlk⟩ := hκ
  intro H locs cells slots ls hF hl
  obtain ⟨hP, hD, hS, hc, hs⟩ := hF
  obtain ⟨k0, hk0, hk1⟩ := wG_Plot cO S hO
  have eq9 := wU_Plot_due cO S hD hO hk0 v
  refine va_putN (D := D) (ci := 6) (v := .int v) (ty := .int) (C := RX6) (T := TX6) (N := 6) hx hb hts inlX6 tyX6 tyX6_ok nmX6 hown hK hP hD hS k0 hk1 rfl 5 (by decide) (va_Nw.use rfl (hG.1 _ hlink)) (fun x9 h9 => hsm.elim (fun z => by rw [z]; exact h9) (fun z => u_same (hts _ z) x9 h9)) rfl rfl rfl rfl (by decide) hdg (fun H1 locs1 hP1 hD1 hS1 => ?_)
  exact kk H1 locs1 cells slots ls ⟨Eq.mp (congrArg (fun z => va_P D vwCl z H1) eq9) hP1, Eq.mp (congrArg (fun z => va_D A z) eq9) hD1, hS1, hc, hs⟩ hl
theorem gt_Squadron_x {cc : ByteArray} {nL : Nat} {own : String} {rm : Room} {κ : KX} (hκ : Cx cc nL own rm κ) {Φ : HQ} {pc : Nat} {lv : List (Nat × Value)} {st : List Value} {S : wPS} (hΦ : Hd κ Φ S) {a idx : Nat} {ref : String} (hO : a ∈ sL S ∧ sK S a = 6) (hlink : Cond.fieldLink own idx ref "x" "I" ∈ GA) (hsm : ref = "Plotroom$Place" ∨ Cond.sameField ref "Plotroom$Place" "x" "I" ∈ GA) (hdg : decode cc pc = .ok (.getfield idx, 3)) (kk : Gj κ Φ (pc + 3) lv (.int (sI S 31 a) :: st)) : Gj κ Φ pc lv (.ref a :: st) := by
  obtain ⟨p, l, e, R, s, m, args, below, meth, c, Q, D, cO, e0, A, mc, ms⟩ := κ
  obtain ⟨hx, hb, hml, hown, hts, hK, hG, hR, hlk⟩ := hκ
  intro H locs cells slots ls hF hl
  obtain ⟨k0, hk0, hk1⟩ := wG_Squadron cO S hO
  exact va_get (D := D) (ci := 7) (C := RX7) (T := TX7) (N := 13) hx hb hts inlX7 hown hK (hΦ H locs cells slots hF).1 k0 hk1 rfl 0 (by decide) (hts _ hlink) (fun x9 h9 => hsm.elim (fun z => by rw [z]; exact h9) (fun z => u_same (hts _ z) x9 h9)) rfl hdg (kk H locs cells slots ls hF hl)
theorem pt_Squadron_x {cc : ByteArray} {nL : Nat} {own : String} {rm : Room} {κ : KX} (hκ : Cx cc nL own rm κ) {pc : Nat} {lv : List (Nat × Value)} {st : List Value} {S : wPS} {k n : Nat} {a idx : Nat} {ref : String} {v : Int32} (hO : a ∈ sL S ∧ sK S a = 6) (hlink : Cond.fieldLink own idx ref "x" "I" ∈ GA) (hsm : ref = "Plotroom$Place" ∨ Cond.sameField ref "Plotroom$Place" "x" "I" ∈ GA)   (hdg : decode cc pc = .ok (.putfield idx, 3)) (kk : Gj κ (PV κ (putI S 31 a v) k n) (pc + 3) lv st) : Gj κ (PV κ S k n) pc lv (.int v :: .ref a :: st) := by
  obtain ⟨p, l, e, R, s, m, args, below, meth, c, Q, D, cO, e0, A, mc, ms⟩ := κ
  obtain ⟨hx, hb, hml, hown, hts, hK, hG, hR, hlk⟩ := hκ
  intro H locs cells slots ls hF hl
  obtain ⟨hP, hD, hS, hc, hs⟩ := hF
  obtain ⟨k0, hk0, hk1⟩ := wG_Squadron cO S hO
  have eq9 := wU_Squadron_x cO S hD hO hk0 v
  refine va_put (D := D) (ci := 7) (v := .int v) (ty := .int) (C := RX7) (T := TX7) (N := 13) hx hb hts inlX7 tyX7 tyX7_ok nmX7 hown hK hP hD hS k0 hk1 rfl 0 (by decide) (hts _ hlink) (fun x9 h9 => hsm.elim (fun z => by rw [z]; exact h9) (fun z => u_same (hts _ z) x9 h9)) rfl rfl rfl rfl (by decide) hdg (fun H1 locs1 hP1 hD1 hS1 => ?_)
  exact kk H1 locs1 cells slots ls ⟨Eq.mp (congrArg (fun z => va_P D vwCl z H1) eq9) hP1, Eq.mp (congrArg (fun z => va_D A z) eq9) hD1, hS1, hc, hs⟩ hl
theorem gtN_Squadron_x {cc : ByteArray} {nL : Nat} {own : String} {rm : Room} {κ : KX} (hκ : Cx cc nL own rm κ) {Φ : HQ} {pc : Nat} {lv : List (Nat × Value)} {st : List Value} {S : wPS} (hΦ : Hd κ Φ S) {a idx : Nat} {ref host : String} (hO : a ∈ sL S ∧ sK S a = 6) (hlink : (own, idx, ref, "x", "I", host) ∈ nestF) (hsm : ref = "Plotroom$Place" ∨ Cond.sameField ref "Plotroom$Place" "x" "I" ∈ GA) (hdg : decode cc pc = .ok (.getfield idx, 3)) (kk : Gj κ Φ (pc + 3) lv (.int (sI S 31 a) :: st)) : Gj κ Φ pc lv (.ref a :: st) := by
  obtain ⟨p, l, e, R, s, m, args, below, meth, c, Q, D, cO, e0, A, mc, ms⟩ := κ
  obtain ⟨hx, hb, hml, hown, hts, hK, hG, hR, hlk⟩ := hκ
  intro H locs cells slots ls hF hl
  obtain ⟨k0, hk0, hk1⟩ := wG_Squadron cO S hO
  exact va_getN (D := D) (ci := 7) (C := RX7) (T := TX7) (N := 13) hx hb hts inlX7 hown hK (hΦ H locs cells slots hF).1 k0 hk1 rfl 0 (by decide) (va_Nw.use rfl (hG.1 _ hlink)) (fun x9 h9 => hsm.elim (fun z => by rw [z]; exact h9) (fun z => u_same (hts _ z) x9 h9)) rfl hdg (kk H locs cells slots ls hF hl)
theorem ptN_Squadron_x {cc : ByteArray} {nL : Nat} {own : String} {rm : Room} {κ : KX} (hκ : Cx cc nL own rm κ) {pc : Nat} {lv : List (Nat × Value)} {st : List Value} {S : wPS} {k n : Nat} {a idx : Nat} {ref host : String} {v : Int32} (hO : a ∈ sL S ∧ sK S a = 6) (hlink : (own, idx, ref, "x", "I", host) ∈ nestF) (hsm : ref = "Plotroom$Place" ∨ Cond.sameField ref "Plotroom$Place" "x" "I" ∈ GA)   (hdg : decode cc pc = .ok (.putfield idx, 3)) (kk : Gj κ (PV κ (putI S 31 a v) k n) (pc + 3) lv st) : Gj κ (PV κ S k n) pc lv (.int v :: .ref a :: st) := by
  obtain ⟨p, l, e, R, s, m, args, below, meth, c, Q, D, cO, e0, A, mc, ms⟩ := κ
  obtain ⟨hx, hb, hml, hown, hts, hK, hG, hR, hlk⟩ := hκ
  intro H locs cells slots ls hF hl
  obtain ⟨hP, hD, hS, hc, hs⟩ := hF
  obtain ⟨k0, hk0, hk1⟩ := wG_Squadron cO S hO
  have eq9 := wU_Squadron_x cO S hD hO hk0 v
  refine va_putN (D := D) (ci := 7) (v := .int v) (ty := .int) (C := RX7) (T := TX7) (N := 13) hx hb hts inlX7 tyX7 tyX7_ok nmX7 hown hK hP hD hS k0 hk1 rfl 0 (by decide) (va_Nw.use rfl (hG.1 _ hlink)) (fun x9 h9 => hsm.elim (fun z => by rw [z]; exact h9) (fun z => u_same (hts _ z) x9 h9)) rfl rfl rfl rfl (by decide) hdg (fun H1 locs1 hP1 hD1 hS1 => ?_)
  exact kk H1 locs1 cells slots ls ⟨Eq.mp (congrArg (fun z => va_P D vwCl z H1) eq9) hP1, Eq.mp (congrArg (fun z => va_D A z) eq9) hD1, hS1, hc, hs⟩ hl
theorem gt_Squadron_y {cc : ByteArray} {nL : Nat} {own : String} {rm : Room} {κ : KX} (hκ : Cx cc nL own rm κ) {Φ : HQ} {pc : Nat} {lv : List (Nat × Value)} {st : List Value} {S : wPS} (hΦ : Hd κ Φ S) {a idx : Nat} {ref : String} (hO : a ∈ sL S ∧ sK S a = 6) (hlink : Cond.fieldLink own idx ref "y" "I" ∈ GA) (hsm : ref = "Plotroom$Place" ∨ Cond.sameField ref "Plotroom$Place" "y" "I" ∈ GA) (hdg : decode cc pc = .ok (.getfield idx, 3)) (kk : Gj κ Φ (pc + 3) lv (.int (sI S 32 a) :: st)) : Gj κ Φ pc lv (.ref a :: st) := by
  obtain ⟨p, l, e, R, s, m, args, below, meth, c, Q, D, cO, e0, A, mc, ms⟩ := κ
  obtain ⟨hx, hb, hml, hown, hts, hK, hG, hR, hlk⟩ := hκ
  intro H locs cells slots ls hF hl
  obtain ⟨k0, hk0, hk1⟩ := wG_Squadron cO S hO
  exact va_get (D := D) (ci := 7) (C := RX7) (T := TX7) (N := 13) hx hb hts inlX7 hown hK (hΦ H locs cells slots hF).1 k0 hk1 rfl 1 (by decide) (hts _ hlink) (fun x9 h9 => hsm.elim (fun z => by rw [z]; exact h9) (fun z => u_same (hts _ z) x9 h9)) rfl hdg (kk H locs cells slots ls hF hl)
theorem pt_Squadron_y {cc : ByteArray} {nL : Nat} {own : String} {rm : Room} {κ : KX} (hκ : Cx cc nL own rm κ) {pc : Nat} {lv : List (Nat × Value)} {st : List Value} {S : wPS} {k n : Nat} {a idx : Nat} {ref : String} {v : Int32} (hO : a ∈ sL S ∧ sK S a = 6) (hlink : Cond.fieldLink own idx ref "y" "I" ∈ GA) (hsm : ref = "Plotroom$Place" ∨ Cond.sameField ref "Plotroom$Place" "y" "I" ∈ GA)   (hdg : decode cc pc = .ok (.putfield idx, 3)) (kk : Gj κ (PV κ (putI S 32 a v) k n) (pc + 3) lv st) : Gj κ (PV κ S k n) pc lv (.int v :: .ref a :: st) := by
  obtain ⟨p, l, e, R, s, m, args, below, meth, c, Q, D, cO, e0, A, mc, ms⟩ := κ
  obtain ⟨hx, hb, hml, hown, hts, hK, hG, hR, hlk⟩ := hκ
  intro H locs cells slots ls hF hl
  obtain ⟨hP, hD, hS, hc, hs⟩ := hF
  obtain ⟨k0, hk0, hk1⟩ := wG_Squadron cO S hO
  have eq9 := wU_Squadron_y cO S hD hO hk0 v
  refine va_put (D := D) (ci := 7) (v := .int v) (ty := .int) (C := RX7) (T := TX7) (N := 13) hx hb hts inlX7 tyX7 tyX7_ok nmX7 hown hK hP hD hS k0 hk1 rfl 1 (by decide) (hts _ hlink) (fun x9 h9 => hsm.elim (fun z => by rw [z]; exact h9) (fun z => u_same (hts _ z) x9 h9)) rfl rfl rfl rfl (by decide) hdg (fun H1 locs1 hP1 hD1 hS1 => ?_)
  exact kk H1 locs1 cells slots ls ⟨Eq.mp (congrArg (fun z => va_P D vwCl z H1) eq9) hP1, Eq.mp (congrArg (fun z => va_D A z) eq9) hD1, hS1, hc, hs⟩ hl
theorem gtN_Squadron_y {cc : ByteArray} {nL : Nat} {own : String} {rm : Room} {κ : KX} (hκ : Cx cc nL own rm κ) {Φ : HQ} {pc : Nat} {lv : List (Nat × Value)} {st : List Value} {S : wPS} (hΦ : Hd κ Φ S) {a idx : Nat} {ref host : String} (hO : a ∈ sL S ∧ sK S a = 6) (hlink : (own, idx, ref, "y", "I", host) ∈ nestF) (hsm : ref = "Plotroom$Place" ∨ Cond.sameField ref "Plotroom$Place" "y" "I" ∈ GA) (hdg : decode cc pc = .ok (.getfield idx, 3)) (kk : Gj κ Φ (pc + 3) lv (.int (sI S 32 a) :: st)) : Gj κ Φ pc lv (.ref a :: st) := by
  obtain ⟨p, l, e, R, s, m, args, below, meth, c, Q, D, cO, e0, A, mc, ms⟩ := κ
  obtain ⟨hx, hb, hml, hown, hts, hK, hG, hR, hlk⟩ := hκ
  intro H locs cells slots ls hF hl
  obtain ⟨k0, hk0, hk1⟩ := wG_Squadron cO S hO
  exact va_getN (D := D) (ci := 7) (C := RX7) (T := TX7) (N := 13) hx hb hts inlX7 hown hK (hΦ H locs cells slots hF).1 k0 hk1 rfl 1 (by decide) (va_Nw.use rfl (hG.1 _ hlink)) (fun x9 h9 => hsm.elim (fun z => by rw [z]; exact h9) (fun z => u_same (hts _ z) x9 h9)) rfl hdg (kk H locs cells slots ls hF hl)
theorem ptN_Squadron_y {cc : ByteArray} {nL : Nat} {own : String} {rm : Room} {κ : KX} (hκ : Cx cc nL own rm κ) {pc : Nat} {lv : List (Nat × Value)} {st : List Value} {S : wPS} {k n : Nat} {a idx : Nat} {ref host : String} {v : Int32} (hO : a ∈ sL S ∧ sK S a = 6) (hlink : (own, idx, ref, "y", "I", host) ∈ nestF) (hsm : ref = "Plotroom$Place" ∨ Cond.sameField ref "Plotroom$Place" "y" "I" ∈ GA)   (hdg : decode cc pc = .ok (.putfield idx, 3)) (kk : Gj κ (PV κ (putI S 32 a v) k n) (pc + 3) lv st) : Gj κ (PV κ S k n) pc lv (.int v :: .ref a :: st) := by
  obtain ⟨p, l, e, R, s, m, args, below, meth, c, Q, D, cO, e0, A, mc, ms⟩ := κ
  obtain ⟨hx, hb, hml, hown, hts, hK, hG, hR, hlk⟩ := hκ
  intro H locs cells slots ls hF hl
  obtain ⟨hP, hD, hS, hc, hs⟩ := hF
  obtain ⟨k0, hk0, hk1⟩ := wG_Squadron cO S hO
  have eq9 := wU_Squadron_y cO S hD hO hk0 v
  refine va_putN (D := D) (ci := 7) (v := .int v) (ty := .int) (C := RX7) (T := TX7) (N := 13) hx hb hts inlX7 tyX7 tyX7_ok nmX7 hown hK hP hD hS k0 hk1 rfl 1 (by decide) (va_Nw.use rfl (hG.1 _ hlink)) (fun x9 h9 => hsm.elim (fun z => by rw [z]; exact h9) (fun z => u_same (hts _ z) x9 h9)) rfl rfl rfl rfl (by decide) hdg (fun H1 locs1 hP1 hD1 hS1 => ?_)
  exact kk H1 locs1 cells slots ls ⟨Eq.mp (congrArg (fun z => va_P D vwCl z H1) eq9) hP1, Eq.mp (congrArg (fun z => va_D A z) eq9) hD1, hS1, hc, hs⟩ hl
theorem gt_Squadron_stationNumber {cc : ByteArray} {nL : Nat} {own : String} {rm : Room} {κ : KX} (hκ : Cx cc nL own rm κ) {Φ : HQ} {pc : Nat} {lv : List (Nat × Value)} {st : List Value} {S : wPS} (hΦ : Hd κ Φ S) {a idx : Nat} {ref : String} (hO : a ∈ sL S ∧ sK S a = 6) (hlink : Cond.fieldLink own idx ref "stationNumber" "I" ∈ GA) (hsm : ref = "Plotroom$Squadron" ∨ Cond.sameField ref "Plotroom$Squadron" "stationNumber" "I" ∈ GA) (hdg : decode cc pc = .ok (.getfield idx, 3)) (kk : Gj κ Φ (pc + 3) lv (.int (sI S 33 a) :: st)) : Gj κ Φ pc lv (.ref a :: st) := by
  obtain ⟨p, l, e, R, s, m, args, below, meth, c, Q, D, cO, e0, A, mc, ms⟩ := κ
  obtain ⟨hx, hb, hml, hown, hts, hK, hG, hR, hlk⟩ := hκ
  intro H locs cells slots ls hF hl
  obtain ⟨k0, hk0, hk1⟩ := wG_Squadron cO S hO
  exact va_get (D := D) (ci := 7) (C := RX7) (T := TX7) (N := 13) hx hb hts inlX7 hown hK (hΦ H locs cells slots hF).1 k0 hk1 rfl 2 (by decide) (hts _ hlink) (fun x9 h9 => hsm.elim (fun z => by rw [z]; exact h9) (fun z => u_same (hts _ z) x9 h9)) rfl hdg (kk H locs cells slots ls hF hl)
theorem pt_Squadron_stationNumber {cc : ByteArray} {nL : Nat} {own : String} {rm : Room} {κ : KX} (hκ : Cx cc nL own rm κ) {pc : Nat} {lv : List (Nat × Value)} {st : List Value} {S : wPS} {k n : Nat} {a idx : Nat} {ref : String} {v : Int32} (hO : a ∈ sL S ∧ sK S a = 6) (hlink : Cond.fieldLink own idx ref "stationNumber" "I" ∈ GA) (hsm : ref = "Plotroom$Squadron" ∨ Cond.sameField ref "Plotroom$Squadron" "stationNumber" "I" ∈ GA)  (hin : Nm "<init>" κ) (hde : "Plotroom$Squadron" = own) (hdg : decode cc pc = .ok (.putfield idx, 3)) (kk : Gj κ (PV κ (putI S 33 a v) k n) (pc + 3) lv st) : Gj κ (PV κ S k n) pc lv (.int v :: .ref a :: st) := by
  obtain ⟨p, l, e, R, s, m, args, below, meth, c, Q, D, cO, e0, A, mc, ms⟩ := κ
  obtain ⟨hx, hb, hml, hown, hts, hK, hG, hR, hlk⟩ := hκ
  intro H locs cells slots ls hF hl
  obtain ⟨hP, hD, hS, hc, hs⟩ := hF
  obtain ⟨k0, hk0, hk1⟩ := wG_Squadron cO S hO
  have eq9 := wU_Squadron_stationNumber cO S hD hO hk0 v
  refine va_putF (D := D) (ci := 7) (v := .int v) (ty := .int) (C := RX7) (T := TX7) (N := 13) hx hb hts inlX7 tyX7 tyX7_ok nmX7 hown hK hP hD hS k0 hk1 rfl 2 (by decide) (hts _ hlink) (fun x9 h9 => hsm.elim (fun z => by rw [z]; exact h9) (fun z => u_same (hts _ z) x9 h9)) rfl hin hde rfl rfl rfl (by decide) hdg (fun H1 locs1 hP1 hD1 hS1 => ?_)
  exact kk H1 locs1 cells slots ls ⟨Eq.mp (congrArg (fun z => va_P D vwCl z H1) eq9) hP1, Eq.mp (congrArg (fun z => va_D A z) eq9) hD1, hS1, hc, hs⟩ hl
theorem gtN_Squadron_stationNumber {cc : ByteArray} {nL : Nat} {own : String} {rm : Room} {κ : KX} (hκ : Cx cc nL own rm κ) {Φ : HQ} {pc : Nat} {lv : List (Nat × Value)} {st : List Value} {S : wPS} (hΦ : Hd κ Φ S) {a idx : Nat} {ref host : String} (hO : a ∈ sL S ∧ sK S a = 6) (hlink : (own, idx, ref, "stationNumber", "I", host) ∈ nestF) (hsm : ref = "Plotroom$Squadron" ∨ Cond.sameField ref "Plotroom$Squadron" "stationNumber" "I" ∈ GA) (hdg : decode cc pc = .ok (.getfield idx, 3)) (kk : Gj κ Φ (pc + 3) lv (.int (sI S 33 a) :: st)) : Gj κ Φ pc lv (.ref a :: st) := by
  obtain ⟨p, l, e, R, s, m, args, below, meth, c, Q, D, cO, e0, A, mc, ms⟩ := κ
  obtain ⟨hx, hb, hml, hown, hts, hK, hG, hR, hlk⟩ := hκ
  intro H locs cells slots ls hF hl
  obtain ⟨k0, hk0, hk1⟩ := wG_Squadron cO S hO
  exact va_getN (D := D) (ci := 7) (C := RX7) (T := TX7) (N := 13) hx hb hts inlX7 hown hK (hΦ H locs cells slots hF).1 k0 hk1 rfl 2 (by decide) (va_Nw.use rfl (hG.1 _ hlink)) (fun x9 h9 => hsm.elim (fun z => by rw [z]; exact h9) (fun z => u_same (hts _ z) x9 h9)) rfl hdg (kk H locs cells slots ls hF hl)
theorem gt_Squadron_base {cc : ByteArray} {nL : Nat} {own : String} {rm : Room} {κ : KX} (hκ : Cx cc nL own rm κ) {Φ : HQ} {pc : Nat} {lv : List (Nat × Value)} {st : List Value} {S : wPS} (hΦ : Hd κ Φ S) {a idx : Nat} {ref : String} (hO : a ∈ sL S ∧ sK S a = 6) (hlink : Cond.fieldLink own idx ref "base" "LPlotroom$Place;" ∈ GA) (hsm : ref = "Plotroom$Squadron" ∨ Cond.sameField ref "Plotroom$Squadron" "base" "LPlotroom$Place;" ∈ GA) (hdg : decode cc pc = .ok (.getfield idx, 3)) (kk : Gj κ Φ (pc + 3) lv (va_rf (sR S 1 a) :: st)) : Gj κ Φ pc lv (.ref a :: st) := by
  obtain ⟨p, l, e, R, s, m, args, below, meth, c, Q, D, cO, e0, A, mc, ms⟩ := κ
  obtain ⟨hx, hb, hml, hown, hts, hK, hG, hR, hlk⟩ := hκ
  intro H locs cells slots ls hF hl
  obtain ⟨k0, hk0, hk1⟩ := wG_Squadron cO S hO
  exact va_get (D := D) (ci := 7) (C := RX7) (T := TX7) (N := 13) hx hb hts inlX7 hown hK (hΦ H locs cells slots hF).1 k0 hk1 rfl 3 (by decide) (hts _ hlink) (fun x9 h9 => hsm.elim (fun z => by rw [z]; exact h9) (fun z => u_same (hts _ z) x9 h9)) rfl hdg (kk H locs cells slots ls hF hl)
theorem pt_Squadron_base {cc : ByteArray} {nL : Nat} {own : String} {rm : Room} {κ : KX} (hκ : Cx cc nL own rm κ) {pc : Nat} {lv : List (Nat × Value)} {st : List Value} {S : wPS} {k n : Nat} {a idx : Nat} {ref : String} {v : Option Nat} (hO : a ∈ sL S ∧ sK S a = 6) (hlink : Cond.fieldLink own idx ref "base" "LPlotroom$Place;" ∈ GA) (hsm : ref = "Plotroom$Squadron" ∨ Cond.sameField ref "Plotroom$Squadron" "base" "LPlotroom$Place;" ∈ GA)  (hin : Nm "<init>" κ) (hde : "Plotroom$Squadron" = own) (hdg : decode cc pc = .ok (.putfield idx, 3)) (kk : Gj κ (PV κ (putR S 1 a v) k n) (pc + 3) lv st) : Gj κ (PV κ S k n) pc lv (va_rf v :: .ref a :: st) := by
  obtain ⟨p, l, e, R, s, m, args, below, meth, c, Q, D, cO, e0, A, mc, ms⟩ := κ
  obtain ⟨hx, hb, hml, hown, hts, hK, hG, hR, hlk⟩ := hκ
  intro H locs cells slots ls hF hl
  obtain ⟨hP, hD, hS, hc, hs⟩ := hF
  obtain ⟨k0, hk0, hk1⟩ := wG_Squadron cO S hO
  have eq9 := wU_Squadron_base cO S hD hO hk0 v
  refine va_putF (D := D) (ci := 7) (v := va_rf v) (ty := .object "Plotroom$Place") (C := RX7) (T := TX7) (N := 13) hx hb hts inlX7 tyX7 tyX7_ok nmX7 hown hK hP hD hS k0 hk1 rfl 3 (by decide) (hts _ hlink) (fun x9 h9 => hsm.elim (fun z => by rw [z]; exact h9) (fun z => u_same (hts _ z) x9 h9)) rfl hin hde rfl (by cases v <;> rfl) (by cases v <;> rfl) (by decide) hdg (fun H1 locs1 hP1 hD1 hS1 => ?_)
  exact kk H1 locs1 cells slots ls ⟨Eq.mp (congrArg (fun z => va_P D vwCl z H1) eq9) hP1, Eq.mp (congrArg (fun z => va_D A z) eq9) hD1, hS1, hc, hs⟩ hl
theorem gtN_Squadron_base {cc : ByteArray} {nL : Nat} {own : String} {rm : Room} {κ : KX} (hκ : Cx cc nL own rm κ) {Φ : HQ} {pc : Nat} {lv : List (Nat × Value)} {st : List Value} {S : wPS} (hΦ : Hd κ Φ S) {a idx : Nat} {ref host : String} (hO : a ∈ sL S ∧ sK S a = 6) (hlink : (own, idx, ref, "base", "LPlotroom$Place;", host) ∈ nestF) (hsm : ref = "Plotroom$Squadron" ∨ Cond.sameField ref "Plotroom$Squadron" "base" "LPlotroom$Place;" ∈ GA) (hdg : decode cc pc = .ok (.getfield idx, 3)) (kk : Gj κ Φ (pc + 3) lv (va_rf (sR S 1 a) :: st)) : Gj κ Φ pc lv (.ref a :: st) := by
  obtain ⟨p, l, e, R, s, m, args, below, meth, c, Q, D, cO, e0, A, mc, ms⟩ := κ
  obtain ⟨hx, hb, hml, hown, hts, hK, hG, hR, hlk⟩ := hκ
  intro H locs cells slots ls hF hl
  obtain ⟨k0, hk0, hk1⟩ := wG_Squadron cO S hO
  exact va_getN (D := D) (ci := 7) (C := RX7) (T := TX7) (N := 13) hx hb hts inlX7 hown hK (hΦ H locs cells slots hF).1 k0 hk1 rfl 3 (by decide) (va_Nw.use rfl (hG.1 _ hlink)) (fun x9 h9 => hsm.elim (fun z => by rw [z]; exact h9) (fun z => u_same (hts _ z) x9 h9)) rfl hdg (kk H locs cells slots ls hF hl)
theorem gt_Squadron_speed {cc : ByteArray} {nL : Nat} {own : String} {rm : Room} {κ : KX} (hκ : Cx cc nL own rm κ) {Φ : HQ} {pc : Nat} {lv : List (Nat × Value)} {st : List Value} {S : wPS} (hΦ : Hd κ Φ S) {a idx : Nat} {ref : String} (hO : a ∈ sL S ∧ sK S a = 6) (hlink : Cond.fieldLink own idx ref "speed" "I" ∈ GA) (hsm : ref = "Plotroom$Squadron" ∨ Cond.sameField ref "Plotroom$Squadron" "speed" "I" ∈ GA) (hdg : decode cc pc = .ok (.getfield idx, 3)) (kk : Gj κ Φ (pc + 3) lv (.int (sI S 34 a) :: st)) : Gj κ Φ pc lv (.ref a :: st) := by
  obtain ⟨p, l, e, R, s, m, args, below, meth, c, Q, D, cO, e0, A, mc, ms⟩ := κ
  obtain ⟨hx, hb, hml, hown, hts, hK, hG, hR, hlk⟩ := hκ
  intro H locs cells slots ls hF hl
  obtain ⟨k0, hk0, hk1⟩ := wG_Squadron cO S hO
  exact va_get (D := D) (ci := 7) (C := RX7) (T := TX7) (N := 13) hx hb hts inlX7 hown hK (hΦ H locs cells slots hF).1 k0 hk1 rfl 4 (by decide) (hts _ hlink) (fun x9 h9 => hsm.elim (fun z => by rw [z]; exact h9) (fun z => u_same (hts _ z) x9 h9)) rfl hdg (kk H locs cells slots ls hF hl)
theorem pt_Squadron_speed {cc : ByteArray} {nL : Nat} {own : String} {rm : Room} {κ : KX} (hκ : Cx cc nL own rm κ) {pc : Nat} {lv : List (Nat × Value)} {st : List Value} {S : wPS} {k n : Nat} {a idx : Nat} {ref : String} {v : Int32} (hO : a ∈ sL S ∧ sK S a = 6) (hlink : Cond.fieldLink own idx ref "speed" "I" ∈ GA) (hsm : ref = "Plotroom$Squadron" ∨ Cond.sameField ref "Plotroom$Squadron" "speed" "I" ∈ GA)  (hin : Nm "<init>" κ) (hde : "Plotroom$Squadron" = own) (hdg : decode cc pc = .ok (.putfield idx, 3)) (kk : Gj κ (PV κ (putI S 34 a v) k n) (pc + 3) lv st) : Gj κ (PV κ S k n) pc lv (.int v :: .ref a :: st) := by
  obtain ⟨p, l, e, R, s, m, args, below, meth, c, Q, D, cO, e0, A, mc, ms⟩ := κ
  obtain ⟨hx, hb, hml, hown, hts, hK, hG, hR, hlk⟩ := hκ
  intro H locs cells slots ls hF hl
  obtain ⟨hP, hD, hS, hc, hs⟩ := hF
  obtain ⟨k0, hk0, hk1⟩ := wG_Squadron cO S hO
  have eq9 := wU_Squadron_speed cO S hD hO hk0 v
  refine va_putF (D := D) (ci := 7) (v := .int v) (ty := .int) (C := RX7) (T := TX7) (N := 13) hx hb hts inlX7 tyX7 tyX7_ok nmX7 hown hK hP hD hS k0 hk1 rfl 4 (by decide) (hts _ hlink) (fun x9 h9 => hsm.elim (fun z => by rw [z]; exact h9) (fun z => u_same (hts _ z) x9 h9)) rfl hin hde rfl rfl rfl (by decide) hdg (fun H1 locs1 hP1 hD1 hS1 => ?_)
  exact kk H1 locs1 cells slots ls ⟨Eq.mp (congrArg (fun z => va_P D vwCl z H1) eq9) hP1, Eq.mp (congrArg (fun z => va_D A z) eq9) hD1, hS1, hc, hs⟩ hl
theorem gtN_Squadron_speed {cc : ByteArray} {nL : Nat} {own : String} {rm : Room} {κ : KX} (hκ : Cx cc nL own rm κ) {Φ : HQ} {pc : Nat} {lv : List (Nat × Value)} {st : List Value} {S : wPS} (hΦ : Hd κ Φ S) {a idx : Nat} {ref host : String} (hO : a ∈ sL S ∧ sK S a = 6) (hlink : (own, idx, ref, "speed", "I", host) ∈ nestF) (hsm : ref = "Plotroom$Squadron" ∨ Cond.sameField ref "Plotroom$Squadron" "speed" "I" ∈ GA) (hdg : decode cc pc = .ok (.getfield idx, 3)) (kk : Gj κ Φ (pc + 3) lv (.int (sI S 34 a) :: st)) : Gj κ Φ pc lv (.ref a :: st) := by
  obtain ⟨p, l, e, R, s, m, args, below, meth, c, Q, D, cO, e0, A, mc, ms⟩ := κ
  obtain ⟨hx, hb, hml, hown, hts, hK, hG, hR, hlk⟩ := hκ
  intro H locs cells slots ls hF hl
  obtain ⟨k0, hk0, hk1⟩ := wG_Squadron cO S hO
  exact va_getN (D := D) (ci := 7) (C := RX7) (T := TX7) (N := 13) hx hb hts inlX7 hown hK (hΦ H locs cells slots hF).1 k0 hk1 rfl 4 (by decide) (va_Nw.use rfl (hG.1 _ hlink)) (fun x9 h9 => hsm.elim (fun z => by rw [z]; exact h9) (fun z => u_same (hts _ z) x9 h9)) rfl hdg (kk H locs cells slots ls hF hl)
theorem gt_Squadron_tank {cc : ByteArray} {nL : Nat} {own : String} {rm : Room} {κ : KX} (hκ : Cx cc nL own rm κ) {Φ : HQ} {pc : Nat} {lv : List (Nat × Value)} {st : List Value} {S : wPS} (hΦ : Hd κ Φ S) {a idx : Nat} {ref : String} (hO : a ∈ sL S ∧ sK S a = 6) (hlink : Cond.fieldLink own idx ref "tank" "I" ∈ GA) (hsm : ref = "Plotroom$Squadron" ∨ Cond.sameField ref "Plotroom$Squadron" "tank" "I" ∈ GA) (hdg : decode cc pc = .ok (.getfield idx, 3)) (kk : Gj κ Φ (pc + 3) lv (.int (sI S 35 a) :: st)) : Gj κ Φ pc lv (.ref a :: st) := by
  obtain ⟨p, l, e, R, s, m, args, below, meth, c, Q, D, cO, e0, A, mc, ms⟩ := κ
  obtain ⟨hx, hb, hml, hown, hts, hK, hG, hR, hlk⟩ := hκ
  intro H locs cells slots ls hF hl
  obtain ⟨k0, hk0, hk1⟩ := wG_Squadron cO S hO
  exact va_get (D := D) (ci := 7) (C := RX7) (T := TX7) (N := 13) hx hb hts inlX7 hown hK (hΦ H locs cells slots hF).1 k0 hk1 rfl 5 (by decide) (hts _ hlink) (fun x9 h9 => hsm.elim (fun z => by rw [z]; exact h9) (fun z => u_same (hts _ z) x9 h9)) rfl hdg (kk H locs cells slots ls hF hl)
theorem pt_Squadron_tank {cc : ByteArray} {nL : Nat} {own : String} {rm : Room} {κ : KX} (hκ : Cx cc nL own rm κ) {pc : Nat} {lv : List (Nat × Value)} {st : List Value} {S : wPS} {k n : Nat} {a idx : Nat} {ref : String} {v : Int32} (hO : a ∈ sL S ∧ sK S a = 6) (hlink : Cond.fieldLink own idx ref "tank" "I" ∈ GA) (hsm : ref = "Plotroom$Squadron" ∨ Cond.sameField ref "Plotroom$Squadron" "tank" "I" ∈ GA)  (hin : Nm "<init>" κ) (hde : "Plotroom$Squadron" = own) (hdg : decode cc pc = .ok (.putfield idx, 3)) (kk : Gj κ (PV κ (putI S 35 a v) k n) (pc + 3) lv st) : Gj κ (PV κ S k n) pc lv (.int v :: .ref a :: st) := by
  obtain ⟨p, l, e, R, s, m, args, below, meth, c, Q, D, cO, e0, A, mc, ms⟩ := κ
  obtain ⟨hx, hb, hml, hown, hts, hK, hG, hR, hlk⟩ := hκ
  intro H locs cells slots ls hF hl
  obtain ⟨hP, hD, hS, hc, hs⟩ := hF
  obtain ⟨k0, hk0, hk1⟩ := wG_Squadron cO S hO
  have eq9 := wU_Squadron_tank cO S hD hO hk0 v
  refine va_putF (D := D) (ci := 7) (v := .int v) (ty := .int) (C := RX7) (T := TX7) (N := 13) hx hb hts inlX7 tyX7 tyX7_ok nmX7 hown hK hP hD hS k0 hk1 rfl 5 (by decide) (hts _ hlink) (fun x9 h9 => hsm.elim (fun z => by rw [z]; exact h9) (fun z => u_same (hts _ z) x9 h9)) rfl hin hde rfl rfl rfl (by decide) hdg (fun H1 locs1 hP1 hD1 hS1 => ?_)
  exact kk H1 locs1 cells slots ls ⟨Eq.mp (congrArg (fun z => va_P D vwCl z H1) eq9) hP1, Eq.mp (congrArg (fun z => va_D A z) eq9) hD1, hS1, hc, hs⟩ hl
theorem gtN_Squadron_tank {cc : ByteArray} {nL : Nat} {own : String} {rm : Room} {κ : KX} (hκ : Cx cc nL own rm κ) {Φ : HQ} {pc : Nat} {lv : List (Nat × Value)} {st : List Value} {S : wPS} (hΦ : Hd κ Φ S) {a idx : Nat} {ref host : String} (hO : a ∈ sL S ∧ sK S a = 6) (hlink : (own, idx, ref, "tank", "I", host) ∈ nestF) (hsm : ref = "Plotroom$Squadron" ∨ Cond.sameField ref "Plotroom$Squadron" "tank" "I" ∈ GA) (hdg : decode cc pc = .ok (.getfield idx, 3)) (kk : Gj κ Φ (pc + 3) lv (.int (sI S 35 a) :: st)) : Gj κ Φ pc lv (.ref a :: st) := by
  obtain ⟨p, l, e, R, s, m, args, below, meth, c, Q, D, cO, e0, A, mc, ms⟩ := κ
  obtain ⟨hx, hb, hml, hown, hts, hK, hG, hR, hlk⟩ := hκ
  intro H locs cells slots ls hF hl
  obtain ⟨k0, hk0, hk1⟩ := wG_Squadron cO S hO
  exact va_getN (D := D) (ci := 7) (C := RX7) (T := TX7) (N := 13) hx hb hts inlX7 hown hK (hΦ H locs cells slots hF).1 k0 hk1 rfl 5 (by decide) (va_Nw.use rfl (hG.1 _ hlink)) (fun x9 h9 => hsm.elim (fun z => by rw [z]; exact h9) (fun z => u_same (hts _ z) x9 h9)) rfl hdg (kk H locs cells slots ls hF hl)
theorem gt_Squadron_ready {cc : ByteArray} {nL : Nat} {own : String} {rm : Room} {κ : KX} (hκ : Cx cc nL own rm κ) {Φ : HQ} {pc : Nat} {lv : List (Nat × Value)} {st : List Value} {S : wPS} (hΦ : Hd κ Φ S) {a idx : Nat} {ref : String} (hO : a ∈ sL S ∧ sK S a = 6) (hlink : Cond.fieldLink own idx ref "ready" "I" ∈ GA) (hsm : ref = "Plotroom$Squadron" ∨ Cond.sameField ref "Plotroom$Squadron" "ready" "I" ∈ GA) (hdg : decode cc pc = .ok (.getfield idx, 3)) (kk : Gj κ Φ (pc + 3) lv (.int (sI S 36 a) :: st)) : Gj κ Φ pc lv (.ref a :: st) := by
  obtain ⟨p, l, e, R, s, m, args, below, meth, c, Q, D, cO, e0, A, mc, ms⟩ := κ
  obtain ⟨hx, hb, hml, hown, hts, hK, hG, hR, hlk⟩ := hκ
  intro H locs cells slots ls hF hl
  obtain ⟨k0, hk0, hk1⟩ := wG_Squadron cO S hO
  exact va_get (D := D) (ci := 7) (C := RX7) (T := TX7) (N := 13) hx hb hts inlX7 hown hK (hΦ H locs cells slots hF).1 k0 hk1 rfl 6 (by decide) (hts _ hlink) (fun x9 h9 => hsm.elim (fun z => by rw [z]; exact h9) (fun z => u_same (hts _ z) x9 h9)) rfl hdg (kk H locs cells slots ls hF hl)
theorem pt_Squadron_ready {cc : ByteArray} {nL : Nat} {own : String} {rm : Room} {κ : KX} (hκ : Cx cc nL own rm κ) {pc : Nat} {lv : List (Nat × Value)} {st : List Value} {S : wPS} {k n : Nat} {a idx : Nat} {ref : String} {v : Int32} (hO : a ∈ sL S ∧ sK S a = 6) (hlink : Cond.fieldLink own idx ref "ready" "I" ∈ GA) (hsm : ref = "Plotroom$Squadron" ∨ Cond.sameField ref "Plotroom$Squadron" "ready" "I" ∈ GA)  (hin : Nm "<init>" κ) (hde : "Plotroom$Squadron" = own) (hdg : decode cc pc = .ok (.putfield idx, 3)) (kk : Gj κ (PV κ (putI S 36 a v) k n) (pc + 3) lv st) : Gj κ (PV κ S k n) pc lv (.int v :: .ref a :: st) := by
  obtain ⟨p, l, e, R, s, m, args, below, meth, c, Q, D, cO, e0, A, mc, ms⟩ := κ
  obtain ⟨hx, hb, hml, hown, hts, hK, hG, hR, hlk⟩ := hκ
  intro H locs cells slots ls hF hl
  obtain ⟨hP, hD, hS, hc, hs⟩ := hF
  obtain ⟨k0, hk0, hk1⟩ := wG_Squadron cO S hO
  have eq9 := wU_Squadron_ready cO S hD hO hk0 v
  refine va_putF (D := D) (ci := 7) (v := .int v) (ty := .int) (C := RX7) (T := TX7) (N := 13) hx hb hts inlX7 tyX7 tyX7_ok nmX7 hown hK hP hD hS k0 hk1 rfl 6 (by decide) (hts _ hlink) (fun x9 h9 => hsm.elim (fun z => by rw [z]; exact h9) (fun z => u_same (hts _ z) x9 h9)) rfl hin hde rfl rfl rfl (by decide) hdg (fun H1 locs1 hP1 hD1 hS1 => ?_)
  exact kk H1 locs1 cells slots ls ⟨Eq.mp (congrArg (fun z => va_P D vwCl z H1) eq9) hP1, Eq.mp (congrArg (fun z => va_D A z) eq9) hD1, hS1, hc, hs⟩ hl
theorem gtN_Squadron_ready {cc : ByteArray} {nL : Nat} {own : String} {rm : Room} {κ : KX} (hκ : Cx cc nL own rm κ) {Φ : HQ} {pc : Nat} {lv : List (Nat × Value)} {st : List Value} {S : wPS} (hΦ : Hd κ Φ S) {a idx : Nat} {ref host : String} (hO : a ∈ sL S ∧ sK S a = 6) (hlink : (own, idx, ref, "ready", "I", host) ∈ nestF) (hsm : ref = "Plotroom$Squadron" ∨ Cond.sameField ref "Plotroom$Squadron" "ready" "I" ∈ GA) (hdg : decode cc pc = .ok (.getfield idx, 3)) (kk : Gj κ Φ (pc + 3) lv (.int (sI S 36 a) :: st)) : Gj κ Φ pc lv (.ref a :: st) := by
  obtain ⟨p, l, e, R, s, m, args, below, meth, c, Q, D, cO, e0, A, mc, ms⟩ := κ
  obtain ⟨hx, hb, hml, hown, hts, hK, hG, hR, hlk⟩ := hκ
  intro H locs cells slots ls hF hl
  obtain ⟨k0, hk0, hk1⟩ := wG_Squadron cO S hO
  exact va_getN (D := D) (ci := 7) (C := RX7) (T := TX7) (N := 13) hx hb hts inlX7 hown hK (hΦ H locs cells slots hF).1 k0 hk1 rfl 6 (by decide) (va_Nw.use rfl (hG.1 _ hlink)) (fun x9 h9 => hsm.elim (fun z => by rw [z]; exact h9) (fun z => u_same (hts _ z) x9 h9)) rfl hdg (kk H locs cells slots ls hF hl)
theorem gt_Squadron_machines {cc : ByteArray} {nL : Nat} {own : String} {rm : Room} {κ : KX} (hκ : Cx cc nL own rm κ) {Φ : HQ} {pc : Nat} {lv : List (Nat × Value)} {st : List Value} {S : wPS} (hΦ : Hd κ Φ S) {a idx : Nat} {ref : String} (hO : a ∈ sL S ∧ sK S a = 6) (hlink : Cond.fieldLink own idx ref "machines" "I" ∈ GA) (hsm : ref = "Plotroom$Squadron" ∨ Cond.sameField ref "Plotroom$Squadron" "machines" "I" ∈ GA) (hdg : decode cc pc = .ok (.getfield idx, 3)) (kk : Gj κ Φ (pc + 3) lv (.int (sI S 37 a) :: st)) : Gj κ Φ pc lv (.ref a :: st) := by
  obtain ⟨p, l, e, R, s, m, args, below, meth, c, Q, D, cO, e0, A, mc, ms⟩ := κ
  obtain ⟨hx, hb, hml, hown, hts, hK, hG, hR, hlk⟩ := hκ
  intro H locs cells slots ls hF hl
  obtain ⟨k0, hk0, hk1⟩ := wG_Squadron cO S hO
  exact va_get (D := D) (ci := 7) (C := RX7) (T := TX7) (N := 13) hx hb hts inlX7 hown hK (hΦ H locs cells slots hF).1 k0 hk1 rfl 7 (by decide) (hts _ hlink) (fun x9 h9 => hsm.elim (fun z => by rw [z]; exact h9) (fun z => u_same (hts _ z) x9 h9)) rfl hdg (kk H locs cells slots ls hF hl)
theorem pt_Squadron_machines {cc : ByteArray} {nL : Nat} {own : String} {rm : Room} {κ : KX} (hκ : Cx cc nL own rm κ) {pc : Nat} {lv : List (Nat × Value)} {st : List Value} {S : wPS} {k n : Nat} {a idx : Nat} {ref : String} {v : Int32} (hO : a ∈ sL S ∧ sK S a = 6) (hlink : Cond.fieldLink own idx ref "machines" "I" ∈ GA) (hsm : ref = "Plotroom$Squadron" ∨ Cond.sameField ref "Plotroom$Squadron" "machines" "I" ∈ GA)   (hdg : decode cc pc = .ok (.putfield idx, 3)) (kk : Gj κ (PV κ (putI S 37 a v) k n) (pc + 3) lv st) : Gj κ (PV κ S k n) pc lv (.int v :: .ref a :: st) := by
  obtain ⟨p, l, e, R, s, m, args, below, meth, c, Q, D, cO, e0, A, mc, ms⟩ := κ
  obtain ⟨hx, hb, hml, hown, hts, hK, hG, hR, hlk⟩ := hκ
  intro H locs cells slots ls hF hl
  obtain ⟨hP, hD, hS, hc, hs⟩ := hF
  obtain ⟨k0, hk0, hk1⟩ := wG_Squadron cO S hO
  have eq9 := wU_Squadron_machines cO S hD hO hk0 v
  refine va_put (D := D) (ci := 7) (v := .int v) (ty := .int) (C := RX7) (T := TX7) (N := 13) hx hb hts inlX7 tyX7 tyX7_ok nmX7 hown hK hP hD hS k0 hk1 rfl 7 (by decide) (hts _ hlink) (fun x9 h9 => hsm.elim (fun z => by rw [z]; exact h9) (fun z => u_same (hts _ z) x9 h9)) rfl rfl rfl rfl (by decide) hdg (fun H1 locs1 hP1 hD1 hS1 => ?_)
  exact kk H1 locs1 cells slots ls ⟨Eq.mp (congrArg (fun z => va_P D vwCl z H1) eq9) hP1, Eq.mp (congrArg (fun z => va_D A z) eq9) hD1, hS1, hc, hs⟩ hl
theorem gtN_Squadron_machines {cc : ByteArray} {nL : Nat} {own : String} {rm : Room} {κ : KX} (hκ : Cx cc nL own rm κ) {Φ : HQ} {pc : Nat} {lv : List (Nat × Value)} {st : List Value} {S : wPS} (hΦ : Hd κ Φ S) {a idx : Nat} {ref host : String} (hO : a ∈ sL S ∧ sK S a = 6) (hlink : (own, idx, ref, "machines", "I", host) ∈ nestF) (hsm : ref = "Plotroom$Squadron" ∨ Cond.sameField ref "Plotroom$Squadron" "machines" "I" ∈ GA) (hdg : decode cc pc = .ok (.getfield idx, 3)) (kk : Gj κ Φ (pc + 3) lv (.int (sI S 37 a) :: st)) : Gj κ Φ pc lv (.ref a :: st) := by
  obtain ⟨p, l, e, R, s, m, args, below, meth, c, Q, D, cO, e0, A, mc, ms⟩ := κ
  obtain ⟨hx, hb, hml, hown, hts, hK, hG, hR, hlk⟩ := hκ
  intro H locs cells slots ls hF hl
  obtain ⟨k0, hk0, hk1⟩ := wG_Squadron cO S hO
  exact va_getN (D := D) (ci := 7) (C := RX7) (T := TX7) (N := 13) hx hb hts inlX7 hown hK (hΦ H locs cells slots hF).1 k0 hk1 rfl 7 (by decide) (va_Nw.use rfl (hG.1 _ hlink)) (fun x9 h9 => hsm.elim (fun z => by rw [z]; exact h9) (fun z => u_same (hts _ z) x9 h9)) rfl hdg (kk H locs cells slots ls hF hl)
theorem ptN_Squadron_machines {cc : ByteArray} {nL : Nat} {own : String} {rm : Room} {κ : KX} (hκ : Cx cc nL own rm κ) {pc : Nat} {lv : List (Nat × Value)} {st : List Value} {S : wPS} {k n : Nat} {a idx : Nat} {ref host : String} {v : Int32} (hO : a ∈ sL S ∧ sK S a = 6) (hlink : (own, idx, ref, "machines", "I", host) ∈ nestF) (hsm : ref = "Plotroom$Squadron" ∨ Cond.sameField ref "Plotroom$Squadron" "machines" "I" ∈ GA)   (hdg : decode cc pc = .ok (.putfield idx, 3)) (kk : Gj κ (PV κ (putI S 37 a v) k n) (pc + 3) lv st) : Gj κ (PV κ S k n) pc lv (.int v :: .ref a :: st) := by
  obtain ⟨p, l, e, R, s, m, args, below, meth, c, Q, D, cO, e0, A, mc, ms⟩ := κ
  obtain ⟨hx, hb, hml, hown, hts, hK, hG, hR, hlk⟩ := hκ
  intro H locs cells slots ls hF hl
  obtain ⟨hP, hD, hS, hc, hs⟩ := hF
  obtain ⟨k0, hk0, hk1⟩ := wG_Squadron cO S hO
  have eq9 := wU_Squadron_machines cO S hD hO hk0 v
  refine va_putN (D := D) (ci := 7) (v := .int v) (ty := .int) (C := RX7) (T := TX7) (N := 13) hx hb hts inlX7 tyX7 tyX7_ok nmX7 hown hK hP hD hS k0 hk1 rfl 7 (by decide) (va_Nw.use rfl (hG.1 _ hlink)) (fun x9 h9 => hsm.elim (fun z => by rw [z]; exact h9) (fun z => u_same (hts _ z) x9 h9)) rfl rfl rfl rfl (by decide) hdg (fun H1 locs1 hP1 hD1 hS1 => ?_)
  exact kk H1 locs1 cells slots ls ⟨Eq.mp (congrArg (fun z => va_P D vwCl z H1) eq9) hP1, Eq.mp (congrArg (fun z => va_D A z) eq9) hD1, hS1, hc, hs⟩ hl
theorem gt_Squadron_state {cc : ByteArray} {nL : Nat} {own : String} {rm : Room} {κ : KX} (hκ : Cx cc nL own rm κ) {Φ : HQ} {pc : Nat} {lv : List (Nat × Value)} {st : List Value} {S : wPS} (hΦ : Hd κ Φ S) {a idx : Nat} {ref : String} (hO : a ∈ sL S ∧ sK S a = 6) (hlink : Cond.fieldLink own idx ref "state" "I" ∈ GA) (hsm : ref = "Plotroom$Squadron" ∨ Cond.sameField ref "Plotroom$Squadron" "state" "I" ∈ GA) (hdg : decode cc pc = .ok (.getfield idx, 3)) (kk : Gj κ Φ (pc + 3) lv (.int (sI S 38 a) :: st)) : Gj κ Φ pc lv (.ref a :: st) := by
  obtain ⟨p, l, e, R, s, m, args, below, meth, c, Q, D, cO, e0, A, mc, ms⟩ := κ
  obtain ⟨hx, hb, hml, hown, hts, hK, hG, hR, hlk⟩ := hκ
  intro H locs cells slots ls hF hl
  obtain ⟨k0, hk0, hk1⟩ := wG_Squadron cO S hO
  exact va_get (D := D) (ci := 7) (C := RX7) (T := TX7) (N := 13) hx hb hts inlX7 hown hK (hΦ H locs cells slots hF).1 k0 hk1 rfl 8 (by decide) (hts _ hlink) (fun x9 h9 => hsm.elim (fun z => by rw [z]; exact h9) (fun z => u_same (hts _ z) x9 h9)) rfl hdg (kk H locs cells slots ls hF hl)
theorem pt_Squadron_state {cc : ByteArray} {nL : Nat} {own : String} {rm : Room} {κ : KX} (hκ : Cx cc nL own rm κ) {pc : Nat} {lv : List (Nat × Value)} {st : List Value} {S : wPS} {k n : Nat} {a idx : Nat} {ref : String} {v : Int32} (hO : a ∈ sL S ∧ sK S a = 6) (hlink : Cond.fieldLink own idx ref "state" "I" ∈ GA) (hsm : ref = "Plotroom$Squadron" ∨ Cond.sameField ref "Plotroom$Squadron" "state" "I" ∈ GA)   (hdg : decode cc pc = .ok (.putfield idx, 3)) (kk : Gj κ (PV κ (putI S 38 a v) k n) (pc + 3) lv st) : Gj κ (PV κ S k n) pc lv (.int v :: .ref a :: st) := by
  obtain ⟨p, l, e, R, s, m, args, below, meth, c, Q, D, cO, e0, A, mc, ms⟩ := κ
  obtain ⟨hx, hb, hml, hown, hts, hK, hG, hR, hlk⟩ := hκ
  intro H locs cells slots ls hF hl
  obtain ⟨hP, hD, hS, hc, hs⟩ := hF
  obtain ⟨k0, hk0, hk1⟩ := wG_Squadron cO S hO
  have eq9 := wU_Squadron_state cO S hD hO hk0 v
  refine va_put (D := D) (ci := 7) (v := .int v) (ty := .int) (C := RX7) (T := TX7) (N := 13) hx hb hts inlX7 tyX7 tyX7_ok nmX7 hown hK hP hD hS k0 hk1 rfl 8 (by decide) (hts _ hlink) (fun x9 h9 => hsm.elim (fun z => by rw [z]; exact h9) (fun z => u_same (hts _ z) x9 h9)) rfl rfl rfl rfl (by decide) hdg (fun H1 locs1 hP1 hD1 hS1 => ?_)
  exact kk H1 locs1 cells slots ls ⟨Eq.mp (congrArg (fun z => va_P D vwCl z H1) eq9) hP1, Eq.mp (congrArg (fun z => va_D A z) eq9) hD1, hS1, hc, hs⟩ hl
theorem gtN_Squadron_state {cc : ByteArray} {nL : Nat} {own : String} {rm : Room} {κ : KX} (hκ : Cx cc nL own rm κ) {Φ : HQ} {pc : Nat} {lv : List (Nat × Value)} {st : List Value} {S : wPS} (hΦ : Hd κ Φ S) {a idx : Nat} {ref host : String} (hO : a ∈ sL S ∧ sK S a = 6) (hlink : (own, idx, ref, "state", "I", host) ∈ nestF) (hsm : ref = "Plotroom$Squadron" ∨ Cond.sameField ref "Plotroom$Squadron" "state" "I" ∈ GA) (hdg : decode cc pc = .ok (.getfield idx, 3)) (kk : Gj κ Φ (pc + 3) lv (.int (sI S 38 a) :: st)) : Gj κ Φ pc lv (.ref a :: st) := by
  obtain ⟨p, l, e, R, s, m, args, below, meth, c, Q, D, cO, e0, A, mc, ms⟩ := κ
  obtain ⟨hx, hb, hml, hown, hts, hK, hG, hR, hlk⟩ := hκ
  intro H locs cells slots ls hF hl
  obtain ⟨k0, hk0, hk1⟩ := wG_Squadron cO S hO
  exact va_getN (D := D) (ci := 7) (C := RX7) (T := TX7) (N := 13) hx hb hts inlX7 hown hK (hΦ H locs cells slots hF).1 k0 hk1 rfl 8 (by decide) (va_Nw.use rfl (hG.1 _ hlink)) (fun x9 h9 => hsm.elim (fun z => by rw [z]; exact h9) (fun z => u_same (hts _ z) x9 h9)) rfl hdg (kk H locs cells slots ls hF hl)
theorem ptN_Squadron_state {cc : ByteArray} {nL : Nat} {own : String} {rm : Room} {κ : KX} (hκ : Cx cc nL own rm κ) {pc : Nat} {lv : List (Nat × Value)} {st : List Value} {S : wPS} {k n : Nat} {a idx : Nat} {ref host : String} {v : Int32} (hO : a ∈ sL S ∧ sK S a = 6) (hlink : (own, idx, ref, "state", "I", host) ∈ nestF) (hsm : ref = "Plotroom$Squadron" ∨ Cond.sameField ref "Plotroom$Squadron" "state" "I" ∈ GA)   (hdg : decode cc pc = .ok (.putfield idx, 3)) (kk : Gj κ (PV κ (putI S 38 a v) k n) (pc + 3) lv st) : Gj κ (PV κ S k n) pc lv (.int v :: .ref a :: st) := by
  obtain ⟨p, l, e, R, s, m, args, below, meth, c, Q, D, cO, e0, A, mc, ms⟩ := κ
  obtain ⟨hx, hb, hml, hown, hts, hK, hG, hR, hlk⟩ := hκ
  intro H locs cells slots ls hF hl
  obtain ⟨hP, hD, hS, hc, hs⟩ := hF
  obtain ⟨k0, hk0, hk1⟩ := wG_Squadron cO S hO
  have eq9 := wU_Squadron_state cO S hD hO hk0 v
  refine va_putN (D := D) (ci := 7) (v := .int v) (ty := .int) (C := RX7) (T := TX7) (N := 13) hx hb hts inlX7 tyX7 tyX7_ok nmX7 hown hK hP hD hS k0 hk1 rfl 8 (by decide) (va_Nw.use rfl (hG.1 _ hlink)) (fun x9 h9 => hsm.elim (fun z => by rw [z]; exact h9) (fun z => u_same (hts _ z) x9 h9)) rfl rfl rfl rfl (by decide) hdg (fun H1 locs1 hP1 hD1 hS1 => ?_)
  exact kk H1 locs1 cells slots ls ⟨Eq.mp (congrArg (fun z => va_P D vwCl z H1) eq9) hP1, Eq.mp (congrArg (fun z => va_D A z) eq9) hD1, hS1, hc, hs⟩ hl
theorem gt_Squadron_fuel {cc : ByteArray} {nL : Nat} {own : String} {rm : Room} {κ : KX} (hκ : Cx cc nL own rm κ) {Φ : HQ} {pc : Nat} {lv : List (Nat × Value)} {st : List Value} {S : wPS} (hΦ : Hd κ Φ S) {a idx : Nat} {ref : String} (hO : a ∈ sL S ∧ sK S a = 6) (hlink : Cond.fieldLink own idx ref "fuel" "I" ∈ GA) (hsm : ref = "Plotroom$Squadron" ∨ Cond.sameField ref "Plotroom$Squadron" "fuel" "I" ∈ GA) (hdg : decode cc pc = .ok (.getfield idx, 3)) (kk : Gj κ Φ (pc + 3) lv (.int (sI S 39 a) :: st)) : Gj κ Φ pc lv (.ref a :: st) := by
  obtain ⟨p, l, e, R, s, m, args, below, meth, c, Q, D, cO, e0, A, mc, ms⟩ := κ
  obtain ⟨hx, hb, hml, hown, hts, hK, hG, hR, hlk⟩ := hκ
  intro H locs cells slots ls hF hl
  obtain ⟨k0, hk0, hk1⟩ := wG_Squadron cO S hO
  exact va_get (D := D) (ci := 7) (C := RX7) (T := TX7) (N := 13) hx hb hts inlX7 hown hK (hΦ H locs cells slots hF).1 k0 hk1 rfl 9 (by decide) (hts _ hlink) (fun x9 h9 => hsm.elim (fun z => by rw [z]; exact h9) (fun z => u_same (hts _ z) x9 h9)) rfl hdg (kk H locs cells slots ls hF hl)
theorem pt_Squadron_fuel {cc : ByteArray} {nL : Nat} {own : String} {rm : Room} {κ : KX} (hκ : Cx cc nL own rm κ) {pc : Nat} {lv : List (Nat × Value)} {st : List Value} {S : wPS} {k n : Nat} {a idx : Nat} {ref : String} {v : Int32} (hO : a ∈ sL S ∧ sK S a = 6) (hlink : Cond.fieldLink own idx ref "fuel" "I" ∈ GA) (hsm : ref = "Plotroom$Squadron" ∨ Cond.sameField ref "Plotroom$Squadron" "fuel" "I" ∈ GA)   (hdg : decode cc pc = .ok (.putfield idx, 3)) (kk : Gj κ (PV κ (putI S 39 a v) k n) (pc + 3) lv st) : Gj κ (PV κ S k n) pc lv (.int v :: .ref a :: st) := by
  obtain ⟨p, l, e, R, s, m, args, below, meth, c, Q, D, cO, e0, A, mc, ms⟩ := κ
  obtain ⟨hx, hb, hml, hown, hts, hK, hG, hR, hlk⟩ := hκ
  intro H locs cells slots ls hF hl
  obtain ⟨hP, hD, hS, hc, hs⟩ := hF
  obtain ⟨k0, hk0, hk1⟩ := wG_Squadron cO S hO
  have eq9 := wU_Squadron_fuel cO S hD hO hk0 v
  refine va_put (D := D) (ci := 7) (v := .int v) (ty := .int) (C := RX7) (T := TX7) (N := 13) hx hb hts inlX7 tyX7 tyX7_ok nmX7 hown hK hP hD hS k0 hk1 rfl 9 (by decide) (hts _ hlink) (fun x9 h9 => hsm.elim (fun z => by rw [z]; exact h9) (fun z => u_same (hts _ z) x9 h9)) rfl rfl rfl rfl (by decide) hdg (fun H1 locs1 hP1 hD1 hS1 => ?_)
  exact kk H1 locs1 cells slots ls ⟨Eq.mp (congrArg (fun z => va_P D vwCl z H1) eq9) hP1, Eq.mp (congrArg (fun z => va_D A z) eq9) hD1, hS1, hc, hs⟩ hl
theorem gtN_Squadron_fuel {cc : ByteArray} {nL : Nat} {own : String} {rm : Room} {κ : KX} (hκ : Cx cc nL own rm κ) {Φ : HQ} {pc : Nat} {lv : List (Nat × Value)} {st : List Value} {S : wPS} (hΦ : Hd κ Φ S) {a idx : Nat} {ref host : String} (hO : a ∈ sL S ∧ sK S a = 6) (hlink : (own, idx, ref, "fuel", "I", host) ∈ nestF) (hsm : ref = "Plotroom$Squadron" ∨ Cond.sameField ref "Plotroom$Squadron" "fuel" "I" ∈ GA) (hdg : decode cc pc = .ok (.getfield idx, 3)) (kk : Gj κ Φ (pc + 3) lv (.int (sI S 39 a) :: st)) : Gj κ Φ pc lv (.ref a :: st) := by
  obtain ⟨p, l, e, R, s, m, args, below, meth, c, Q, D, cO, e0, A, mc, ms⟩ := κ
  obtain ⟨hx, hb, hml, hown, hts, hK, hG, hR, hlk⟩ := hκ
  intro H locs cells slots ls hF hl
  obtain ⟨k0, hk0, hk1⟩ := wG_Squadron cO S hO
  exact va_getN (D := D) (ci := 7) (C := RX7) (T := TX7) (N := 13) hx hb hts inlX7 hown hK (hΦ H locs cells slots hF).1 k0 hk1 rfl 9 (by decide) (va_Nw.use rfl (hG.1 _ hlink)) (fun x9 h9 => hsm.elim (fun z => by rw [z]; exact h9) (fun z => u_same (hts _ z) x9 h9)) rfl hdg (kk H locs cells slots ls hF hl)
theorem ptN_Squadron_fuel {cc : ByteArray} {nL : Nat} {own : String} {rm : Room} {κ : KX} (hκ : Cx cc nL own rm κ) {pc : Nat} {lv : List (Nat × Value)} {st : List Value} {S : wPS} {k n : Nat} {a idx : Nat} {ref host : String} {v : Int32} (hO : a ∈ sL S ∧ sK S a = 6) (hlink : (own, idx, ref, "fuel", "I", host) ∈ nestF) (hsm : ref = "Plotroom$Squadron" ∨ Cond.sameField ref "Plotroom$Squadron" "fuel" "I" ∈ GA)   (hdg : decode cc pc = .ok (.putfield idx, 3)) (kk : Gj κ (PV κ (putI S 39 a v) k n) (pc + 3) lv st) : Gj κ (PV κ S k n) pc lv (.int v :: .ref a :: st) := by
  obtain ⟨p, l, e, R, s, m, args, below, meth, c, Q, D, cO, e0, A, mc, ms⟩ := κ
  obtain ⟨hx, hb, hml, hown, hts, hK, hG, hR, hlk⟩ := hκ
  intro H locs cells slots ls hF hl
  obtain ⟨hP, hD, hS, hc, hs⟩ := hF
  obtain ⟨k0, hk0, hk1⟩ := wG_Squadron cO S hO
  have eq9 := wU_Squadron_fuel cO S hD hO hk0 v
  refine va_putN (D := D) (ci := 7) (v := .int v) (ty := .int) (C := RX7) (T := TX7) (N := 13) hx hb hts inlX7 tyX7 tyX7_ok nmX7 hown hK hP hD hS k0 hk1 rfl 9 (by decide) (va_Nw.use rfl (hG.1 _ hlink)) (fun x9 h9 => hsm.elim (fun z => by rw [z]; exact h9) (fun z => u_same (hts _ z) x9 h9)) rfl rfl rfl rfl (by decide) hdg (fun H1 locs1 hP1 hD1 hS1 => ?_)
  exact kk H1 locs1 cells slots ls ⟨Eq.mp (congrArg (fun z => va_P D vwCl z H1) eq9) hP1, Eq.mp (congrArg (fun z => va_D A z) eq9) hD1, hS1, hc, hs⟩ hl
theorem gt_Squadron_target {cc : ByteArray} {nL : Nat} {own : String} {rm : Room} {κ : KX} (hκ : Cx cc nL own rm κ) {Φ : HQ} {pc : Nat} {lv : List (Nat × Value)} {st : List Value} {S : wPS} (hΦ : Hd κ Φ S) {a idx : Nat} {ref : String} (hO : a ∈ sL S ∧ sK S a = 6) (hlink : Cond.fieldLink own idx ref "target" "LPlotroom$Track;" ∈ GA) (hsm : ref = "Plotroom$Squadron" ∨ Cond.sameField ref "Plotroom$Squadron" "target" "LPlotroom$Track;" ∈ GA) (hdg : decode cc pc = .ok (.getfield idx, 3)) (kk : Gj κ Φ (pc + 3) lv (va_rf (sR S 2 a) :: st)) : Gj κ Φ pc lv (.ref a :: st) := by
  obtain ⟨p, l, e, R, s, m, args, below, meth, c, Q, D, cO, e0, A, mc, ms⟩ := κ
  obtain ⟨hx, hb, hml, hown, hts, hK, hG, hR, hlk⟩ := hκ
  intro H locs cells slots ls hF hl
  obtain ⟨k0, hk0, hk1⟩ := wG_Squadron cO S hO
  exact va_get (D := D) (ci := 7) (C := RX7) (T := TX7) (N := 13) hx hb hts inlX7 hown hK (hΦ H locs cells slots hF).1 k0 hk1 rfl 10 (by decide) (hts _ hlink) (fun x9 h9 => hsm.elim (fun z => by rw [z]; exact h9) (fun z => u_same (hts _ z) x9 h9)) rfl hdg (kk H locs cells slots ls hF hl)
theorem pt_Squadron_target {cc : ByteArray} {nL : Nat} {own : String} {rm : Room} {κ : KX} (hκ : Cx cc nL own rm κ) {pc : Nat} {lv : List (Nat × Value)} {st : List Value} {S : wPS} {k n : Nat} {a idx : Nat} {ref : String} {v : Option Nat} (hO : a ∈ sL S ∧ sK S a = 6) (hlink : Cond.fieldLink own idx ref "target" "LPlotroom$Track;" ∈ GA) (hsm : ref = "Plotroom$Squadron" ∨ Cond.sameField ref "Plotroom$Squadron" "target" "LPlotroom$Track;" ∈ GA)   (hdg : decode cc pc = .ok (.putfield idx, 3)) (kk : Gj κ (PV κ (putR S 2 a v) k n) (pc + 3) lv st) : Gj κ (PV κ S k n) pc lv (va_rf v :: .ref a :: st) := by
  obtain ⟨p, l, e, R, s, m, args, below, meth, c, Q, D, cO, e0, A, mc, ms⟩ := κ
  obtain ⟨hx, hb, hml, hown, hts, hK, hG, hR, hlk⟩ := hκ
  intro H locs cells slots ls hF hl
  obtain ⟨hP, hD, hS, hc, hs⟩ := hF
  obtain ⟨k0, hk0, hk1⟩ := wG_Squadron cO S hO
  have eq9 := wU_Squadron_target cO S hD hO hk0 v
  refine va_put (D := D) (ci := 7) (v := va_rf v) (ty := .object "Plotroom$Track") (C := RX7) (T := TX7) (N := 13) hx hb hts inlX7 tyX7 tyX7_ok nmX7 hown hK hP hD hS k0 hk1 rfl 10 (by decide) (hts _ hlink) (fun x9 h9 => hsm.elim (fun z => by rw [z]; exact h9) (fun z => u_same (hts _ z) x9 h9)) rfl rfl (by cases v <;> rfl) (by cases v <;> rfl) (by decide) hdg (fun H1 locs1 hP1 hD1 hS1 => ?_)
  exact kk H1 locs1 cells slots ls ⟨Eq.mp (congrArg (fun z => va_P D vwCl z H1) eq9) hP1, Eq.mp (congrArg (fun z => va_D A z) eq9) hD1, hS1, hc, hs⟩ hl
theorem gtN_Squadron_target {cc : ByteArray} {nL : Nat} {own : String} {rm : Room} {κ : KX} (hκ : Cx cc nL own rm κ) {Φ : HQ} {pc : Nat} {lv : List (Nat × Value)} {st : List Value} {S : wPS} (hΦ : Hd κ Φ S) {a idx : Nat} {ref host : String} (hO : a ∈ sL S ∧ sK S a = 6) (hlink : (own, idx, ref, "target", "LPlotroom$Track;", host) ∈ nestF) (hsm : ref = "Plotroom$Squadron" ∨ Cond.sameField ref "Plotroom$Squadron" "target" "LPlotroom$Track;" ∈ GA) (hdg : decode cc pc = .ok (.getfield idx, 3)) (kk : Gj κ Φ (pc + 3) lv (va_rf (sR S 2 a) :: st)) : Gj κ Φ pc lv (.ref a :: st) := by
  obtain ⟨p, l, e, R, s, m, args, below, meth, c, Q, D, cO, e0, A, mc, ms⟩ := κ
  obtain ⟨hx, hb, hml, hown, hts, hK, hG, hR, hlk⟩ := hκ
  intro H locs cells slots ls hF hl
  obtain ⟨k0, hk0, hk1⟩ := wG_Squadron cO S hO
  exact va_getN (D := D) (ci := 7) (C := RX7) (T := TX7) (N := 13) hx hb hts inlX7 hown hK (hΦ H locs cells slots hF).1 k0 hk1 rfl 10 (by decide) (va_Nw.use rfl (hG.1 _ hlink)) (fun x9 h9 => hsm.elim (fun z => by rw [z]; exact h9) (fun z => u_same (hts _ z) x9 h9)) rfl hdg (kk H locs cells slots ls hF hl)
theorem ptN_Squadron_target {cc : ByteArray} {nL : Nat} {own : String} {rm : Room} {κ : KX} (hκ : Cx cc nL own rm κ) {pc : Nat} {lv : List (Nat × Value)} {st : List Value} {S : wPS} {k n : Nat} {a idx : Nat} {ref host : String} {v : Option Nat} (hO : a ∈ sL S ∧ sK S a = 6) (hlink : (own, idx, ref, "target", "LPlotroom$Track;", host) ∈ nestF) (hsm : ref = "Plotroom$Squadron" ∨ Cond.sameField ref "Plotroom$Squadron" "target" "LPlotroom$Track;" ∈ GA)   (hdg : decode cc pc = .ok (.putfield idx, 3)) (kk : Gj κ (PV κ (putR S 2 a v) k n) (pc + 3) lv st) : Gj κ (PV κ S k n) pc lv (va_rf v :: .ref a :: st) := by
  obtain ⟨p, l, e, R, s, m, args, below, meth, c, Q, D, cO, e0, A, mc, ms⟩ := κ
  obtain ⟨hx, hb, hml, hown, hts, hK, hG, hR, hlk⟩ := hκ
  intro H locs cells slots ls hF hl
  obtain ⟨hP, hD, hS, hc, hs⟩ := hF
  obtain ⟨k0, hk0, hk1⟩ := wG_Squadron cO S hO
  have eq9 := wU_Squadron_target cO S hD hO hk0 v
  refine va_putN (D := D) (ci := 7) (v := va_rf v) (ty := .object "Plotroom$Track") (C := RX7) (T := TX7) (N := 13) hx hb hts inlX7 tyX7 tyX7_ok nmX7 hown hK hP hD hS k0 hk1 rfl 10 (by decide) (va_Nw.use rfl (hG.1 _ hlink)) (fun x9 h9 => hsm.elim (fun z => by rw [z]; exact h9) (fun z => u_same (hts _ z) x9 h9)) rfl rfl (by cases v <;> rfl) (by cases v <;> rfl) (by decide) hdg (fun H1 locs1 hP1 hD1 hS1 => ?_)
  exact kk H1 locs1 cells slots ls ⟨Eq.mp (congrArg (fun z => va_P D vwCl z H1) eq9) hP1, Eq.mp (congrArg (fun z => va_D A z) eq9) hD1, hS1, hc, hs⟩ hl
theorem gt_Squadron_due {cc : ByteArray} {nL : Nat} {own : String} {rm : Room} {κ : KX} (hκ : Cx cc nL own rm κ) {Φ : HQ} {pc : Nat} {lv : List (Nat × Value)} {st : List Value} {S : wPS} (hΦ : Hd κ Φ S) {a idx : Nat} {ref : String} (hO : a ∈ sL S ∧ sK S a = 6) (hlink : Cond.fieldLink own idx ref "due" "I" ∈ GA) (hsm : ref = "Plotroom$Squadron" ∨ Cond.sameField ref "Plotroom$Squadron" "due" "I" ∈ GA) (hdg : decode cc pc = .ok (.getfield idx, 3)) (kk : Gj κ Φ (pc + 3) lv (.int (sI S 40 a) :: st)) : Gj κ Φ pc lv (.ref a :: st) := by
  obtain ⟨p, l, e, R, s, m, args, below, meth, c, Q, D, cO, e0, A, mc, ms⟩ := κ
  obtain ⟨hx, hb, hml, hown, hts, hK, hG, hR, hlk⟩ := hκ
  intro H locs cells slots ls hF hl
  obtain ⟨k0, hk0, hk1⟩ := wG_Squadron cO S hO
  exact va_get (D := D) (ci := 7) (C := RX7) (T := TX7) (N := 13) hx hb hts inlX7 hown hK (hΦ H locs cells slots hF).1 k0 hk1 rfl 11 (by decide) (hts _ hlink) (fun x9 h9 => hsm.elim (fun z => by rw [z]; exact h9) (fun z => u_same (hts _ z) x9 h9)) rfl hdg (kk H locs cells slots ls hF hl)
theorem pt_Squadron_due {cc : ByteArray} {nL : Nat} {own : String} {rm : Room} {κ : KX} (hκ : Cx cc nL own rm κ) {pc : Nat} {lv : List (Nat × Value)} {st : List Value} {S : wPS} {k n : Nat} {a idx : Nat} {ref : String} {v : Int32} (hO : a ∈ sL S ∧ sK S a = 6) (hlink : Cond.fieldLink own idx ref "due" "I" ∈ GA) (hsm : ref = "Plotroom$Squadron" ∨ Cond.sameField ref "Plotroom$Squadron" "due" "I" ∈ GA)   (hdg : decode cc pc = .ok (.putfield idx, 3)) (kk : Gj κ (PV κ (putI S 40 a v) k n) (pc + 3) lv st) : Gj κ (PV κ S k n) pc lv (.int v :: .ref a :: st) := by
  obtain ⟨p, l, e, R, s, m, args, below, meth, c, Q, D, cO, e0, A, mc, ms⟩ := κ
  obtain ⟨hx, hb, hml, hown, hts, hK, hG, hR, hlk⟩ := hκ
  intro H locs cells slots ls hF hl
  obtain ⟨hP, hD, hS, hc, hs⟩ := hF
  obtain ⟨k0, hk0, hk1⟩ := wG_Squadron cO S hO
  have eq9 := wU_Squadron_due cO S hD hO hk0 v
  refine va_put (D := D) (ci := 7) (v := .int v) (ty := .int) (C := RX7) (T := TX7) (N := 13) hx hb hts inlX7 tyX7 tyX7_ok nmX7 hown hK hP hD hS k0 hk1 rfl 11 (by decide) (hts _ hlink) (fun x9 h9 => hsm.elim (fun z => by rw [z]; exact h9) (fun z => u_same (hts _ z) x9 h9)) rfl rfl rfl rfl (by decide) hdg (fun H1 locs1 hP1 hD1 hS1 => ?_)
  exact kk H1 locs1 cells slots ls ⟨Eq.mp (congrArg (fun z => va_P D vwCl z H1) eq9) hP1, Eq.mp (congrArg (fun z => va_D A z) eq9) hD1, hS1, hc, hs⟩ hl
theorem gtN_Squadron_due {cc : ByteArray} {nL : Nat} {own : String} {rm : Room} {κ : KX} (hκ : Cx cc nL own rm κ) {Φ : HQ} {pc : Nat} {lv : List (Nat × Value)} {st : List Value} {S : wPS} (hΦ : Hd κ Φ S) {a idx : Nat} {ref host : String} (hO : a ∈ sL S ∧ sK S a = 6) (hlink : (own, idx, ref, "due", "I", host) ∈ nestF) (hsm : ref = "Plotroom$Squadron" ∨ Cond.sameField ref "Plotroom$Squadron" "due" "I" ∈ GA) (hdg : decode cc pc = .ok (.getfield idx, 3)) (kk : Gj κ Φ (pc + 3) lv (.int (sI S 40 a) :: st)) : Gj κ Φ pc lv (.ref a :: st) := by
  obtain ⟨p, l, e, R, s, m, args, below, meth, c, Q, D, cO, e0, A, mc, ms⟩ := κ
  obtain ⟨hx, hb, hml, hown, hts, hK, hG, hR, hlk⟩ := hκ
  intro H locs cells slots ls hF hl
  obtain ⟨k0, hk0, hk1⟩ := wG_Squadron cO S hO
  exact va_getN (D := D) (ci := 7) (C := RX7) (T := TX7) (N := 13) hx hb hts inlX7 hown hK (hΦ H locs cells slots hF).1 k0 hk1 rfl 11 (by decide) (va_Nw.use rfl (hG.1 _ hlink)) (fun x9 h9 => hsm.elim (fun z => by rw [z]; exact h9) (fun z => u_same (hts _ z) x9 h9)) rfl hdg (kk H locs cells slots ls hF hl)
theorem ptN_Squadron_due {cc : ByteArray} {nL : Nat} {own : String} {rm : Room} {κ : KX} (hκ : Cx cc nL own rm κ) {pc : Nat} {lv : List (Nat × Value)} {st : List Value} {S : wPS} {k n : Nat} {a idx : Nat} {ref host : String} {v : Int32} (hO : a ∈ sL S ∧ sK S a = 6) (hlink : (own, idx, ref, "due", "I", host) ∈ nestF) (hsm : ref = "Plotroom$Squadron" ∨ Cond.sameField ref "Plotroom$Squadron" "due" "I" ∈ GA)   (hdg : decode cc pc = .ok (.putfield idx, 3)) (kk : Gj κ (PV κ (putI S 40 a v) k n) (pc + 3) lv st) : Gj κ (PV κ S k n) pc lv (.int v :: .ref a :: st) := by
  obtain ⟨p, l, e, R, s, m, args, below, meth, c, Q, D, cO, e0, A, mc, ms⟩ := κ
  obtain ⟨hx, hb, hml, hown, hts, hK, hG, hR, hlk⟩ := hκ
  intro H locs cells slots ls hF hl
  obtain ⟨hP, hD, hS, hc, hs⟩ := hF
  obtain ⟨k0, hk0, hk1⟩ := wG_Squadron cO S hO
  have eq9 := wU_Squadron_due cO S hD hO hk0 v
  refine va_putN (D := D) (ci := 7) (v := .int v) (ty := .int) (C := RX7) (T := TX7) (N := 13) hx hb hts inlX7 tyX7 tyX7_ok nmX7 hown hK hP hD hS k0 hk1 rfl 11 (by decide) (va_Nw.use rfl (hG.1 _ hlink)) (fun x9 h9 => hsm.elim (fun z => by rw [z]; exact h9) (fun z => u_same (hts _ z) x9 h9)) rfl rfl rfl rfl (by decide) hdg (fun H1 locs1 hP1 hD1 hS1 => ?_)
  exact kk H1 locs1 cells slots ls ⟨Eq.mp (congrArg (fun z => va_P D vwCl z H1) eq9) hP1, Eq.mp (congrArg (fun z => va_D A z) eq9) hD1, hS1, hc, hs⟩ hl
theorem gt_Squadron_won {cc : ByteArray} {nL : Nat} {own : String} {rm : Room} {κ : KX} (hκ : Cx cc nL own rm κ) {Φ : HQ} {pc : Nat} {lv : List (Nat × Value)} {st : List Value} {S : wPS} (hΦ : Hd κ Φ S) {a idx : Nat} {ref : String} (hO : a ∈ sL S ∧ sK S a = 6) (hlink : Cond.fieldLink own idx ref "won" "I" ∈ GA) (hsm : ref = "Plotroom$Squadron" ∨ Cond.sameField ref "Plotroom$Squadron" "won" "I" ∈ GA) (hdg : decode cc pc = .ok (.getfield idx, 3)) (kk : Gj κ Φ (pc + 3) lv (.int (sI S 41 a) :: st)) : Gj κ Φ pc lv (.ref a :: st) := by
  obtain ⟨p, l, e, R, s, m, args, below, meth, c, Q, D, cO, e0, A, mc, ms⟩ := κ
  obtain ⟨hx, hb, hml, hown, hts, hK, hG, hR, hlk⟩ := hκ
  intro H locs cells slots ls hF hl
  obtain ⟨k0, hk0, hk1⟩ := wG_Squadron cO S hO
  exact va_get (D := D) (ci := 7) (C := RX7) (T := TX7) (N := 13) hx hb hts inlX7 hown hK (hΦ H locs cells slots hF).1 k0 hk1 rfl 12 (by decide) (hts _ hlink) (fun x9 h9 => hsm.elim (fun z => by rw [z]; exact h9) (fun z => u_same (hts _ z) x9 h9)) rfl hdg (kk H locs cells slots ls hF hl)
theorem pt_Squadron_won {cc : ByteArray} {nL : Nat} {own : String} {rm : Room} {κ : KX} (hκ : Cx cc nL own rm κ) {pc : Nat} {lv : List (Nat × Value)} {st : List Value} {S : wPS} {k n : Nat} {a idx : Nat} {ref : String} {v : Int32} (hO : a ∈ sL S ∧ sK S a = 6) (hlink : Cond.fieldLink own idx ref "won" "I" ∈ GA) (hsm : ref = "Plotroom$Squadron" ∨ Cond.sameField ref "Plotroom$Squadron" "won" "I" ∈ GA)   (hdg : decode cc pc = .ok (.putfield idx, 3)) (kk : Gj κ (PV κ (putI S 41 a v) k n) (pc + 3) lv st) : Gj κ (PV κ S k n) pc lv (.int v :: .ref a :: st) := by
  obtain ⟨p, l, e, R, s, m, args, below, meth, c, Q, D, cO, e0, A, mc, ms⟩ := κ
  obtain ⟨hx, hb, hml, hown, hts, hK, hG, hR, hlk⟩ := hκ
  intro H locs cells slots ls hF hl
  obtain ⟨hP, hD, hS, hc, hs⟩ := hF
  obtain ⟨k0, hk0, hk1⟩ := wG_Squadron cO S hO
  have eq9 := wU_Squadron_won cO S hD hO hk0 v
  refine va_put (D := D) (ci := 7) (v := .int v) (ty := .int) (C := RX7) (T := TX7) (N := 13) hx hb hts inlX7 tyX7 tyX7_ok nmX7 hown hK hP hD hS k0 hk1 rfl 12 (by decide) (hts _ hlink) (fun x9 h9 => hsm.elim (fun z => by rw [z]; exact h9) (fun z => u_same (hts _ z) x9 h9)) rfl rfl rfl rfl (by decide) hdg (fun H1 locs1 hP1 hD1 hS1 => ?_)
  exact kk H1 locs1 cells slots ls ⟨Eq.mp (congrArg (fun z => va_P D vwCl z H1) eq9) hP1, Eq.mp (congrArg (fun z => va_D A z) eq9) hD1, hS1, hc, hs⟩ hl
theorem gtN_Squadron_won {cc : ByteArray} {nL : Nat} {own : String} {rm : Room} {κ : KX} (hκ : Cx cc nL own rm κ) {Φ : HQ} {pc : Nat} {lv : List (Nat × Value)} {st : List Value} {S : wPS} (hΦ : Hd κ Φ S) {a idx : Nat} {ref host : String} (hO : a ∈ sL S ∧ sK S a = 6) (hlink : (own, idx, ref, "won", "I", host) ∈ nestF) (hsm : ref = "Plotroom$Squadron" ∨ Cond.sameField ref "Plotroom$Squadron" "won" "I" ∈ GA) (hdg : decode cc pc = .ok (.getfield idx, 3)) (kk : Gj κ Φ (pc + 3) lv (.int (sI S 41 a) :: st)) : Gj κ Φ pc lv (.ref a :: st) := by
  obtain ⟨p, l, e, R, s, m, args, below, meth, c, Q, D, cO, e0, A, mc, ms⟩ := κ
  obtain ⟨hx, hb, hml, hown, hts, hK, hG, hR, hlk⟩ := hκ
  intro H locs cells slots ls hF hl
  obtain ⟨k0, hk0, hk1⟩ := wG_Squadron cO S hO
  exact va_getN (D := D) (ci := 7) (C := RX7) (T := TX7) (N := 13) hx hb hts inlX7 hown hK (hΦ H locs cells slots hF).1 k0 hk1 rfl 12 (by decide) (va_Nw.use rfl (hG.1 _ hlink)) (fun x9 h9 => hsm.elim (fun z => by rw [z]; exact h9) (fun z => u_same (hts _ z) x9 h9)) rfl hdg (kk H locs cells slots ls hF hl)
theorem ptN_Squadron_won {cc : ByteArray} {nL : Nat} {own : String} {rm : Room} {κ : KX} (hκ : Cx cc nL own rm κ) {pc : Nat} {lv : List (Nat × Value)} {st : List Value} {S : wPS} {k n : Nat} {a idx : Nat} {ref host : String} {v : Int32} (hO : a ∈ sL S ∧ sK S a = 6) (hlink : (own, idx, ref, "won", "I", host) ∈ nestF) (hsm : ref = "Plotroom$Squadron" ∨ Cond.sameField ref "Plotroom$Squadron" "won" "I" ∈ GA)   (hdg : decode cc pc = .ok (.putfield idx, 3)) (kk : Gj κ (PV κ (putI S 41 a v) k n) (pc + 3) lv st) : Gj κ (PV κ S k n) pc lv (.int v :: .ref a :: st) := by
  obtain ⟨p, l, e, R, s, m, args, below, meth, c, Q, D, cO, e0, A, mc, ms⟩ := κ
  obtain ⟨hx, hb, hml, hown, hts, hK, hG, hR, hlk⟩ := hκ
  intro H locs cells slots ls hF hl
  obtain ⟨hP, hD, hS, hc, hs⟩ := hF
  obtain ⟨k0, hk0, hk1⟩ := wG_Squadron cO S hO
  have eq9 := wU_Squadron_won cO S hD hO hk0 v
  refine va_putN (D := D) (ci := 7) (v := .int v) (ty := .int) (C := RX7) (T := TX7) (N := 13) hx hb hts inlX7 tyX7 tyX7_ok nmX7 hown hK hP hD hS k0 hk1 rfl 12 (by decide) (va_Nw.use rfl (hG.1 _ hlink)) (fun x9 h9 => hsm.elim (fun z => by rw [z]; exact h9) (fun z => u_same (hts _ z) x9 h9)) rfl rfl rfl rfl (by decide) hdg (fun H1 locs1 hP1 hD1 hS1 => ?_)
  exact kk H1 locs1 cells slots ls ⟨Eq.mp (congrArg (fun z => va_P D vwCl z H1) eq9) hP1, Eq.mp (congrArg (fun z => va_D A z) eq9) hD1, hS1, hc, hs⟩ hl
theorem gt_Tally_refused {cc : ByteArray} {nL : Nat} {own : String} {rm : Room} {κ : KX} (hκ : Cx cc nL own rm κ) {Φ : HQ} {pc : Nat} {lv : List (Nat × Value)} {st : List Value} {S : wPS} (hΦ : Hd κ Φ S) {a idx : Nat} {ref : String} (hO : a ∈ sL S ∧ sK S a = 7) (hlink : Cond.fieldLink own idx ref "refused" "I" ∈ GA) (hsm : ref = "Plotroom$Tally" ∨ Cond.sameField ref "Plotroom$Tally" "refused" "I" ∈ GA) (hdg : decode cc pc = .ok (.getfield idx, 3)) (kk : Gj κ Φ (pc + 3) lv (.int (sI S 42 a) :: st)) : Gj κ Φ pc lv (.ref a :: st) := by
  obtain ⟨p, l, e, R, s, m, args, below, meth, c, Q, D, cO, e0, A, mc, ms⟩ := κ
  obtain ⟨hx, hb, hml, hown, hts, hK, hG, hR, hlk⟩ := hκ
  intro H locs cells slots ls hF hl
  obtain ⟨k0, hk0, hk1⟩ := wG_Tally cO S hO
  exact va_get (D := D) (ci := 8) (C := RX8) (T := TX8) (N := 8) hx hb hts inlX8 hown hK (hΦ H locs cells slots hF).1 k0 hk1 rfl 0 (by decide) (hts _ hlink) (fun x9 h9 => hsm.elim (fun z => by rw [z]; exact h9) (fun z => u_same (hts _ z) x9 h9)) rfl hdg (kk H locs cells slots ls hF hl)
theorem pt_Tally_refused {cc : ByteArray} {nL : Nat} {own : String} {rm : Room} {κ : KX} (hκ : Cx cc nL own rm κ) {pc : Nat} {lv : List (Nat × Value)} {st : List Value} {S : wPS} {k n : Nat} {a idx : Nat} {ref : String} {v : Int32} (hO : a ∈ sL S ∧ sK S a = 7) (hlink : Cond.fieldLink own idx ref "refused" "I" ∈ GA) (hsm : ref = "Plotroom$Tally" ∨ Cond.sameField ref "Plotroom$Tally" "refused" "I" ∈ GA)   (hdg : decode cc pc = .ok (.putfield idx, 3)) (kk : Gj κ (PV κ (putI S 42 a v) k n) (pc + 3) lv st) : Gj κ (PV κ S k n) pc lv (.int v :: .ref a :: st) := by
  obtain ⟨p, l, e, R, s, m, args, below, meth, c, Q, D, cO, e0, A, mc, ms⟩ := κ
  obtain ⟨hx, hb, hml, hown, hts, hK, hG, hR, hlk⟩ := hκ
  intro H locs cells slots ls hF hl
  obtain ⟨hP, hD, hS, hc, hs⟩ := hF
  obtain ⟨k0, hk0, hk1⟩ := wG_Tally cO S hO
  have eq9 := wU_Tally_refused cO S hD hO hk0 v
  refine va_put (D := D) (ci := 8) (v := .int v) (ty := .int) (C := RX8) (T := TX8) (N := 8) hx hb hts inlX8 tyX8 tyX8_ok nmX8 hown hK hP hD hS k0 hk1 rfl 0 (by decide) (hts _ hlink) (fun x9 h9 => hsm.elim (fun z => by rw [z]; exact h9) (fun z => u_same (hts _ z) x9 h9)) rfl rfl rfl rfl (by decide) hdg (fun H1 locs1 hP1 hD1 hS1 => ?_)
  exact kk H1 locs1 cells slots ls ⟨Eq.mp (congrArg (fun z => va_P D vwCl z H1) eq9) hP1, Eq.mp (congrArg (fun z => va_D A z) eq9) hD1, hS1, hc, hs⟩ hl
theorem gtN_Tally_refused {cc : ByteArray} {nL : Nat} {own : String} {rm : Room} {κ : KX} (hκ : Cx cc nL own rm κ) {Φ : HQ} {pc : Nat} {lv : List (Nat × Value)} {st : List Value} {S : wPS} (hΦ : Hd κ Φ S) {a idx : Nat} {ref host : String} (hO : a ∈ sL S ∧ sK S a = 7) (hlink : (own, idx, ref, "refused", "I", host) ∈ nestF) (hsm : ref = "Plotroom$Tally" ∨ Cond.sameField ref "Plotroom$Tally" "refused" "I" ∈ GA) (hdg : decode cc pc = .ok (.getfield idx, 3)) (kk : Gj κ Φ (pc + 3) lv (.int (sI S 42 a) :: st)) : Gj κ Φ pc lv (.ref a :: st) := by
  obtain ⟨p, l, e, R, s, m, args, below, meth, c, Q, D, cO, e0, A, mc, ms⟩ := κ
  obtain ⟨hx, hb, hml, hown, hts, hK, hG, hR, hlk⟩ := hκ
  intro H locs cells slots ls hF hl
  obtain ⟨k0, hk0, hk1⟩ := wG_Tally cO S hO
  exact va_getN (D := D) (ci := 8) (C := RX8) (T := TX8) (N := 8) hx hb hts inlX8 hown hK (hΦ H locs cells slots hF).1 k0 hk1 rfl 0 (by decide) (va_Nw.use rfl (hG.1 _ hlink)) (fun x9 h9 => hsm.elim (fun z => by rw [z]; exact h9) (fun z => u_same (hts _ z) x9 h9)) rfl hdg (kk H locs cells slots ls hF hl)
theorem ptN_Tally_refused {cc : ByteArray} {nL : Nat} {own : String} {rm : Room} {κ : KX} (hκ : Cx cc nL own rm κ) {pc : Nat} {lv : List (Nat × Value)} {st : List Value} {S : wPS} {k n : Nat} {a idx : Nat} {ref host : String} {v : Int32} (hO : a ∈ sL S ∧ sK S a = 7) (hlink : (own, idx, ref, "refused", "I", host) ∈ nestF) (hsm : ref = "Plotroom$Tally" ∨ Cond.sameField ref "Plotroom$Tally" "refused" "I" ∈ GA)   (hdg : decode cc pc = .ok (.putfield idx, 3)) (kk : Gj κ (PV κ (putI S 42 a v) k n) (pc + 3) lv st) : Gj κ (PV κ S k n) pc lv (.int v :: .ref a :: st) := by
  obtain ⟨p, l, e, R, s, m, args, below, meth, c, Q, D, cO, e0, A, mc, ms⟩ := κ
  obtain ⟨hx, hb, hml, hown, hts, hK, hG, hR, hlk⟩ := hκ
  intro H locs cells slots ls hF hl
  obtain ⟨hP, hD, hS, hc, hs⟩ := hF
  obtain ⟨k0, hk0, hk1⟩ := wG_Tally cO S hO
  have eq9 := wU_Tally_refused cO S hD hO hk0 v
  refine va_putN (D := D) (ci := 8) (v := .int v) (ty := .int) (C := RX8) (T := TX8) (N := 8) hx hb hts inlX8 tyX8 tyX8_ok nmX8 hown hK hP hD hS k0 hk1 rfl 0 (by decide) (va_Nw.use rfl (hG.1 _ hlink)) (fun x9 h9 => hsm.elim (fun z => by rw [z]; exact h9) (fun z => u_same (hts _ z) x9 h9)) rfl rfl rfl rfl (by decide) hdg (fun H1 locs1 hP1 hD1 hS1 => ?_)
  exact kk H1 locs1 cells slots ls ⟨Eq.mp (congrArg (fun z => va_P D vwCl z H1) eq9) hP1, Eq.mp (congrArg (fun z => va_D A z) eq9) hD1, hS1, hc, hs⟩ hl
theorem gt_Tally_plotsWithoutTrack {cc : ByteArray} {nL : Nat} {own : String} {rm : Room} {κ : KX} (hκ : Cx cc nL own rm κ) {Φ : HQ} {pc : Nat} {lv : List (Nat × Value)} {st : List Value} {S : wPS} (hΦ : Hd κ Φ S) {a idx : Nat} {ref : String} (hO : a ∈ sL S ∧ sK S a = 7) (hlink : Cond.fieldLink own idx ref "plotsWithoutTrack" "I" ∈ GA) (hsm : ref = "Plotroom$Tally" ∨ Cond.sameField ref "Plotroom$Tally" "plotsWithoutTrack" "I" ∈ GA) (hdg : decode cc pc = .ok (.getfield idx, 3)) (kk : Gj κ Φ (pc + 3) lv (.int (sI S 43 a) :: st)) : Gj κ Φ pc lv (.ref a :: st) := by
  obtain ⟨p, l, e, R, s, m, args, below, meth, c, Q, D, cO, e0, A, mc, ms⟩ := κ
  obtain ⟨hx, hb, hml, hown, hts, hK, hG, hR, hlk⟩ := hκ
  intro H locs cells slots ls hF hl
  obtain ⟨k0, hk0, hk1⟩ := wG_Tally cO S hO
  exact va_get (D := D) (ci := 8) (C := RX8) (T := TX8) (N := 8) hx hb hts inlX8 hown hK (hΦ H locs cells slots hF).1 k0 hk1 rfl 1 (by decide) (hts _ hlink) (fun x9 h9 => hsm.elim (fun z => by rw [z]; exact h9) (fun z => u_same (hts _ z) x9 h9)) rfl hdg (kk H locs cells slots ls hF hl)
theorem pt_Tally_plotsWithoutTrack {cc : ByteArray} {nL : Nat} {own : String} {rm : Room} {κ : KX} (hκ : Cx cc nL own rm κ) {pc : Nat} {lv : List (Nat × Value)} {st : List Value} {S : wPS} {k n : Nat} {a idx : Nat} {ref : String} {v : Int32} (hO : a ∈ sL S ∧ sK S a = 7) (hlink : Cond.fieldLink own idx ref "plotsWithoutTrack" "I" ∈ GA) (hsm : ref = "Plotroom$Tally" ∨ Cond.sameField ref "Plotroom$Tally" "plotsWithoutTrack" "I" ∈ GA)   (hdg : decode cc pc = .ok (.putfield idx, 3)) (kk : Gj κ (PV κ (putI S 43 a v) k n) (pc + 3) lv st) : Gj κ (PV κ S k n) pc lv (.int v :: .ref a :: st) := by
  obtain ⟨p, l, e, R, s, m, args, below, meth, c, Q, D, cO, e0, A, mc, ms⟩ := κ
  obtain ⟨hx, hb, hml, hown, hts, hK, hG, hR, hlk⟩ := hκ
  intro H locs cells slots ls hF hl
  obtain ⟨hP, hD, hS, hc, hs⟩ := hF
  obtain ⟨k0, hk0, hk1⟩ := wG_Tally cO S hO
  have eq9 := wU_Tally_plotsWithoutTrack cO S hD hO hk0 v
  refine va_put (D := D) (ci := 8) (v := .int v) (ty := .int) (C := RX8) (T := TX8) (N := 8) hx hb hts inlX8 tyX8 tyX8_ok nmX8 hown hK hP hD hS k0 hk1 rfl 1 (by decide) (hts _ hlink) (fun x9 h9 => hsm.elim (fun z => by rw [z]; exact h9) (fun z => u_same (hts _ z) x9 h9)) rfl rfl rfl rfl (by decide) hdg (fun H1 locs1 hP1 hD1 hS1 => ?_)
  exact kk H1 locs1 cells slots ls ⟨Eq.mp (congrArg (fun z => va_P D vwCl z H1) eq9) hP1, Eq.mp (congrArg (fun z => va_D A z) eq9) hD1, hS1, hc, hs⟩ hl
theorem gtN_Tally_plotsWithoutTrack {cc : ByteArray} {nL : Nat} {own : String} {rm : Room} {κ : KX} (hκ : Cx cc nL own rm κ) {Φ : HQ} {pc : Nat} {lv : List (Nat × Value)} {st : List Value} {S : wPS} (hΦ : Hd κ Φ S) {a idx : Nat} {ref host : String} (hO : a ∈ sL S ∧ sK S a = 7) (hlink : (own, idx, ref, "plotsWithoutTrack", "I", host) ∈ nestF) (hsm : ref = "Plotroom$Tally" ∨ Cond.sameField ref "Plotroom$Tally" "plotsWithoutTrack" "I" ∈ GA) (hdg : decode cc pc = .ok (.getfield idx, 3)) (kk : Gj κ Φ (pc + 3) lv (.int (sI S 43 a) :: st)) : Gj κ Φ pc lv (.ref a :: st) := by
  obtain ⟨p, l, e, R, s, m, args, below, meth, c, Q, D, cO, e0, A, mc, ms⟩ := κ
  obtain ⟨hx, hb, hml, hown, hts, hK, hG, hR, hlk⟩ := hκ
  intro H locs cells slots ls hF hl
  obtain ⟨k0, hk0, hk1⟩ := wG_Tally cO S hO
  exact va_getN (D := D) (ci := 8) (C := RX8) (T := TX8) (N := 8) hx hb hts inlX8 hown hK (hΦ H locs cells slots hF).1 k0 hk1 rfl 1 (by decide) (va_Nw.use rfl (hG.1 _ hlink)) (fun x9 h9 => hsm.elim (fun z => by rw [z]; exact h9) (fun z => u_same (hts _ z) x9 h9)) rfl hdg (kk H locs cells slots ls hF hl)
theorem ptN_Tally_plotsWithoutTrack {cc : ByteArray} {nL : Nat} {own : String} {rm : Room} {κ : KX} (hκ : Cx cc nL own rm κ) {pc : Nat} {lv : List (Nat × Value)} {st : List Value} {S : wPS} {k n : Nat} {a idx : Nat} {ref host : String} {v : Int32} (hO : a ∈ sL S ∧ sK S a = 7) (hlink : (own, idx, ref, "plotsWithoutTrack", "I", host) ∈ nestF) (hsm : ref = "Plotroom$Tally" ∨ Cond.sameField ref "Plotroom$Tally" "plotsWithoutTrack" "I" ∈ GA)   (hdg : decode cc pc = .ok (.putfield idx, 3)) (kk : Gj κ (PV κ (putI S 43 a v) k n) (pc + 3) lv st) : Gj κ (PV κ S k n) pc lv (.int v :: .ref a :: st) := by
  obtain ⟨p, l, e, R, s, m, args, below, meth, c, Q, D, cO, e0, A, mc, ms⟩ := κ
  obtain ⟨hx, hb, hml, hown, hts, hK, hG, hR, hlk⟩ := hκ
  intro H locs cells slots ls hF hl
  obtain ⟨hP, hD, hS, hc, hs⟩ := hF
  obtain ⟨k0, hk0, hk1⟩ := wG_Tally cO S hO
  have eq9 := wU_Tally_plotsWithoutTrack cO S hD hO hk0 v
  refine va_putN (D := D) (ci := 8) (v := .int v) (ty := .int) (C := RX8) (T := TX8) (N := 8) hx hb hts inlX8 tyX8 tyX8_ok nmX8 hown hK hP hD hS k0 hk1 rfl 1 (by decide) (va_Nw.use rfl (hG.1 _ hlink)) (fun x9 h9 => hsm.elim (fun z => by rw [z]; exact h9) (fun z => u_same (hts _ z) x9 h9)) rfl rfl rfl rfl (by decide) hdg (fun H1 locs1 hP1 hD1 hS1 => ?_)
  exact kk H1 locs1 cells slots ls ⟨Eq.mp (congrArg (fun z => va_P D vwCl z H1) eq9) hP1, Eq.mp (congrArg (fun z => va_D A z) eq9) hD1, hS1, hc, hs⟩ hl
theorem gt_Tally_fights {cc : ByteArray} {nL : Nat} {own : String} {rm : Room} {κ : KX} (hκ : Cx cc nL own rm κ) {Φ : HQ} {pc : Nat} {lv : List (Nat × Value)} {st : List Value} {S : wPS} (hΦ : Hd κ Φ S) {a idx : Nat} {ref : String} (hO : a ∈ sL S ∧ sK S a = 7) (hlink : Cond.fieldLink own idx ref "fights" "I" ∈ GA) (hsm : ref = "Plotroom$Tally" ∨ Cond.sameField ref "Plotroom$Tally" "fights" "I" ∈ GA) (hdg : decode cc pc = .ok (.getfield idx, 3)) (kk : Gj κ Φ (pc + 3) lv (.int (sI S 44 a) :: st)) : Gj κ Φ pc lv (.ref a :: st) := by
  obtain ⟨p, l, e, R, s, m, args, below, meth, c, Q, D, cO, e0, A, mc, ms⟩ := κ
  obtain ⟨hx, hb, hml, hown, hts, hK, hG, hR, hlk⟩ := hκ
  intro H locs cells slots ls hF hl
  obtain ⟨k0, hk0, hk1⟩ := wG_Tally cO S hO
  exact va_get (D := D) (ci := 8) (C := RX8) (T := TX8) (N := 8) hx hb hts inlX8 hown hK (hΦ H locs cells slots hF).1 k0 hk1 rfl 2 (by decide) (hts _ hlink) (fun x9 h9 => hsm.elim (fun z => by rw [z]; exact h9) (fun z => u_same (hts _ z) x9 h9)) rfl hdg (kk H locs cells slots ls hF hl)
theorem pt_Tally_fights {cc : ByteArray} {nL : Nat} {own : String} {rm : Room} {κ : KX} (hκ : Cx cc nL own rm κ) {pc : Nat} {lv : List (Nat × Value)} {st : List Value} {S : wPS} {k n : Nat} {a idx : Nat} {ref : String} {v : Int32} (hO : a ∈ sL S ∧ sK S a = 7) (hlink : Cond.fieldLink own idx ref "fights" "I" ∈ GA) (hsm : ref = "Plotroom$Tally" ∨ Cond.sameField ref "Plotroom$Tally" "fights" "I" ∈ GA)   (hdg : decode cc pc = .ok (.putfield idx, 3)) (kk : Gj κ (PV κ (putI S 44 a v) k n) (pc + 3) lv st) : Gj κ (PV κ S k n) pc lv (.int v :: .ref a :: st) := by
  obtain ⟨p, l, e, R, s, m, args, below, meth, c, Q, D, cO, e0, A, mc, ms⟩ := κ
  obtain ⟨hx, hb, hml, hown, hts, hK, hG, hR, hlk⟩ := hκ
  intro H locs cells slots ls hF hl
  obtain ⟨hP, hD, hS, hc, hs⟩ := hF
  obtain ⟨k0, hk0, hk1⟩ := wG_Tally cO S hO
  have eq9 := wU_Tally_fights cO S hD hO hk0 v
  refine va_put (D := D) (ci := 8) (v := .int v) (ty := .int) (C := RX8) (T := TX8) (N := 8) hx hb hts inlX8 tyX8 tyX8_ok nmX8 hown hK hP hD hS k0 hk1 rfl 2 (by decide) (hts _ hlink) (fun x9 h9 => hsm.elim (fun z => by rw [z]; exact h9) (fun z => u_same (hts _ z) x9 h9)) rfl rfl rfl rfl (by decide) hdg (fun H1 locs1 hP1 hD1 hS1 => ?_)
  exact kk H1 locs1 cells slots ls ⟨Eq.mp (congrArg (fun z => va_P D vwCl z H1) eq9) hP1, Eq.mp (congrArg (fun z => va_D A z) eq9) hD1, hS1, hc, hs⟩ hl
theorem gtN_Tally_fights {cc : ByteArray} {nL : Nat} {own : String} {rm : Room} {κ : KX} (hκ : Cx cc nL own rm κ) {Φ : HQ} {pc : Nat} {lv : List (Nat × Value)} {st : List Value} {S : wPS} (hΦ : Hd κ Φ S) {a idx : Nat} {ref host : String} (hO : a ∈ sL S ∧ sK S a = 7) (hlink : (own, idx, ref, "fights", "I", host) ∈ nestF) (hsm : ref = "Plotroom$Tally" ∨ Cond.sameField ref "Plotroom$Tally" "fights" "I" ∈ GA) (hdg : decode cc pc = .ok (.getfield idx, 3)) (kk : Gj κ Φ (pc + 3) lv (.int (sI S 44 a) :: st)) : Gj κ Φ pc lv (.ref a :: st) := by
  obtain ⟨p, l, e, R, s, m, args, below, meth, c, Q, D, cO, e0, A, mc, ms⟩ := κ
  obtain ⟨hx, hb, hml, hown, hts, hK, hG, hR, hlk⟩ := hκ
  intro H locs cells slots ls hF hl
  obtain ⟨k0, hk0, hk1⟩ := wG_Tally cO S hO
  exact va_getN (D := D) (ci := 8) (C := RX8) (T := TX8) (N := 8) hx hb hts inlX8 hown hK (hΦ H locs cells slots hF).1 k0 hk1 rfl 2 (by decide) (va_Nw.use rfl (hG.1 _ hlink)) (fun x9 h9 => hsm.elim (fun z => by rw [z]; exact h9) (fun z => u_same (hts _ z) x9 h9)) rfl hdg (kk H locs cells slots ls hF hl)
theorem ptN_Tally_fights {cc : ByteArray} {nL : Nat} {own : String} {rm : Room} {κ : KX} (hκ : Cx cc nL own rm κ) {pc : Nat} {lv : List (Nat × Value)} {st : List Value} {S : wPS} {k n : Nat} {a idx : Nat} {ref host : String} {v : Int32} (hO : a ∈ sL S ∧ sK S a = 7) (hlink : (own, idx, ref, "fights", "I", host) ∈ nestF) (hsm : ref = "Plotroom$Tally" ∨ Cond.sameField ref "Plotroom$Tally" "fights" "I" ∈ GA)   (hdg : decode cc pc = .ok (.putfield idx, 3)) (kk : Gj κ (PV κ (putI S 44 a v) k n) (pc + 3) lv st) : Gj κ (PV κ S k n) pc lv (.int v :: .ref a :: st) := by
  obtain ⟨p, l, e, R, s, m, args, below, meth, c, Q, D, cO, e0, A, mc, ms⟩ := κ
  obtain ⟨hx, hb, hml, hown, hts, hK, hG, hR, hlk⟩ := hκ
  intro H locs cells slots ls hF hl
  obtain ⟨hP, hD, hS, hc, hs⟩ := hF
  obtain ⟨k0, hk0, hk1⟩ := wG_Tally cO S hO
  have eq9 := wU_Tally_fights cO S hD hO hk0 v
  refine va_putN (D := D) (ci := 8) (v := .int v) (ty := .int) (C := RX8) (T := TX8) (N := 8) hx hb hts inlX8 tyX8 tyX8_ok nmX8 hown hK hP hD hS k0 hk1 rfl 2 (by decide) (va_Nw.use rfl (hG.1 _ hlink)) (fun x9 h9 => hsm.elim (fun z => by rw [z]; exact h9) (fun z => u_same (hts _ z) x9 h9)) rfl rfl rfl rfl (by decide) hdg (fun H1 locs1 hP1 hD1 hS1 => ?_)
  exact kk H1 locs1 cells slots ls ⟨Eq.mp (congrArg (fun z => va_P D vwCl z H1) eq9) hP1, Eq.mp (congrArg (fun z => va_D A z) eq9) hD1, hS1, hc, hs⟩ hl
theorem gt_Tally_claims {cc : ByteArray} {nL : Nat} {own : String} {rm : Room} {κ : KX} (hκ : Cx cc nL own rm κ) {Φ : HQ} {pc : Nat} {lv : List (Nat × Value)} {st : List Value} {S : wPS} (hΦ : Hd κ Φ S) {a idx : Nat} {ref : String} (hO : a ∈ sL S ∧ sK S a = 7) (hlink : Cond.fieldLink own idx ref "claims" "I" ∈ GA) (hsm : ref = "Plotroom$Tally" ∨ Cond.sameField ref "Plotroom$Tally" "claims" "I" ∈ GA) (hdg : decode cc pc = .ok (.getfield idx, 3)) (kk : Gj κ Φ (pc + 3) lv (.int (sI S 45 a) :: st)) : Gj κ Φ pc lv (.ref a :: st) := by
  obtain ⟨p, l, e, R, s, m, args, below, meth, c, Q, D, cO, e0, A, mc, ms⟩ := κ
  obtain ⟨hx, hb, hml, hown, hts, hK, hG, hR, hlk⟩ := hκ
  intro H locs cells slots ls hF hl
  obtain ⟨k0, hk0, hk1⟩ := wG_Tally cO S hO
  exact va_get (D := D) (ci := 8) (C := RX8) (T := TX8) (N := 8) hx hb hts inlX8 hown hK (hΦ H locs cells slots hF).1 k0 hk1 rfl 3 (by decide) (hts _ hlink) (fun x9 h9 => hsm.elim (fun z => by rw [z]; exact h9) (fun z => u_same (hts _ z) x9 h9)) rfl hdg (kk H locs cells slots ls hF hl)
theorem pt_Tally_claims {cc : ByteArray} {nL : Nat} {own : String} {rm : Room} {κ : KX} (hκ : Cx cc nL own rm κ) {pc : Nat} {lv : List (Nat × Value)} {st : List Value} {S : wPS} {k n : Nat} {a idx : Nat} {ref : String} {v : Int32} (hO : a ∈ sL S ∧ sK S a = 7) (hlink : Cond.fieldLink own idx ref "claims" "I" ∈ GA) (hsm : ref = "Plotroom$Tally" ∨ Cond.sameField ref "Plotroom$Tally" "claims" "I" ∈ GA)   (hdg : decode cc pc = .ok (.putfield idx, 3)) (kk : Gj κ (PV κ (putI S 45 a v) k n) (pc + 3) lv st) : Gj κ (PV κ S k n) pc lv (.int v :: .ref a :: st) := by
  obtain ⟨p, l, e, R, s, m, args, below, meth, c, Q, D, cO, e0, A, mc, ms⟩ := κ
  obtain ⟨hx, hb, hml, hown, hts, hK, hG, hR, hlk⟩ := hκ
  intro H locs cells slots ls hF hl
  obtain ⟨hP, hD, hS, hc, hs⟩ := hF
  obtain ⟨k0, hk0, hk1⟩ := wG_Tally cO S hO
  have eq9 := wU_Tally_claims cO S hD hO hk0 v
  refine va_put (D := D) (ci := 8) (v := .int v) (ty := .int) (C := RX8) (T := TX8) (N := 8) hx hb hts inlX8 tyX8 tyX8_ok nmX8 hown hK hP hD hS k0 hk1 rfl 3 (by decide) (hts _ hlink) (fun x9 h9 => hsm.elim (fun z => by rw [z]; exact h9) (fun z => u_same (hts _ z) x9 h9)) rfl rfl rfl rfl (by decide) hdg (fun H1 locs1 hP1 hD1 hS1 => ?_)
  exact kk H1 locs1 cells slots ls ⟨Eq.mp (congrArg (fun z => va_P D vwCl z H1) eq9) hP1, Eq.mp (congrArg (fun z => va_D A z) eq9) hD1, hS1, hc, hs⟩ hl
theorem gtN_Tally_claims {cc : ByteArray} {nL : Nat} {own : String} {rm : Room} {κ : KX} (hκ : Cx cc nL own rm κ) {Φ : HQ} {pc : Nat} {lv : List (Nat × Value)} {st : List Value} {S : wPS} (hΦ : Hd κ Φ S) {a idx : Nat} {ref host : String} (hO : a ∈ sL S ∧ sK S a = 7) (hlink : (own, idx, ref, "claims", "I", host) ∈ nestF) (hsm : ref = "Plotroom$Tally" ∨ Cond.sameField ref "Plotroom$Tally" "claims" "I" ∈ GA) (hdg : decode cc pc = .ok (.getfield idx, 3)) (kk : Gj κ Φ (pc + 3) lv (.int (sI S 45 a) :: st)) : Gj κ Φ pc lv (.ref a :: st) := by
  obtain ⟨p, l, e, R, s, m, args, below, meth, c, Q, D, cO, e0, A, mc, ms⟩ := κ
  obtain ⟨hx, hb, hml, hown, hts, hK, hG, hR, hlk⟩ := hκ
  intro H locs cells slots ls hF hl
  obtain ⟨k0, hk0, hk1⟩ := wG_Tally cO S hO
  exact va_getN (D := D) (ci := 8) (C := RX8) (T := TX8) (N := 8) hx hb hts inlX8 hown hK (hΦ H locs cells slots hF).1 k0 hk1 rfl 3 (by decide) (va_Nw.use rfl (hG.1 _ hlink)) (fun x9 h9 => hsm.elim (fun z => by rw [z]; exact h9) (fun z => u_same (hts _ z) x9 h9)) rfl hdg (kk H locs cells slots ls hF hl)
theorem ptN_Tally_claims {cc : ByteArray} {nL : Nat} {own : String} {rm : Room} {κ : KX} (hκ : Cx cc nL own rm κ) {pc : Nat} {lv : List (Nat × Value)} {st : List Value} {S : wPS} {k n : Nat} {a idx : Nat} {ref host : String} {v : Int32} (hO : a ∈ sL S ∧ sK S a = 7) (hlink : (own, idx, ref, "claims", "I", host) ∈ nestF) (hsm : ref = "Plotroom$Tally" ∨ Cond.sameField ref "Plotroom$Tally" "claims" "I" ∈ GA)   (hdg : decode cc pc = .ok (.putfield idx, 3)) (kk : Gj κ (PV κ (putI S 45 a v) k n) (pc + 3) lv st) : Gj κ (PV κ S k n) pc lv (.int v :: .ref a :: st) := by
  obtain ⟨p, l, e, R, s, m, args, below, meth, c, Q, D, cO, e0, A, mc, ms⟩ := κ
  obtain ⟨hx, hb, hml, hown, hts, hK, hG, hR, hlk⟩ := hκ
  intro H locs cells slots ls hF hl
  obtain ⟨hP, hD, hS, hc, hs⟩ := hF
  obtain ⟨k0, hk0, hk1⟩ := wG_Tally cO S hO
  have eq9 := wU_Tally_claims cO S hD hO hk0 v
  refine va_putN (D := D) (ci := 8) (v := .int v) (ty := .int) (C := RX8) (T := TX8) (N := 8) hx hb hts inlX8 tyX8 tyX8_ok nmX8 hown hK hP hD hS k0 hk1 rfl 3 (by decide) (va_Nw.use rfl (hG.1 _ hlink)) (fun x9 h9 => hsm.elim (fun z => by rw [z]; exact h9) (fun z => u_same (hts _ z) x9 h9)) rfl rfl rfl rfl (by decide) hdg (fun H1 locs1 hP1 hD1 hS1 => ?_)
  exact kk H1 locs1 cells slots ls ⟨Eq.mp (congrArg (fun z => va_P D vwCl z H1) eq9) hP1, Eq.mp (congrArg (fun z => va_D A z) eq9) hD1, hS1, hc, hs⟩ hl
theorem gt_Tally_machinesLost {cc : ByteArray} {nL : Nat} {own : String} {rm : Room} {κ : KX} (hκ : Cx cc nL own rm κ) {Φ : HQ} {pc : Nat} {lv : List (Nat × Value)} {st : List Value} {S : wPS} (hΦ : Hd κ Φ S) {a idx : Nat} {ref : String} (hO : a ∈ sL S ∧ sK S a = 7) (hlink : Cond.fieldLink own idx ref "machinesLost" "I" ∈ GA) (hsm : ref = "Plotroom$Tally" ∨ Cond.sameField ref "Plotroom$Tally" "machinesLost" "I" ∈ GA) (hdg : decode cc pc = .ok (.getfield idx, 3)) (kk : Gj κ Φ (pc + 3) lv (.int (sI S 46 a) :: st)) : Gj κ Φ pc lv (.ref a :: st) := by
  obtain ⟨p, l, e, R, s, m, args, below, meth, c, Q, D, cO, e0, A, mc, ms⟩ := κ
  obtain ⟨hx, hb, hml, hown, hts, hK, hG, hR, hlk⟩ := hκ
  intro H locs cells slots ls hF hl
  obtain ⟨k0, hk0, hk1⟩ := wG_Tally cO S hO
  exact va_get (D := D) (ci := 8) (C := RX8) (T := TX8) (N := 8) hx hb hts inlX8 hown hK (hΦ H locs cells slots hF).1 k0 hk1 rfl 4 (by decide) (hts _ hlink) (fun x9 h9 => hsm.elim (fun z => by rw [z]; exact h9) (fun z => u_same (hts _ z) x9 h9)) rfl hdg (kk H locs cells slots ls hF hl)
theorem pt_Tally_machinesLost {cc : ByteArray} {nL : Nat} {own : String} {rm : Room} {κ : KX} (hκ : Cx cc nL own rm κ) {pc : Nat} {lv : List (Nat × Value)} {st : List Value} {S : wPS} {k n : Nat} {a idx : Nat} {ref : String} {v : Int32} (hO : a ∈ sL S ∧ sK S a = 7) (hlink : Cond.fieldLink own idx ref "machinesLost" "I" ∈ GA) (hsm : ref = "Plotroom$Tally" ∨ Cond.sameField ref "Plotroom$Tally" "machinesLost" "I" ∈ GA)   (hdg : decode cc pc = .ok (.putfield idx, 3)) (kk : Gj κ (PV κ (putI S 46 a v) k n) (pc + 3) lv st) : Gj κ (PV κ S k n) pc lv (.int v :: .ref a :: st) := by
  obtain ⟨p, l, e, R, s, m, args, below, meth, c, Q, D, cO, e0, A, mc, ms⟩ := κ
  obtain ⟨hx, hb, hml, hown, hts, hK, hG, hR, hlk⟩ := hκ
  intro H locs cells slots ls hF hl
  obtain ⟨hP, hD, hS, hc, hs⟩ := hF
  obtain ⟨k0, hk0, hk1⟩ := wG_Tally cO S hO
  have eq9 := wU_Tally_machinesLost cO S hD hO hk0 v
  refine va_put (D := D) (ci := 8) (v := .int v) (ty := .int) (C := RX8) (T := TX8) (N := 8) hx hb hts inlX8 tyX8 tyX8_ok nmX8 hown hK hP hD hS k0 hk1 rfl 4 (by decide) (hts _ hlink) (fun x9 h9 => hsm.elim (fun z => by rw [z]; exact h9) (fun z => u_same (hts _ z) x9 h9)) rfl rfl rfl rfl (by decide) hdg (fun H1 locs1 hP1 hD1 hS1 => ?_)
  exact kk H1 locs1 cells slots ls ⟨Eq.mp (congrArg (fun z => va_P D vwCl z H1) eq9) hP1, Eq.mp (congrArg (fun z => va_D A z) eq9) hD1, hS1, hc, hs⟩ hl
theorem gtN_Tally_machinesLost {cc : ByteArray} {nL : Nat} {own : String} {rm : Room} {κ : KX} (hκ : Cx cc nL own rm κ) {Φ : HQ} {pc : Nat} {lv : List (Nat × Value)} {st : List Value} {S : wPS} (hΦ : Hd κ Φ S) {a idx : Nat} {ref host : String} (hO : a ∈ sL S ∧ sK S a = 7) (hlink : (own, idx, ref, "machinesLost", "I", host) ∈ nestF) (hsm : ref = "Plotroom$Tally" ∨ Cond.sameField ref "Plotroom$Tally" "machinesLost" "I" ∈ GA) (hdg : decode cc pc = .ok (.getfield idx, 3)) (kk : Gj κ Φ (pc + 3) lv (.int (sI S 46 a) :: st)) : Gj κ Φ pc lv (.ref a :: st) := by
  obtain ⟨p, l, e, R, s, m, args, below, meth, c, Q, D, cO, e0, A, mc, ms⟩ := κ
  obtain ⟨hx, hb, hml, hown, hts, hK, hG, hR, hlk⟩ := hκ
  intro H locs cells slots ls hF hl
  obtain ⟨k0, hk0, hk1⟩ := wG_Tally cO S hO
  exact va_getN (D := D) (ci := 8) (C := RX8) (T := TX8) (N := 8) hx hb hts inlX8 hown hK (hΦ H locs cells slots hF).1 k0 hk1 rfl 4 (by decide) (va_Nw.use rfl (hG.1 _ hlink)) (fun x9 h9 => hsm.elim (fun z => by rw [z]; exact h9) (fun z => u_same (hts _ z) x9 h9)) rfl hdg (kk H locs cells slots ls hF hl)
theorem ptN_Tally_machinesLost {cc : ByteArray} {nL : Nat} {own : String} {rm : Room} {κ : KX} (hκ : Cx cc nL own rm κ) {pc : Nat} {lv : List (Nat × Value)} {st : List Value} {S : wPS} {k n : Nat} {a idx : Nat} {ref host : String} {v : Int32} (hO : a ∈ sL S ∧ sK S a = 7) (hlink : (own, idx, ref, "machinesLost", "I", host) ∈ nestF) (hsm : ref = "Plotroom$Tally" ∨ Cond.sameField ref "Plotroom$Tally" "machinesLost" "I" ∈ GA)   (hdg : decode cc pc = .ok (.putfield idx, 3)) (kk : Gj κ (PV κ (putI S 46 a v) k n) (pc + 3) lv st) : Gj κ (PV κ S k n) pc lv (.int v :: .ref a :: st) := by
  obtain ⟨p, l, e, R, s, m, args, below, meth, c, Q, D, cO, e0, A, mc, ms⟩ := κ
  obtain ⟨hx, hb, hml, hown, hts, hK, hG, hR, hlk⟩ := hκ
  intro H locs cells slots ls hF hl
  obtain ⟨hP, hD, hS, hc, hs⟩ := hF
  obtain ⟨k0, hk0, hk1⟩ := wG_Tally cO S hO
  have eq9 := wU_Tally_machinesLost cO S hD hO hk0 v
  refine va_putN (D := D) (ci := 8) (v := .int v) (ty := .int) (C := RX8) (T := TX8) (N := 8) hx hb hts inlX8 tyX8 tyX8_ok nmX8 hown hK hP hD hS k0 hk1 rfl 4 (by decide) (va_Nw.use rfl (hG.1 _ hlink)) (fun x9 h9 => hsm.elim (fun z => by rw [z]; exact h9) (fun z => u_same (hts _ z) x9 h9)) rfl rfl rfl rfl (by decide) hdg (fun H1 locs1 hP1 hD1 hS1 => ?_)
  exact kk H1 locs1 cells slots ls ⟨Eq.mp (congrArg (fun z => va_P D vwCl z H1) eq9) hP1, Eq.mp (congrArg (fun z => va_D A z) eq9) hD1, hS1, hc, hs⟩ hl
theorem gt_Tally_shames {cc : ByteArray} {nL : Nat} {own : String} {rm : Room} {κ : KX} (hκ : Cx cc nL own rm κ) {Φ : HQ} {pc : Nat} {lv : List (Nat × Value)} {st : List Value} {S : wPS} (hΦ : Hd κ Φ S) {a idx : Nat} {ref : String} (hO : a ∈ sL S ∧ sK S a = 7) (hlink : Cond.fieldLink own idx ref "shames" "I" ∈ GA) (hsm : ref = "Plotroom$Tally" ∨ Cond.sameField ref "Plotroom$Tally" "shames" "I" ∈ GA) (hdg : decode cc pc = .ok (.getfield idx, 3)) (kk : Gj κ Φ (pc + 3) lv (.int (sI S 47 a) :: st)) : Gj κ Φ pc lv (.ref a :: st) := by
  obtain ⟨p, l, e, R, s, m, args, below, meth, c, Q, D, cO, e0, A, mc, ms⟩ := κ
  obtain ⟨hx, hb, hml, hown, hts, hK, hG, hR, hlk⟩ := hκ
  intro H locs cells slots ls hF hl
  obtain ⟨k0, hk0, hk1⟩ := wG_Tally cO S hO
  exact va_get (D := D) (ci := 8) (C := RX8) (T := TX8) (N := 8) hx hb hts inlX8 hown hK (hΦ H locs cells slots hF).1 k0 hk1 rfl 5 (by decide) (hts _ hlink) (fun x9 h9 => hsm.elim (fun z => by rw [z]; exact h9) (fun z => u_same (hts _ z) x9 h9)) rfl hdg (kk H locs cells slots ls hF hl)
theorem pt_Tally_shames {cc : ByteArray} {nL : Nat} {own : String} {rm : Room} {κ : KX} (hκ : Cx cc nL own rm κ) {pc : Nat} {lv : List (Nat × Value)} {st : List Value} {S : wPS} {k n : Nat} {a idx : Nat} {ref : String} {v : Int32} (hO : a ∈ sL S ∧ sK S a = 7) (hlink : Cond.fieldLink own idx ref "shames" "I" ∈ GA) (hsm : ref = "Plotroom$Tally" ∨ Cond.sameField ref "Plotroom$Tally" "shames" "I" ∈ GA)   (hdg : decode cc pc = .ok (.putfield idx, 3)) (kk : Gj κ (PV κ (putI S 47 a v) k n) (pc + 3) lv st) : Gj κ (PV κ S k n) pc lv (.int v :: .ref a :: st) := by
  obtain ⟨p, l, e, R, s, m, args, below, meth, c, Q, D, cO, e0, A, mc, ms⟩ := κ
  obtain ⟨hx, hb, hml, hown, hts, hK, hG, hR, hlk⟩ := hκ
  intro H locs cells slots ls hF hl
  obtain ⟨hP, hD, hS, hc, hs⟩ := hF
  obtain ⟨k0, hk0, hk1⟩ := wG_Tally cO S hO
  have eq9 := wU_Tally_shames cO S hD hO hk0 v
  refine va_put (D := D) (ci := 8) (v := .int v) (ty := .int) (C := RX8) (T := TX8) (N := 8) hx hb hts inlX8 tyX8 tyX8_ok nmX8 hown hK hP hD hS k0 hk1 rfl 5 (by decide) (hts _ hlink) (fun x9 h9 => hsm.elim (fun z => by rw [z]; exact h9) (fun z => u_same (hts _ z) x9 h9)) rfl rfl rfl rfl (by decide) hdg (fun H1 locs1 hP1 hD1 hS1 => ?_)
  exact kk H1 locs1 cells slots ls ⟨Eq.mp (congrArg (fun z => va_P D vwCl z H1) eq9) hP1, Eq.mp (congrArg (fun z => va_D A z) eq9) hD1, hS1, hc, hs⟩ hl
theorem gtN_Tally_shames {cc : ByteArray} {nL : Nat} {own : String} {rm : Room} {κ : KX} (hκ : Cx cc nL own rm κ) {Φ : HQ} {pc : Nat} {lv : List (Nat × Value)} {st : List Value} {S : wPS} (hΦ : Hd κ Φ S) {a idx : Nat} {ref host : String} (hO : a ∈ sL S ∧ sK S a = 7) (hlink : (own, idx, ref, "shames", "I", host) ∈ nestF) (hsm : ref = "Plotroom$Tally" ∨ Cond.sameField ref "Plotroom$Tally" "shames" "I" ∈ GA) (hdg : decode cc pc = .ok (.getfield idx, 3)) (kk : Gj κ Φ (pc + 3) lv (.int (sI S 47 a) :: st)) : Gj κ Φ pc lv (.ref a :: st) := by
  obtain ⟨p, l, e, R, s, m, args, below, meth, c, Q, D, cO, e0, A, mc, ms⟩ := κ
  obtain ⟨hx, hb, hml, hown, hts, hK, hG, hR, hlk⟩ := hκ
  intro H locs cells slots ls hF hl
  obtain ⟨k0, hk0, hk1⟩ := wG_Tally cO S hO
  exact va_getN (D := D) (ci := 8) (C := RX8) (T := TX8) (N := 8) hx hb hts inlX8 hown hK (hΦ H locs cells slots hF).1 k0 hk1 rfl 5 (by decide) (va_Nw.use rfl (hG.1 _ hlink)) (fun x9 h9 => hsm.elim (fun z => by rw [z]; exact h9) (fun z => u_same (hts _ z) x9 h9)) rfl hdg (kk H locs cells slots ls hF hl)
theorem ptN_Tally_shames {cc : ByteArray} {nL : Nat} {own : String} {rm : Room} {κ : KX} (hκ : Cx cc nL own rm κ) {pc : Nat} {lv : List (Nat × Value)} {st : List Value} {S : wPS} {k n : Nat} {a idx : Nat} {ref host : String} {v : Int32} (hO : a ∈ sL S ∧ sK S a = 7) (hlink : (own, idx, ref, "shames", "I", host) ∈ nestF) (hsm : ref = "Plotroom$Tally" ∨ Cond.sameField ref "Plotroom$Tally" "shames" "I" ∈ GA)   (hdg : decode cc pc = .ok (.putfield idx, 3)) (kk : Gj κ (PV κ (putI S 47 a v) k n) (pc + 3) lv st) : Gj κ (PV κ S k n) pc lv (.int v :: .ref a :: st) := by
  obtain ⟨p, l, e, R, s, m, args, below, meth, c, Q, D, cO, e0, A, mc, ms⟩ := κ
  obtain ⟨hx, hb, hml, hown, hts, hK, hG, hR, hlk⟩ := hκ
  intro H locs cells slots ls hF hl
  obtain ⟨hP, hD, hS, hc, hs⟩ := hF
  obtain ⟨k0, hk0, hk1⟩ := wG_Tally cO S hO
  have eq9 := wU_Tally_shames cO S hD hO hk0 v
  refine va_putN (D := D) (ci := 8) (v := .int v) (ty := .int) (C := RX8) (T := TX8) (N := 8) hx hb hts inlX8 tyX8 tyX8_ok nmX8 hown hK hP hD hS k0 hk1 rfl 5 (by decide) (va_Nw.use rfl (hG.1 _ hlink)) (fun x9 h9 => hsm.elim (fun z => by rw [z]; exact h9) (fun z => u_same (hts _ z) x9 h9)) rfl rfl rfl rfl (by decide) hdg (fun H1 locs1 hP1 hD1 hS1 => ?_)
  exact kk H1 locs1 cells slots ls ⟨Eq.mp (congrArg (fun z => va_P D vwCl z H1) eq9) hP1, Eq.mp (congrArg (fun z => va_D A z) eq9) hD1, hS1, hc, hs⟩ hl
theorem gt_Tally_work {cc : ByteArray} {nL : Nat} {own : String} {rm : Room} {κ : KX} (hκ : Cx cc nL own rm κ) {Φ : HQ} {pc : Nat} {lv : List (Nat × Value)} {st : List Value} {S : wPS} (hΦ : Hd κ Φ S) {a idx : Nat} {ref : String} (hO : a ∈ sL S ∧ sK S a = 7) (hlink : Cond.fieldLink own idx ref "work" "I" ∈ GA) (hsm : ref = "Plotroom$Tally" ∨ Cond.sameField ref "Plotroom$Tally" "work" "I" ∈ GA) (hdg : decode cc pc = .ok (.getfield idx, 3)) (kk : Gj κ Φ (pc + 3) lv (.int (sI S 48 a) :: st)) : Gj κ Φ pc lv (.ref a :: st) := by
  obtain ⟨p, l, e, R, s, m, args, below, meth, c, Q, D, cO, e0, A, mc, ms⟩ := κ
  obtain ⟨hx, hb, hml, hown, hts, hK, hG, hR, hlk⟩ := hκ
  intro H locs cells slots ls hF hl
  obtain ⟨k0, hk0, hk1⟩ := wG_Tally cO S hO
  exact va_get (D := D) (ci := 8) (C := RX8) (T := TX8) (N := 8) hx hb hts inlX8 hown hK (hΦ H locs cells slots hF).1 k0 hk1 rfl 6 (by decide) (hts _ hlink) (fun x9 h9 => hsm.elim (fun z => by rw [z]; exact h9) (fun z => u_same (hts _ z) x9 h9)) rfl hdg (kk H locs cells slots ls hF hl)
theorem pt_Tally_work {cc : ByteArray} {nL : Nat} {own : String} {rm : Room} {κ : KX} (hκ : Cx cc nL own rm κ) {pc : Nat} {lv : List (Nat × Value)} {st : List Value} {S : wPS} {k n : Nat} {a idx : Nat} {ref : String} {v : Int32} (hO : a ∈ sL S ∧ sK S a = 7) (hlink : Cond.fieldLink own idx ref "work" "I" ∈ GA) (hsm : ref = "Plotroom$Tally" ∨ Cond.sameField ref "Plotroom$Tally" "work" "I" ∈ GA)   (hdg : decode cc pc = .ok (.putfield idx, 3)) (kk : Gj κ (PV κ (putI S 48 a v) k n) (pc + 3) lv st) : Gj κ (PV κ S k n) pc lv (.int v :: .ref a :: st) := by
  obtain ⟨p, l, e, R, s, m, args, below, meth, c, Q, D, cO, e0, A, mc, ms⟩ := κ
  obtain ⟨hx, hb, hml, hown, hts, hK, hG, hR, hlk⟩ := hκ
  intro H locs cells slots ls hF hl
  obtain ⟨hP, hD, hS, hc, hs⟩ := hF
  obtain ⟨k0, hk0, hk1⟩ := wG_Tally cO S hO
  have eq9 := wU_Tally_work cO S hD hO hk0 v
  refine va_put (D := D) (ci := 8) (v := .int v) (ty := .int) (C := RX8) (T := TX8) (N := 8) hx hb hts inlX8 tyX8 tyX8_ok nmX8 hown hK hP hD hS k0 hk1 rfl 6 (by decide) (hts _ hlink) (fun x9 h9 => hsm.elim (fun z => by rw [z]; exact h9) (fun z => u_same (hts _ z) x9 h9)) rfl rfl rfl rfl (by decide) hdg (fun H1 locs1 hP1 hD1 hS1 => ?_)
  exact kk H1 locs1 cells slots ls ⟨Eq.mp (congrArg (fun z => va_P D vwCl z H1) eq9) hP1, Eq.mp (congrArg (fun z => va_D A z) eq9) hD1, hS1, hc, hs⟩ hl
theorem gtN_Tally_work {cc : ByteArray} {nL : Nat} {own : String} {rm : Room} {κ : KX} (hκ : Cx cc nL own rm κ) {Φ : HQ} {pc : Nat} {lv : List (Nat × Value)} {st : List Value} {S : wPS} (hΦ : Hd κ Φ S) {a idx : Nat} {ref host : String} (hO : a ∈ sL S ∧ sK S a = 7) (hlink : (own, idx, ref, "work", "I", host) ∈ nestF) (hsm : ref = "Plotroom$Tally" ∨ Cond.sameField ref "Plotroom$Tally" "work" "I" ∈ GA) (hdg : decode cc pc = .ok (.getfield idx, 3)) (kk : Gj κ Φ (pc + 3) lv (.int (sI S 48 a) :: st)) : Gj κ Φ pc lv (.ref a :: st) := by
  obtain ⟨p, l, e, R, s, m, args, below, meth, c, Q, D, cO, e0, A, mc, ms⟩ := κ
  obtain ⟨hx, hb, hml, hown, hts, hK, hG, hR, hlk⟩ := hκ
  intro H locs cells slots ls hF hl
  obtain ⟨k0, hk0, hk1⟩ := wG_Tally cO S hO
  exact va_getN (D := D) (ci := 8) (C := RX8) (T := TX8) (N := 8) hx hb hts inlX8 hown hK (hΦ H locs cells slots hF).1 k0 hk1 rfl 6 (by decide) (va_Nw.use rfl (hG.1 _ hlink)) (fun x9 h9 => hsm.elim (fun z => by rw [z]; exact h9) (fun z => u_same (hts _ z) x9 h9)) rfl hdg (kk H locs cells slots ls hF hl)
theorem ptN_Tally_work {cc : ByteArray} {nL : Nat} {own : String} {rm : Room} {κ : KX} (hκ : Cx cc nL own rm κ) {pc : Nat} {lv : List (Nat × Value)} {st : List Value} {S : wPS} {k n : Nat} {a idx : Nat} {ref host : String} {v : Int32} (hO : a ∈ sL S ∧ sK S a = 7) (hlink : (own, idx, ref, "work", "I", host) ∈ nestF) (hsm : ref = "Plotroom$Tally" ∨ Cond.sameField ref "Plotroom$Tally" "work" "I" ∈ GA)   (hdg : decode cc pc = .ok (.putfield idx, 3)) (kk : Gj κ (PV κ (putI S 48 a v) k n) (pc + 3) lv st) : Gj κ (PV κ S k n) pc lv (.int v :: .ref a :: st) := by
  obtain ⟨p, l, e, R, s, m, args, below, meth, c, Q, D, cO, e0, A, mc, ms⟩ := κ
  obtain ⟨hx, hb, hml, hown, hts, hK, hG, hR, hlk⟩ := hκ
  intro H locs cells slots ls hF hl
  obtain ⟨hP, hD, hS, hc, hs⟩ := hF
  obtain ⟨k0, hk0, hk1⟩ := wG_Tally cO S hO
  have eq9 := wU_Tally_work cO S hD hO hk0 v
  refine va_putN (D := D) (ci := 8) (v := .int v) (ty := .int) (C := RX8) (T := TX8) (N := 8) hx hb hts inlX8 tyX8 tyX8_ok nmX8 hown hK hP hD hS k0 hk1 rfl 6 (by decide) (va_Nw.use rfl (hG.1 _ hlink)) (fun x9 h9 => hsm.elim (fun z => by rw [z]; exact h9) (fun z => u_same (hts _ z) x9 h9)) rfl rfl rfl rfl (by decide) hdg (fun H1 locs1 hP1 hD1 hS1 => ?_)
  exact kk H1 locs1 cells slots ls ⟨Eq.mp (congrArg (fun z => va_P D vwCl z H1) eq9) hP1, Eq.mp (congrArg (fun z => va_D A z) eq9) hD1, hS1, hc, hs⟩ hl
theorem gt_Tally_lives {cc : ByteArray} {nL : Nat} {own : String} {rm : Room} {κ : KX} (hκ : Cx cc nL own rm κ) {Φ : HQ} {pc : Nat} {lv : List (Nat × Value)} {st : List Value} {S : wPS} (hΦ : Hd κ Φ S) {a idx : Nat} {ref : String} (hO : a ∈ sL S ∧ sK S a = 7) (hlink : Cond.fieldLink own idx ref "lives" "I" ∈ GA) (hsm : ref = "Plotroom$Tally" ∨ Cond.sameField ref "Plotroom$Tally" "lives" "I" ∈ GA) (hdg : decode cc pc = .ok (.getfield idx, 3)) (kk : Gj κ Φ (pc + 3) lv (.int (sI S 49 a) :: st)) : Gj κ Φ pc lv (.ref a :: st) := by
  obtain ⟨p, l, e, R, s, m, args, below, meth, c, Q, D, cO, e0, A, mc, ms⟩ := κ
  obtain ⟨hx, hb, hml, hown, hts, hK, hG, hR, hlk⟩ := hκ
  intro H locs cells slots ls hF hl
  obtain ⟨k0, hk0, hk1⟩ := wG_Tally cO S hO
  exact va_get (D := D) (ci := 8) (C := RX8) (T := TX8) (N := 8) hx hb hts inlX8 hown hK (hΦ H locs cells slots hF).1 k0 hk1 rfl 7 (by decide) (hts _ hlink) (fun x9 h9 => hsm.elim (fun z => by rw [z]; exact h9) (fun z => u_same (hts _ z) x9 h9)) rfl hdg (kk H locs cells slots ls hF hl)
theorem pt_Tally_lives {cc : ByteArray} {nL : Nat} {own : String} {rm : Room} {κ : KX} (hκ : Cx cc nL own rm κ) {pc : Nat} {lv : List (Nat × Value)} {st : List Value} {S : wPS} {k n : Nat} {a idx : Nat} {ref : String} {v : Int32} (hO : a ∈ sL S ∧ sK S a = 7) (hlink : Cond.fieldLink own idx ref "lives" "I" ∈ GA) (hsm : ref = "Plotroom$Tally" ∨ Cond.sameField ref "Plotroom$Tally" "lives" "I" ∈ GA)   (hdg : decode cc pc = .ok (.putfield idx, 3)) (kk : Gj κ (PV κ (putI S 49 a v) k n) (pc + 3) lv st) : Gj κ (PV κ S k n) pc lv (.int v :: .ref a :: st) := by
  obtain ⟨p, l, e, R, s, m, args, below, meth, c, Q, D, cO, e0, A, mc, ms⟩ := κ
  obtain ⟨hx, hb, hml, hown, hts, hK, hG, hR, hlk⟩ := hκ
  intro H locs cells slots ls hF hl
  obtain ⟨hP, hD, hS, hc, hs⟩ := hF
  obtain ⟨k0, hk0, hk1⟩ := wG_Tally cO S hO
  have eq9 := wU_Tally_lives cO S hD hO hk0 v
  refine va_put (D := D) (ci := 8) (v := .int v) (ty := .int) (C := RX8) (T := TX8) (N := 8) hx hb hts inlX8 tyX8 tyX8_ok nmX8 hown hK hP hD hS k0 hk1 rfl 7 (by decide) (hts _ hlink) (fun x9 h9 => hsm.elim (fun z => by rw [z]; exact h9) (fun z => u_same (hts _ z) x9 h9)) rfl rfl rfl rfl (by decide) hdg (fun H1 locs1 hP1 hD1 hS1 => ?_)
  exact kk H1 locs1 cells slots ls ⟨Eq.mp (congrArg (fun z => va_P D vwCl z H1) eq9) hP1, Eq.mp (congrArg (fun z => va_D A z) eq9) hD1, hS1, hc, hs⟩ hl
theorem gtN_Tally_lives {cc : ByteArray} {nL : Nat} {own : String} {rm : Room} {κ : KX} (hκ : Cx cc nL own rm κ) {Φ : HQ} {pc : Nat} {lv : List (Nat × Value)} {st : List Value} {S : wPS} (hΦ : Hd κ Φ S) {a idx : Nat} {ref host : String} (hO : a ∈ sL S ∧ sK S a = 7) (hlink : (own, idx, ref, "lives", "I", host) ∈ nestF) (hsm : ref = "Plotroom$Tally" ∨ Cond.sameField ref "Plotroom$Tally" "lives" "I" ∈ GA) (hdg : decode cc pc = .ok (.getfield idx, 3)) (kk : Gj κ Φ (pc + 3) lv (.int (sI S 49 a) :: st)) : Gj κ Φ pc lv (.ref a :: st) := by
  obtain ⟨p, l, e, R, s, m, args, below, meth, c, Q, D, cO, e0, A, mc, ms⟩ := κ
  obtain ⟨hx, hb, hml, hown, hts, hK, hG, hR, hlk⟩ := hκ
  intro H locs cells slots ls hF hl
  obtain ⟨k0, hk0, hk1⟩ := wG_Tally cO S hO
  exact va_getN (D := D) (ci := 8) (C := RX8) (T := TX8) (N := 8) hx hb hts inlX8 hown hK (hΦ H locs cells slots hF).1 k0 hk1 rfl 7 (by decide) (va_Nw.use rfl (hG.1 _ hlink)) (fun x9 h9 => hsm.elim (fun z => by rw [z]; exact h9) (fun z => u_same (hts _ z) x9 h9)) rfl hdg (kk H locs cells slots ls hF hl)
theorem ptN_Tally_lives {cc : ByteArray} {nL : Nat} {own : String} {rm : Room} {κ : KX} (hκ : Cx cc nL own rm κ) {pc : Nat} {lv : List (Nat × Value)} {st : List Value} {S : wPS} {k n : Nat} {a idx : Nat} {ref host : String} {v : Int32} (hO : a ∈ sL S ∧ sK S a = 7) (hlink : (own, idx, ref, "lives", "I", host) ∈ nestF) (hsm : ref = "Plotroom$Tally" ∨ Cond.sameField ref "Plotroom$Tally" "lives" "I" ∈ GA)   (hdg : decode cc pc = .ok (.putfield idx, 3)) (kk : Gj κ (PV κ (putI S 49 a v) k n) (pc + 3) lv st) : Gj κ (PV κ S k n) pc lv (.int v :: .ref a :: st) := by
  obtain ⟨p, l, e, R, s, m, args, below, meth, c, Q, D, cO, e0, A, mc, ms⟩ := κ
  obtain ⟨hx, hb, hml, hown, hts, hK, hG, hR, hlk⟩ := hκ
  intro H locs cells slots ls hF hl
  obtain ⟨hP, hD, hS, hc, hs⟩ := hF
  obtain ⟨k0, hk0, hk1⟩ := wG_Tally cO S hO
  have eq9 := wU_Tally_lives cO S hD hO hk0 v
  refine va_putN (D := D) (ci := 8) (v := .int v) (ty := .int) (C := RX8) (T := TX8) (N := 8) hx hb hts inlX8 tyX8 tyX8_ok nmX8 hown hK hP hD hS k0 hk1 rfl 7 (by decide) (va_Nw.use rfl (hG.1 _ hlink)) (fun x9 h9 => hsm.elim (fun z => by rw [z]; exact h9) (fun z => u_same (hts _ z) x9 h9)) rfl rfl rfl rfl (by decide) hdg (fun H1 locs1 hP1 hD1 hS1 => ?_)
  exact kk H1 locs1 cells slots ls ⟨Eq.mp (congrArg (fun z => va_P D vwCl z H1) eq9) hP1, Eq.mp (congrArg (fun z => va_D A z) eq9) hD1, hS1, hc, hs⟩ hl
theorem gt_Town_x {cc : ByteArray} {nL : Nat} {own : String} {rm : Room} {κ : KX} (hκ : Cx cc nL own rm κ) {Φ : HQ} {pc : Nat} {lv : List (Nat × Value)} {st : List Value} {S : wPS} (hΦ : Hd κ Φ S) {a idx : Nat} {ref : String} (hO : a ∈ sL S ∧ sK S a = 8) (hlink : Cond.fieldLink own idx ref "x" "I" ∈ GA) (hsm : ref = "Plotroom$Place" ∨ Cond.sameField ref "Plotroom$Place" "x" "I" ∈ GA) (hdg : decode cc pc = .ok (.getfield idx, 3)) (kk : Gj κ Φ (pc + 3) lv (.int (sI S 50 a) :: st)) : Gj κ Φ pc lv (.ref a :: st) := by
  obtain ⟨p, l, e, R, s, m, args, below, meth, c, Q, D, cO, e0, A, mc, ms⟩ := κ
  obtain ⟨hx, hb, hml, hown, hts, hK, hG, hR, hlk⟩ := hκ
  intro H locs cells slots ls hF hl
  obtain ⟨k0, hk0, hk1⟩ := wG_Town cO S hO
  exact va_get (D := D) (ci := 9) (C := RX9) (T := TX9) (N := 3) hx hb hts inlX9 hown hK (hΦ H locs cells slots hF).1 k0 hk1 rfl 0 (by decide) (hts _ hlink) (fun x9 h9 => hsm.elim (fun z => by rw [z]; exact h9) (fun z => u_same (hts _ z) x9 h9)) rfl hdg (kk H locs cells slots ls hF hl)
theorem pt_Town_x {cc : ByteArray} {nL : Nat} {own : String} {rm : Room} {κ : KX} (hκ : Cx cc nL own rm κ) {pc : Nat} {lv : List (Nat × Value)} {st : List Value} {S : wPS} {k n : Nat} {a idx : Nat} {ref : String} {v : Int32} (hO : a ∈ sL S ∧ sK S a = 8) (hlink : Cond.fieldLink own idx ref "x" "I" ∈ GA) (hsm : ref = "Plotroom$Place" ∨ Cond.sameField ref "Plotroom$Place" "x" "I" ∈ GA)   (hdg : decode cc pc = .ok (.putfield idx, 3)) (kk : Gj κ (PV κ (putI S 50 a v) k n) (pc + 3) lv st) : Gj κ (PV κ S k n) pc lv (.int v :: .ref a :: st) := by
  obtain ⟨p, l, e, R, s, m, args, below, meth, c, Q, D, cO, e0, A, mc, ms⟩ := κ
  obtain ⟨hx, hb, hml, hown, hts, hK, hG, hR, hlk⟩ := hκ
  intro H locs cells slots ls hF hl
  obtain ⟨hP, hD, hS, hc, hs⟩ := hF
  obtain ⟨k0, hk0, hk1⟩ := wG_Town cO S hO
  have eq9 := wU_Town_x cO S hD hO hk0 v
  refine va_put (D := D) (ci := 9) (v := .int v) (ty := .int) (C := RX9) (T := TX9) (N := 3) hx hb hts inlX9 tyX9 tyX9_ok nmX9 hown hK hP hD hS k0 hk1 rfl 0 (by decide) (hts _ hlink) (fun x9 h9 => hsm.elim (fun z => by rw [z]; exact h9) (fun z => u_same (hts _ z) x9 h9)) rfl rfl rfl rfl (by decide) hdg (fun H1 locs1 hP1 hD1 hS1 => ?_)
  exact kk H1 locs1 cells slots ls ⟨Eq.mp (congrArg (fun z => va_P D vwCl z H1) eq9) hP1, Eq.mp (congrArg (fun z => va_D A z) eq9) hD1, hS1, hc, hs⟩ hl
theorem gtN_Town_x {cc : ByteArray} {nL : Nat} {own : String} {rm : Room} {κ : KX} (hκ : Cx cc nL own rm κ) {Φ : HQ} {pc : Nat} {lv : List (Nat × Value)} {st : List Value} {S : wPS} (hΦ : Hd κ Φ S) {a idx : Nat} {ref host : String} (hO : a ∈ sL S ∧ sK S a = 8) (hlink : (own, idx, ref, "x", "I", host) ∈ nestF) (hsm : ref = "Plotroom$Place" ∨ Cond.sameField ref "Plotroom$Place" "x" "I" ∈ GA) (hdg : decode cc pc = .ok (.getfield idx, 3)) (kk : Gj κ Φ (pc + 3) lv (.int (sI S 50 a) :: st)) : Gj κ Φ pc lv (.ref a :: st) := by
  obtain ⟨p, l, e, R, s, m, args, below, meth, c, Q, D, cO, e0, A, mc, ms⟩ := κ
  obtain ⟨hx, hb, hml, hown, hts, hK, hG, hR, hlk⟩ := hκ
  intro H locs cells slots ls hF hl
  obtain ⟨k0, hk0, hk1⟩ := wG_Town cO S hO
  exact va_getN (D := D) (ci := 9) (C := RX9) (T := TX9) (N := 3) hx hb hts inlX9 hown hK (hΦ H locs cells slots hF).1 k0 hk1 rfl 0 (by decide) (va_Nw.use rfl (hG.1 _ hlink)) (fun x9 h9 => hsm.elim (fun z => by rw [z]; exact h9) (fun z => u_same (hts _ z) x9 h9)) rfl hdg (kk H locs cells slots ls hF hl)
theorem ptN_Town_x {cc : ByteArray} {nL : Nat} {own : String} {rm : Room} {κ : KX} (hκ : Cx cc nL own rm κ) {pc : Nat} {lv : List (Nat × Value)} {st : List Value} {S : wPS} {k n : Nat} {a idx : Nat} {ref host : String} {v : Int32} (hO : a ∈ sL S ∧ sK S a = 8) (hlink : (own, idx, ref, "x", "I", host) ∈ nestF) (hsm : ref = "Plotroom$Place" ∨ Cond.sameField ref "Plotroom$Place" "x" "I" ∈ GA)   (hdg : decode cc pc = .ok (.putfield idx, 3)) (kk : Gj κ (PV κ (putI S 50 a v) k n) (pc + 3) lv st) : Gj κ (PV κ S k n) pc lv (.int v :: .ref a :: st) := by
  obtain ⟨p, l, e, R, s, m, args, below, meth, c, Q, D, cO, e0, A, mc, ms⟩ := κ
  obtain ⟨hx, hb, hml, hown, hts, hK, hG, hR, hlk⟩ := hκ
  intro H locs cells slots ls hF hl
  obtain ⟨hP, hD, hS, hc, hs⟩ := hF
  obtain ⟨k0, hk0, hk1⟩ := wG_Town cO S hO
  have eq9 := wU_Town_x cO S hD hO hk0 v
  refine va_putN (D := D) (ci := 9) (v := .int v) (ty := .int) (C := RX9) (T := TX9) (N := 3) hx hb hts inlX9 tyX9 tyX9_ok nmX9 hown hK hP hD hS k0 hk1 rfl 0 (by decide) (va_Nw.use rfl (hG.1 _ hlink)) (fun x9 h9 => hsm.elim (fun z => by rw [z]; exact h9) (fun z => u_same (hts _ z) x9 h9)) rfl rfl rfl rfl (by decide) hdg (fun H1 locs1 hP1 hD1 hS1 => ?_)
  exact kk H1 locs1 cells slots ls ⟨Eq.mp (congrArg (fun z => va_P D vwCl z H1) eq9) hP1, Eq.mp (congrArg (fun z => va_D A z) eq9) hD1, hS1, hc, hs⟩ hl
theorem gt_Town_y {cc : ByteArray} {nL : Nat} {own : String} {rm : Room} {κ : KX} (hκ : Cx cc nL own rm κ) {Φ : HQ} {pc : Nat} {lv : List (Nat × Value)} {st : List Value} {S : wPS} (hΦ : Hd κ Φ S) {a idx : Nat} {ref : String} (hO : a ∈ sL S ∧ sK S a = 8) (hlink : Cond.fieldLink own idx ref "y" "I" ∈ GA) (hsm : ref = "Plotroom$Place" ∨ Cond.sameField ref "Plotroom$Place" "y" "I" ∈ GA) (hdg : decode cc pc = .ok (.getfield idx, 3)) (kk : Gj κ Φ (pc + 3) lv (.int (sI S 51 a) :: st)) : Gj κ Φ pc lv (.ref a :: st) := by
  obtain ⟨p, l, e, R, s, m, args, below, meth, c, Q, D, cO, e0, A, mc, ms⟩ := κ
  obtain ⟨hx, hb, hml, hown, hts, hK, hG, hR, hlk⟩ := hκ
  intro H locs cells slots ls hF hl
  obtain ⟨k0, hk0, hk1⟩ := wG_Town cO S hO
  exact va_get (D := D) (ci := 9) (C := RX9) (T := TX9) (N := 3) hx hb hts inlX9 hown hK (hΦ H locs cells slots hF).1 k0 hk1 rfl 1 (by decide) (hts _ hlink) (fun x9 h9 => hsm.elim (fun z => by rw [z]; exact h9) (fun z => u_same (hts _ z) x9 h9)) rfl hdg (kk H locs cells slots ls hF hl)
theorem pt_Town_y {cc : ByteArray} {nL : Nat} {own : String} {rm : Room} {κ : KX} (hκ : Cx cc nL own rm κ) {pc : Nat} {lv : List (Nat × Value)} {st : List Value} {S : wPS} {k n : Nat} {a idx : Nat} {ref : String} {v : Int32} (hO : a ∈ sL S ∧ sK S a = 8) (hlink : Cond.fieldLink own idx ref "y" "I" ∈ GA) (hsm : ref = "Plotroom$Place" ∨ Cond.sameField ref "Plotroom$Place" "y" "I" ∈ GA)   (hdg : decode cc pc = .ok (.putfield idx, 3)) (kk : Gj κ (PV κ (putI S 51 a v) k n) (pc + 3) lv st) : Gj κ (PV κ S k n) pc lv (.int v :: .ref a :: st) := by
  obtain ⟨p, l, e, R, s, m, args, below, meth, c, Q, D, cO, e0, A, mc, ms⟩ := κ
  obtain ⟨hx, hb, hml, hown, hts, hK, hG, hR, hlk⟩ := hκ
  intro H locs cells slots ls hF hl
  obtain ⟨hP, hD, hS, hc, hs⟩ := hF
  obtain ⟨k0, hk0, hk1⟩ := wG_Town cO S hO
  have eq9 := wU_Town_y cO S hD hO hk0 v
  refine va_put (D := D) (ci := 9) (v := .int v) (ty := .int) (C := RX9) (T := TX9) (N := 3) hx hb hts inlX9 tyX9 tyX9_ok nmX9 hown hK hP hD hS k0 hk1 rfl 1 (by decide) (hts _ hlink) (fun x9 h9 => hsm.elim (fun z => by rw [z]; exact h9) (fun z => u_same (hts _ z) x9 h9)) rfl rfl rfl rfl (by decide) hdg (fun H1 locs1 hP1 hD1 hS1 => ?_)
  exact kk H1 locs1 cells slots ls ⟨Eq.mp (congrArg (fun z => va_P D vwCl z H1) eq9) hP1, Eq.mp (congrArg (fun z => va_D A z) eq9) hD1, hS1, hc, hs⟩ hl
theorem gtN_Town_y {cc : ByteArray} {nL : Nat} {own : String} {rm : Room} {κ : KX} (hκ : Cx cc nL own rm κ) {Φ : HQ} {pc : Nat} {lv : List (Nat × Value)} {st : List Value} {S : wPS} (hΦ : Hd κ Φ S) {a idx : Nat} {ref host : String} (hO : a ∈ sL S ∧ sK S a = 8) (hlink : (own, idx, ref, "y", "I", host) ∈ nestF) (hsm : ref = "Plotroom$Place" ∨ Cond.sameField ref "Plotroom$Place" "y" "I" ∈ GA) (hdg : decode cc pc = .ok (.getfield idx, 3)) (kk : Gj κ Φ (pc + 3) lv (.int (sI S 51 a) :: st)) : Gj κ Φ pc lv (.ref a :: st) := by
  obtain ⟨p, l, e, R, s, m, args, below, meth, c, Q, D, cO, e0, A, mc, ms⟩ := κ
  obtain ⟨hx, hb, hml, hown, hts, hK, hG, hR, hlk⟩ := hκ
  intro H locs cells slots ls hF hl
  obtain ⟨k0, hk0, hk1⟩ := wG_Town cO S hO
  exact va_getN (D := D) (ci := 9) (C := RX9) (T := TX9) (N := 3) hx hb hts inlX9 hown hK (hΦ H locs cells slots hF).1 k0 hk1 rfl 1 (by decide) (va_Nw.use rfl (hG.1 _ hlink)) (fun x9 h9 => hsm.elim (fun z => by rw [z]; exact h9) (fun z => u_same (hts _ z) x9 h9)) rfl hdg (kk H locs cells slots ls hF hl)
theorem ptN_Town_y {cc : ByteArray} {nL : Nat} {own : String} {rm : Room} {κ : KX} (hκ : Cx cc nL own rm κ) {pc : Nat} {lv : List (Nat × Value)} {st : List Value} {S : wPS} {k n : Nat} {a idx : Nat} {ref host : String} {v : Int32} (hO : a ∈ sL S ∧ sK S a = 8) (hlink : (own, idx, ref, "y", "I", host) ∈ nestF) (hsm : ref = "Plotroom$Place" ∨ Cond.sameField ref "Plotroom$Place" "y" "I" ∈ GA)   (hdg : decode cc pc = .ok (.putfield idx, 3)) (kk : Gj κ (PV κ (putI S 51 a v) k n) (pc + 3) lv st) : Gj κ (PV κ S k n) pc lv (.int v :: .ref a :: st) := by
  obtain ⟨p, l, e, R, s, m, args, below, meth, c, Q, D, cO, e0, A, mc, ms⟩ := κ
  obtain ⟨hx, hb, hml, hown, hts, hK, hG, hR, hlk⟩ := hκ
  intro H locs cells slots ls hF hl
  obtain ⟨hP, hD, hS, hc, hs⟩ := hF
  obtain ⟨k0, hk0, hk1⟩ := wG_Town cO S hO
  have eq9 := wU_Town_y cO S hD hO hk0 v
  refine va_putN (D := D) (ci := 9) (v := .int v) (ty := .int) (C := RX9) (T := TX9) (N := 3) hx hb hts inlX9 tyX9 tyX9_ok nmX9 hown hK hP hD hS k0 hk1 rfl 1 (by decide) (va_Nw.use rfl (hG.1 _ hlink)) (fun x9 h9 => hsm.elim (fun z => by rw [z]; exact h9) (fun z => u_same (hts _ z) x9 h9)) rfl rfl rfl rfl (by decide) hdg (fun H1 locs1 hP1 hD1 hS1 => ?_)
  exact kk H1 locs1 cells slots ls ⟨Eq.mp (congrArg (fun z => va_P D vwCl z H1) eq9) hP1, Eq.mp (congrArg (fun z => va_D A z) eq9) hD1, hS1, hc, hs⟩ hl
theorem gt_Town_people {cc : ByteArray} {nL : Nat} {own : String} {rm : Room} {κ : KX} (hκ : Cx cc nL own rm κ) {Φ : HQ} {pc : Nat} {lv : List (Nat × Value)} {st : List Value} {S : wPS} (hΦ : Hd κ Φ S) {a idx : Nat} {ref : String} (hO : a ∈ sL S ∧ sK S a = 8) (hlink : Cond.fieldLink own idx ref "people" "I" ∈ GA) (hsm : ref = "Plotroom$Town" ∨ Cond.sameField ref "Plotroom$Town" "people" "I" ∈ GA) (hdg : decode cc pc = .ok (.getfield idx, 3)) (kk : Gj κ Φ (pc + 3) lv (.int (sI S 52 a) :: st)) : Gj κ Φ pc lv (.ref a :: st) := by
  obtain ⟨p, l, e, R, s, m, args, below, meth, c, Q, D, cO, e0, A, mc, ms⟩ := κ
  obtain ⟨hx, hb, hml, hown, hts, hK, hG, hR, hlk⟩ := hκ
  intro H locs cells slots ls hF hl
  obtain ⟨k0, hk0, hk1⟩ := wG_Town cO S hO
  exact va_get (D := D) (ci := 9) (C := RX9) (T := TX9) (N := 3) hx hb hts inlX9 hown hK (hΦ H locs cells slots hF).1 k0 hk1 rfl 2 (by decide) (hts _ hlink) (fun x9 h9 => hsm.elim (fun z => by rw [z]; exact h9) (fun z => u_same (hts _ z) x9 h9)) rfl hdg (kk H locs cells slots ls hF hl)
theorem pt_Town_people {cc : ByteArray} {nL : Nat} {own : String} {rm : Room} {κ : KX} (hκ : Cx cc nL own rm κ) {pc : Nat} {lv : List (Nat × Value)} {st : List Value} {S : wPS} {k n : Nat} {a idx : Nat} {ref : String} {v : Int32} (hO : a ∈ sL S ∧ sK S a = 8) (hlink : Cond.fieldLink own idx ref "people" "I" ∈ GA) (hsm : ref = "Plotroom$Town" ∨ Cond.sameField ref "Plotroom$Town" "people" "I" ∈ GA)  (hin : Nm "<init>" κ) (hde : "Plotroom$Town" = own) (hdg : decode cc pc = .ok (.putfield idx, 3)) (kk : Gj κ (PV κ (putI S 52 a v) k n) (pc + 3) lv st) : Gj κ (PV κ S k n) pc lv (.int v :: .ref a :: st) := by
  obtain ⟨p, l, e, R, s, m, args, below, meth, c, Q, D, cO, e0, A, mc, ms⟩ := κ
  obtain ⟨hx, hb, hml, hown, hts, hK, hG, hR, hlk⟩ := hκ
  intro H locs cells slots ls hF hl
  obtain ⟨hP, hD, hS, hc, hs⟩ := hF
  obtain ⟨k0, hk0, hk1⟩ := wG_Town cO S hO
  have eq9 := wU_Town_people cO S hD hO hk0 v
  refine va_putF (D := D) (ci := 9) (v := .int v) (ty := .int) (C := RX9) (T := TX9) (N := 3) hx hb hts inlX9 tyX9 tyX9_ok nmX9 hown hK hP hD hS k0 hk1 rfl 2 (by decide) (hts _ hlink) (fun x9 h9 => hsm.elim (fun z => by rw [z]; exact h9) (fun z => u_same (hts _ z) x9 h9)) rfl hin hde rfl rfl rfl (by decide) hdg (fun H1 locs1 hP1 hD1 hS1 => ?_)
  exact kk H1 locs1 cells slots ls ⟨Eq.mp (congrArg (fun z => va_P D vwCl z H1) eq9) hP1, Eq.mp (congrArg (fun z => va_D A z) eq9) hD1, hS1, hc, hs⟩ hl
theorem gtN_Town_people {cc : ByteArray} {nL : Nat} {own : String} {rm : Room} {κ : KX} (hκ : Cx cc nL own rm κ) {Φ : HQ} {pc : Nat} {lv : List (Nat × Value)} {st : List Value} {S : wPS} (hΦ : Hd κ Φ S) {a idx : Nat} {ref host : String} (hO : a ∈ sL S ∧ sK S a = 8) (hlink : (own, idx, ref, "people", "I", host) ∈ nestF) (hsm : ref = "Plotroom$Town" ∨ Cond.sameField ref "Plotroom$Town" "people" "I" ∈ GA) (hdg : decode cc pc = .ok (.getfield idx, 3)) (kk : Gj κ Φ (pc + 3) lv (.int (sI S 52 a) :: st)) : Gj κ Φ pc lv (.ref a :: st) := by
  obtain ⟨p, l, e, R, s, m, args, below, meth, c, Q, D, cO, e0, A, mc, ms⟩ := κ
  obtain ⟨hx, hb, hml, hown, hts, hK, hG, hR, hlk⟩ := hκ
  intro H locs cells slots ls hF hl
  obtain ⟨k0, hk0, hk1⟩ := wG_Town cO S hO
  exact va_getN (D := D) (ci := 9) (C := RX9) (T := TX9) (N := 3) hx hb hts inlX9 hown hK (hΦ H locs cells slots hF).1 k0 hk1 rfl 2 (by decide) (va_Nw.use rfl (hG.1 _ hlink)) (fun x9 h9 => hsm.elim (fun z => by rw [z]; exact h9) (fun z => u_same (hts _ z) x9 h9)) rfl hdg (kk H locs cells slots ls hF hl)
theorem gt_Track_x {cc : ByteArray} {nL : Nat} {own : String} {rm : Room} {κ : KX} (hκ : Cx cc nL own rm κ) {Φ : HQ} {pc : Nat} {lv : List (Nat × Value)} {st : List Value} {S : wPS} (hΦ : Hd κ Φ S) {a idx : Nat} {ref : String} (hO : a ∈ sL S ∧ sK S a = 9) (hlink : Cond.fieldLink own idx ref "x" "I" ∈ GA) (hsm : ref = "Plotroom$Place" ∨ Cond.sameField ref "Plotroom$Place" "x" "I" ∈ GA) (hdg : decode cc pc = .ok (.getfield idx, 3)) (kk : Gj κ Φ (pc + 3) lv (.int (sI S 53 a) :: st)) : Gj κ Φ pc lv (.ref a :: st) := by
  obtain ⟨p, l, e, R, s, m, args, below, meth, c, Q, D, cO, e0, A, mc, ms⟩ := κ
  obtain ⟨hx, hb, hml, hown, hts, hK, hG, hR, hlk⟩ := hκ
  intro H locs cells slots ls hF hl
  obtain ⟨k0, hk0, hk1⟩ := wG_Track cO S hO
  exact va_get (D := D) (ci := 10) (C := RX10) (T := TX10) (N := 10) hx hb hts inlX10 hown hK (hΦ H locs cells slots hF).1 k0 hk1 rfl 0 (by decide) (hts _ hlink) (fun x9 h9 => hsm.elim (fun z => by rw [z]; exact h9) (fun z => u_same (hts _ z) x9 h9)) rfl hdg (kk H locs cells slots ls hF hl)
theorem pt_Track_x {cc : ByteArray} {nL : Nat} {own : String} {rm : Room} {κ : KX} (hκ : Cx cc nL own rm κ) {pc : Nat} {lv : List (Nat × Value)} {st : List Value} {S : wPS} {k n : Nat} {a idx : Nat} {ref : String} {v : Int32} (hO : a ∈ sL S ∧ sK S a = 9) (hlink : Cond.fieldLink own idx ref "x" "I" ∈ GA) (hsm : ref = "Plotroom$Place" ∨ Cond.sameField ref "Plotroom$Place" "x" "I" ∈ GA)   (hdg : decode cc pc = .ok (.putfield idx, 3)) (kk : Gj κ (PV κ (putI S 53 a v) k n) (pc + 3) lv st) : Gj κ (PV κ S k n) pc lv (.int v :: .ref a :: st) := by
  obtain ⟨p, l, e, R, s, m, args, below, meth, c, Q, D, cO, e0, A, mc, ms⟩ := κ
  obtain ⟨hx, hb, hml, hown, hts, hK, hG, hR, hlk⟩ := hκ
  intro H locs cells slots ls hF hl
  obtain ⟨hP, hD, hS, hc, hs⟩ := hF
  obtain ⟨k0, hk0, hk1⟩ := wG_Track cO S hO
  have eq9 := wU_Track_x cO S hD hO hk0 v
  refine va_put (D := D) (ci := 10) (v := .int v) (ty := .int) (C := RX10) (T := TX10) (N := 10) hx hb hts inlX10 tyX10 tyX10_ok nmX10 hown hK hP hD hS k0 hk1 rfl 0 (by decide) (hts _ hlink) (fun x9 h9 => hsm.elim (fun z => by rw [z]; exact h9) (fun z => u_same (hts _ z) x9 h9)) rfl rfl rfl rfl (by decide) hdg (fun H1 locs1 hP1 hD1 hS1 => ?_)
  exact kk H1 locs1 cells slots ls ⟨Eq.mp (congrArg (fun z => va_P D vwCl z H1) eq9) hP1, Eq.mp (congrArg (fun z => va_D A z) eq9) hD1, hS1, hc, hs⟩ hl
theorem gtN_Track_x {cc : ByteArray} {nL : Nat} {own : String} {rm : Room} {κ : KX} (hκ : Cx cc nL own rm κ) {Φ : HQ} {pc : Nat} {lv : List (Nat × Value)} {st : List Value} {S : wPS} (hΦ : Hd κ Φ S) {a idx : Nat} {ref host : String} (hO : a ∈ sL S ∧ sK S a = 9) (hlink : (own, idx, ref, "x", "I", host) ∈ nestF) (hsm : ref = "Plotroom$Place" ∨ Cond.sameField ref "Plotroom$Place" "x" "I" ∈ GA) (hdg : decode cc pc = .ok (.getfield idx, 3)) (kk : Gj κ Φ (pc + 3) lv (.int (sI S 53 a) :: st)) : Gj κ Φ pc lv (.ref a :: st) := by
  obtain ⟨p, l, e, R, s, m, args, below, meth, c, Q, D, cO, e0, A, mc, ms⟩ := κ
  obtain ⟨hx, hb, hml, hown, hts, hK, hG, hR, hlk⟩ := hκ
  intro H locs cells slots ls hF hl
  obtain ⟨k0, hk0, hk1⟩ := wG_Track cO S hO
  exact va_getN (D := D) (ci := 10) (C := RX10) (T := TX10) (N := 10) hx hb hts inlX10 hown hK (hΦ H locs cells slots hF).1 k0 hk1 rfl 0 (by decide) (va_Nw.use rfl (hG.1 _ hlink)) (fun x9 h9 => hsm.elim (fun z => by rw [z]; exact h9) (fun z => u_same (hts _ z) x9 h9)) rfl hdg (kk H locs cells slots ls hF hl)
theorem ptN_Track_x {cc : ByteArray} {nL : Nat} {own : String} {rm : Room} {κ : KX} (hκ : Cx cc nL own rm κ) {pc : Nat} {lv : List (Nat × Value)} {st : List Value} {S : wPS} {k n : Nat} {a idx : Nat} {ref host : String} {v : Int32} (hO : a ∈ sL S ∧ sK S a = 9) (hlink : (own, idx, ref, "x", "I", host) ∈ nestF) (hsm : ref = "Plotroom$Place" ∨ Cond.sameField ref "Plotroom$Place" "x" "I" ∈ GA)   (hdg : decode cc pc = .ok (.putfield idx, 3)) (kk : Gj κ (PV κ (putI S 53 a v) k n) (pc + 3) lv st) : Gj κ (PV κ S k n) pc lv (.int v :: .ref a :: st) := by
  obtain ⟨p, l, e, R, s, m, args, below, meth, c, Q, D, cO, e0, A, mc, ms⟩ := κ
  obtain ⟨hx, hb, hml, hown, hts, hK, hG, hR, hlk⟩ := hκ
  intro H locs cells slots ls hF hl
  obtain ⟨hP, hD, hS, hc, hs⟩ := hF
  obtain ⟨k0, hk0, hk1⟩ := wG_Track cO S hO
  have eq9 := wU_Track_x cO S hD hO hk0 v
  refine va_putN (D := D) (ci := 10) (v := .int v) (ty := .int) (C := RX10) (T := TX10) (N := 10) hx hb hts inlX10 tyX10 tyX10_ok nmX10 hown hK hP hD hS k0 hk1 rfl 0 (by decide) (va_Nw.use rfl (hG.1 _ hlink)) (fun x9 h9 => hsm.elim (fun z => by rw [z]; exact h9) (fun z => u_same (hts _ z) x9 h9)) rfl rfl rfl rfl (by decide) hdg (fun H1 locs1 hP1 hD1 hS1 => ?_)
  exact kk H1 locs1 cells slots ls ⟨Eq.mp (congrArg (fun z => va_P D vwCl z H1) eq9) hP1, Eq.mp (congrArg (fun z => va_D A z) eq9) hD1, hS1, hc, hs⟩ hl
theorem gt_Track_y {cc : ByteArray} {nL : Nat} {own : String} {rm : Room} {κ : KX} (hκ : Cx cc nL own rm κ) {Φ : HQ} {pc : Nat} {lv : List (Nat × Value)} {st : List Value} {S : wPS} (hΦ : Hd κ Φ S) {a idx : Nat} {ref : String} (hO : a ∈ sL S ∧ sK S a = 9) (hlink : Cond.fieldLink own idx ref "y" "I" ∈ GA) (hsm : ref = "Plotroom$Place" ∨ Cond.sameField ref "Plotroom$Place" "y" "I" ∈ GA) (hdg : decode cc pc = .ok (.getfield idx, 3)) (kk : Gj κ Φ (pc + 3) lv (.int (sI S 54 a) :: st)) : Gj κ Φ pc lv (.ref a :: st) := by
  obtain ⟨p, l, e, R, s, m, args, below, meth, c, Q, D, cO, e0, A, mc, ms⟩ := κ
  obtain ⟨hx, hb, hml, hown, hts, hK, hG, hR, hlk⟩ := hκ
  intro H locs cells slots ls hF hl
  obtain ⟨k0, hk0, hk1⟩ := wG_Track cO S hO
  exact va_get (D := D) (ci := 10) (C := RX10) (T := TX10) (N := 10) hx hb hts inlX10 hown hK (hΦ H locs cells slots hF).1 k0 hk1 rfl 1 (by decide) (hts _ hlink) (fun x9 h9 => hsm.elim (fun z => by rw [z]; exact h9) (fun z => u_same (hts _ z) x9 h9)) rfl hdg (kk H locs cells slots ls hF hl)
theorem pt_Track_y {cc : ByteArray} {nL : Nat} {own : String} {rm : Room} {κ : KX} (hκ : Cx cc nL own rm κ) {pc : Nat} {lv : List (Nat × Value)} {st : List Value} {S : wPS} {k n : Nat} {a idx : Nat} {ref : String} {v : Int32} (hO : a ∈ sL S ∧ sK S a = 9) (hlink : Cond.fieldLink own idx ref "y" "I" ∈ GA) (hsm : ref = "Plotroom$Place" ∨ Cond.sameField ref "Plotroom$Place" "y" "I" ∈ GA)   (hdg : decode cc pc = .ok (.putfield idx, 3)) (kk : Gj κ (PV κ (putI S 54 a v) k n) (pc + 3) lv st) : Gj κ (PV κ S k n) pc lv (.int v :: .ref a :: st) := by
  obtain ⟨p, l, e, R, s, m, args, below, meth, c, Q, D, cO, e0, A, mc, ms⟩ := κ
  obtain ⟨hx, hb, hml, hown, hts, hK, hG, hR, hlk⟩ := hκ
  intro H locs cells slots ls hF hl
  obtain ⟨hP, hD, hS, hc, hs⟩ := hF
  obtain ⟨k0, hk0, hk1⟩ := wG_Track cO S hO
  have eq9 := wU_Track_y cO S hD hO hk0 v
  refine va_put (D := D) (ci := 10) (v := .int v) (ty := .int) (C := RX10) (T := TX10) (N := 10) hx hb hts inlX10 tyX10 tyX10_ok nmX10 hown hK hP hD hS k0 hk1 rfl 1 (by decide) (hts _ hlink) (fun x9 h9 => hsm.elim (fun z => by rw [z]; exact h9) (fun z => u_same (hts _ z) x9 h9)) rfl rfl rfl rfl (by decide) hdg (fun H1 locs1 hP1 hD1 hS1 => ?_)
  exact kk H1 locs1 cells slots ls ⟨Eq.mp (congrArg (fun z => va_P D vwCl z H1) eq9) hP1, Eq.mp (congrArg (fun z => va_D A z) eq9) hD1, hS1, hc, hs⟩ hl
theorem gtN_Track_y {cc : ByteArray} {nL : Nat} {own : String} {rm : Room} {κ : KX} (hκ : Cx cc nL own rm κ) {Φ : HQ} {pc : Nat} {lv : List (Nat × Value)} {st : List Value} {S : wPS} (hΦ : Hd κ Φ S) {a idx : Nat} {ref host : String} (hO : a ∈ sL S ∧ sK S a = 9) (hlink : (own, idx, ref, "y", "I", host) ∈ nestF) (hsm : ref = "Plotroom$Place" ∨ Cond.sameField ref "Plotroom$Place" "y" "I" ∈ GA) (hdg : decode cc pc = .ok (.getfield idx, 3)) (kk : Gj κ Φ (pc + 3) lv (.int (sI S 54 a) :: st)) : Gj κ Φ pc lv (.ref a :: st) := by
  obtain ⟨p, l, e, R, s, m, args, below, meth, c, Q, D, cO, e0, A, mc, ms⟩ := κ
  obtain ⟨hx, hb, hml, hown, hts, hK, hG, hR, hlk⟩ := hκ
  intro H locs cells slots ls hF hl
  obtain ⟨k0, hk0, hk1⟩ := wG_Track cO S hO
  exact va_getN (D := D) (ci := 10) (C := RX10) (T := TX10) (N := 10) hx hb hts inlX10 hown hK (hΦ H locs cells slots hF).1 k0 hk1 rfl 1 (by decide) (va_Nw.use rfl (hG.1 _ hlink)) (fun x9 h9 => hsm.elim (fun z => by rw [z]; exact h9) (fun z => u_same (hts _ z) x9 h9)) rfl hdg (kk H locs cells slots ls hF hl)
theorem ptN_Track_y {cc : ByteArray} {nL : Nat} {own : String} {rm : Room} {κ : KX} (hκ : Cx cc nL own rm κ) {pc : Nat} {lv : List (Nat × Value)} {st : List Value} {S : wPS} {k n : Nat} {a idx : Nat} {ref host : String} {v : Int32} (hO : a ∈ sL S ∧ sK S a = 9) (hlink : (own, idx, ref, "y", "I", host) ∈ nestF) (hsm : ref = "Plotroom$Place" ∨ Cond.sameField ref "Plotroom$Place" "y" "I" ∈ GA)   (hdg : decode cc pc = .ok (.putfield idx, 3)) (kk : Gj κ (PV κ (putI S 54 a v) k n) (pc + 3) lv st) : Gj κ (PV κ S k n) pc lv (.int v :: .ref a :: st) := by
  obtain ⟨p, l, e, R, s, m, args, below, meth, c, Q, D, cO, e0, A, mc, ms⟩ := κ
  obtain ⟨hx, hb, hml, hown, hts, hK, hG, hR, hlk⟩ := hκ
  intro H locs cells slots ls hF hl
  obtain ⟨hP, hD, hS, hc, hs⟩ := hF
  obtain ⟨k0, hk0, hk1⟩ := wG_Track cO S hO
  have eq9 := wU_Track_y cO S hD hO hk0 v
  refine va_putN (D := D) (ci := 10) (v := .int v) (ty := .int) (C := RX10) (T := TX10) (N := 10) hx hb hts inlX10 tyX10 tyX10_ok nmX10 hown hK hP hD hS k0 hk1 rfl 1 (by decide) (va_Nw.use rfl (hG.1 _ hlink)) (fun x9 h9 => hsm.elim (fun z => by rw [z]; exact h9) (fun z => u_same (hts _ z) x9 h9)) rfl rfl rfl rfl (by decide) hdg (fun H1 locs1 hP1 hD1 hS1 => ?_)
  exact kk H1 locs1 cells slots ls ⟨Eq.mp (congrArg (fun z => va_P D vwCl z H1) eq9) hP1, Eq.mp (congrArg (fun z => va_D A z) eq9) hD1, hS1, hc, hs⟩ hl
theorem gt_Track_number {cc : ByteArray} {nL : Nat} {own : String} {rm : Room} {κ : KX} (hκ : Cx cc nL own rm κ) {Φ : HQ} {pc : Nat} {lv : List (Nat × Value)} {st : List Value} {S : wPS} (hΦ : Hd κ Φ S) {a idx : Nat} {ref : String} (hO : a ∈ sL S ∧ sK S a = 9) (hlink : Cond.fieldLink own idx ref "number" "I" ∈ GA) (hsm : ref = "Plotroom$Track" ∨ Cond.sameField ref "Plotroom$Track" "number" "I" ∈ GA) (hdg : decode cc pc = .ok (.getfield idx, 3)) (kk : Gj κ Φ (pc + 3) lv (.int (sI S 55 a) :: st)) : Gj κ Φ pc lv (.ref a :: st) := by
  obtain ⟨p, l, e, R, s, m, args, below, meth, c, Q, D, cO, e0, A, mc, ms⟩ := κ
  obtain ⟨hx, hb, hml, hown, hts, hK, hG, hR, hlk⟩ := hκ
  intro H locs cells slots ls hF hl
  obtain ⟨k0, hk0, hk1⟩ := wG_Track cO S hO
  exact va_get (D := D) (ci := 10) (C := RX10) (T := TX10) (N := 10) hx hb hts inlX10 hown hK (hΦ H locs cells slots hF).1 k0 hk1 rfl 2 (by decide) (hts _ hlink) (fun x9 h9 => hsm.elim (fun z => by rw [z]; exact h9) (fun z => u_same (hts _ z) x9 h9)) rfl hdg (kk H locs cells slots ls hF hl)
theorem pt_Track_number {cc : ByteArray} {nL : Nat} {own : String} {rm : Room} {κ : KX} (hκ : Cx cc nL own rm κ) {pc : Nat} {lv : List (Nat × Value)} {st : List Value} {S : wPS} {k n : Nat} {a idx : Nat} {ref : String} {v : Int32} (hO : a ∈ sL S ∧ sK S a = 9) (hlink : Cond.fieldLink own idx ref "number" "I" ∈ GA) (hsm : ref = "Plotroom$Track" ∨ Cond.sameField ref "Plotroom$Track" "number" "I" ∈ GA)  (hin : Nm "<init>" κ) (hde : "Plotroom$Track" = own) (hdg : decode cc pc = .ok (.putfield idx, 3)) (kk : Gj κ (PV κ (putI S 55 a v) k n) (pc + 3) lv st) : Gj κ (PV κ S k n) pc lv (.int v :: .ref a :: st) := by
  obtain ⟨p, l, e, R, s, m, args, below, meth, c, Q, D, cO, e0, A, mc, ms⟩ := κ
  obtain ⟨hx, hb, hml, hown, hts, hK, hG, hR, hlk⟩ := hκ
  intro H locs cells slots ls hF hl
  obtain ⟨hP, hD, hS, hc, hs⟩ := hF
  obtain ⟨k0, hk0, hk1⟩ := wG_Track cO S hO
  have eq9 := wU_Track_number cO S hD hO hk0 v
  refine va_putF (D := D) (ci := 10) (v := .int v) (ty := .int) (C := RX10) (T := TX10) (N := 10) hx hb hts inlX10 tyX10 tyX10_ok nmX10 hown hK hP hD hS k0 hk1 rfl 2 (by decide) (hts _ hlink) (fun x9 h9 => hsm.elim (fun z => by rw [z]; exact h9) (fun z => u_same (hts _ z) x9 h9)) rfl hin hde rfl rfl rfl (by decide) hdg (fun H1 locs1 hP1 hD1 hS1 => ?_)
  exact kk H1 locs1 cells slots ls ⟨Eq.mp (congrArg (fun z => va_P D vwCl z H1) eq9) hP1, Eq.mp (congrArg (fun z => va_D A z) eq9) hD1, hS1, hc, hs⟩ hl
theorem gtN_Track_number {cc : ByteArray} {nL : Nat} {own : String} {rm : Room} {κ : KX} (hκ : Cx cc nL own rm κ) {Φ : HQ} {pc : Nat} {lv : List (Nat × Value)} {st : List Value} {S : wPS} (hΦ : Hd κ Φ S) {a idx : Nat} {ref host : String} (hO : a ∈ sL S ∧ sK S a = 9) (hlink : (own, idx, ref, "number", "I", host) ∈ nestF) (hsm : ref = "Plotroom$Track" ∨ Cond.sameField ref "Plotroom$Track" "number" "I" ∈ GA) (hdg : decode cc pc = .ok (.getfield idx, 3)) (kk : Gj κ Φ (pc + 3) lv (.int (sI S 55 a) :: st)) : Gj κ Φ pc lv (.ref a :: st) := by
  obtain ⟨p, l, e, R, s, m, args, below, meth, c, Q, D, cO, e0, A, mc, ms⟩ := κ
  obtain ⟨hx, hb, hml, hown, hts, hK, hG, hR, hlk⟩ := hκ
  intro H locs cells slots ls hF hl
  obtain ⟨k0, hk0, hk1⟩ := wG_Track cO S hO
  exact va_getN (D := D) (ci := 10) (C := RX10) (T := TX10) (N := 10) hx hb hts inlX10 hown hK (hΦ H locs cells slots hF).1 k0 hk1 rfl 2 (by decide) (va_Nw.use rfl (hG.1 _ hlink)) (fun x9 h9 => hsm.elim (fun z => by rw [z]; exact h9) (fun z => u_same (hts _ z) x9 h9)) rfl hdg (kk H locs cells slots ls hF hl)
theorem gt_Track_minute {cc : ByteArray} {nL : Nat} {own : String} {rm : Room} {κ : KX} (hκ : Cx cc nL own rm κ) {Φ : HQ} {pc : Nat} {lv : List (Nat × Value)} {st : List Value} {S : wPS} (hΦ : Hd κ Φ S) {a idx : Nat} {ref : String} (hO : a ∈ sL S ∧ sK S a = 9) (hlink : Cond.fieldLink own idx ref "minute" "I" ∈ GA) (hsm : ref = "Plotroom$Track" ∨ Cond.sameField ref "Plotroom$Track" "minute" "I" ∈ GA) (hdg : decode cc pc = .ok (.getfield idx, 3)) (kk : Gj κ Φ (pc + 3) lv (.int (sI S 56 a) :: st)) : Gj κ Φ pc lv (.ref a :: st) := by
  obtain ⟨p, l, e, R, s, m, args, below, meth, c, Q, D, cO, e0, A, mc, ms⟩ := κ
  obtain ⟨hx, hb, hml, hown, hts, hK, hG, hR, hlk⟩ := hκ
  intro H locs cells slots ls hF hl
  obtain ⟨k0, hk0, hk1⟩ := wG_Track cO S hO
  exact va_get (D := D) (ci := 10) (C := RX10) (T := TX10) (N := 10) hx hb hts inlX10 hown hK (hΦ H locs cells slots hF).1 k0 hk1 rfl 3 (by decide) (hts _ hlink) (fun x9 h9 => hsm.elim (fun z => by rw [z]; exact h9) (fun z => u_same (hts _ z) x9 h9)) rfl hdg (kk H locs cells slots ls hF hl)
theorem pt_Track_minute {cc : ByteArray} {nL : Nat} {own : String} {rm : Room} {κ : KX} (hκ : Cx cc nL own rm κ) {pc : Nat} {lv : List (Nat × Value)} {st : List Value} {S : wPS} {k n : Nat} {a idx : Nat} {ref : String} {v : Int32} (hO : a ∈ sL S ∧ sK S a = 9) (hlink : Cond.fieldLink own idx ref "minute" "I" ∈ GA) (hsm : ref = "Plotroom$Track" ∨ Cond.sameField ref "Plotroom$Track" "minute" "I" ∈ GA)   (hdg : decode cc pc = .ok (.putfield idx, 3)) (kk : Gj κ (PV κ (putI S 56 a v) k n) (pc + 3) lv st) : Gj κ (PV κ S k n) pc lv (.int v :: .ref a :: st) := by
  obtain ⟨p, l, e, R, s, m, args, below, meth, c, Q, D, cO, e0, A, mc, ms⟩ := κ
  obtain ⟨hx, hb, hml, hown, hts, hK, hG, hR, hlk⟩ := hκ
  intro H locs cells slots ls hF hl
  obtain ⟨hP, hD, hS, hc, hs⟩ := hF
  obtain ⟨k0, hk0, hk1⟩ := wG_Track cO S hO
  have eq9 := wU_Track_minute cO S hD hO hk0 v
  refine va_put (D := D) (ci := 10) (v := .int v) (ty := .int) (C := RX10) (T := TX10) (N := 10) hx hb hts inlX10 tyX10 tyX10_ok nmX10 hown hK hP hD hS k0 hk1 rfl 3 (by decide) (hts _ hlink) (fun x9 h9 => hsm.elim (fun z => by rw [z]; exact h9) (fun z => u_same (hts _ z) x9 h9)) rfl rfl rfl rfl (by decide) hdg (fun H1 locs1 hP1 hD1 hS1 => ?_)
  exact kk H1 locs1 cells slots ls ⟨Eq.mp (congrArg (fun z => va_P D vwCl z H1) eq9) hP1, Eq.mp (congrArg (fun z => va_D A z) eq9) hD1, hS1, hc, hs⟩ hl
theorem gtN_Track_minute {cc : ByteArray} {nL : Nat} {own : String} {rm : Room} {κ : KX} (hκ : Cx cc nL own rm κ) {Φ : HQ} {pc : Nat} {lv : List (Nat × Value)} {st : List Value} {S : wPS} (hΦ : Hd κ Φ S) {a idx : Nat} {ref host : String} (hO : a ∈ sL S ∧ sK S a = 9) (hlink : (own, idx, ref, "minute", "I", host) ∈ nestF) (hsm : ref = "Plotroom$Track" ∨ Cond.sameField ref "Plotroom$Track" "minute" "I" ∈ GA) (hdg : decode cc pc = .ok (.getfield idx, 3)) (kk : Gj κ Φ (pc + 3) lv (.int (sI S 56 a) :: st)) : Gj κ Φ pc lv (.ref a :: st) := by
  obtain ⟨p, l, e, R, s, m, args, below, meth, c, Q, D, cO, e0, A, mc, ms⟩ := κ
  obtain ⟨hx, hb, hml, hown, hts, hK, hG, hR, hlk⟩ := hκ
  intro H locs cells slots ls hF hl
  obtain ⟨k0, hk0, hk1⟩ := wG_Track cO S hO
  exact va_getN (D := D) (ci := 10) (C := RX10) (T := TX10) (N := 10) hx hb hts inlX10 hown hK (hΦ H locs cells slots hF).1 k0 hk1 rfl 3 (by decide) (va_Nw.use rfl (hG.1 _ hlink)) (fun x9 h9 => hsm.elim (fun z => by rw [z]; exact h9) (fun z => u_same (hts _ z) x9 h9)) rfl hdg (kk H locs cells slots ls hF hl)
theorem ptN_Track_minute {cc : ByteArray} {nL : Nat} {own : String} {rm : Room} {κ : KX} (hκ : Cx cc nL own rm κ) {pc : Nat} {lv : List (Nat × Value)} {st : List Value} {S : wPS} {k n : Nat} {a idx : Nat} {ref host : String} {v : Int32} (hO : a ∈ sL S ∧ sK S a = 9) (hlink : (own, idx, ref, "minute", "I", host) ∈ nestF) (hsm : ref = "Plotroom$Track" ∨ Cond.sameField ref "Plotroom$Track" "minute" "I" ∈ GA)   (hdg : decode cc pc = .ok (.putfield idx, 3)) (kk : Gj κ (PV κ (putI S 56 a v) k n) (pc + 3) lv st) : Gj κ (PV κ S k n) pc lv (.int v :: .ref a :: st) := by
  obtain ⟨p, l, e, R, s, m, args, below, meth, c, Q, D, cO, e0, A, mc, ms⟩ := κ
  obtain ⟨hx, hb, hml, hown, hts, hK, hG, hR, hlk⟩ := hκ
  intro H locs cells slots ls hF hl
  obtain ⟨hP, hD, hS, hc, hs⟩ := hF
  obtain ⟨k0, hk0, hk1⟩ := wG_Track cO S hO
  have eq9 := wU_Track_minute cO S hD hO hk0 v
  refine va_putN (D := D) (ci := 10) (v := .int v) (ty := .int) (C := RX10) (T := TX10) (N := 10) hx hb hts inlX10 tyX10 tyX10_ok nmX10 hown hK hP hD hS k0 hk1 rfl 3 (by decide) (va_Nw.use rfl (hG.1 _ hlink)) (fun x9 h9 => hsm.elim (fun z => by rw [z]; exact h9) (fun z => u_same (hts _ z) x9 h9)) rfl rfl rfl rfl (by decide) hdg (fun H1 locs1 hP1 hD1 hS1 => ?_)
  exact kk H1 locs1 cells slots ls ⟨Eq.mp (congrArg (fun z => va_P D vwCl z H1) eq9) hP1, Eq.mp (congrArg (fun z => va_D A z) eq9) hD1, hS1, hc, hs⟩ hl
theorem gt_Track_courseX {cc : ByteArray} {nL : Nat} {own : String} {rm : Room} {κ : KX} (hκ : Cx cc nL own rm κ) {Φ : HQ} {pc : Nat} {lv : List (Nat × Value)} {st : List Value} {S : wPS} (hΦ : Hd κ Φ S) {a idx : Nat} {ref : String} (hO : a ∈ sL S ∧ sK S a = 9) (hlink : Cond.fieldLink own idx ref "courseX" "I" ∈ GA) (hsm : ref = "Plotroom$Track" ∨ Cond.sameField ref "Plotroom$Track" "courseX" "I" ∈ GA) (hdg : decode cc pc = .ok (.getfield idx, 3)) (kk : Gj κ Φ (pc + 3) lv (.int (sI S 57 a) :: st)) : Gj κ Φ pc lv (.ref a :: st) := by
  obtain ⟨p, l, e, R, s, m, args, below, meth, c, Q, D, cO, e0, A, mc, ms⟩ := κ
  obtain ⟨hx, hb, hml, hown, hts, hK, hG, hR, hlk⟩ := hκ
  intro H locs cells slots ls hF hl
  obtain ⟨k0, hk0, hk1⟩ := wG_Track cO S hO
  exact va_get (D := D) (ci := 10) (C := RX10) (T := TX10) (N := 10) hx hb hts inlX10 hown hK (hΦ H locs cells slots hF).1 k0 hk1 rfl 4 (by decide) (hts _ hlink) (fun x9 h9 => hsm.elim (fun z => by rw [z]; exact h9) (fun z => u_same (hts _ z) x9 h9)) rfl hdg (kk H locs cells slots ls hF hl)
theorem pt_Track_courseX {cc : ByteArray} {nL : Nat} {own : String} {rm : Room} {κ : KX} (hκ : Cx cc nL own rm κ) {pc : Nat} {lv : List (Nat × Value)} {st : List Value} {S : wPS} {k n : Nat} {a idx : Nat} {ref : String} {v : Int32} (hO : a ∈ sL S ∧ sK S a = 9) (hlink : Cond.fieldLink own idx ref "courseX" "I" ∈ GA) (hsm : ref = "Plotroom$Track" ∨ Cond.sameField ref "Plotroom$Track" "courseX" "I" ∈ GA)   (hdg : decode cc pc = .ok (.putfield idx, 3)) (kk : Gj κ (PV κ (putI S 57 a v) k n) (pc + 3) lv st) : Gj κ (PV κ S k n) pc lv (.int v :: .ref a :: st) := by
  obtain ⟨p, l, e, R, s, m, args, below, meth, c, Q, D, cO, e0, A, mc, ms⟩ := κ
  obtain ⟨hx, hb, hml, hown, hts, hK, hG, hR, hlk⟩ := hκ
  intro H locs cells slots ls hF hl
  obtain ⟨hP, hD, hS, hc, hs⟩ := hF
  obtain ⟨k0, hk0, hk1⟩ := wG_Track cO S hO
  have eq9 := wU_Track_courseX cO S hD hO hk0 v
  refine va_put (D := D) (ci := 10) (v := .int v) (ty := .int) (C := RX10) (T := TX10) (N := 10) hx hb hts inlX10 tyX10 tyX10_ok nmX10 hown hK hP hD hS k0 hk1 rfl 4 (by decide) (hts _ hlink) (fun x9 h9 => hsm.elim (fun z => by rw [z]; exact h9) (fun z => u_same (hts _ z) x9 h9)) rfl rfl rfl rfl (by decide) hdg (fun H1 locs1 hP1 hD1 hS1 => ?_)
  exact kk H1 locs1 cells slots ls ⟨Eq.mp (congrArg (fun z => va_P D vwCl z H1) eq9) hP1, Eq.mp (congrArg (fun z => va_D A z) eq9) hD1, hS1, hc, hs⟩ hl
theorem gtN_Track_courseX {cc : ByteArray} {nL : Nat} {own : String} {rm : Room} {κ : KX} (hκ : Cx cc nL own rm κ) {Φ : HQ} {pc : Nat} {lv : List (Nat × Value)} {st : List Value} {S : wPS} (hΦ : Hd κ Φ S) {a idx : Nat} {ref host : String} (hO : a ∈ sL S ∧ sK S a = 9) (hlink : (own, idx, ref, "courseX", "I", host) ∈ nestF) (hsm : ref = "Plotroom$Track" ∨ Cond.sameField ref "Plotroom$Track" "courseX" "I" ∈ GA) (hdg : decode cc pc = .ok (.getfield idx, 3)) (kk : Gj κ Φ (pc + 3) lv (.int (sI S 57 a) :: st)) : Gj κ Φ pc lv (.ref a :: st) := by
  obtain ⟨p, l, e, R, s, m, args, below, meth, c, Q, D, cO, e0, A, mc, ms⟩ := κ
  obtain ⟨hx, hb, hml, hown, hts, hK, hG, hR, hlk⟩ := hκ
  intro H locs cells slots ls hF hl
  obtain ⟨k0, hk0, hk1⟩ := wG_Track cO S hO
  exact va_getN (D := D) (ci := 10) (C := RX10) (T := TX10) (N := 10) hx hb hts inlX10 hown hK (hΦ H locs cells slots hF).1 k0 hk1 rfl 4 (by decide) (va_Nw.use rfl (hG.1 _ hlink)) (fun x9 h9 => hsm.elim (fun z => by rw [z]; exact h9) (fun z => u_same (hts _ z) x9 h9)) rfl hdg (kk H locs cells slots ls hF hl)
theorem ptN_Track_courseX {cc : ByteArray} {nL : Nat} {own : String} {rm : Room} {κ : KX} (hκ : Cx cc nL own rm κ) {pc : Nat} {lv : List (Nat × Value)} {st : List Value} {S : wPS} {k n : Nat} {a idx : Nat} {ref host : String} {v : Int32} (hO : a ∈ sL S ∧ sK S a = 9) (hlink : (own, idx, ref, "courseX", "I", host) ∈ nestF) (hsm : ref = "Plotroom$Track" ∨ Cond.sameField ref "Plotroom$Track" "courseX" "I" ∈ GA)   (hdg : decode cc pc = .ok (.putfield idx, 3)) (kk : Gj κ (PV κ (putI S 57 a v) k n) (pc + 3) lv st) : Gj κ (PV κ S k n) pc lv (.int v :: .ref a :: st) := by
  obtain ⟨p, l, e, R, s, m, args, below, meth, c, Q, D, cO, e0, A, mc, ms⟩ := κ
  obtain ⟨hx, hb, hml, hown, hts, hK, hG, hR, hlk⟩ := hκ
  intro H locs cells slots ls hF hl
  obtain ⟨hP, hD, hS, hc, hs⟩ := hF
  obtain ⟨k0, hk0, hk1⟩ := wG_Track cO S hO
  have eq9 := wU_Track_courseX cO S hD hO hk0 v
  refine va_putN (D := D) (ci := 10) (v := .int v) (ty := .int) (C := RX10) (T := TX10) (N := 10) hx hb hts inlX10 tyX10 tyX10_ok nmX10 hown hK hP hD hS k0 hk1 rfl 4 (by decide) (va_Nw.use rfl (hG.1 _ hlink)) (fun x9 h9 => hsm.elim (fun z => by rw [z]; exact h9) (fun z => u_same (hts _ z) x9 h9)) rfl rfl rfl rfl (by decide) hdg (fun H1 locs1 hP1 hD1 hS1 => ?_)
  exact kk H1 locs1 cells slots ls ⟨Eq.mp (congrArg (fun z => va_P D vwCl z H1) eq9) hP1, Eq.mp (congrArg (fun z => va_D A z) eq9) hD1, hS1, hc, hs⟩ hl
theorem gt_Track_courseY {cc : ByteArray} {nL : Nat} {own : String} {rm : Room} {κ : KX} (hκ : Cx cc nL own rm κ) {Φ : HQ} {pc : Nat} {lv : List (Nat × Value)} {st : List Value} {S : wPS} (hΦ : Hd κ Φ S) {a idx : Nat} {ref : String} (hO : a ∈ sL S ∧ sK S a = 9) (hlink : Cond.fieldLink own idx ref "courseY" "I" ∈ GA) (hsm : ref = "Plotroom$Track" ∨ Cond.sameField ref "Plotroom$Track" "courseY" "I" ∈ GA) (hdg : decode cc pc = .ok (.getfield idx, 3)) (kk : Gj κ Φ (pc + 3) lv (.int (sI S 58 a) :: st)) : Gj κ Φ pc lv (.ref a :: st) := by
  obtain ⟨p, l, e, R, s, m, args, below, meth, c, Q, D, cO, e0, A, mc, ms⟩ := κ
  obtain ⟨hx, hb, hml, hown, hts, hK, hG, hR, hlk⟩ := hκ
  intro H locs cells slots ls hF hl
  obtain ⟨k0, hk0, hk1⟩ := wG_Track cO S hO
  exact va_get (D := D) (ci := 10) (C := RX10) (T := TX10) (N := 10) hx hb hts inlX10 hown hK (hΦ H locs cells slots hF).1 k0 hk1 rfl 5 (by decide) (hts _ hlink) (fun x9 h9 => hsm.elim (fun z => by rw [z]; exact h9) (fun z => u_same (hts _ z) x9 h9)) rfl hdg (kk H locs cells slots ls hF hl)
theorem pt_Track_courseY {cc : ByteArray} {nL : Nat} {own : String} {rm : Room} {κ : KX} (hκ : Cx cc nL own rm κ) {pc : Nat} {lv : List (Nat × Value)} {st : List Value} {S : wPS} {k n : Nat} {a idx : Nat} {ref : String} {v : Int32} (hO : a ∈ sL S ∧ sK S a = 9) (hlink : Cond.fieldLink own idx ref "courseY" "I" ∈ GA) (hsm : ref = "Plotroom$Track" ∨ Cond.sameField ref "Plotroom$Track" "courseY" "I" ∈ GA)   (hdg : decode cc pc = .ok (.putfield idx, 3)) (kk : Gj κ (PV κ (putI S 58 a v) k n) (pc + 3) lv st) : Gj κ (PV κ S k n) pc lv (.int v :: .ref a :: st) := by
  obtain ⟨p, l, e, R, s, m, args, below, meth, c, Q, D, cO, e0, A, mc, ms⟩ := κ
  obtain ⟨hx, hb, hml, hown, hts, hK, hG, hR, hlk⟩ := hκ
  intro H locs cells slots ls hF hl
  obtain ⟨hP, hD, hS, hc, hs⟩ := hF
  obtain ⟨k0, hk0, hk1⟩ := wG_Track cO S hO
  have eq9 := wU_Track_courseY cO S hD hO hk0 v
  refine va_put (D := D) (ci := 10) (v := .int v) (ty := .int) (C := RX10) (T := TX10) (N := 10) hx hb hts inlX10 tyX10 tyX10_ok nmX10 hown hK hP hD hS k0 hk1 rfl 5 (by decide) (hts _ hlink) (fun x9 h9 => hsm.elim (fun z => by rw [z]; exact h9) (fun z => u_same (hts _ z) x9 h9)) rfl rfl rfl rfl (by decide) hdg (fun H1 locs1 hP1 hD1 hS1 => ?_)
  exact kk H1 locs1 cells slots ls ⟨Eq.mp (congrArg (fun z => va_P D vwCl z H1) eq9) hP1, Eq.mp (congrArg (fun z => va_D A z) eq9) hD1, hS1, hc, hs⟩ hl
theorem gtN_Track_courseY {cc : ByteArray} {nL : Nat} {own : String} {rm : Room} {κ : KX} (hκ : Cx cc nL own rm κ) {Φ : HQ} {pc : Nat} {lv : List (Nat × Value)} {st : List Value} {S : wPS} (hΦ : Hd κ Φ S) {a idx : Nat} {ref host : String} (hO : a ∈ sL S ∧ sK S a = 9) (hlink : (own, idx, ref, "courseY", "I", host) ∈ nestF) (hsm : ref = "Plotroom$Track" ∨ Cond.sameField ref "Plotroom$Track" "courseY" "I" ∈ GA) (hdg : decode cc pc = .ok (.getfield idx, 3)) (kk : Gj κ Φ (pc + 3) lv (.int (sI S 58 a) :: st)) : Gj κ Φ pc lv (.ref a :: st) := by
  obtain ⟨p, l, e, R, s, m, args, below, meth, c, Q, D, cO, e0, A, mc, ms⟩ := κ
  obtain ⟨hx, hb, hml, hown, hts, hK, hG, hR, hlk⟩ := hκ
  intro H locs cells slots ls hF hl
  obtain ⟨k0, hk0, hk1⟩ := wG_Track cO S hO
  exact va_getN (D := D) (ci := 10) (C := RX10) (T := TX10) (N := 10) hx hb hts inlX10 hown hK (hΦ H locs cells slots hF).1 k0 hk1 rfl 5 (by decide) (va_Nw.use rfl (hG.1 _ hlink)) (fun x9 h9 => hsm.elim (fun z => by rw [z]; exact h9) (fun z => u_same (hts _ z) x9 h9)) rfl hdg (kk H locs cells slots ls hF hl)
theorem ptN_Track_courseY {cc : ByteArray} {nL : Nat} {own : String} {rm : Room} {κ : KX} (hκ : Cx cc nL own rm κ) {pc : Nat} {lv : List (Nat × Value)} {st : List Value} {S : wPS} {k n : Nat} {a idx : Nat} {ref host : String} {v : Int32} (hO : a ∈ sL S ∧ sK S a = 9) (hlink : (own, idx, ref, "courseY", "I", host) ∈ nestF) (hsm : ref = "Plotroom$Track" ∨ Cond.sameField ref "Plotroom$Track" "courseY" "I" ∈ GA)   (hdg : decode cc pc = .ok (.putfield idx, 3)) (kk : Gj κ (PV κ (putI S 58 a v) k n) (pc + 3) lv st) : Gj κ (PV κ S k n) pc lv (.int v :: .ref a :: st) := by
  obtain ⟨p, l, e, R, s, m, args, below, meth, c, Q, D, cO, e0, A, mc, ms⟩ := κ
  obtain ⟨hx, hb, hml, hown, hts, hK, hG, hR, hlk⟩ := hκ
  intro H locs cells slots ls hF hl
  obtain ⟨hP, hD, hS, hc, hs⟩ := hF
  obtain ⟨k0, hk0, hk1⟩ := wG_Track cO S hO
  have eq9 := wU_Track_courseY cO S hD hO hk0 v
  refine va_putN (D := D) (ci := 10) (v := .int v) (ty := .int) (C := RX10) (T := TX10) (N := 10) hx hb hts inlX10 tyX10 tyX10_ok nmX10 hown hK hP hD hS k0 hk1 rfl 5 (by decide) (va_Nw.use rfl (hG.1 _ hlink)) (fun x9 h9 => hsm.elim (fun z => by rw [z]; exact h9) (fun z => u_same (hts _ z) x9 h9)) rfl rfl rfl rfl (by decide) hdg (fun H1 locs1 hP1 hD1 hS1 => ?_)
  exact kk H1 locs1 cells slots ls ⟨Eq.mp (congrArg (fun z => va_P D vwCl z H1) eq9) hP1, Eq.mp (congrArg (fun z => va_D A z) eq9) hD1, hS1, hc, hs⟩ hl
theorem gt_Track_hasCourse {cc : ByteArray} {nL : Nat} {own : String} {rm : Room} {κ : KX} (hκ : Cx cc nL own rm κ) {Φ : HQ} {pc : Nat} {lv : List (Nat × Value)} {st : List Value} {S : wPS} (hΦ : Hd κ Φ S) {a idx : Nat} {ref : String} (hO : a ∈ sL S ∧ sK S a = 9) (hlink : Cond.fieldLink own idx ref "hasCourse" "Z" ∈ GA) (hsm : ref = "Plotroom$Track" ∨ Cond.sameField ref "Plotroom$Track" "hasCourse" "Z" ∈ GA) (hdg : decode cc pc = .ok (.getfield idx, 3)) (kk : Gj κ Φ (pc + 3) lv (.int (sI S 59 a) :: st)) : Gj κ Φ pc lv (.ref a :: st) := by
  obtain ⟨p, l, e, R, s, m, args, below, meth, c, Q, D, cO, e0, A, mc, ms⟩ := κ
  obtain ⟨hx, hb, hml, hown, hts, hK, hG, hR, hlk⟩ := hκ
  intro H locs cells slots ls hF hl
  obtain ⟨k0, hk0, hk1⟩ := wG_Track cO S hO
  exact va_get (D := D) (ci := 10) (C := RX10) (T := TX10) (N := 10) hx hb hts inlX10 hown hK (hΦ H locs cells slots hF).1 k0 hk1 rfl 6 (by decide) (hts _ hlink) (fun x9 h9 => hsm.elim (fun z => by rw [z]; exact h9) (fun z => u_same (hts _ z) x9 h9)) rfl hdg (kk H locs cells slots ls hF hl)
theorem pt_Track_hasCourse {cc : ByteArray} {nL : Nat} {own : String} {rm : Room} {κ : KX} (hκ : Cx cc nL own rm κ) {pc : Nat} {lv : List (Nat × Value)} {st : List Value} {S : wPS} {k n : Nat} {a idx : Nat} {ref : String} {v : Int32} (hO : a ∈ sL S ∧ sK S a = 9) (hlink : Cond.fieldLink own idx ref "hasCourse" "Z" ∈ GA) (hsm : ref = "Plotroom$Track" ∨ Cond.sameField ref "Plotroom$Track" "hasCourse" "Z" ∈ GA) (hv : v = 0 ∨ v = 1)  (hdg : decode cc pc = .ok (.putfield idx, 3)) (kk : Gj κ (PV κ (putI S 59 a v) k n) (pc + 3) lv st) : Gj κ (PV κ S k n) pc lv (.int v :: .ref a :: st) := by
  obtain ⟨p, l, e, R, s, m, args, below, meth, c, Q, D, cO, e0, A, mc, ms⟩ := κ
  obtain ⟨hx, hb, hml, hown, hts, hK, hG, hR, hlk⟩ := hκ
  intro H locs cells slots ls hF hl
  obtain ⟨hP, hD, hS, hc, hs⟩ := hF
  obtain ⟨k0, hk0, hk1⟩ := wG_Track cO S hO
  have eq9 := wU_Track_hasCourse cO S hD hO hk0 v
  refine va_put (D := D) (ci := 10) (v := .int v) (ty := .boolean) (C := RX10) (T := TX10) (N := 10) hx hb hts inlX10 tyX10 tyX10_ok nmX10 hown hK hP hD hS k0 hk1 rfl 6 (by decide) (hts _ hlink) (fun x9 h9 => hsm.elim (fun z => by rw [z]; exact h9) (fun z => u_same (hts _ z) x9 h9)) rfl rfl (by rcases hv with rfl | rfl <;> rfl) (by rcases hv with rfl | rfl <;> rfl) (by decide) hdg (fun H1 locs1 hP1 hD1 hS1 => ?_)
  exact kk H1 locs1 cells slots ls ⟨Eq.mp (congrArg (fun z => va_P D vwCl z H1) eq9) hP1, Eq.mp (congrArg (fun z => va_D A z) eq9) hD1, hS1, hc, hs⟩ hl
theorem gtN_Track_hasCourse {cc : ByteArray} {nL : Nat} {own : String} {rm : Room} {κ : KX} (hκ : Cx cc nL own rm κ) {Φ : HQ} {pc : Nat} {lv : List (Nat × Value)} {st : List Value} {S : wPS} (hΦ : Hd κ Φ S) {a idx : Nat} {ref host : String} (hO : a ∈ sL S ∧ sK S a = 9) (hlink : (own, idx, ref, "hasCourse", "Z", host) ∈ nestF) (hsm : ref = "Plotroom$Track" ∨ Cond.sameField ref "Plotroom$Track" "hasCourse" "Z" ∈ GA) (hdg : decode cc pc = .ok (.getfield idx, 3)) (kk : Gj κ Φ (pc + 3) lv (.int (sI S 59 a) :: st)) : Gj κ Φ pc lv (.ref a :: st) := by
  obtain ⟨p, l, e, R, s, m, args, below, meth, c, Q, D, cO, e0, A, mc, ms⟩ := κ
  obtain ⟨hx, hb, hml, hown, hts, hK, hG, hR, hlk⟩ := hκ
  intro H locs cells slots ls hF hl
  obtain ⟨k0, hk0, hk1⟩ := wG_Track cO S hO
  exact va_getN (D := D) (ci := 10) (C := RX10) (T := TX10) (N := 10) hx hb hts inlX10 hown hK (hΦ H locs cells slots hF).1 k0 hk1 rfl 6 (by decide) (va_Nw.use rfl (hG.1 _ hlink)) (fun x9 h9 => hsm.elim (fun z => by rw [z]; exact h9) (fun z => u_same (hts _ z) x9 h9)) rfl hdg (kk H locs cells slots ls hF hl)
theorem ptN_Track_hasCourse {cc : ByteArray} {nL : Nat} {own : String} {rm : Room} {κ : KX} (hκ : Cx cc nL own rm κ) {pc : Nat} {lv : List (Nat × Value)} {st : List Value} {S : wPS} {k n : Nat} {a idx : Nat} {ref host : String} {v : Int32} (hO : a ∈ sL S ∧ sK S a = 9) (hlink : (own, idx, ref, "hasCourse", "Z", host) ∈ nestF) (hsm : ref = "Plotroom$Track" ∨ Cond.sameField ref "Plotroom$Track" "hasCourse" "Z" ∈ GA) (hv : v = 0 ∨ v = 1)  (hdg : decode cc pc = .ok (.putfield idx, 3)) (kk : Gj κ (PV κ (putI S 59 a v) k n) (pc + 3) lv st) : Gj κ (PV κ S k n) pc lv (.int v :: .ref a :: st) := by
  obtain ⟨p, l, e, R, s, m, args, below, meth, c, Q, D, cO, e0, A, mc, ms⟩ := κ
  obtain ⟨hx, hb, hml, hown, hts, hK, hG, hR, hlk⟩ := hκ
  intro H locs cells slots ls hF hl
  obtain ⟨hP, hD, hS, hc, hs⟩ := hF
  obtain ⟨k0, hk0, hk1⟩ := wG_Track cO S hO
  have eq9 := wU_Track_hasCourse cO S hD hO hk0 v
  refine va_putN (D := D) (ci := 10) (v := .int v) (ty := .boolean) (C := RX10) (T := TX10) (N := 10) hx hb hts inlX10 tyX10 tyX10_ok nmX10 hown hK hP hD hS k0 hk1 rfl 6 (by decide) (va_Nw.use rfl (hG.1 _ hlink)) (fun x9 h9 => hsm.elim (fun z => by rw [z]; exact h9) (fun z => u_same (hts _ z) x9 h9)) rfl rfl (by rcases hv with rfl | rfl <;> rfl) (by rcases hv with rfl | rfl <;> rfl) (by decide) hdg (fun H1 locs1 hP1 hD1 hS1 => ?_)
  exact kk H1 locs1 cells slots ls ⟨Eq.mp (congrArg (fun z => va_P D vwCl z H1) eq9) hP1, Eq.mp (congrArg (fun z => va_D A z) eq9) hD1, hS1, hc, hs⟩ hl
theorem gt_Track_guess {cc : ByteArray} {nL : Nat} {own : String} {rm : Room} {κ : KX} (hκ : Cx cc nL own rm κ) {Φ : HQ} {pc : Nat} {lv : List (Nat × Value)} {st : List Value} {S : wPS} (hΦ : Hd κ Φ S) {a idx : Nat} {ref : String} (hO : a ∈ sL S ∧ sK S a = 9) (hlink : Cond.fieldLink own idx ref "guess" "I" ∈ GA) (hsm : ref = "Plotroom$Track" ∨ Cond.sameField ref "Plotroom$Track" "guess" "I" ∈ GA) (hdg : decode cc pc = .ok (.getfield idx, 3)) (kk : Gj κ Φ (pc + 3) lv (.int (sI S 60 a) :: st)) : Gj κ Φ pc lv (.ref a :: st) := by
  obtain ⟨p, l, e, R, s, m, args, below, meth, c, Q, D, cO, e0, A, mc, ms⟩ := κ
  obtain ⟨hx, hb, hml, hown, hts, hK, hG, hR, hlk⟩ := hκ
  intro H locs cells slots ls hF hl
  obtain ⟨k0, hk0, hk1⟩ := wG_Track cO S hO
  exact va_get (D := D) (ci := 10) (C := RX10) (T := TX10) (N := 10) hx hb hts inlX10 hown hK (hΦ H locs cells slots hF).1 k0 hk1 rfl 7 (by decide) (hts _ hlink) (fun x9 h9 => hsm.elim (fun z => by rw [z]; exact h9) (fun z => u_same (hts _ z) x9 h9)) rfl hdg (kk H locs cells slots ls hF hl)
theorem pt_Track_guess {cc : ByteArray} {nL : Nat} {own : String} {rm : Room} {κ : KX} (hκ : Cx cc nL own rm κ) {pc : Nat} {lv : List (Nat × Value)} {st : List Value} {S : wPS} {k n : Nat} {a idx : Nat} {ref : String} {v : Int32} (hO : a ∈ sL S ∧ sK S a = 9) (hlink : Cond.fieldLink own idx ref "guess" "I" ∈ GA) (hsm : ref = "Plotroom$Track" ∨ Cond.sameField ref "Plotroom$Track" "guess" "I" ∈ GA)   (hdg : decode cc pc = .ok (.putfield idx, 3)) (kk : Gj κ (PV κ (putI S 60 a v) k n) (pc + 3) lv st) : Gj κ (PV κ S k n) pc lv (.int v :: .ref a :: st) := by
  obtain ⟨p, l, e, R, s, m, args, below, meth, c, Q, D, cO, e0, A, mc, ms⟩ := κ
  obtain ⟨hx, hb, hml, hown, hts, hK, hG, hR, hlk⟩ := hκ
  intro H locs cells slots ls hF hl
  obtain ⟨hP, hD, hS, hc, hs⟩ := hF
  obtain ⟨k0, hk0, hk1⟩ := wG_Track cO S hO
  have eq9 := wU_Track_guess cO S hD hO hk0 v
  refine va_put (D := D) (ci := 10) (v := .int v) (ty := .int) (C := RX10) (T := TX10) (N := 10) hx hb hts inlX10 tyX10 tyX10_ok nmX10 hown hK hP hD hS k0 hk1 rfl 7 (by decide) (hts _ hlink) (fun x9 h9 => hsm.elim (fun z => by rw [z]; exact h9) (fun z => u_same (hts _ z) x9 h9)) rfl rfl rfl rfl (by decide) hdg (fun H1 locs1 hP1 hD1 hS1 => ?_)
  exact kk H1 locs1 cells slots ls ⟨Eq.mp (congrArg (fun z => va_P D vwCl z H1) eq9) hP1, Eq.mp (congrArg (fun z => va_D A z) eq9) hD1, hS1, hc, hs⟩ hl
theorem gtN_Track_guess {cc : ByteArray} {nL : Nat} {own : String} {rm : Room} {κ : KX} (hκ : Cx cc nL own rm κ) {Φ : HQ} {pc : Nat} {lv : List (Nat × Value)} {st : List Value} {S : wPS} (hΦ : Hd κ Φ S) {a idx : Nat} {ref host : String} (hO : a ∈ sL S ∧ sK S a = 9) (hlink : (own, idx, ref, "guess", "I", host) ∈ nestF) (hsm : ref = "Plotroom$Track" ∨ Cond.sameField ref "Plotroom$Track" "guess" "I" ∈ GA) (hdg : decode cc pc = .ok (.getfield idx, 3)) (kk : Gj κ Φ (pc + 3) lv (.int (sI S 60 a) :: st)) : Gj κ Φ pc lv (.ref a :: st) := by
  obtain ⟨p, l, e, R, s, m, args, below, meth, c, Q, D, cO, e0, A, mc, ms⟩ := κ
  obtain ⟨hx, hb, hml, hown, hts, hK, hG, hR, hlk⟩ := hκ
  intro H locs cells slots ls hF hl
  obtain ⟨k0, hk0, hk1⟩ := wG_Track cO S hO
  exact va_getN (D := D) (ci := 10) (C := RX10) (T := TX10) (N := 10) hx hb hts inlX10 hown hK (hΦ H locs cells slots hF).1 k0 hk1 rfl 7 (by decide) (va_Nw.use rfl (hG.1 _ hlink)) (fun x9 h9 => hsm.elim (fun z => by rw [z]; exact h9) (fun z => u_same (hts _ z) x9 h9)) rfl hdg (kk H locs cells slots ls hF hl)
theorem ptN_Track_guess {cc : ByteArray} {nL : Nat} {own : String} {rm : Room} {κ : KX} (hκ : Cx cc nL own rm κ) {pc : Nat} {lv : List (Nat × Value)} {st : List Value} {S : wPS} {k n : Nat} {a idx : Nat} {ref host : String} {v : Int32} (hO : a ∈ sL S ∧ sK S a = 9) (hlink : (own, idx, ref, "guess", "I", host) ∈ nestF) (hsm : ref = "Plotroom$Track" ∨ Cond.sameField ref "Plotroom$Track" "guess" "I" ∈ GA)   (hdg : decode cc pc = .ok (.putfield idx, 3)) (kk : Gj κ (PV κ (putI S 60 a v) k n) (pc + 3) lv st) : Gj κ (PV κ S k n) pc lv (.int v :: .ref a :: st) := by
  obtain ⟨p, l, e, R, s, m, args, below, meth, c, Q, D, cO, e0, A, mc, ms⟩ := κ
  obtain ⟨hx, hb, hml, hown, hts, hK, hG, hR, hlk⟩ := hκ
  intro H locs cells slots ls hF hl
  obtain ⟨hP, hD, hS, hc, hs⟩ := hF
  obtain ⟨k0, hk0, hk1⟩ := wG_Track cO S hO
  have eq9 := wU_Track_guess cO S hD hO hk0 v
  refine va_putN (D := D) (ci := 10) (v := .int v) (ty := .int) (C := RX10) (T := TX10) (N := 10) hx hb hts inlX10 tyX10 tyX10_ok nmX10 hown hK hP hD hS k0 hk1 rfl 7 (by decide) (va_Nw.use rfl (hG.1 _ hlink)) (fun x9 h9 => hsm.elim (fun z => by rw [z]; exact h9) (fun z => u_same (hts _ z) x9 h9)) rfl rfl rfl rfl (by decide) hdg (fun H1 locs1 hP1 hD1 hS1 => ?_)
  exact kk H1 locs1 cells slots ls ⟨Eq.mp (congrArg (fun z => va_P D vwCl z H1) eq9) hP1, Eq.mp (congrArg (fun z => va_D A z) eq9) hD1, hS1, hc, hs⟩ hl
theorem gt_Track_hits {cc : ByteArray} {nL : Nat} {own : String} {rm : Room} {κ : KX} (hκ : Cx cc nL own rm κ) {Φ : HQ} {pc : Nat} {lv : List (Nat × Value)} {st : List Value} {S : wPS} (hΦ : Hd κ Φ S) {a idx : Nat} {ref : String} (hO : a ∈ sL S ∧ sK S a = 9) (hlink : Cond.fieldLink own idx ref "hits" "I" ∈ GA) (hsm : ref = "Plotroom$Track" ∨ Cond.sameField ref "Plotroom$Track" "hits" "I" ∈ GA) (hdg : decode cc pc = .ok (.getfield idx, 3)) (kk : Gj κ Φ (pc + 3) lv (.int (sI S 61 a) :: st)) : Gj κ Φ pc lv (.ref a :: st) := by
  obtain ⟨p, l, e, R, s, m, args, below, meth, c, Q, D, cO, e0, A, mc, ms⟩ := κ
  obtain ⟨hx, hb, hml, hown, hts, hK, hG, hR, hlk⟩ := hκ
  intro H locs cells slots ls hF hl
  obtain ⟨k0, hk0, hk1⟩ := wG_Track cO S hO
  exact va_get (D := D) (ci := 10) (C := RX10) (T := TX10) (N := 10) hx hb hts inlX10 hown hK (hΦ H locs cells slots hF).1 k0 hk1 rfl 8 (by decide) (hts _ hlink) (fun x9 h9 => hsm.elim (fun z => by rw [z]; exact h9) (fun z => u_same (hts _ z) x9 h9)) rfl hdg (kk H locs cells slots ls hF hl)
theorem pt_Track_hits {cc : ByteArray} {nL : Nat} {own : String} {rm : Room} {κ : KX} (hκ : Cx cc nL own rm κ) {pc : Nat} {lv : List (Nat × Value)} {st : List Value} {S : wPS} {k n : Nat} {a idx : Nat} {ref : String} {v : Int32} (hO : a ∈ sL S ∧ sK S a = 9) (hlink : Cond.fieldLink own idx ref "hits" "I" ∈ GA) (hsm : ref = "Plotroom$Track" ∨ Cond.sameField ref "Plotroom$Track" "hits" "I" ∈ GA)   (hdg : decode cc pc = .ok (.putfield idx, 3)) (kk : Gj κ (PV κ (putI S 61 a v) k n) (pc + 3) lv st) : Gj κ (PV κ S k n) pc lv (.int v :: .ref a :: st) := by
  obtain ⟨p, l, e, R, s, m, args, below, meth, c, Q, D, cO, e0, A, mc, ms⟩ := κ
  obtain ⟨hx, hb, hml, hown, hts, hK, hG, hR, hlk⟩ := hκ
  intro H locs cells slots ls hF hl
  obtain ⟨hP, hD, hS, hc, hs⟩ := hF
  obtain ⟨k0, hk0, hk1⟩ := wG_Track cO S hO
  have eq9 := wU_Track_hits cO S hD hO hk0 v
  refine va_put (D := D) (ci := 10) (v := .int v) (ty := .int) (C := RX10) (T := TX10) (N := 10) hx hb hts inlX10 tyX10 tyX10_ok nmX10 hown hK hP hD hS k0 hk1 rfl 8 (by decide) (hts _ hlink) (fun x9 h9 => hsm.elim (fun z => by rw [z]; exact h9) (fun z => u_same (hts _ z) x9 h9)) rfl rfl rfl rfl (by decide) hdg (fun H1 locs1 hP1 hD1 hS1 => ?_)
  exact kk H1 locs1 cells slots ls ⟨Eq.mp (congrArg (fun z => va_P D vwCl z H1) eq9) hP1, Eq.mp (congrArg (fun z => va_D A z) eq9) hD1, hS1, hc, hs⟩ hl
theorem gtN_Track_hits {cc : ByteArray} {nL : Nat} {own : String} {rm : Room} {κ : KX} (hκ : Cx cc nL own rm κ) {Φ : HQ} {pc : Nat} {lv : List (Nat × Value)} {st : List Value} {S : wPS} (hΦ : Hd κ Φ S) {a idx : Nat} {ref host : String} (hO : a ∈ sL S ∧ sK S a = 9) (hlink : (own, idx, ref, "hits", "I", host) ∈ nestF) (hsm : ref = "Plotroom$Track" ∨ Cond.sameField ref "Plotroom$Track" "hits" "I" ∈ GA) (hdg : decode cc pc = .ok (.getfield idx, 3)) (kk : Gj κ Φ (pc + 3) lv (.int (sI S 61 a) :: st)) : Gj κ Φ pc lv (.ref a :: st) := by
  obtain ⟨p, l, e, R, s, m, args, below, meth, c, Q, D, cO, e0, A, mc, ms⟩ := κ
  obtain ⟨hx, hb, hml, hown, hts, hK, hG, hR, hlk⟩ := hκ
  intro H locs cells slots ls hF hl
  obtain ⟨k0, hk0, hk1⟩ := wG_Track cO S hO
  exact va_getN (D := D) (ci := 10) (C := RX10) (T := TX10) (N := 10) hx hb hts inlX10 hown hK (hΦ H locs cells slots hF).1 k0 hk1 rfl 8 (by decide) (va_Nw.use rfl (hG.1 _ hlink)) (fun x9 h9 => hsm.elim (fun z => by rw [z]; exact h9) (fun z => u_same (hts _ z) x9 h9)) rfl hdg (kk H locs cells slots ls hF hl)
theorem ptN_Track_hits {cc : ByteArray} {nL : Nat} {own : String} {rm : Room} {κ : KX} (hκ : Cx cc nL own rm κ) {pc : Nat} {lv : List (Nat × Value)} {st : List Value} {S : wPS} {k n : Nat} {a idx : Nat} {ref host : String} {v : Int32} (hO : a ∈ sL S ∧ sK S a = 9) (hlink : (own, idx, ref, "hits", "I", host) ∈ nestF) (hsm : ref = "Plotroom$Track" ∨ Cond.sameField ref "Plotroom$Track" "hits" "I" ∈ GA)   (hdg : decode cc pc = .ok (.putfield idx, 3)) (kk : Gj κ (PV κ (putI S 61 a v) k n) (pc + 3) lv st) : Gj κ (PV κ S k n) pc lv (.int v :: .ref a :: st) := by
  obtain ⟨p, l, e, R, s, m, args, below, meth, c, Q, D, cO, e0, A, mc, ms⟩ := κ
  obtain ⟨hx, hb, hml, hown, hts, hK, hG, hR, hlk⟩ := hκ
  intro H locs cells slots ls hF hl
  obtain ⟨hP, hD, hS, hc, hs⟩ := hF
  obtain ⟨k0, hk0, hk1⟩ := wG_Track cO S hO
  have eq9 := wU_Track_hits cO S hD hO hk0 v
  refine va_putN (D := D) (ci := 10) (v := .int v) (ty := .int) (C := RX10) (T := TX10) (N := 10) hx hb hts inlX10 tyX10 tyX10_ok nmX10 hown hK hP hD hS k0 hk1 rfl 8 (by decide) (va_Nw.use rfl (hG.1 _ hlink)) (fun x9 h9 => hsm.elim (fun z => by rw [z]; exact h9) (fun z => u_same (hts _ z) x9 h9)) rfl rfl rfl rfl (by decide) hdg (fun H1 locs1 hP1 hD1 hS1 => ?_)
  exact kk H1 locs1 cells slots ls ⟨Eq.mp (congrArg (fun z => va_P D vwCl z H1) eq9) hP1, Eq.mp (congrArg (fun z => va_D A z) eq9) hD1, hS1, hc, hs⟩ hl
theorem gt_Track_isLive {cc : ByteArray} {nL : Nat} {own : String} {rm : Room} {κ : KX} (hκ : Cx cc nL own rm κ) {Φ : HQ} {pc : Nat} {lv : List (Nat × Value)} {st : List Value} {S : wPS} (hΦ : Hd κ Φ S) {a idx : Nat} {ref : String} (hO : a ∈ sL S ∧ sK S a = 9) (hlink : Cond.fieldLink own idx ref "isLive" "Z" ∈ GA) (hsm : ref = "Plotroom$Track" ∨ Cond.sameField ref "Plotroom$Track" "isLive" "Z" ∈ GA) (hdg : decode cc pc = .ok (.getfield idx, 3)) (kk : Gj κ Φ (pc + 3) lv (.int (sI S 62 a) :: st)) : Gj κ Φ pc lv (.ref a :: st) := by
  obtain ⟨p, l, e, R, s, m, args, below, meth, c, Q, D, cO, e0, A, mc, ms⟩ := κ
  obtain ⟨hx, hb, hml, hown, hts, hK, hG, hR, hlk⟩ := hκ
  intro H locs cells slots ls hF hl
  obtain ⟨k0, hk0, hk1⟩ := wG_Track cO S hO
  exact va_get (D := D) (ci := 10) (C := RX10) (T := TX10) (N := 10) hx hb hts inlX10 hown hK (hΦ H locs cells slots hF).1 k0 hk1 rfl 9 (by decide) (hts _ hlink) (fun x9 h9 => hsm.elim (fun z => by rw [z]; exact h9) (fun z => u_same (hts _ z) x9 h9)) rfl hdg (kk H locs cells slots ls hF hl)
theorem pt_Track_isLive {cc : ByteArray} {nL : Nat} {own : String} {rm : Room} {κ : KX} (hκ : Cx cc nL own rm κ) {pc : Nat} {lv : List (Nat × Value)} {st : List Value} {S : wPS} {k n : Nat} {a idx : Nat} {ref : String} {v : Int32} (hO : a ∈ sL S ∧ sK S a = 9) (hlink : Cond.fieldLink own idx ref "isLive" "Z" ∈ GA) (hsm : ref = "Plotroom$Track" ∨ Cond.sameField ref "Plotroom$Track" "isLive" "Z" ∈ GA) (hv : v = 0 ∨ v = 1)  (hdg : decode cc pc = .ok (.putfield idx, 3)) (kk : Gj κ (PV κ (putI S 62 a v) k n) (pc + 3) lv st) : Gj κ (PV κ S k n) pc lv (.int v :: .ref a :: st) := by
  obtain ⟨p, l, e, R, s, m, args, below, meth, c, Q, D, cO, e0, A, mc, ms⟩ := κ
  obtain ⟨hx, hb, hml, hown, hts, hK, hG, hR, hlk⟩ := hκ
  intro H locs cells slots ls hF hl
  obtain ⟨hP, hD, hS, hc, hs⟩ := hF
  obtain ⟨k0, hk0, hk1⟩ := wG_Track cO S hO
  have eq9 := wU_Track_isLive cO S hD hO hk0 v
  refine va_put (D := D) (ci := 10) (v := .int v) (ty := .boolean) (C := RX10) (T := TX10) (N := 10) hx hb hts inlX10 tyX10 tyX10_ok nmX10 hown hK hP hD hS k0 hk1 rfl 9 (by decide) (hts _ hlink) (fun x9 h9 => hsm.elim (fun z => by rw [z]; exact h9) (fun z => u_same (hts _ z) x9 h9)) rfl rfl (by rcases hv with rfl | rfl <;> rfl) (by rcases hv with rfl | rfl <;> rfl) (by decide) hdg (fun H1 locs1 hP1 hD1 hS1 => ?_)
  exact kk H1 locs1 cells slots ls ⟨Eq.mp (congrArg (fun z => va_P D vwCl z H1) eq9) hP1, Eq.mp (congrArg (fun z => va_D A z) eq9) hD1, hS1, hc, hs⟩ hl
theorem gtN_Track_isLive {cc : ByteArray} {nL : Nat} {own : String} {rm : Room} {κ : KX} (hκ : Cx cc nL own rm κ) {Φ : HQ} {pc : Nat} {lv : List (Nat × Value)} {st : List Value} {S : wPS} (hΦ : Hd κ Φ S) {a idx : Nat} {ref host : String} (hO : a ∈ sL S ∧ sK S a = 9) (hlink : (own, idx, ref, "isLive", "Z", host) ∈ nestF) (hsm : ref = "Plotroom$Track" ∨ Cond.sameField ref "Plotroom$Track" "isLive" "Z" ∈ GA) (hdg : decode cc pc = .ok (.getfield idx, 3)) (kk : Gj κ Φ (pc + 3) lv (.int (sI S 62 a) :: st)) : Gj κ Φ pc lv (.ref a :: st) := by
  obtain ⟨p, l, e, R, s, m, args, below, meth, c, Q, D, cO, e0, A, mc, ms⟩ := κ
  obtain ⟨hx, hb, hml, hown, hts, hK, hG, hR, hlk⟩ := hκ
  intro H locs cells slots ls hF hl
  obtain ⟨k0, hk0, hk1⟩ := wG_Track cO S hO
  exact va_getN (D := D) (ci := 10) (C := RX10) (T := TX10) (N := 10) hx hb hts inlX10 hown hK (hΦ H locs cells slots hF).1 k0 hk1 rfl 9 (by decide) (va_Nw.use rfl (hG.1 _ hlink)) (fun x9 h9 => hsm.elim (fun z => by rw [z]; exact h9) (fun z => u_same (hts _ z) x9 h9)) rfl hdg (kk H locs cells slots ls hF hl)
theorem ptN_Track_isLive {cc : ByteArray} {nL : Nat} {own : String} {rm : Room} {κ : KX} (hκ : Cx cc nL own rm κ) {pc : Nat} {lv : List (Nat × Value)} {st : List Value} {S : wPS} {k n : Nat} {a idx : Nat} {ref host : String} {v : Int32} (hO : a ∈ sL S ∧ sK S a = 9) (hlink : (own, idx, ref, "isLive", "Z", host) ∈ nestF) (hsm : ref = "Plotroom$Track" ∨ Cond.sameField ref "Plotroom$Track" "isLive" "Z" ∈ GA) (hv : v = 0 ∨ v = 1)  (hdg : decode cc pc = .ok (.putfield idx, 3)) (kk : Gj κ (PV κ (putI S 62 a v) k n) (pc + 3) lv st) : Gj κ (PV κ S k n) pc lv (.int v :: .ref a :: st) := by
  obtain ⟨p, l, e, R, s, m, args, below, meth, c, Q, D, cO, e0, A, mc, ms⟩ := κ
  obtain ⟨hx, hb, hml, hown, hts, hK, hG, hR, hlk⟩ := hκ
  intro H locs cells slots ls hF hl
  obtain ⟨hP, hD, hS, hc, hs⟩ := hF
  obtain ⟨k0, hk0, hk1⟩ := wG_Track cO S hO
  have eq9 := wU_Track_isLive cO S hD hO hk0 v
  refine va_putN (D := D) (ci := 10) (v := .int v) (ty := .boolean) (C := RX10) (T := TX10) (N := 10) hx hb hts inlX10 tyX10 tyX10_ok nmX10 hown hK hP hD hS k0 hk1 rfl 9 (by decide) (va_Nw.use rfl (hG.1 _ hlink)) (fun x9 h9 => hsm.elim (fun z => by rw [z]; exact h9) (fun z => u_same (hts _ z) x9 h9)) rfl rfl (by rcases hv with rfl | rfl <;> rfl) (by rcases hv with rfl | rfl <;> rfl) (by decide) hdg (fun H1 locs1 hP1 hD1 hS1 => ?_)
  exact kk H1 locs1 cells slots ls ⟨Eq.mp (congrArg (fun z => va_P D vwCl z H1) eq9) hP1, Eq.mp (congrArg (fun z => va_D A z) eq9) hD1, hS1, hc, hs⟩ hl
theorem gt_Room_masts {cc : ByteArray} {nL : Nat} {own : String} {rm : Room} {κ : KX} (hκ : Cx cc nL own rm κ) {Φ : HQ} {pc : Nat} {lv : List (Nat × Value)} {st : List Value} {S : wPS} (hΦ : Hd κ Φ S) {a idx : Nat} {ref : String} (hO : a ∈ sL S ∧ sK S a = 10) (hlink : Cond.fieldLink own idx ref "masts" "Ljava/util/ArrayList;" ∈ GA) (hsm : ref = "Plotroom" ∨ Cond.sameField ref "Plotroom" "masts" "Ljava/util/ArrayList;" ∈ GA) (hdg : decode cc pc = .ok (.getfield idx, 3)) (kk : Gj κ Φ (pc + 3) lv (va_rf (sR S 3 a) :: st)) : Gj κ Φ pc lv (.ref a :: st) := by
  obtain ⟨p, l, e, R, s, m, args, below, meth, c, Q, D, cO, e0, A, mc, ms⟩ := κ
  obtain ⟨hx, hb, hml, hown, hts, hK, hG, hR, hlk⟩ := hκ
  intro H locs cells slots ls hF hl
  obtain ⟨k0, hk0, hk1⟩ := wG_Room cO S hO
  exact va_get (D := D) (ci := 11) (C := RX11) (T := TX11) (N := 14) hx hb hts inlX11 hown hK (hΦ H locs cells slots hF).1 k0 hk1 rfl 0 (by decide) (hts _ hlink) (fun x9 h9 => hsm.elim (fun z => by rw [z]; exact h9) (fun z => u_same (hts _ z) x9 h9)) rfl hdg (kk H locs cells slots ls hF hl)
theorem pt_Room_masts {cc : ByteArray} {nL : Nat} {own : String} {rm : Room} {κ : KX} (hκ : Cx cc nL own rm κ) {pc : Nat} {lv : List (Nat × Value)} {st : List Value} {S : wPS} {k n : Nat} {a idx : Nat} {ref : String} {v : Option Nat} (hO : a ∈ sL S ∧ sK S a = 10) (hlink : Cond.fieldLink own idx ref "masts" "Ljava/util/ArrayList;" ∈ GA) (hsm : ref = "Plotroom" ∨ Cond.sameField ref "Plotroom" "masts" "Ljava/util/ArrayList;" ∈ GA)  (hin : Nm "<init>" κ) (hde : "Plotroom" = own) (hdg : decode cc pc = .ok (.putfield idx, 3)) (kk : Gj κ (PV κ (putR S 3 a v) k n) (pc + 3) lv st) : Gj κ (PV κ S k n) pc lv (va_rf v :: .ref a :: st) := by
  obtain ⟨p, l, e, R, s, m, args, below, meth, c, Q, D, cO, e0, A, mc, ms⟩ := κ
  obtain ⟨hx, hb, hml, hown, hts, hK, hG, hR, hlk⟩ := hκ
  intro H locs cells slots ls hF hl
  obtain ⟨hP, hD, hS, hc, hs⟩ := hF
  obtain ⟨k0, hk0, hk1⟩ := wG_Room cO S hO
  have eq9 := wU_Room_masts cO S hD hO hk0 v
  refine va_putF (D := D) (ci := 11) (v := va_rf v) (ty := .object "java/util/ArrayList") (C := RX11) (T := TX11) (N := 14) hx hb hts inlX11 tyX11 tyX11_ok nmX11 hown hK hP hD hS k0 hk1 rfl 0 (by decide) (hts _ hlink) (fun x9 h9 => hsm.elim (fun z => by rw [z]; exact h9) (fun z => u_same (hts _ z) x9 h9)) rfl hin hde rfl (by cases v <;> rfl) (by cases v <;> rfl) (by decide) hdg (fun H1 locs1 hP1 hD1 hS1 => ?_)
  exact kk H1 locs1 cells slots ls ⟨Eq.mp (congrArg (fun z => va_P D vwCl z H1) eq9) hP1, Eq.mp (congrArg (fun z => va_D A z) eq9) hD1, hS1, hc, hs⟩ hl
theorem gtN_Room_masts {cc : ByteArray} {nL : Nat} {own : String} {rm : Room} {κ : KX} (hκ : Cx cc nL own rm κ) {Φ : HQ} {pc : Nat} {lv : List (Nat × Value)} {st : List Value} {S : wPS} (hΦ : Hd κ Φ S) {a idx : Nat} {ref host : String} (hO : a ∈ sL S ∧ sK S a = 10) (hlink : (own, idx, ref, "masts", "Ljava/util/ArrayList;", host) ∈ nestF) (hsm : ref = "Plotroom" ∨ Cond.sameField ref "Plotroom" "masts" "Ljava/util/ArrayList;" ∈ GA) (hdg : decode cc pc = .ok (.getfield idx, 3)) (kk : Gj κ Φ (pc + 3) lv (va_rf (sR S 3 a) :: st)) : Gj κ Φ pc lv (.ref a :: st) := by
  obtain ⟨p, l, e, R, s, m, args, below, meth, c, Q, D, cO, e0, A, mc, ms⟩ := κ
  obtain ⟨hx, hb, hml, hown, hts, hK, hG, hR, hlk⟩ := hκ
  intro H locs cells slots ls hF hl
  obtain ⟨k0, hk0, hk1⟩ := wG_Room cO S hO
  exact va_getN (D := D) (ci := 11) (C := RX11) (T := TX11) (N := 14) hx hb hts inlX11 hown hK (hΦ H locs cells slots hF).1 k0 hk1 rfl 0 (by decide) (va_Nw.use rfl (hG.1 _ hlink)) (fun x9 h9 => hsm.elim (fun z => by rw [z]; exact h9) (fun z => u_same (hts _ z) x9 h9)) rfl hdg (kk H locs cells slots ls hF hl)
theorem gt_Room_stations {cc : ByteArray} {nL : Nat} {own : String} {rm : Room} {κ : KX} (hκ : Cx cc nL own rm κ) {Φ : HQ} {pc : Nat} {lv : List (Nat × Value)} {st : List Value} {S : wPS} (hΦ : Hd κ Φ S) {a idx : Nat} {ref : String} (hO : a ∈ sL S ∧ sK S a = 10) (hlink : Cond.fieldLink own idx ref "stations" "Ljava/util/ArrayList;" ∈ GA) (hsm : ref = "Plotroom" ∨ Cond.sameField ref "Plotroom" "stations" "Ljava/util/ArrayList;" ∈ GA) (hdg : decode cc pc = .ok (.getfield idx, 3)) (kk : Gj κ Φ (pc + 3) lv (va_rf (sR S 4 a) :: st)) : Gj κ Φ pc lv (.ref a :: st) := by
  obtain ⟨p, l, e, R, s, m, args, below, meth, c, Q, D, cO, e0, A, mc, ms⟩ := κ
  obtain ⟨hx, hb, hml, hown, hts, hK, hG, hR, hlk⟩ := hκ
  intro H locs cells slots ls hF hl
  obtain ⟨k0, hk0, hk1⟩ := wG_Room cO S hO
  exact va_get (D := D) (ci := 11) (C := RX11) (T := TX11) (N := 14) hx hb hts inlX11 hown hK (hΦ H locs cells slots hF).1 k0 hk1 rfl 1 (by decide) (hts _ hlink) (fun x9 h9 => hsm.elim (fun z => by rw [z]; exact h9) (fun z => u_same (hts _ z) x9 h9)) rfl hdg (kk H locs cells slots ls hF hl)
theorem pt_Room_stations {cc : ByteArray} {nL : Nat} {own : String} {rm : Room} {κ : KX} (hκ : Cx cc nL own rm κ) {pc : Nat} {lv : List (Nat × Value)} {st : List Value} {S : wPS} {k n : Nat} {a idx : Nat} {ref : String} {v : Option Nat} (hO : a ∈ sL S ∧ sK S a = 10) (hlink : Cond.fieldLink own idx ref "stations" "Ljava/util/ArrayList;" ∈ GA) (hsm : ref = "Plotroom" ∨ Cond.sameField ref "Plotroom" "stations" "Ljava/util/ArrayList;" ∈ GA)  (hin : Nm "<init>" κ) (hde : "Plotroom" = own) (hdg : decode cc pc = .ok (.putfield idx, 3)) (kk : Gj κ (PV κ (putR S 4 a v) k n) (pc + 3) lv st) : Gj κ (PV κ S k n) pc lv (va_rf v :: .ref a :: st) := by
  obtain ⟨p, l, e, R, s, m, args, below, meth, c, Q, D, cO, e0, A, mc, ms⟩ := κ
  obtain ⟨hx, hb, hml, hown, hts, hK, hG, hR, hlk⟩ := hκ
  intro H locs cells slots ls hF hl
  obtain ⟨hP, hD, hS, hc, hs⟩ := hF
  obtain ⟨k0, hk0, hk1⟩ := wG_Room cO S hO
  have eq9 := wU_Room_stations cO S hD hO hk0 v
  refine va_putF (D := D) (ci := 11) (v := va_rf v) (ty := .object "java/util/ArrayList") (C := RX11) (T := TX11) (N := 14) hx hb hts inlX11 tyX11 tyX11_ok nmX11 hown hK hP hD hS k0 hk1 rfl 1 (by decide) (hts _ hlink) (fun x9 h9 => hsm.elim (fun z => by rw [z]; exact h9) (fun z => u_same (hts _ z) x9 h9)) rfl hin hde rfl (by cases v <;> rfl) (by cases v <;> rfl) (by decide) hdg (fun H1 locs1 hP1 hD1 hS1 => ?_)
  exact kk H1 locs1 cells slots ls ⟨Eq.mp (congrArg (fun z => va_P D vwCl z H1) eq9) hP1, Eq.mp (congrArg (fun z => va_D A z) eq9) hD1, hS1, hc, hs⟩ hl
theorem gtN_Room_stations {cc : ByteArray} {nL : Nat} {own : String} {rm : Room} {κ : KX} (hκ : Cx cc nL own rm κ) {Φ : HQ} {pc : Nat} {lv : List (Nat × Value)} {st : List Value} {S : wPS} (hΦ : Hd κ Φ S) {a idx : Nat} {ref host : String} (hO : a ∈ sL S ∧ sK S a = 10) (hlink : (own, idx, ref, "stations", "Ljava/util/ArrayList;", host) ∈ nestF) (hsm : ref = "Plotroom" ∨ Cond.sameField ref "Plotroom" "stations" "Ljava/util/ArrayList;" ∈ GA) (hdg : decode cc pc = .ok (.getfield idx, 3)) (kk : Gj κ Φ (pc + 3) lv (va_rf (sR S 4 a) :: st)) : Gj κ Φ pc lv (.ref a :: st) := by
  obtain ⟨p, l, e, R, s, m, args, below, meth, c, Q, D, cO, e0, A, mc, ms⟩ := κ
  obtain ⟨hx, hb, hml, hown, hts, hK, hG, hR, hlk⟩ := hκ
  intro H locs cells slots ls hF hl
  obtain ⟨k0, hk0, hk1⟩ := wG_Room cO S hO
  exact va_getN (D := D) (ci := 11) (C := RX11) (T := TX11) (N := 14) hx hb hts inlX11 hown hK (hΦ H locs cells slots hF).1 k0 hk1 rfl 1 (by decide) (va_Nw.use rfl (hG.1 _ hlink)) (fun x9 h9 => hsm.elim (fun z => by rw [z]; exact h9) (fun z => u_same (hts _ z) x9 h9)) rfl hdg (kk H locs cells slots ls hF hl)
theorem gt_Room_squadrons {cc : ByteArray} {nL : Nat} {own : String} {rm : Room} {κ : KX} (hκ : Cx cc nL own rm κ) {Φ : HQ} {pc : Nat} {lv : List (Nat × Value)} {st : List Value} {S : wPS} (hΦ : Hd κ Φ S) {a idx : Nat} {ref : String} (hO : a ∈ sL S ∧ sK S a = 10) (hlink : Cond.fieldLink own idx ref "squadrons" "Ljava/util/ArrayList;" ∈ GA) (hsm : ref = "Plotroom" ∨ Cond.sameField ref "Plotroom" "squadrons" "Ljava/util/ArrayList;" ∈ GA) (hdg : decode cc pc = .ok (.getfield idx, 3)) (kk : Gj κ Φ (pc + 3) lv (va_rf (sR S 5 a) :: st)) : Gj κ Φ pc lv (.ref a :: st) := by
  obtain ⟨p, l, e, R, s, m, args, below, meth, c, Q, D, cO, e0, A, mc, ms⟩ := κ
  obtain ⟨hx, hb, hml, hown, hts, hK, hG, hR, hlk⟩ := hκ
  intro H locs cells slots ls hF hl
  obtain ⟨k0, hk0, hk1⟩ := wG_Room cO S hO
  exact va_get (D := D) (ci := 11) (C := RX11) (T := TX11) (N := 14) hx hb hts inlX11 hown hK (hΦ H locs cells slots hF).1 k0 hk1 rfl 2 (by decide) (hts _ hlink) (fun x9 h9 => hsm.elim (fun z => by rw [z]; exact h9) (fun z => u_same (hts _ z) x9 h9)) rfl hdg (kk H locs cells slots ls hF hl)
theorem pt_Room_squadrons {cc : ByteArray} {nL : Nat} {own : String} {rm : Room} {κ : KX} (hκ : Cx cc nL own rm κ) {pc : Nat} {lv : List (Nat × Value)} {st : List Value} {S : wPS} {k n : Nat} {a idx : Nat} {ref : String} {v : Option Nat} (hO : a ∈ sL S ∧ sK S a = 10) (hlink : Cond.fieldLink own idx ref "squadrons" "Ljava/util/ArrayList;" ∈ GA) (hsm : ref = "Plotroom" ∨ Cond.sameField ref "Plotroom" "squadrons" "Ljava/util/ArrayList;" ∈ GA)  (hin : Nm "<init>" κ) (hde : "Plotroom" = own) (hdg : decode cc pc = .ok (.putfield idx, 3)) (kk : Gj κ (PV κ (putR S 5 a v) k n) (pc + 3) lv st) : Gj κ (PV κ S k n) pc lv (va_rf v :: .ref a :: st) := by
  obtain ⟨p, l, e, R, s, m, args, below, meth, c, Q, D, cO, e0, A, mc, ms⟩ := κ
  obtain ⟨hx, hb, hml, hown, hts, hK, hG, hR, hlk⟩ := hκ
  intro H locs cells slots ls hF hl
  obtain ⟨hP, hD, hS, hc, hs⟩ := hF
  obtain ⟨k0, hk0, hk1⟩ := wG_Room cO S hO
  have eq9 := wU_Room_squadrons cO S hD hO hk0 v
  refine va_putF (D := D) (ci := 11) (v := va_rf v) (ty := .object "java/util/ArrayList") (C := RX11) (T := TX11) (N := 14) hx hb hts inlX11 tyX11 tyX11_ok nmX11 hown hK hP hD hS k0 hk1 rfl 2 (by decide) (hts _ hlink) (fun x9 h9 => hsm.elim (fun z => by rw [z]; exact h9) (fun z => u_same (hts _ z) x9 h9)) rfl hin hde rfl (by cases v <;> rfl) (by cases v <;> rfl) (by decide) hdg (fun H1 locs1 hP1 hD1 hS1 => ?_)
  exact kk H1 locs1 cells slots ls ⟨Eq.mp (congrArg (fun z => va_P D vwCl z H1) eq9) hP1, Eq.mp (congrArg (fun z => va_D A z) eq9) hD1, hS1, hc, hs⟩ hl
theorem gtN_Room_squadrons {cc : ByteArray} {nL : Nat} {own : String} {rm : Room} {κ : KX} (hκ : Cx cc nL own rm κ) {Φ : HQ} {pc : Nat} {lv : List (Nat × Value)} {st : List Value} {S : wPS} (hΦ : Hd κ Φ S) {a idx : Nat} {ref host : String} (hO : a ∈ sL S ∧ sK S a = 10) (hlink : (own, idx, ref, "squadrons", "Ljava/util/ArrayList;", host) ∈ nestF) (hsm : ref = "Plotroom" ∨ Cond.sameField ref "Plotroom" "squadrons" "Ljava/util/ArrayList;" ∈ GA) (hdg : decode cc pc = .ok (.getfield idx, 3)) (kk : Gj κ Φ (pc + 3) lv (va_rf (sR S 5 a) :: st)) : Gj κ Φ pc lv (.ref a :: st) := by
  obtain ⟨p, l, e, R, s, m, args, below, meth, c, Q, D, cO, e0, A, mc, ms⟩ := κ
  obtain ⟨hx, hb, hml, hown, hts, hK, hG, hR, hlk⟩ := hκ
  intro H locs cells slots ls hF hl
  obtain ⟨k0, hk0, hk1⟩ := wG_Room cO S hO
  exact va_getN (D := D) (ci := 11) (C := RX11) (T := TX11) (N := 14) hx hb hts inlX11 hown hK (hΦ H locs cells slots hF).1 k0 hk1 rfl 2 (by decide) (va_Nw.use rfl (hG.1 _ hlink)) (fun x9 h9 => hsm.elim (fun z => by rw [z]; exact h9) (fun z => u_same (hts _ z) x9 h9)) rfl hdg (kk H locs cells slots ls hF hl)
theorem gt_Room_guns {cc : ByteArray} {nL : Nat} {own : String} {rm : Room} {κ : KX} (hκ : Cx cc nL own rm κ) {Φ : HQ} {pc : Nat} {lv : List (Nat × Value)} {st : List Value} {S : wPS} (hΦ : Hd κ Φ S) {a idx : Nat} {ref : String} (hO : a ∈ sL S ∧ sK S a = 10) (hlink : Cond.fieldLink own idx ref "guns" "Ljava/util/ArrayList;" ∈ GA) (hsm : ref = "Plotroom" ∨ Cond.sameField ref "Plotroom" "guns" "Ljava/util/ArrayList;" ∈ GA) (hdg : decode cc pc = .ok (.getfield idx, 3)) (kk : Gj κ Φ (pc + 3) lv (va_rf (sR S 6 a) :: st)) : Gj κ Φ pc lv (.ref a :: st) := by
  obtain ⟨p, l, e, R, s, m, args, below, meth, c, Q, D, cO, e0, A, mc, ms⟩ := κ
  obtain ⟨hx, hb, hml, hown, hts, hK, hG, hR, hlk⟩ := hκ
  intro H locs cells slots ls hF hl
  obtain ⟨k0, hk0, hk1⟩ := wG_Room cO S hO
  exact va_get (D := D) (ci := 11) (C := RX11) (T := TX11) (N := 14) hx hb hts inlX11 hown hK (hΦ H locs cells slots hF).1 k0 hk1 rfl 3 (by decide) (hts _ hlink) (fun x9 h9 => hsm.elim (fun z => by rw [z]; exact h9) (fun z => u_same (hts _ z) x9 h9)) rfl hdg (kk H locs cells slots ls hF hl)
theorem pt_Room_guns {cc : ByteArray} {nL : Nat} {own : String} {rm : Room} {κ : KX} (hκ : Cx cc nL own rm κ) {pc : Nat} {lv : List (Nat × Value)} {st : List Value} {S : wPS} {k n : Nat} {a idx : Nat} {ref : String} {v : Option Nat} (hO : a ∈ sL S ∧ sK S a = 10) (hlink : Cond.fieldLink own idx ref "guns" "Ljava/util/ArrayList;" ∈ GA) (hsm : ref = "Plotroom" ∨ Cond.sameField ref "Plotroom" "guns" "Ljava/util/ArrayList;" ∈ GA)  (hin : Nm "<init>" κ) (hde : "Plotroom" = own) (hdg : decode cc pc = .ok (.putfield idx, 3)) (kk : Gj κ (PV κ (putR S 6 a v) k n) (pc + 3) lv st) : Gj κ (PV κ S k n) pc lv (va_rf v :: .ref a :: st) := by
  obtain ⟨p, l, e, R, s, m, args, below, meth, c, Q, D, cO, e0, A, mc, ms⟩ := κ
  obtain ⟨hx, hb, hml, hown, hts, hK, hG, hR, hlk⟩ := hκ
  intro H locs cells slots ls hF hl
  obtain ⟨hP, hD, hS, hc, hs⟩ := hF
  obtain ⟨k0, hk0, hk1⟩ := wG_Room cO S hO
  have eq9 := wU_Room_guns cO S hD hO hk0 v
  refine va_putF (D := D) (ci := 11) (v := va_rf v) (ty := .object "java/util/ArrayList") (C := RX11) (T := TX11) (N := 14) hx hb hts inlX11 tyX11 tyX11_ok nmX11 hown hK hP hD hS k0 hk1 rfl 3 (by decide) (hts _ hlink) (fun x9 h9 => hsm.elim (fun z => by rw [z]; exact h9) (fun z => u_same (hts _ z) x9 h9)) rfl hin hde rfl (by cases v <;> rfl) (by cases v <;> rfl) (by decide) hdg (fun H1 locs1 hP1 hD1 hS1 => ?_)
  exact kk H1 locs1 cells slots ls ⟨Eq.mp (congrArg (fun z => va_P D vwCl z H1) eq9) hP1, Eq.mp (congrArg (fun z => va_D A z) eq9) hD1, hS1, hc, hs⟩ hl
theorem gtN_Room_guns {cc : ByteArray} {nL : Nat} {own : String} {rm : Room} {κ : KX} (hκ : Cx cc nL own rm κ) {Φ : HQ} {pc : Nat} {lv : List (Nat × Value)} {st : List Value} {S : wPS} (hΦ : Hd κ Φ S) {a idx : Nat} {ref host : String} (hO : a ∈ sL S ∧ sK S a = 10) (hlink : (own, idx, ref, "guns", "Ljava/util/ArrayList;", host) ∈ nestF) (hsm : ref = "Plotroom" ∨ Cond.sameField ref "Plotroom" "guns" "Ljava/util/ArrayList;" ∈ GA) (hdg : decode cc pc = .ok (.getfield idx, 3)) (kk : Gj κ Φ (pc + 3) lv (va_rf (sR S 6 a) :: st)) : Gj κ Φ pc lv (.ref a :: st) := by
  obtain ⟨p, l, e, R, s, m, args, below, meth, c, Q, D, cO, e0, A, mc, ms⟩ := κ
  obtain ⟨hx, hb, hml, hown, hts, hK, hG, hR, hlk⟩ := hκ
  intro H locs cells slots ls hF hl
  obtain ⟨k0, hk0, hk1⟩ := wG_Room cO S hO
  exact va_getN (D := D) (ci := 11) (C := RX11) (T := TX11) (N := 14) hx hb hts inlX11 hown hK (hΦ H locs cells slots hF).1 k0 hk1 rfl 3 (by decide) (va_Nw.use rfl (hG.1 _ hlink)) (fun x9 h9 => hsm.elim (fun z => by rw [z]; exact h9) (fun z => u_same (hts _ z) x9 h9)) rfl hdg (kk H locs cells slots ls hF hl)
theorem gt_Room_towns {cc : ByteArray} {nL : Nat} {own : String} {rm : Room} {κ : KX} (hκ : Cx cc nL own rm κ) {Φ : HQ} {pc : Nat} {lv : List (Nat × Value)} {st : List Value} {S : wPS} (hΦ : Hd κ Φ S) {a idx : Nat} {ref : String} (hO : a ∈ sL S ∧ sK S a = 10) (hlink : Cond.fieldLink own idx ref "towns" "Ljava/util/ArrayList;" ∈ GA) (hsm : ref = "Plotroom" ∨ Cond.sameField ref "Plotroom" "towns" "Ljava/util/ArrayList;" ∈ GA) (hdg : decode cc pc = .ok (.getfield idx, 3)) (kk : Gj κ Φ (pc + 3) lv (va_rf (sR S 7 a) :: st)) : Gj κ Φ pc lv (.ref a :: st) := by
  obtain ⟨p, l, e, R, s, m, args, below, meth, c, Q, D, cO, e0, A, mc, ms⟩ := κ
  obtain ⟨hx, hb, hml, hown, hts, hK, hG, hR, hlk⟩ := hκ
  intro H locs cells slots ls hF hl
  obtain ⟨k0, hk0, hk1⟩ := wG_Room cO S hO
  exact va_get (D := D) (ci := 11) (C := RX11) (T := TX11) (N := 14) hx hb hts inlX11 hown hK (hΦ H locs cells slots hF).1 k0 hk1 rfl 4 (by decide) (hts _ hlink) (fun x9 h9 => hsm.elim (fun z => by rw [z]; exact h9) (fun z => u_same (hts _ z) x9 h9)) rfl hdg (kk H locs cells slots ls hF hl)
theorem pt_Room_towns {cc : ByteArray} {nL : Nat} {own : String} {rm : Room} {κ : KX} (hκ : Cx cc nL own rm κ) {pc : Nat} {lv : List (Nat × Value)} {st : List Value} {S : wPS} {k n : Nat} {a idx : Nat} {ref : String} {v : Option Nat} (hO : a ∈ sL S ∧ sK S a = 10) (hlink : Cond.fieldLink own idx ref "towns" "Ljava/util/ArrayList;" ∈ GA) (hsm : ref = "Plotroom" ∨ Cond.sameField ref "Plotroom" "towns" "Ljava/util/ArrayList;" ∈ GA)  (hin : Nm "<init>" κ) (hde : "Plotroom" = own) (hdg : decode cc pc = .ok (.putfield idx, 3)) (kk : Gj κ (PV κ (putR S 7 a v) k n) (pc + 3) lv st) : Gj κ (PV κ S k n) pc lv (va_rf v :: .ref a :: st) := by
  obtain ⟨p, l, e, R, s, m, args, below, meth, c, Q, D, cO, e0, A, mc, ms⟩ := κ
  obtain ⟨hx, hb, hml, hown, hts, hK, hG, hR, hlk⟩ := hκ
  intro H locs cells slots ls hF hl
  obtain ⟨hP, hD, hS, hc, hs⟩ := hF
  obtain ⟨k0, hk0, hk1⟩ := wG_Room cO S hO
  have eq9 := wU_Room_towns cO S hD hO hk0 v
  refine va_putF (D := D) (ci := 11) (v := va_rf v) (ty := .object "java/util/ArrayList") (C := RX11) (T := TX11) (N := 14) hx hb hts inlX11 tyX11 tyX11_ok nmX11 hown hK hP hD hS k0 hk1 rfl 4 (by decide) (hts _ hlink) (fun x9 h9 => hsm.elim (fun z => by rw [z]; exact h9) (fun z => u_same (hts _ z) x9 h9)) rfl hin hde rfl (by cases v <;> rfl) (by cases v <;> rfl) (by decide) hdg (fun H1 locs1 hP1 hD1 hS1 => ?_)
  exact kk H1 locs1 cells slots ls ⟨Eq.mp (congrArg (fun z => va_P D vwCl z H1) eq9) hP1, Eq.mp (congrArg (fun z => va_D A z) eq9) hD1, hS1, hc, hs⟩ hl
theorem gtN_Room_towns {cc : ByteArray} {nL : Nat} {own : String} {rm : Room} {κ : KX} (hκ : Cx cc nL own rm κ) {Φ : HQ} {pc : Nat} {lv : List (Nat × Value)} {st : List Value} {S : wPS} (hΦ : Hd κ Φ S) {a idx : Nat} {ref host : String} (hO : a ∈ sL S ∧ sK S a = 10) (hlink : (own, idx, ref, "towns", "Ljava/util/ArrayList;", host) ∈ nestF) (hsm : ref = "Plotroom" ∨ Cond.sameField ref "Plotroom" "towns" "Ljava/util/ArrayList;" ∈ GA) (hdg : decode cc pc = .ok (.getfield idx, 3)) (kk : Gj κ Φ (pc + 3) lv (va_rf (sR S 7 a) :: st)) : Gj κ Φ pc lv (.ref a :: st) := by
  obtain ⟨p, l, e, R, s, m, args, below, meth, c, Q, D, cO, e0, A, mc, ms⟩ := κ
  obtain ⟨hx, hb, hml, hown, hts, hK, hG, hR, hlk⟩ := hκ
  intro H locs cells slots ls hF hl
  obtain ⟨k0, hk0, hk1⟩ := wG_Room cO S hO
  exact va_getN (D := D) (ci := 11) (C := RX11) (T := TX11) (N := 14) hx hb hts inlX11 hown hK (hΦ H locs cells slots hF).1 k0 hk1 rfl 4 (by decide) (va_Nw.use rfl (hG.1 _ hlink)) (fun x9 h9 => hsm.elim (fun z => by rw [z]; exact h9) (fun z => u_same (hts _ z) x9 h9)) rfl hdg (kk H locs cells slots ls hF hl)
theorem gt_Room_flights {cc : ByteArray} {nL : Nat} {own : String} {rm : Room} {κ : KX} (hκ : Cx cc nL own rm κ) {Φ : HQ} {pc : Nat} {lv : List (Nat × Value)} {st : List Value} {S : wPS} (hΦ : Hd κ Φ S) {a idx : Nat} {ref : String} (hO : a ∈ sL S ∧ sK S a = 10) (hlink : Cond.fieldLink own idx ref "flights" "Ljava/util/ArrayList;" ∈ GA) (hsm : ref = "Plotroom" ∨ Cond.sameField ref "Plotroom" "flights" "Ljava/util/ArrayList;" ∈ GA) (hdg : decode cc pc = .ok (.getfield idx, 3)) (kk : Gj κ Φ (pc + 3) lv (va_rf (sR S 8 a) :: st)) : Gj κ Φ pc lv (.ref a :: st) := by
  obtain ⟨p, l, e, R, s, m, args, below, meth, c, Q, D, cO, e0, A, mc, ms⟩ := κ
  obtain ⟨hx, hb, hml, hown, hts, hK, hG, hR, hlk⟩ := hκ
  intro H locs cells slots ls hF hl
  obtain ⟨k0, hk0, hk1⟩ := wG_Room cO S hO
  exact va_get (D := D) (ci := 11) (C := RX11) (T := TX11) (N := 14) hx hb hts inlX11 hown hK (hΦ H locs cells slots hF).1 k0 hk1 rfl 5 (by decide) (hts _ hlink) (fun x9 h9 => hsm.elim (fun z => by rw [z]; exact h9) (fun z => u_same (hts _ z) x9 h9)) rfl hdg (kk H locs cells slots ls hF hl)
theorem pt_Room_flights {cc : ByteArray} {nL : Nat} {own : String} {rm : Room} {κ : KX} (hκ : Cx cc nL own rm κ) {pc : Nat} {lv : List (Nat × Value)} {st : List Value} {S : wPS} {k n : Nat} {a idx : Nat} {ref : String} {v : Option Nat} (hO : a ∈ sL S ∧ sK S a = 10) (hlink : Cond.fieldLink own idx ref "flights" "Ljava/util/ArrayList;" ∈ GA) (hsm : ref = "Plotroom" ∨ Cond.sameField ref "Plotroom" "flights" "Ljava/util/ArrayList;" ∈ GA)  (hin : Nm "<init>" κ) (hde : "Plotroom" = own) (hdg : decode cc pc = .ok (.putfield idx, 3)) (kk : Gj κ (PV κ (putR S 8 a v) k n) (pc + 3) lv st) : Gj κ (PV κ S k n) pc lv (va_rf v :: .ref a :: st) := by
  obtain ⟨p, l, e, R, s, m, args, below, meth, c, Q, D, cO, e0, A, mc, ms⟩ := κ
  obtain ⟨hx, hb, hml, hown, hts, hK, hG, hR, hlk⟩ := hκ
  intro H locs cells slots ls hF hl
  obtain ⟨hP, hD, hS, hc, hs⟩ := hF
  obtain ⟨k0, hk0, hk1⟩ := wG_Room cO S hO
  have eq9 := wU_Room_flights cO S hD hO hk0 v
  refine va_putF (D := D) (ci := 11) (v := va_rf v) (ty := .object "java/util/ArrayList") (C := RX11) (T := TX11) (N := 14) hx hb hts inlX11 tyX11 tyX11_ok nmX11 hown hK hP hD hS k0 hk1 rfl 5 (by decide) (hts _ hlink) (fun x9 h9 => hsm.elim (fun z => by rw [z]; exact h9) (fun z => u_same (hts _ z) x9 h9)) rfl hin hde rfl (by cases v <;> rfl) (by cases v <;> rfl) (by decide) hdg (fun H1 locs1 hP1 hD1 hS1 => ?_)
  exact kk H1 locs1 cells slots ls ⟨Eq.mp (congrArg (fun z => va_P D vwCl z H1) eq9) hP1, Eq.mp (congrArg (fun z => va_D A z) eq9) hD1, hS1, hc, hs⟩ hl
theorem gtN_Room_flights {cc : ByteArray} {nL : Nat} {own : String} {rm : Room} {κ : KX} (hκ : Cx cc nL own rm κ) {Φ : HQ} {pc : Nat} {lv : List (Nat × Value)} {st : List Value} {S : wPS} (hΦ : Hd κ Φ S) {a idx : Nat} {ref host : String} (hO : a ∈ sL S ∧ sK S a = 10) (hlink : (own, idx, ref, "flights", "Ljava/util/ArrayList;", host) ∈ nestF) (hsm : ref = "Plotroom" ∨ Cond.sameField ref "Plotroom" "flights" "Ljava/util/ArrayList;" ∈ GA) (hdg : decode cc pc = .ok (.getfield idx, 3)) (kk : Gj κ Φ (pc + 3) lv (va_rf (sR S 8 a) :: st)) : Gj κ Φ pc lv (.ref a :: st) := by
  obtain ⟨p, l, e, R, s, m, args, below, meth, c, Q, D, cO, e0, A, mc, ms⟩ := κ
  obtain ⟨hx, hb, hml, hown, hts, hK, hG, hR, hlk⟩ := hκ
  intro H locs cells slots ls hF hl
  obtain ⟨k0, hk0, hk1⟩ := wG_Room cO S hO
  exact va_getN (D := D) (ci := 11) (C := RX11) (T := TX11) (N := 14) hx hb hts inlX11 hown hK (hΦ H locs cells slots hF).1 k0 hk1 rfl 5 (by decide) (va_Nw.use rfl (hG.1 _ hlink)) (fun x9 h9 => hsm.elim (fun z => by rw [z]; exact h9) (fun z => u_same (hts _ z) x9 h9)) rfl hdg (kk H locs cells slots ls hF hl)
theorem gt_Room_plans {cc : ByteArray} {nL : Nat} {own : String} {rm : Room} {κ : KX} (hκ : Cx cc nL own rm κ) {Φ : HQ} {pc : Nat} {lv : List (Nat × Value)} {st : List Value} {S : wPS} (hΦ : Hd κ Φ S) {a idx : Nat} {ref : String} (hO : a ∈ sL S ∧ sK S a = 10) (hlink : Cond.fieldLink own idx ref "plans" "Ljava/util/ArrayList;" ∈ GA) (hsm : ref = "Plotroom" ∨ Cond.sameField ref "Plotroom" "plans" "Ljava/util/ArrayList;" ∈ GA) (hdg : decode cc pc = .ok (.getfield idx, 3)) (kk : Gj κ Φ (pc + 3) lv (va_rf (sR S 9 a) :: st)) : Gj κ Φ pc lv (.ref a :: st) := by
  obtain ⟨p, l, e, R, s, m, args, below, meth, c, Q, D, cO, e0, A, mc, ms⟩ := κ
  obtain ⟨hx, hb, hml, hown, hts, hK, hG, hR, hlk⟩ := hκ
  intro H locs cells slots ls hF hl
  obtain ⟨k0, hk0, hk1⟩ := wG_Room cO S hO
  exact va_get (D := D) (ci := 11) (C := RX11) (T := TX11) (N := 14) hx hb hts inlX11 hown hK (hΦ H locs cells slots hF).1 k0 hk1 rfl 6 (by decide) (hts _ hlink) (fun x9 h9 => hsm.elim (fun z => by rw [z]; exact h9) (fun z => u_same (hts _ z) x9 h9)) rfl hdg (kk H locs cells slots ls hF hl)
theorem pt_Room_plans {cc : ByteArray} {nL : Nat} {own : String} {rm : Room} {κ : KX} (hκ : Cx cc nL own rm κ) {pc : Nat} {lv : List (Nat × Value)} {st : List Value} {S : wPS} {k n : Nat} {a idx : Nat} {ref : String} {v : Option Nat} (hO : a ∈ sL S ∧ sK S a = 10) (hlink : Cond.fieldLink own idx ref "plans" "Ljava/util/ArrayList;" ∈ GA) (hsm : ref = "Plotroom" ∨ Cond.sameField ref "Plotroom" "plans" "Ljava/util/ArrayList;" ∈ GA)  (hin : Nm "<init>" κ) (hde : "Plotroom" = own) (hdg : decode cc pc = .ok (.putfield idx, 3)) (kk : Gj κ (PV κ (putR S 9 a v) k n) (pc + 3) lv st) : Gj κ (PV κ S k n) pc lv (va_rf v :: .ref a :: st) := by
  obtain ⟨p, l, e, R, s, m, args, below, meth, c, Q, D, cO, e0, A, mc, ms⟩ := κ
  obtain ⟨hx, hb, hml, hown, hts, hK, hG, hR, hlk⟩ := hκ
  intro H locs cells slots ls hF hl
  obtain ⟨hP, hD, hS, hc, hs⟩ := hF
  obtain ⟨k0, hk0, hk1⟩ := wG_Room cO S hO
  have eq9 := wU_Room_plans cO S hD hO hk0 v
  refine va_putF (D := D) (ci := 11) (v := va_rf v) (ty := .object "java/util/ArrayList") (C := RX11) (T := TX11) (N := 14) hx hb hts inlX11 tyX11 tyX11_ok nmX11 hown hK hP hD hS k0 hk1 rfl 6 (by decide) (hts _ hlink) (fun x9 h9 => hsm.elim (fun z => by rw [z]; exact h9) (fun z => u_same (hts _ z) x9 h9)) rfl hin hde rfl (by cases v <;> rfl) (by cases v <;> rfl) (by decide) hdg (fun H1 locs1 hP1 hD1 hS1 => ?_)
  exact kk H1 locs1 cells slots ls ⟨Eq.mp (congrArg (fun z => va_P D vwCl z H1) eq9) hP1, Eq.mp (congrArg (fun z => va_D A z) eq9) hD1, hS1, hc, hs⟩ hl
theorem gtN_Room_plans {cc : ByteArray} {nL : Nat} {own : String} {rm : Room} {κ : KX} (hκ : Cx cc nL own rm κ) {Φ : HQ} {pc : Nat} {lv : List (Nat × Value)} {st : List Value} {S : wPS} (hΦ : Hd κ Φ S) {a idx : Nat} {ref host : String} (hO : a ∈ sL S ∧ sK S a = 10) (hlink : (own, idx, ref, "plans", "Ljava/util/ArrayList;", host) ∈ nestF) (hsm : ref = "Plotroom" ∨ Cond.sameField ref "Plotroom" "plans" "Ljava/util/ArrayList;" ∈ GA) (hdg : decode cc pc = .ok (.getfield idx, 3)) (kk : Gj κ Φ (pc + 3) lv (va_rf (sR S 9 a) :: st)) : Gj κ Φ pc lv (.ref a :: st) := by
  obtain ⟨p, l, e, R, s, m, args, below, meth, c, Q, D, cO, e0, A, mc, ms⟩ := κ
  obtain ⟨hx, hb, hml, hown, hts, hK, hG, hR, hlk⟩ := hκ
  intro H locs cells slots ls hF hl
  obtain ⟨k0, hk0, hk1⟩ := wG_Room cO S hO
  exact va_getN (D := D) (ci := 11) (C := RX11) (T := TX11) (N := 14) hx hb hts inlX11 hown hK (hΦ H locs cells slots hF).1 k0 hk1 rfl 6 (by decide) (va_Nw.use rfl (hG.1 _ hlink)) (fun x9 h9 => hsm.elim (fun z => by rw [z]; exact h9) (fun z => u_same (hts _ z) x9 h9)) rfl hdg (kk H locs cells slots ls hF hl)
theorem gt_Room_tracks {cc : ByteArray} {nL : Nat} {own : String} {rm : Room} {κ : KX} (hκ : Cx cc nL own rm κ) {Φ : HQ} {pc : Nat} {lv : List (Nat × Value)} {st : List Value} {S : wPS} (hΦ : Hd κ Φ S) {a idx : Nat} {ref : String} (hO : a ∈ sL S ∧ sK S a = 10) (hlink : Cond.fieldLink own idx ref "tracks" "Ljava/util/ArrayList;" ∈ GA) (hsm : ref = "Plotroom" ∨ Cond.sameField ref "Plotroom" "tracks" "Ljava/util/ArrayList;" ∈ GA) (hdg : decode cc pc = .ok (.getfield idx, 3)) (kk : Gj κ Φ (pc + 3) lv (va_rf (sR S 10 a) :: st)) : Gj κ Φ pc lv (.ref a :: st) := by
  obtain ⟨p, l, e, R, s, m, args, below, meth, c, Q, D, cO, e0, A, mc, ms⟩ := κ
  obtain ⟨hx, hb, hml, hown, hts, hK, hG, hR, hlk⟩ := hκ
  intro H locs cells slots ls hF hl
  obtain ⟨k0, hk0, hk1⟩ := wG_Room cO S hO
  exact va_get (D := D) (ci := 11) (C := RX11) (T := TX11) (N := 14) hx hb hts inlX11 hown hK (hΦ H locs cells slots hF).1 k0 hk1 rfl 7 (by decide) (hts _ hlink) (fun x9 h9 => hsm.elim (fun z => by rw [z]; exact h9) (fun z => u_same (hts _ z) x9 h9)) rfl hdg (kk H locs cells slots ls hF hl)
theorem pt_Room_tracks {cc : ByteArray} {nL : Nat} {own : String} {rm : Room} {κ : KX} (hκ : Cx cc nL own rm κ) {pc : Nat} {lv : List (Nat × Value)} {st : List Value} {S : wPS} {k n : Nat} {a idx : Nat} {ref : String} {v : Option Nat} (hO : a ∈ sL S ∧ sK S a = 10) (hlink : Cond.fieldLink own idx ref "tracks" "Ljava/util/ArrayList;" ∈ GA) (hsm : ref = "Plotroom" ∨ Cond.sameField ref "Plotroom" "tracks" "Ljava/util/ArrayList;" ∈ GA)  (hin : Nm "<init>" κ) (hde : "Plotroom" = own) (hdg : decode cc pc = .ok (.putfield idx, 3)) (kk : Gj κ (PV κ (putR S 10 a v) k n) (pc + 3) lv st) : Gj κ (PV κ S k n) pc lv (va_rf v :: .ref a :: st) := by
  obtain ⟨p, l, e, R, s, m, args, below, meth, c, Q, D, cO, e0, A, mc, ms⟩ := κ
  obtain ⟨hx, hb, hml, hown, hts, hK, hG, hR, hlk⟩ := hκ
  intro H locs cells slots ls hF hl
  obtain ⟨hP, hD, hS, hc, hs⟩ := hF
  obtain ⟨k0, hk0, hk1⟩ := wG_Room cO S hO
  have eq9 := wU_Room_tracks cO S hD hO hk0 v
  refine va_putF (D := D) (ci := 11) (v := va_rf v) (ty := .object "java/util/ArrayList") (C := RX11) (T := TX11) (N := 14) hx hb hts inlX11 tyX11 tyX11_ok nmX11 hown hK hP hD hS k0 hk1 rfl 7 (by decide) (hts _ hlink) (fun x9 h9 => hsm.elim (fun z => by rw [z]; exact h9) (fun z => u_same (hts _ z) x9 h9)) rfl hin hde rfl (by cases v <;> rfl) (by cases v <;> rfl) (by decide) hdg (fun H1 locs1 hP1 hD1 hS1 => ?_)
  exact kk H1 locs1 cells slots ls ⟨Eq.mp (congrArg (fun z => va_P D vwCl z H1) eq9) hP1, Eq.mp (congrArg (fun z => va_D A z) eq9) hD1, hS1, hc, hs⟩ hl
theorem gtN_Room_tracks {cc : ByteArray} {nL : Nat} {own : String} {rm : Room} {κ : KX} (hκ : Cx cc nL own rm κ) {Φ : HQ} {pc : Nat} {lv : List (Nat × Value)} {st : List Value} {S : wPS} (hΦ : Hd κ Φ S) {a idx : Nat} {ref host : String} (hO : a ∈ sL S ∧ sK S a = 10) (hlink : (own, idx, ref, "tracks", "Ljava/util/ArrayList;", host) ∈ nestF) (hsm : ref = "Plotroom" ∨ Cond.sameField ref "Plotroom" "tracks" "Ljava/util/ArrayList;" ∈ GA) (hdg : decode cc pc = .ok (.getfield idx, 3)) (kk : Gj κ Φ (pc + 3) lv (va_rf (sR S 10 a) :: st)) : Gj κ Φ pc lv (.ref a :: st) := by
  obtain ⟨p, l, e, R, s, m, args, below, meth, c, Q, D, cO, e0, A, mc, ms⟩ := κ
  obtain ⟨hx, hb, hml, hown, hts, hK, hG, hR, hlk⟩ := hκ
  intro H locs cells slots ls hF hl
  obtain ⟨k0, hk0, hk1⟩ := wG_Room cO S hO
  exact va_getN (D := D) (ci := 11) (C := RX11) (T := TX11) (N := 14) hx hb hts inlX11 hown hK (hΦ H locs cells slots hF).1 k0 hk1 rfl 7 (by decide) (va_Nw.use rfl (hG.1 _ hlink)) (fun x9 h9 => hsm.elim (fun z => by rw [z]; exact h9) (fun z => u_same (hts _ z) x9 h9)) rfl hdg (kk H locs cells slots ls hF hl)
theorem gt_Room_plots {cc : ByteArray} {nL : Nat} {own : String} {rm : Room} {κ : KX} (hκ : Cx cc nL own rm κ) {Φ : HQ} {pc : Nat} {lv : List (Nat × Value)} {st : List Value} {S : wPS} (hΦ : Hd κ Φ S) {a idx : Nat} {ref : String} (hO : a ∈ sL S ∧ sK S a = 10) (hlink : Cond.fieldLink own idx ref "plots" "Ljava/util/ArrayList;" ∈ GA) (hsm : ref = "Plotroom" ∨ Cond.sameField ref "Plotroom" "plots" "Ljava/util/ArrayList;" ∈ GA) (hdg : decode cc pc = .ok (.getfield idx, 3)) (kk : Gj κ Φ (pc + 3) lv (va_rf (sR S 11 a) :: st)) : Gj κ Φ pc lv (.ref a :: st) := by
  obtain ⟨p, l, e, R, s, m, args, below, meth, c, Q, D, cO, e0, A, mc, ms⟩ := κ
  obtain ⟨hx, hb, hml, hown, hts, hK, hG, hR, hlk⟩ := hκ
  intro H locs cells slots ls hF hl
  obtain ⟨k0, hk0, hk1⟩ := wG_Room cO S hO
  exact va_get (D := D) (ci := 11) (C := RX11) (T := TX11) (N := 14) hx hb hts inlX11 hown hK (hΦ H locs cells slots hF).1 k0 hk1 rfl 8 (by decide) (hts _ hlink) (fun x9 h9 => hsm.elim (fun z => by rw [z]; exact h9) (fun z => u_same (hts _ z) x9 h9)) rfl hdg (kk H locs cells slots ls hF hl)
theorem pt_Room_plots {cc : ByteArray} {nL : Nat} {own : String} {rm : Room} {κ : KX} (hκ : Cx cc nL own rm κ) {pc : Nat} {lv : List (Nat × Value)} {st : List Value} {S : wPS} {k n : Nat} {a idx : Nat} {ref : String} {v : Option Nat} (hO : a ∈ sL S ∧ sK S a = 10) (hlink : Cond.fieldLink own idx ref "plots" "Ljava/util/ArrayList;" ∈ GA) (hsm : ref = "Plotroom" ∨ Cond.sameField ref "Plotroom" "plots" "Ljava/util/ArrayList;" ∈ GA)  (hin : Nm "<init>" κ) (hde : "Plotroom" = own) (hdg : decode cc pc = .ok (.putfield idx, 3)) (kk : Gj κ (PV κ (putR S 11 a v) k n) (pc + 3) lv st) : Gj κ (PV κ S k n) pc lv (va_rf v :: .ref a :: st) := by
  obtain ⟨p, l, e, R, s, m, args, below, meth, c, Q, D, cO, e0, A, mc, ms⟩ := κ
  obtain ⟨hx, hb, hml, hown, hts, hK, hG, hR, hlk⟩ := hκ
  intro H locs cells slots ls hF hl
  obtain ⟨hP, hD, hS, hc, hs⟩ := hF
  obtain ⟨k0, hk0, hk1⟩ := wG_Room cO S hO
  have eq9 := wU_Room_plots cO S hD hO hk0 v
  refine va_putF (D := D) (ci := 11) (v := va_rf v) (ty := .object "java/util/ArrayList") (C := RX11) (T := TX11) (N := 14) hx hb hts inlX11 tyX11 tyX11_ok nmX11 hown hK hP hD hS k0 hk1 rfl 8 (by decide) (hts _ hlink) (fun x9 h9 => hsm.elim (fun z => by rw [z]; exact h9) (fun z => u_same (hts _ z) x9 h9)) rfl hin hde rfl (by cases v <;> rfl) (by cases v <;> rfl) (by decide) hdg (fun H1 locs1 hP1 hD1 hS1 => ?_)
  exact kk H1 locs1 cells slots ls ⟨Eq.mp (congrArg (fun z => va_P D vwCl z H1) eq9) hP1, Eq.mp (congrArg (fun z => va_D A z) eq9) hD1, hS1, hc, hs⟩ hl
theorem gtN_Room_plots {cc : ByteArray} {nL : Nat} {own : String} {rm : Room} {κ : KX} (hκ : Cx cc nL own rm κ) {Φ : HQ} {pc : Nat} {lv : List (Nat × Value)} {st : List Value} {S : wPS} (hΦ : Hd κ Φ S) {a idx : Nat} {ref host : String} (hO : a ∈ sL S ∧ sK S a = 10) (hlink : (own, idx, ref, "plots", "Ljava/util/ArrayList;", host) ∈ nestF) (hsm : ref = "Plotroom" ∨ Cond.sameField ref "Plotroom" "plots" "Ljava/util/ArrayList;" ∈ GA) (hdg : decode cc pc = .ok (.getfield idx, 3)) (kk : Gj κ Φ (pc + 3) lv (va_rf (sR S 11 a) :: st)) : Gj κ Φ pc lv (.ref a :: st) := by
  obtain ⟨p, l, e, R, s, m, args, below, meth, c, Q, D, cO, e0, A, mc, ms⟩ := κ
  obtain ⟨hx, hb, hml, hown, hts, hK, hG, hR, hlk⟩ := hκ
  intro H locs cells slots ls hF hl
  obtain ⟨k0, hk0, hk1⟩ := wG_Room cO S hO
  exact va_getN (D := D) (ci := 11) (C := RX11) (T := TX11) (N := 14) hx hb hts inlX11 hown hK (hΦ H locs cells slots hF).1 k0 hk1 rfl 8 (by decide) (va_Nw.use rfl (hG.1 _ hlink)) (fun x9 h9 => hsm.elim (fun z => by rw [z]; exact h9) (fun z => u_same (hts _ z) x9 h9)) rfl hdg (kk H locs cells slots ls hF hl)
theorem gt_Room_plotsOnWay {cc : ByteArray} {nL : Nat} {own : String} {rm : Room} {κ : KX} (hκ : Cx cc nL own rm κ) {Φ : HQ} {pc : Nat} {lv : List (Nat × Value)} {st : List Value} {S : wPS} (hΦ : Hd κ Φ S) {a idx : Nat} {ref : String} (hO : a ∈ sL S ∧ sK S a = 10) (hlink : Cond.fieldLink own idx ref "plotsOnWay" "I" ∈ GA) (hsm : ref = "Plotroom" ∨ Cond.sameField ref "Plotroom" "plotsOnWay" "I" ∈ GA) (hdg : decode cc pc = .ok (.getfield idx, 3)) (kk : Gj κ Φ (pc + 3) lv (.int (sI S 63 a) :: st)) : Gj κ Φ pc lv (.ref a :: st) := by
  obtain ⟨p, l, e, R, s, m, args, below, meth, c, Q, D, cO, e0, A, mc, ms⟩ := κ
  obtain ⟨hx, hb, hml, hown, hts, hK, hG, hR, hlk⟩ := hκ
  intro H locs cells slots ls hF hl
  obtain ⟨k0, hk0, hk1⟩ := wG_Room cO S hO
  exact va_get (D := D) (ci := 11) (C := RX11) (T := TX11) (N := 14) hx hb hts inlX11 hown hK (hΦ H locs cells slots hF).1 k0 hk1 rfl 9 (by decide) (hts _ hlink) (fun x9 h9 => hsm.elim (fun z => by rw [z]; exact h9) (fun z => u_same (hts _ z) x9 h9)) rfl hdg (kk H locs cells slots ls hF hl)
theorem pt_Room_plotsOnWay {cc : ByteArray} {nL : Nat} {own : String} {rm : Room} {κ : KX} (hκ : Cx cc nL own rm κ) {pc : Nat} {lv : List (Nat × Value)} {st : List Value} {S : wPS} {k n : Nat} {a idx : Nat} {ref : String} {v : Int32} (hO : a ∈ sL S ∧ sK S a = 10) (hlink : Cond.fieldLink own idx ref "plotsOnWay" "I" ∈ GA) (hsm : ref = "Plotroom" ∨ Cond.sameField ref "Plotroom" "plotsOnWay" "I" ∈ GA)   (hdg : decode cc pc = .ok (.putfield idx, 3)) (kk : Gj κ (PV κ (putI S 63 a v) k n) (pc + 3) lv st) : Gj κ (PV κ S k n) pc lv (.int v :: .ref a :: st) := by
  obtain ⟨p, l, e, R, s, m, args, below, meth, c, Q, D, cO, e0, A, mc, ms⟩ := κ
  obtain ⟨hx, hb, hml, hown, hts, hK, hG, hR, hlk⟩ := hκ
  intro H locs cells slots ls hF hl
  obtain ⟨hP, hD, hS, hc, hs⟩ := hF
  obtain ⟨k0, hk0, hk1⟩ := wG_Room cO S hO
  have eq9 := wU_Room_plotsOnWay cO S hD hO hk0 v
  refine va_put (D := D) (ci := 11) (v := .int v) (ty := .int) (C := RX11) (T := TX11) (N := 14) hx hb hts inlX11 tyX11 tyX11_ok nmX11 hown hK hP hD hS k0 hk1 rfl 9 (by decide) (hts _ hlink) (fun x9 h9 => hsm.elim (fun z => by rw [z]; exact h9) (fun z => u_same (hts _ z) x9 h9)) rfl rfl rfl rfl (by decide) hdg (fun H1 locs1 hP1 hD1 hS1 => ?_)
  exact kk H1 locs1 cells slots ls ⟨Eq.mp (congrArg (fun z => va_P D vwCl z H1) eq9) hP1, Eq.mp (congrArg (fun z => va_D A z) eq9) hD1, hS1, hc, hs⟩ hl
theorem gtN_Room_plotsOnWay {cc : ByteArray} {nL : Nat} {own : String} {rm : Room} {κ : KX} (hκ : Cx cc nL own rm κ) {Φ : HQ} {pc : Nat} {lv : List (Nat × Value)} {st : List Value} {S : wPS} (hΦ : Hd κ Φ S) {a idx : Nat} {ref host : String} (hO : a ∈ sL S ∧ sK S a = 10) (hlink : (own, idx, ref, "plotsOnWay", "I", host) ∈ nestF) (hsm : ref = "Plotroom" ∨ Cond.sameField ref "Plotroom" "plotsOnWay" "I" ∈ GA) (hdg : decode cc pc = .ok (.getfield idx, 3)) (kk : Gj κ Φ (pc + 3) lv (.int (sI S 63 a) :: st)) : Gj κ Φ pc lv (.ref a :: st) := by
  obtain ⟨p, l, e, R, s, m, args, below, meth, c, Q, D, cO, e0, A, mc, ms⟩ := κ
  obtain ⟨hx, hb, hml, hown, hts, hK, hG, hR, hlk⟩ := hκ
  intro H locs cells slots ls hF hl
  obtain ⟨k0, hk0, hk1⟩ := wG_Room cO S hO
  exact va_getN (D := D) (ci := 11) (C := RX11) (T := TX11) (N := 14) hx hb hts inlX11 hown hK (hΦ H locs cells slots hF).1 k0 hk1 rfl 9 (by decide) (va_Nw.use rfl (hG.1 _ hlink)) (fun x9 h9 => hsm.elim (fun z => by rw [z]; exact h9) (fun z => u_same (hts _ z) x9 h9)) rfl hdg (kk H locs cells slots ls hF hl)
theorem ptN_Room_plotsOnWay {cc : ByteArray} {nL : Nat} {own : String} {rm : Room} {κ : KX} (hκ : Cx cc nL own rm κ) {pc : Nat} {lv : List (Nat × Value)} {st : List Value} {S : wPS} {k n : Nat} {a idx : Nat} {ref host : String} {v : Int32} (hO : a ∈ sL S ∧ sK S a = 10) (hlink : (own, idx, ref, "plotsOnWay", "I", host) ∈ nestF) (hsm : ref = "Plotroom" ∨ Cond.sameField ref "Plotroom" "plotsOnWay" "I" ∈ GA)   (hdg : decode cc pc = .ok (.putfield idx, 3)) (kk : Gj κ (PV κ (putI S 63 a v) k n) (pc + 3) lv st) : Gj κ (PV κ S k n) pc lv (.int v :: .ref a :: st) := by
  obtain ⟨p, l, e, R, s, m, args, below, meth, c, Q, D, cO, e0, A, mc, ms⟩ := κ
  obtain ⟨hx, hb, hml, hown, hts, hK, hG, hR, hlk⟩ := hκ
  intro H locs cells slots ls hF hl
  obtain ⟨hP, hD, hS, hc, hs⟩ := hF
  obtain ⟨k0, hk0, hk1⟩ := wG_Room cO S hO
  have eq9 := wU_Room_plotsOnWay cO S hD hO hk0 v
  refine va_putN (D := D) (ci := 11) (v := .int v) (ty := .int) (C := RX11) (T := TX11) (N := 14) hx hb hts inlX11 tyX11 tyX11_ok nmX11 hown hK hP hD hS k0 hk1 rfl 9 (by decide) (va_Nw.use rfl (hG.1 _ hlink)) (fun x9 h9 => hsm.elim (fun z => by rw [z]; exact h9) (fun z => u_same (hts _ z) x9 h9)) rfl rfl rfl rfl (by decide) hdg (fun H1 locs1 hP1 hD1 hS1 => ?_)
  exact kk H1 locs1 cells slots ls ⟨Eq.mp (congrArg (fun z => va_P D vwCl z H1) eq9) hP1, Eq.mp (congrArg (fun z => va_D A z) eq9) hD1, hS1, hc, hs⟩ hl
theorem gt_Room_lots {cc : ByteArray} {nL : Nat} {own : String} {rm : Room} {κ : KX} (hκ : Cx cc nL own rm κ) {Φ : HQ} {pc : Nat} {lv : List (Nat × Value)} {st : List Value} {S : wPS} (hΦ : Hd κ Φ S) {a idx : Nat} {ref : String} (hO : a ∈ sL S ∧ sK S a = 10) (hlink : Cond.fieldLink own idx ref "lots" "LPlotroom$Lots;" ∈ GA) (hsm : ref = "Plotroom" ∨ Cond.sameField ref "Plotroom" "lots" "LPlotroom$Lots;" ∈ GA) (hdg : decode cc pc = .ok (.getfield idx, 3)) (kk : Gj κ Φ (pc + 3) lv (va_rf (sR S 12 a) :: st)) : Gj κ Φ pc lv (.ref a :: st) := by
  obtain ⟨p, l, e, R, s, m, args, below, meth, c, Q, D, cO, e0, A, mc, ms⟩ := κ
  obtain ⟨hx, hb, hml, hown, hts, hK, hG, hR, hlk⟩ := hκ
  intro H locs cells slots ls hF hl
  obtain ⟨k0, hk0, hk1⟩ := wG_Room cO S hO
  exact va_get (D := D) (ci := 11) (C := RX11) (T := TX11) (N := 14) hx hb hts inlX11 hown hK (hΦ H locs cells slots hF).1 k0 hk1 rfl 10 (by decide) (hts _ hlink) (fun x9 h9 => hsm.elim (fun z => by rw [z]; exact h9) (fun z => u_same (hts _ z) x9 h9)) rfl hdg (kk H locs cells slots ls hF hl)
theorem pt_Room_lots {cc : ByteArray} {nL : Nat} {own : String} {rm : Room} {κ : KX} (hκ : Cx cc nL own rm κ) {pc : Nat} {lv : List (Nat × Value)} {st : List Value} {S : wPS} {k n : Nat} {a idx : Nat} {ref : String} {v : Option Nat} (hO : a ∈ sL S ∧ sK S a = 10) (hlink : Cond.fieldLink own idx ref "lots" "LPlotroom$Lots;" ∈ GA) (hsm : ref = "Plotroom" ∨ Cond.sameField ref "Plotroom" "lots" "LPlotroom$Lots;" ∈ GA)  (hin : Nm "<init>" κ) (hde : "Plotroom" = own) (hdg : decode cc pc = .ok (.putfield idx, 3)) (kk : Gj κ (PV κ (putR S 12 a v) k n) (pc + 3) lv st) : Gj κ (PV κ S k n) pc lv (va_rf v :: .ref a :: st) := by
  obtain ⟨p, l, e, R, s, m, args, below, meth, c, Q, D, cO, e0, A, mc, ms⟩ := κ
  obtain ⟨hx, hb, hml, hown, hts, hK, hG, hR, hlk⟩ := hκ
  intro H locs cells slots ls hF hl
  obtain ⟨hP, hD, hS, hc, hs⟩ := hF
  obtain ⟨k0, hk0, hk1⟩ := wG_Room cO S hO
  have eq9 := wU_Room_lots cO S hD hO hk0 v
  refine va_putF (D := D) (ci := 11) (v := va_rf v) (ty := .object "Plotroom$Lots") (C := RX11) (T := TX11) (N := 14) hx hb hts inlX11 tyX11 tyX11_ok nmX11 hown hK hP hD hS k0 hk1 rfl 10 (by decide) (hts _ hlink) (fun x9 h9 => hsm.elim (fun z => by rw [z]; exact h9) (fun z => u_same (hts _ z) x9 h9)) rfl hin hde rfl (by cases v <;> rfl) (by cases v <;> rfl) (by decide) hdg (fun H1 locs1 hP1 hD1 hS1 => ?_)
  exact kk H1 locs1 cells slots ls ⟨Eq.mp (congrArg (fun z => va_P D vwCl z H1) eq9) hP1, Eq.mp (congrArg (fun z => va_D A z) eq9) hD1, hS1, hc, hs⟩ hl
theorem gtN_Room_lots {cc : ByteArray} {nL : Nat} {own : String} {rm : Room} {κ : KX} (hκ : Cx cc nL own rm κ) {Φ : HQ} {pc : Nat} {lv : List (Nat × Value)} {st : List Value} {S : wPS} (hΦ : Hd κ Φ S) {a idx : Nat} {ref host : String} (hO : a ∈ sL S ∧ sK S a = 10) (hlink : (own, idx, ref, "lots", "LPlotroom$Lots;", host) ∈ nestF) (hsm : ref = "Plotroom" ∨ Cond.sameField ref "Plotroom" "lots" "LPlotroom$Lots;" ∈ GA) (hdg : decode cc pc = .ok (.getfield idx, 3)) (kk : Gj κ Φ (pc + 3) lv (va_rf (sR S 12 a) :: st)) : Gj κ Φ pc lv (.ref a :: st) := by
  obtain ⟨p, l, e, R, s, m, args, below, meth, c, Q, D, cO, e0, A, mc, ms⟩ := κ
  obtain ⟨hx, hb, hml, hown, hts, hK, hG, hR, hlk⟩ := hκ
  intro H locs cells slots ls hF hl
  obtain ⟨k0, hk0, hk1⟩ := wG_Room cO S hO
  exact va_getN (D := D) (ci := 11) (C := RX11) (T := TX11) (N := 14) hx hb hts inlX11 hown hK (hΦ H locs cells slots hF).1 k0 hk1 rfl 10 (by decide) (va_Nw.use rfl (hG.1 _ hlink)) (fun x9 h9 => hsm.elim (fun z => by rw [z]; exact h9) (fun z => u_same (hts _ z) x9 h9)) rfl hdg (kk H locs cells slots ls hF hl)
theorem gt_Room_tally {cc : ByteArray} {nL : Nat} {own : String} {rm : Room} {κ : KX} (hκ : Cx cc nL own rm κ) {Φ : HQ} {pc : Nat} {lv : List (Nat × Value)} {st : List Value} {S : wPS} (hΦ : Hd κ Φ S) {a idx : Nat} {ref : String} (hO : a ∈ sL S ∧ sK S a = 10) (hlink : Cond.fieldLink own idx ref "tally" "LPlotroom$Tally;" ∈ GA) (hsm : ref = "Plotroom" ∨ Cond.sameField ref "Plotroom" "tally" "LPlotroom$Tally;" ∈ GA) (hdg : decode cc pc = .ok (.getfield idx, 3)) (kk : Gj κ Φ (pc + 3) lv (va_rf (sR S 13 a) :: st)) : Gj κ Φ pc lv (.ref a :: st) := by
  obtain ⟨p, l, e, R, s, m, args, below, meth, c, Q, D, cO, e0, A, mc, ms⟩ := κ
  obtain ⟨hx, hb, hml, hown, hts, hK, hG, hR, hlk⟩ := hκ
  intro H locs cells slots ls hF hl
  obtain ⟨k0, hk0, hk1⟩ := wG_Room cO S hO
  exact va_get (D := D) (ci := 11) (C := RX11) (T := TX11) (N := 14) hx hb hts inlX11 hown hK (hΦ H locs cells slots hF).1 k0 hk1 rfl 11 (by decide) (hts _ hlink) (fun x9 h9 => hsm.elim (fun z => by rw [z]; exact h9) (fun z => u_same (hts _ z) x9 h9)) rfl hdg (kk H locs cells slots ls hF hl)
theorem pt_Room_tally {cc : ByteArray} {nL : Nat} {own : String} {rm : Room} {κ : KX} (hκ : Cx cc nL own rm κ) {pc : Nat} {lv : List (Nat × Value)} {st : List Value} {S : wPS} {k n : Nat} {a idx : Nat} {ref : String} {v : Option Nat} (hO : a ∈ sL S ∧ sK S a = 10) (hlink : Cond.fieldLink own idx ref "tally" "LPlotroom$Tally;" ∈ GA) (hsm : ref = "Plotroom" ∨ Cond.sameField ref "Plotroom" "tally" "LPlotroom$Tally;" ∈ GA)  (hin : Nm "<init>" κ) (hde : "Plotroom" = own) (hdg : decode cc pc = .ok (.putfield idx, 3)) (kk : Gj κ (PV κ (putR S 13 a v) k n) (pc + 3) lv st) : Gj κ (PV κ S k n) pc lv (va_rf v :: .ref a :: st) := by
  obtain ⟨p, l, e, R, s, m, args, below, meth, c, Q, D, cO, e0, A, mc, ms⟩ := κ
  obtain ⟨hx, hb, hml, hown, hts, hK, hG, hR, hlk⟩ := hκ
  intro H locs cells slots ls hF hl
  obtain ⟨hP, hD, hS, hc, hs⟩ := hF
  obtain ⟨k0, hk0, hk1⟩ := wG_Room cO S hO
  have eq9 := wU_Room_tally cO S hD hO hk0 v
  refine va_putF (D := D) (ci := 11) (v := va_rf v) (ty := .object "Plotroom$Tally") (C := RX11) (T := TX11) (N := 14) hx hb hts inlX11 tyX11 tyX11_ok nmX11 hown hK hP hD hS k0 hk1 rfl 11 (by decide) (hts _ hlink) (fun x9 h9 => hsm.elim (fun z => by rw [z]; exact h9) (fun z => u_same (hts _ z) x9 h9)) rfl hin hde rfl (by cases v <;> rfl) (by cases v <;> rfl) (by decide) hdg (fun H1 locs1 hP1 hD1 hS1 => ?_)
  exact kk H1 locs1 cells slots ls ⟨Eq.mp (congrArg (fun z => va_P D vwCl z H1) eq9) hP1, Eq.mp (congrArg (fun z => va_D A z) eq9) hD1, hS1, hc, hs⟩ hl
theorem gtN_Room_tally {cc : ByteArray} {nL : Nat} {own : String} {rm : Room} {κ : KX} (hκ : Cx cc nL own rm κ) {Φ : HQ} {pc : Nat} {lv : List (Nat × Value)} {st : List Value} {S : wPS} (hΦ : Hd κ Φ S) {a idx : Nat} {ref host : String} (hO : a ∈ sL S ∧ sK S a = 10) (hlink : (own, idx, ref, "tally", "LPlotroom$Tally;", host) ∈ nestF) (hsm : ref = "Plotroom" ∨ Cond.sameField ref "Plotroom" "tally" "LPlotroom$Tally;" ∈ GA) (hdg : decode cc pc = .ok (.getfield idx, 3)) (kk : Gj κ Φ (pc + 3) lv (va_rf (sR S 13 a) :: st)) : Gj κ Φ pc lv (.ref a :: st) := by
  obtain ⟨p, l, e, R, s, m, args, below, meth, c, Q, D, cO, e0, A, mc, ms⟩ := κ
  obtain ⟨hx, hb, hml, hown, hts, hK, hG, hR, hlk⟩ := hκ
  intro H locs cells slots ls hF hl
  obtain ⟨k0, hk0, hk1⟩ := wG_Room cO S hO
  exact va_getN (D := D) (ci := 11) (C := RX11) (T := TX11) (N := 14) hx hb hts inlX11 hown hK (hΦ H locs cells slots hF).1 k0 hk1 rfl 11 (by decide) (va_Nw.use rfl (hG.1 _ hlink)) (fun x9 h9 => hsm.elim (fun z => by rw [z]; exact h9) (fun z => u_same (hts _ z) x9 h9)) rfl hdg (kk H locs cells slots ls hF hl)
theorem gt_Room_minute {cc : ByteArray} {nL : Nat} {own : String} {rm : Room} {κ : KX} (hκ : Cx cc nL own rm κ) {Φ : HQ} {pc : Nat} {lv : List (Nat × Value)} {st : List Value} {S : wPS} (hΦ : Hd κ Φ S) {a idx : Nat} {ref : String} (hO : a ∈ sL S ∧ sK S a = 10) (hlink : Cond.fieldLink own idx ref "minute" "I" ∈ GA) (hsm : ref = "Plotroom" ∨ Cond.sameField ref "Plotroom" "minute" "I" ∈ GA) (hdg : decode cc pc = .ok (.getfield idx, 3)) (kk : Gj κ Φ (pc + 3) lv (.int (sI S 64 a) :: st)) : Gj κ Φ pc lv (.ref a :: st) := by
  obtain ⟨p, l, e, R, s, m, args, below, meth, c, Q, D, cO, e0, A, mc, ms⟩ := κ
  obtain ⟨hx, hb, hml, hown, hts, hK, hG, hR, hlk⟩ := hκ
  intro H locs cells slots ls hF hl
  obtain ⟨k0, hk0, hk1⟩ := wG_Room cO S hO
  exact va_get (D := D) (ci := 11) (C := RX11) (T := TX11) (N := 14) hx hb hts inlX11 hown hK (hΦ H locs cells slots hF).1 k0 hk1 rfl 12 (by decide) (hts _ hlink) (fun x9 h9 => hsm.elim (fun z => by rw [z]; exact h9) (fun z => u_same (hts _ z) x9 h9)) rfl hdg (kk H locs cells slots ls hF hl)
theorem pt_Room_minute {cc : ByteArray} {nL : Nat} {own : String} {rm : Room} {κ : KX} (hκ : Cx cc nL own rm κ) {pc : Nat} {lv : List (Nat × Value)} {st : List Value} {S : wPS} {k n : Nat} {a idx : Nat} {ref : String} {v : Int32} (hO : a ∈ sL S ∧ sK S a = 10) (hlink : Cond.fieldLink own idx ref "minute" "I" ∈ GA) (hsm : ref = "Plotroom" ∨ Cond.sameField ref "Plotroom" "minute" "I" ∈ GA)   (hdg : decode cc pc = .ok (.putfield idx, 3)) (kk : Gj κ (PV κ (putI S 64 a v) k n) (pc + 3) lv st) : Gj κ (PV κ S k n) pc lv (.int v :: .ref a :: st) := by
  obtain ⟨p, l, e, R, s, m, args, below, meth, c, Q, D, cO, e0, A, mc, ms⟩ := κ
  obtain ⟨hx, hb, hml, hown, hts, hK, hG, hR, hlk⟩ := hκ
  intro H locs cells slots ls hF hl
  obtain ⟨hP, hD, hS, hc, hs⟩ := hF
  obtain ⟨k0, hk0, hk1⟩ := wG_Room cO S hO
  have eq9 := wU_Room_minute cO S hD hO hk0 v
  refine va_put (D := D) (ci := 11) (v := .int v) (ty := .int) (C := RX11) (T := TX11) (N := 14) hx hb hts inlX11 tyX11 tyX11_ok nmX11 hown hK hP hD hS k0 hk1 rfl 12 (by decide) (hts _ hlink) (fun x9 h9 => hsm.elim (fun z => by rw [z]; exact h9) (fun z => u_same (hts _ z) x9 h9)) rfl rfl rfl rfl (by decide) hdg (fun H1 locs1 hP1 hD1 hS1 => ?_)
  exact kk H1 locs1 cells slots ls ⟨Eq.mp (congrArg (fun z => va_P D vwCl z H1) eq9) hP1, Eq.mp (congrArg (fun z => va_D A z) eq9) hD1, hS1, hc, hs⟩ hl
theorem gtN_Room_minute {cc : ByteArray} {nL : Nat} {own : String} {rm : Room} {κ : KX} (hκ : Cx cc nL own rm κ) {Φ : HQ} {pc : Nat} {lv : List (Nat × Value)} {st : List Value} {S : wPS} (hΦ : Hd κ Φ S) {a idx : Nat} {ref host : String} (hO : a ∈ sL S ∧ sK S a = 10) (hlink : (own, idx, ref, "minute", "I", host) ∈ nestF) (hsm : ref = "Plotroom" ∨ Cond.sameField ref "Plotroom" "minute" "I" ∈ GA) (hdg : decode cc pc = .ok (.getfield idx, 3)) (kk : Gj κ Φ (pc + 3) lv (.int (sI S 64 a) :: st)) : Gj κ Φ pc lv (.ref a :: st) := by
  obtain ⟨p, l, e, R, s, m, args, below, meth, c, Q, D, cO, e0, A, mc, ms⟩ := κ
  obtain ⟨hx, hb, hml, hown, hts, hK, hG, hR, hlk⟩ := hκ
  intro H locs cells slots ls hF hl
  obtain ⟨k0, hk0, hk1⟩ := wG_Room cO S hO
  exact va_getN (D := D) (ci := 11) (C := RX11) (T := TX11) (N := 14) hx hb hts inlX11 hown hK (hΦ H locs cells slots hF).1 k0 hk1 rfl 12 (by decide) (va_Nw.use rfl (hG.1 _ hlink)) (fun x9 h9 => hsm.elim (fun z => by rw [z]; exact h9) (fun z => u_same (hts _ z) x9 h9)) rfl hdg (kk H locs cells slots ls hF hl)
theorem ptN_Room_minute {cc : ByteArray} {nL : Nat} {own : String} {rm : Room} {κ : KX} (hκ : Cx cc nL own rm κ) {pc : Nat} {lv : List (Nat × Value)} {st : List Value} {S : wPS} {k n : Nat} {a idx : Nat} {ref host : String} {v : Int32} (hO : a ∈ sL S ∧ sK S a = 10) (hlink : (own, idx, ref, "minute", "I", host) ∈ nestF) (hsm : ref = "Plotroom" ∨ Cond.sameField ref "Plotroom" "minute" "I" ∈ GA)   (hdg : decode cc pc = .ok (.putfield idx, 3)) (kk : Gj κ (PV κ (putI S 64 a v) k n) (pc + 3) lv st) : Gj κ (PV κ S k n) pc lv (.int v :: .ref a :: st) := by
  obtain ⟨p, l, e, R, s, m, args, below, meth, c, Q, D, cO, e0, A, mc, ms⟩ := κ
  obtain ⟨hx, hb, hml, hown, hts, hK, hG, hR, hlk⟩ := hκ
  intro H locs cells slots ls hF hl
  obtain ⟨hP, hD, hS, hc, hs⟩ := hF
  obtain ⟨k0, hk0, hk1⟩ := wG_Room cO S hO
  have eq9 := wU_Room_minute cO S hD hO hk0 v
  refine va_putN (D := D) (ci := 11) (v := .int v) (ty := .int) (C := RX11) (T := TX11) (N := 14) hx hb hts inlX11 tyX11 tyX11_ok nmX11 hown hK hP hD hS k0 hk1 rfl 12 (by decide) (va_Nw.use rfl (hG.1 _ hlink)) (fun x9 h9 => hsm.elim (fun z => by rw [z]; exact h9) (fun z => u_same (hts _ z) x9 h9)) rfl rfl rfl rfl (by decide) hdg (fun H1 locs1 hP1 hD1 hS1 => ?_)
  exact kk H1 locs1 cells slots ls ⟨Eq.mp (congrArg (fun z => va_P D vwCl z H1) eq9) hP1, Eq.mp (congrArg (fun z => va_D A z) eq9) hD1, hS1, hc, hs⟩ hl
theorem gt_Room_gateRadius {cc : ByteArray} {nL : Nat} {own : String} {rm : Room} {κ : KX} (hκ : Cx cc nL own rm κ) {Φ : HQ} {pc : Nat} {lv : List (Nat × Value)} {st : List Value} {S : wPS} (hΦ : Hd κ Φ S) {a idx : Nat} {ref : String} (hO : a ∈ sL S ∧ sK S a = 10) (hlink : Cond.fieldLink own idx ref "gateRadius" "I" ∈ GA) (hsm : ref = "Plotroom" ∨ Cond.sameField ref "Plotroom" "gateRadius" "I" ∈ GA) (hdg : decode cc pc = .ok (.getfield idx, 3)) (kk : Gj κ Φ (pc + 3) lv (.int (sI S 65 a) :: st)) : Gj κ Φ pc lv (.ref a :: st) := by
  obtain ⟨p, l, e, R, s, m, args, below, meth, c, Q, D, cO, e0, A, mc, ms⟩ := κ
  obtain ⟨hx, hb, hml, hown, hts, hK, hG, hR, hlk⟩ := hκ
  intro H locs cells slots ls hF hl
  obtain ⟨k0, hk0, hk1⟩ := wG_Room cO S hO
  exact va_get (D := D) (ci := 11) (C := RX11) (T := TX11) (N := 14) hx hb hts inlX11 hown hK (hΦ H locs cells slots hF).1 k0 hk1 rfl 13 (by decide) (hts _ hlink) (fun x9 h9 => hsm.elim (fun z => by rw [z]; exact h9) (fun z => u_same (hts _ z) x9 h9)) rfl hdg (kk H locs cells slots ls hF hl)
theorem pt_Room_gateRadius {cc : ByteArray} {nL : Nat} {own : String} {rm : Room} {κ : KX} (hκ : Cx cc nL own rm κ) {pc : Nat} {lv : List (Nat × Value)} {st : List Value} {S : wPS} {k n : Nat} {a idx : Nat} {ref : String} {v : Int32} (hO : a ∈ sL S ∧ sK S a = 10) (hlink : Cond.fieldLink own idx ref "gateRadius" "I" ∈ GA) (hsm : ref = "Plotroom" ∨ Cond.sameField ref "Plotroom" "gateRadius" "I" ∈ GA)   (hdg : decode cc pc = .ok (.putfield idx, 3)) (kk : Gj κ (PV κ (putI S 65 a v) k n) (pc + 3) lv st) : Gj κ (PV κ S k n) pc lv (.int v :: .ref a :: st) := by
  obtain ⟨p, l, e, R, s, m, args, below, meth, c, Q, D, cO, e0, A, mc, ms⟩ := κ
  obtain ⟨hx, hb, hml, hown, hts, hK, hG, hR, hlk⟩ := hκ
  intro H locs cells slots ls hF hl
  obtain ⟨hP, hD, hS, hc, hs⟩ := hF
  obtain ⟨k0, hk0, hk1⟩ := wG_Room cO S hO
  have eq9 := wU_Room_gateRadius cO S hD hO hk0 v
  refine va_put (D := D) (ci := 11) (v := .int v) (ty := .int) (C := RX11) (T := TX11) (N := 14) hx hb hts inlX11 tyX11 tyX11_ok nmX11 hown hK hP hD hS k0 hk1 rfl 13 (by decide) (hts _ hlink) (fun x9 h9 => hsm.elim (fun z => by rw [z]; exact h9) (fun z => u_same (hts _ z) x9 h9)) rfl rfl rfl rfl (by decide) hdg (fun H1 locs1 hP1 hD1 hS1 => ?_)
  exact kk H1 locs1 cells slots ls ⟨Eq.mp (congrArg (fun z => va_P D vwCl z H1) eq9) hP1, Eq.mp (congrArg (fun z => va_D A z) eq9) hD1, hS1, hc, hs⟩ hl
theorem gtN_Room_gateRadius {cc : ByteArray} {nL : Nat} {own : String} {rm : Room} {κ : KX} (hκ : Cx cc nL own rm κ) {Φ : HQ} {pc : Nat} {lv : List (Nat × Value)} {st : List Value} {S : wPS} (hΦ : Hd κ Φ S) {a idx : Nat} {ref host : String} (hO : a ∈ sL S ∧ sK S a = 10) (hlink : (own, idx, ref, "gateRadius", "I", host) ∈ nestF) (hsm : ref = "Plotroom" ∨ Cond.sameField ref "Plotroom" "gateRadius" "I" ∈ GA) (hdg : decode cc pc = .ok (.getfield idx, 3)) (kk : Gj κ Φ (pc + 3) lv (.int (sI S 65 a) :: st)) : Gj κ Φ pc lv (.ref a :: st) := by
  obtain ⟨p, l, e, R, s, m, args, below, meth, c, Q, D, cO, e0, A, mc, ms⟩ := κ
  obtain ⟨hx, hb, hml, hown, hts, hK, hG, hR, hlk⟩ := hκ
  intro H locs cells slots ls hF hl
  obtain ⟨k0, hk0, hk1⟩ := wG_Room cO S hO
  exact va_getN (D := D) (ci := 11) (C := RX11) (T := TX11) (N := 14) hx hb hts inlX11 hown hK (hΦ H locs cells slots hF).1 k0 hk1 rfl 13 (by decide) (va_Nw.use rfl (hG.1 _ hlink)) (fun x9 h9 => hsm.elim (fun z => by rw [z]; exact h9) (fun z => u_same (hts _ z) x9 h9)) rfl hdg (kk H locs cells slots ls hF hl)
theorem ptN_Room_gateRadius {cc : ByteArray} {nL : Nat} {own : String} {rm : Room} {κ : KX} (hκ : Cx cc nL own rm κ) {pc : Nat} {lv : List (Nat × Value)} {st : List Value} {S : wPS} {k n : Nat} {a idx : Nat} {ref host : String} {v : Int32} (hO : a ∈ sL S ∧ sK S a = 10) (hlink : (own, idx, ref, "gateRadius", "I", host) ∈ nestF) (hsm : ref = "Plotroom" ∨ Cond.sameField ref "Plotroom" "gateRadius" "I" ∈ GA)   (hdg : decode cc pc = .ok (.putfield idx, 3)) (kk : Gj κ (PV κ (putI S 65 a v) k n) (pc + 3) lv st) : Gj κ (PV κ S k n) pc lv (.int v :: .ref a :: st) := by
  obtain ⟨p, l, e, R, s, m, args, below, meth, c, Q, D, cO, e0, A, mc, ms⟩ := κ
  obtain ⟨hx, hb, hml, hown, hts, hK, hG, hR, hlk⟩ := hκ
  intro H locs cells slots ls hF hl
  obtain ⟨hP, hD, hS, hc, hs⟩ := hF
  obtain ⟨k0, hk0, hk1⟩ := wG_Room cO S hO
  have eq9 := wU_Room_gateRadius cO S hD hO hk0 v
  refine va_putN (D := D) (ci := 11) (v := .int v) (ty := .int) (C := RX11) (T := TX11) (N := 14) hx hb hts inlX11 tyX11 tyX11_ok nmX11 hown hK hP hD hS k0 hk1 rfl 13 (by decide) (va_Nw.use rfl (hG.1 _ hlink)) (fun x9 h9 => hsm.elim (fun z => by rw [z]; exact h9) (fun z => u_same (hts _ z) x9 h9)) rfl rfl rfl rfl (by decide) hdg (fun H1 locs1 hP1 hD1 hS1 => ?_)
  exact kk H1 locs1 cells slots ls ⟨Eq.mp (congrArg (fun z => va_P D vwCl z H1) eq9) hP1, Eq.mp (congrArg (fun z => va_D A z) eq9) hD1, hS1, hc, hs⟩ hl
theorem gt_List_modCount {cc : ByteArray} {nL : Nat} {own : String} {rm : Room} {κ : KX} (hκ : Cx cc nL own rm κ) {Φ : HQ} {pc : Nat} {lv : List (Nat × Value)} {st : List Value} {S : wPS} (hΦ : Hd κ Φ S) {a idx : Nat} {ref : String} (hO : a ∈ sL S ∧ sK S a = 11) (hlink : Cond.fieldLink own idx ref "modCount" "I" ∈ GA) (hsm : ref = "java/util/AbstractList" ∨ Cond.sameField ref "java/util/AbstractList" "modCount" "I" ∈ GA) (hdg : decode cc pc = .ok (.getfield idx, 3)) (kk : Gj κ Φ (pc + 3) lv (.int (sI S 66 a) :: st)) : Gj κ Φ pc lv (.ref a :: st) := by
  obtain ⟨p, l, e, R, s, m, args, below, meth, c, Q, D, cO, e0, A, mc, ms⟩ := κ
  obtain ⟨hx, hb, hml, hown, hts, hK, hG, hR, hlk⟩ := hκ
  intro H locs cells slots ls hF hl
  obtain ⟨k0, hk0, hk1⟩ := wG_List cO S hO
  exact va_get (D := D) (ci := 0) (C := RJx4a65c) (T := TJx4a65c) (N := 3) hx hb hts inlJx4a65c hown hK (hΦ H locs cells slots hF).1 k0 hk1 rfl 0 (by decide) (hts _ hlink) (fun x9 h9 => hsm.elim (fun z => by rw [z]; exact h9) (fun z => u_same (hts _ z) x9 h9)) rfl hdg (kk H locs cells slots ls hF hl)
theorem pt_List_modCount {cc : ByteArray} {nL : Nat} {own : String} {rm : Room} {κ : KX} (hκ : Cx cc nL own rm κ) {pc : Nat} {lv : List (Nat × Value)} {st : List Value} {S : wPS} {k n : Nat} {a idx : Nat} {ref : String} {v : Int32} (hO : a ∈ sL S ∧ sK S a = 11) (hlink : Cond.fieldLink own idx ref "modCount" "I" ∈ GA) (hsm : ref = "java/util/AbstractList" ∨ Cond.sameField ref "java/util/AbstractList" "modCount" "I" ∈ GA)   (hdg : decode cc pc = .ok (.putfield idx, 3)) (kk : Gj κ (PV κ (putI S 66 a v) k n) (pc + 3) lv st) : Gj κ (PV κ S k n) pc lv (.int v :: .ref a :: st) := by
  obtain ⟨p, l, e, R, s, m, args, below, meth, c, Q, D, cO, e0, A, mc, ms⟩ := κ
  obtain ⟨hx, hb, hml, hown, hts, hK, hG, hR, hlk⟩ := hκ
  intro H locs cells slots ls hF hl
  obtain ⟨hP, hD, hS, hc, hs⟩ := hF
  obtain ⟨k0, hk0, hk1⟩ := wG_List cO S hO
  have eq9 := wU_List_modCount cO S hD hO hk0 v
  refine va_put (D := D) (ci := 0) (v := .int v) (ty := .int) (C := RJx4a65c) (T := TJx4a65c) (N := 3) hx hb hts inlJx4a65c tyJx4a65c tyJx4a65c_ok nmJx4a65c hown hK hP hD hS k0 hk1 rfl 0 (by decide) (hts _ hlink) (fun x9 h9 => hsm.elim (fun z => by rw [z]; exact h9) (fun z => u_same (hts _ z) x9 h9)) rfl rfl rfl rfl (by decide) hdg (fun H1 locs1 hP1 hD1 hS1 => ?_)
  exact kk H1 locs1 cells slots ls ⟨Eq.mp (congrArg (fun z => va_P D vwCl z H1) eq9) hP1, Eq.mp (congrArg (fun z => va_D A z) eq9) hD1, hS1, hc, hs⟩ hl
theorem gtN_List_modCount {cc : ByteArray} {nL : Nat} {own : String} {rm : Room} {κ : KX} (hκ : Cx cc nL own rm κ) {Φ : HQ} {pc : Nat} {lv : List (Nat × Value)} {st : List Value} {S : wPS} (hΦ : Hd κ Φ S) {a idx : Nat} {ref host : String} (hO : a ∈ sL S ∧ sK S a = 11) (hlink : (own, idx, ref, "modCount", "I", host) ∈ nestF) (hsm : ref = "java/util/AbstractList" ∨ Cond.sameField ref "java/util/AbstractList" "modCount" "I" ∈ GA) (hdg : decode cc pc = .ok (.getfield idx, 3)) (kk : Gj κ Φ (pc + 3) lv (.int (sI S 66 a) :: st)) : Gj κ Φ pc lv (.ref a :: st) := by
  obtain ⟨p, l, e, R, s, m, args, below, meth, c, Q, D, cO, e0, A, mc, ms⟩ := κ
  obtain ⟨hx, hb, hml, hown, hts, hK, hG, hR, hlk⟩ := hκ
  intro H locs cells slots ls hF hl
  obtain ⟨k0, hk0, hk1⟩ := wG_List cO S hO
  exact va_getN (D := D) (ci := 0) (C := RJx4a65c) (T := TJx4a65c) (N := 3) hx hb hts inlJx4a65c hown hK (hΦ H locs cells slots hF).1 k0 hk1 rfl 0 (by decide) (va_Nw.use rfl (hG.1 _ hlink)) (fun x9 h9 => hsm.elim (fun z => by rw [z]; exact h9) (fun z => u_same (hts _ z) x9 h9)) rfl hdg (kk H locs cells slots ls hF hl)
theorem ptN_List_modCount {cc : ByteArray} {nL : Nat} {own : String} {rm : Room} {κ : KX} (hκ : Cx cc nL own rm κ) {pc : Nat} {lv : List (Nat × Value)} {st : List Value} {S : wPS} {k n : Nat} {a idx : Nat} {ref host : String} {v : Int32} (hO : a ∈ sL S ∧ sK S a = 11) (hlink : (own, idx, ref, "modCount", "I", host) ∈ nestF) (hsm : ref = "java/util/AbstractList" ∨ Cond.sameField ref "java/util/AbstractList" "modCount" "I" ∈ GA)   (hdg : decode cc pc = .ok (.putfield idx, 3)) (kk : Gj κ (PV κ (putI S 66 a v) k n) (pc + 3) lv st) : Gj κ (PV κ S k n) pc lv (.int v :: .ref a :: st) := by
  obtain ⟨p, l, e, R, s, m, args, below, meth, c, Q, D, cO, e0, A, mc, ms⟩ := κ
  obtain ⟨hx, hb, hml, hown, hts, hK, hG, hR, hlk⟩ := hκ
  intro H locs cells slots ls hF hl
  obtain ⟨hP, hD, hS, hc, hs⟩ := hF
  obtain ⟨k0, hk0, hk1⟩ := wG_List cO S hO
  have eq9 := wU_List_modCount cO S hD hO hk0 v
  refine va_putN (D := D) (ci := 0) (v := .int v) (ty := .int) (C := RJx4a65c) (T := TJx4a65c) (N := 3) hx hb hts inlJx4a65c tyJx4a65c tyJx4a65c_ok nmJx4a65c hown hK hP hD hS k0 hk1 rfl 0 (by decide) (va_Nw.use rfl (hG.1 _ hlink)) (fun x9 h9 => hsm.elim (fun z => by rw [z]; exact h9) (fun z => u_same (hts _ z) x9 h9)) rfl rfl rfl rfl (by decide) hdg (fun H1 locs1 hP1 hD1 hS1 => ?_)
  exact kk H1 locs1 cells slots ls ⟨Eq.mp (congrArg (fun z => va_P D vwCl z H1) eq9) hP1, Eq.mp (congrArg (fun z => va_D A z) eq9) hD1, hS1, hc, hs⟩ hl
theorem gt_List_elementData {cc : ByteArray} {nL : Nat} {own : String} {rm : Room} {κ : KX} (hκ : Cx cc nL own rm κ) {Φ : HQ} {pc : Nat} {lv : List (Nat × Value)} {st : List Value} {S : wPS} (hΦ : Hd κ Φ S) {a idx : Nat} {ref : String} (hO : a ∈ sL S ∧ sK S a = 11) (hlink : Cond.fieldLink own idx ref "elementData" "[Ljava/lang/Object;" ∈ GA) (hsm : ref = "java/util/ArrayList" ∨ Cond.sameField ref "java/util/ArrayList" "elementData" "[Ljava/lang/Object;" ∈ GA) (hdg : decode cc pc = .ok (.getfield idx, 3)) (kk : Gj κ Φ (pc + 3) lv (va_rf (sR S 14 a) :: st)) : Gj κ Φ pc lv (.ref a :: st) := by
  obtain ⟨p, l, e, R, s, m, args, below, meth, c, Q, D, cO, e0, A, mc, ms⟩ := κ
  obtain ⟨hx, hb, hml, hown, hts, hK, hG, hR, hlk⟩ := hκ
  intro H locs cells slots ls hF hl
  obtain ⟨k0, hk0, hk1⟩ := wG_List cO S hO
  exact va_get (D := D) (ci := 0) (C := RJx4a65c) (T := TJx4a65c) (N := 3) hx hb hts inlJx4a65c hown hK (hΦ H locs cells slots hF).1 k0 hk1 rfl 1 (by decide) (hts _ hlink) (fun x9 h9 => hsm.elim (fun z => by rw [z]; exact h9) (fun z => u_same (hts _ z) x9 h9)) rfl hdg (kk H locs cells slots ls hF hl)
theorem pt_List_elementData {cc : ByteArray} {nL : Nat} {own : String} {rm : Room} {κ : KX} (hκ : Cx cc nL own rm κ) {pc : Nat} {lv : List (Nat × Value)} {st : List Value} {S : wPS} {k n : Nat} {a idx : Nat} {ref : String} {v : Option Nat} (hO : a ∈ sL S ∧ sK S a = 11) (hlink : Cond.fieldLink own idx ref "elementData" "[Ljava/lang/Object;" ∈ GA) (hsm : ref = "java/util/ArrayList" ∨ Cond.sameField ref "java/util/ArrayList" "elementData" "[Ljava/lang/Object;" ∈ GA)   (hdg : decode cc pc = .ok (.putfield idx, 3)) (kk : Gj κ (PV κ (putR S 14 a v) k n) (pc + 3) lv st) : Gj κ (PV κ S k n) pc lv (va_rf v :: .ref a :: st) := by
  obtain ⟨p, l, e, R, s, m, args, below, meth, c, Q, D, cO, e0, A, mc, ms⟩ := κ
  obtain ⟨hx, hb, hml, hown, hts, hK, hG, hR, hlk⟩ := hκ
  intro H locs cells slots ls hF hl
  obtain ⟨hP, hD, hS, hc, hs⟩ := hF
  obtain ⟨k0, hk0, hk1⟩ := wG_List cO S hO
  have eq9 := wU_List_elementData cO S hD hO hk0 v
  refine va_put (D := D) (ci := 0) (v := va_rf v) (ty := .array (.object "java/lang/Object")) (C := RJx4a65c) (T := TJx4a65c) (N := 3) hx hb hts inlJx4a65c tyJx4a65c tyJx4a65c_ok nmJx4a65c hown hK hP hD hS k0 hk1 rfl 1 (by decide) (hts _ hlink) (fun x9 h9 => hsm.elim (fun z => by rw [z]; exact h9) (fun z => u_same (hts _ z) x9 h9)) rfl rfl (by cases v <;> rfl) (by cases v <;> rfl) (by decide) hdg (fun H1 locs1 hP1 hD1 hS1 => ?_)
  exact kk H1 locs1 cells slots ls ⟨Eq.mp (congrArg (fun z => va_P D vwCl z H1) eq9) hP1, Eq.mp (congrArg (fun z => va_D A z) eq9) hD1, hS1, hc, hs⟩ hl
theorem gtN_List_elementData {cc : ByteArray} {nL : Nat} {own : String} {rm : Room} {κ : KX} (hκ : Cx cc nL own rm κ) {Φ : HQ} {pc : Nat} {lv : List (Nat × Value)} {st : List Value} {S : wPS} (hΦ : Hd κ Φ S) {a idx : Nat} {ref host : String} (hO : a ∈ sL S ∧ sK S a = 11) (hlink : (own, idx, ref, "elementData", "[Ljava/lang/Object;", host) ∈ nestF) (hsm : ref = "java/util/ArrayList" ∨ Cond.sameField ref "java/util/ArrayList" "elementData" "[Ljava/lang/Object;" ∈ GA) (hdg : decode cc pc = .ok (.getfield idx, 3)) (kk : Gj κ Φ (pc + 3) lv (va_rf (sR S 14 a) :: st)) : Gj κ Φ pc lv (.ref a :: st) := by
  obtain ⟨p, l, e, R, s, m, args, below, meth, c, Q, D, cO, e0, A, mc, ms⟩ := κ
  obtain ⟨hx, hb, hml, hown, hts, hK, hG, hR, hlk⟩ := hκ
  intro H locs cells slots ls hF hl
  obtain ⟨k0, hk0, hk1⟩ := wG_List cO S hO
  exact va_getN (D := D) (ci := 0) (C := RJx4a65c) (T := TJx4a65c) (N := 3) hx hb hts inlJx4a65c hown hK (hΦ H locs cells slots hF).1 k0 hk1 rfl 1 (by decide) (va_Nw.use rfl (hG.1 _ hlink)) (fun x9 h9 => hsm.elim (fun z => by rw [z]; exact h9) (fun z => u_same (hts _ z) x9 h9)) rfl hdg (kk H locs cells slots ls hF hl)
theorem ptN_List_elementData {cc : ByteArray} {nL : Nat} {own : String} {rm : Room} {κ : KX} (hκ : Cx cc nL own rm κ) {pc : Nat} {lv : List (Nat × Value)} {st : List Value} {S : wPS} {k n : Nat} {a idx : Nat} {ref host : String} {v : Option Nat} (hO : a ∈ sL S ∧ sK S a = 11) (hlink : (own, idx, ref, "elementData", "[Ljava/lang/Object;", host) ∈ nestF) (hsm : ref = "java/util/ArrayList" ∨ Cond.sameField ref "java/util/ArrayList" "elementData" "[Ljava/lang/Object;" ∈ GA)   (hdg : decode cc pc = .ok (.putfield idx, 3)) (kk : Gj κ (PV κ (putR S 14 a v) k n) (pc + 3) lv st) : Gj κ (PV κ S k n) pc lv (va_rf v :: .ref a :: st) := by
  obtain ⟨p, l, e, R, s, m, args, below, meth, c, Q, D, cO, e0, A, mc, ms⟩ := κ
  obtain ⟨hx, hb, hml, hown, hts, hK, hG, hR, hlk⟩ := hκ
  intro H locs cells slots ls hF hl
  obtain ⟨hP, hD, hS, hc, hs⟩ := hF
  obtain ⟨k0, hk0, hk1⟩ := wG_List cO S hO
  have eq9 := wU_List_elementData cO S hD hO hk0 v
  refine va_putN (D := D) (ci := 0) (v := va_rf v) (ty := .array (.object "java/lang/Object")) (C := RJx4a65c) (T := TJx4a65c) (N := 3) hx hb hts inlJx4a65c tyJx4a65c tyJx4a65c_ok nmJx4a65c hown hK hP hD hS k0 hk1 rfl 1 (by decide) (va_Nw.use rfl (hG.1 _ hlink)) (fun x9 h9 => hsm.elim (fun z => by rw [z]; exact h9) (fun z => u_same (hts _ z) x9 h9)) rfl rfl (by cases v <;> rfl) (by cases v <;> rfl) (by decide) hdg (fun H1 locs1 hP1 hD1 hS1 => ?_)
  exact kk H1 locs1 cells slots ls ⟨Eq.mp (congrArg (fun z => va_P D vwCl z H1) eq9) hP1, Eq.mp (congrArg (fun z => va_D A z) eq9) hD1, hS1, hc, hs⟩ hl
theorem gt_List_size {cc : ByteArray} {nL : Nat} {own : String} {rm : Room} {κ : KX} (hκ : Cx cc nL own rm κ) {Φ : HQ} {pc : Nat} {lv : List (Nat × Value)} {st : List Value} {S : wPS} (hΦ : Hd κ Φ S) {a idx : Nat} {ref : String} (hO : a ∈ sL S ∧ sK S a = 11) (hlink : Cond.fieldLink own idx ref "size" "I" ∈ GA) (hsm : ref = "java/util/ArrayList" ∨ Cond.sameField ref "java/util/ArrayList" "size" "I" ∈ GA) (hdg : decode cc pc = .ok (.getfield idx, 3)) (kk : Gj κ Φ (pc + 3) lv (.int (sI S 67 a) :: st)) : Gj κ Φ pc lv (.ref a :: st) := by
  obtain ⟨p, l, e, R, s, m, args, below, meth, c, Q, D, cO, e0, A, mc, ms⟩ := κ
  obtain ⟨hx, hb, hml, hown, hts, hK, hG, hR, hlk⟩ := hκ
  intro H locs cells slots ls hF hl
  obtain ⟨k0, hk0, hk1⟩ := wG_List cO S hO
  exact va_get (D := D) (ci := 0) (C := RJx4a65c) (T := TJx4a65c) (N := 3) hx hb hts inlJx4a65c hown hK (hΦ H locs cells slots hF).1 k0 hk1 rfl 2 (by decide) (hts _ hlink) (fun x9 h9 => hsm.elim (fun z => by rw [z]; exact h9) (fun z => u_same (hts _ z) x9 h9)) rfl hdg (kk H locs cells slots ls hF hl)
theorem pt_List_size {cc : ByteArray} {nL : Nat} {own : String} {rm : Room} {κ : KX} (hκ : Cx cc nL own rm κ) {pc : Nat} {lv : List (Nat × Value)} {st : List Value} {S : wPS} {k n : Nat} {a idx : Nat} {ref : String} {v : Int32} (hO : a ∈ sL S ∧ sK S a = 11) (hlink : Cond.fieldLink own idx ref "size" "I" ∈ GA) (hsm : ref = "java/util/ArrayList" ∨ Cond.sameField ref "java/util/ArrayList" "size" "I" ∈ GA)   (hdg : decode cc pc = .ok (.putfield idx, 3)) (kk : Gj κ (PV κ (putI S 67 a v) k n) (pc + 3) lv st) : Gj κ (PV κ S k n) pc lv (.int v :: .ref a :: st) := by
  obtain ⟨p, l, e, R, s, m, args, below, meth, c, Q, D, cO, e0, A, mc, ms⟩ := κ
  obtain ⟨hx, hb, hml, hown, hts, hK, hG, hR, hlk⟩ := hκ
  intro H locs cells slots ls hF hl
  obtain ⟨hP, hD, hS, hc, hs⟩ := hF
  obtain ⟨k0, hk0, hk1⟩ := wG_List cO S hO
  have eq9 := wU_List_size cO S hD hO hk0 v
  refine va_put (D := D) (ci := 0) (v := .int v) (ty := .int) (C := RJx4a65c) (T := TJx4a65c) (N := 3) hx hb hts inlJx4a65c tyJx4a65c tyJx4a65c_ok nmJx4a65c hown hK hP hD hS k0 hk1 rfl 2 (by decide) (hts _ hlink) (fun x9 h9 => hsm.elim (fun z => by rw [z]; exact h9) (fun z => u_same (hts _ z) x9 h9)) rfl rfl rfl rfl (by decide) hdg (fun H1 locs1 hP1 hD1 hS1 => ?_)
  exact kk H1 locs1 cells slots ls ⟨Eq.mp (congrArg (fun z => va_P D vwCl z H1) eq9) hP1, Eq.mp (congrArg (fun z => va_D A z) eq9) hD1, hS1, hc, hs⟩ hl
theorem gtN_List_size {cc : ByteArray} {nL : Nat} {own : String} {rm : Room} {κ : KX} (hκ : Cx cc nL own rm κ) {Φ : HQ} {pc : Nat} {lv : List (Nat × Value)} {st : List Value} {S : wPS} (hΦ : Hd κ Φ S) {a idx : Nat} {ref host : String} (hO : a ∈ sL S ∧ sK S a = 11) (hlink : (own, idx, ref, "size", "I", host) ∈ nestF) (hsm : ref = "java/util/ArrayList" ∨ Cond.sameField ref "java/util/ArrayList" "size" "I" ∈ GA) (hdg : decode cc pc = .ok (.getfield idx, 3)) (kk : Gj κ Φ (pc + 3) lv (.int (sI S 67 a) :: st)) : Gj κ Φ pc lv (.ref a :: st) := by
  obtain ⟨p, l, e, R, s, m, args, below, meth, c, Q, D, cO, e0, A, mc, ms⟩ := κ
  obtain ⟨hx, hb, hml, hown, hts, hK, hG, hR, hlk⟩ := hκ
  intro H locs cells slots ls hF hl
  obtain ⟨k0, hk0, hk1⟩ := wG_List cO S hO
  exact va_getN (D := D) (ci := 0) (C := RJx4a65c) (T := TJx4a65c) (N := 3) hx hb hts inlJx4a65c hown hK (hΦ H locs cells slots hF).1 k0 hk1 rfl 2 (by decide) (va_Nw.use rfl (hG.1 _ hlink)) (fun x9 h9 => hsm.elim (fun z => by rw [z]; exact h9) (fun z => u_same (hts _ z) x9 h9)) rfl hdg (kk H locs cells slots ls hF hl)
theorem ptN_List_size {cc : ByteArray} {nL : Nat} {own : String} {rm : Room} {κ : KX} (hκ : Cx cc nL own rm κ) {pc : Nat} {lv : List (Nat × Value)} {st : List Value} {S : wPS} {k n : Nat} {a idx : Nat} {ref host : String} {v : Int32} (hO : a ∈ sL S ∧ sK S a = 11) (hlink : (own, idx, ref, "size", "I", host) ∈ nestF) (hsm : ref = "java/util/ArrayList" ∨ Cond.sameField ref "java/util/ArrayList" "size" "I" ∈ GA)   (hdg : decode cc pc = .ok (.putfield idx, 3)) (kk : Gj κ (PV κ (putI S 67 a v) k n) (pc + 3) lv st) : Gj κ (PV κ S k n) pc lv (.int v :: .ref a :: st) := by
  obtain ⟨p, l, e, R, s, m, args, below, meth, c, Q, D, cO, e0, A, mc, ms⟩ := κ
  obtain ⟨hx, hb, hml, hown, hts, hK, hG, hR, hlk⟩ := hκ
  intro H locs cells slots ls hF hl
  obtain ⟨hP, hD, hS, hc, hs⟩ := hF
  obtain ⟨k0, hk0, hk1⟩ := wG_List cO S hO
  have eq9 := wU_List_size cO S hD hO hk0 v
  refine va_putN (D := D) (ci := 0) (v := .int v) (ty := .int) (C := RJx4a65c) (T := TJx4a65c) (N := 3) hx hb hts inlJx4a65c tyJx4a65c tyJx4a65c_ok nmJx4a65c hown hK hP hD hS k0 hk1 rfl 2 (by decide) (va_Nw.use rfl (hG.1 _ hlink)) (fun x9 h9 => hsm.elim (fun z => by rw [z]; exact h9) (fun z => u_same (hts _ z) x9 h9)) rfl rfl rfl rfl (by decide) hdg (fun H1 locs1 hP1 hD1 hS1 => ?_)
  exact kk H1 locs1 cells slots ls ⟨Eq.mp (congrArg (fun z => va_P D vwCl z H1) eq9) hP1, Eq.mp (congrArg (fun z => va_D A z) eq9) hD1, hS1, hc, hs⟩ hl
theorem rc_Flight {D : va_G} {cO : ClassId} {S : wPS} {H : Heap} {s : State} (hK : va_K D vwCl [(cO, .object "java/lang/Object")] s) (hP : va_P D vwCl (pool cO S) H) {a : Nat} (hO : a ∈ sL S ∧ sK S a = 0) : ∃ cell : Cell, H[a]? = some cell ∧ cell.vm.isStatics = false ∧ s.vm.findClass RX0 = some cell.cls := by
  obtain ⟨k0, hk0, hk1⟩ := wG_Flight cO S hO
  exact va_recv (ci := 1) (q := (RX0, TX0, 8)) hK hP rfl hk1
theorem gc_Flight {cc : ByteArray} {nL : Nat} {own : String} {rm : Room} {κ : KX} (hκ : Cx cc nL own rm κ) {Φ : HQ} {pc : Nat} {lv : List (Nat × Value)} {st : List Value} {S : wPS} (hΦ : Hd κ Φ S) {a idx : Nat} (hO : a ∈ sL S ∧ sK S a = 0) (hlink : Cond.classLink own idx RX0 ∈ GA) (hdg : decode cc pc = .ok (.checkcast idx, 3)) (kk : Gj κ Φ (pc + 3) lv (.ref a :: st)) : Gj κ Φ pc lv (.ref a :: st) := by
  obtain ⟨p, l, e, R, s, m, args, below, meth, c, Q, D, cO, e0, A, mc, ms⟩ := κ
  obtain ⟨hx, hb, hml, hown, hts, hK, hG, hR, hlk⟩ := hκ
  intro H locs cells slots ls hF hl
  exact va_castE hx hb hown (hts _ hlink) (rc_Flight hK (hΦ H locs cells slots hF).1 hO) hdg (kk H locs cells slots ls hF hl)
theorem gn_Flight {cc : ByteArray} {nL : Nat} {own : String} {rm : Room} {κ : KX} (hκ : Cx cc nL own rm κ) {pc : Nat} {lv : List (Nat × Value)} {st : List Value} (hz : Vz κ) {S : wPS} {k n : Nat} {idx : Nat} (hcl : Cond.classLink own idx RX0 ∈ GA) (hinst : Cond.instantiable RX0 8 ∈ GA) (hini : Cond.initialized RX0 ∈ GA) (hk : 1 ≤ k) (hn : 8 ≤ n) (hdg : decode cc pc = .ok (.new idx, 3)) (kk : ∀ a : Nat, a ∉ sL S → Gj κ (PV κ (newS S a 0 0) (k - 1) (n - 8)) (pc + 3) lv (.ref a :: st)) : Gj κ (PV κ S k n) pc lv st := by
  obtain ⟨p, l, e, R, s, m, args, below, meth, c, Q, D, cO, e0, A, mc, ms⟩ := κ
  obtain ⟨hx, hb, hml, hown, hts, hK, hG, hR, hlk⟩ := hκ
  obtain ⟨hA, hH, hmc, hms⟩ := hz
  intro H locs cells slots ls hF hl
  obtain ⟨hP, hD, hS, hc, hs⟩ := hF
  refine va_new (ci := 1) (fs := [.int 0, .int 0, .int 0, .int 0, .int 0, .int 0, .int 0, .int 0]) (C := RX0) (T := TX0) (N := 8) hx hb hts inlX0 tyX0 tyX0_ok hown (hts _ hcl) (hts _ hinst) (hts _ hini) hK hP hD hS hA rfl (fun j hj => by rcases (show j = 0 ∨ j = 1 ∨ j = 2 ∨ j = 3 ∨ j = 4 ∨ j = 5 ∨ j = 6 ∨ j = 7 by omega) with rfl | rfl | rfl | rfl | rfl | rfl | rfl | rfl <;> rfl) (by omega) (by omega) hdg (fun a H1 hP1 hD1 hS1 => ?_)
  obtain ⟨eq9, hf⟩ := w_new cO S 0 0 hD1 rfl
  exact kk a hf H1 locs (cells + 1) (slots + 8) ls ⟨Eq.mp (congrArg (fun z => va_P D vwCl z H1) eq9) hP1, Eq.mp (congrArg (fun z => va_D A z) eq9) hD1, hS1, by omega, by omega⟩ hl
theorem rc_Gun {D : va_G} {cO : ClassId} {S : wPS} {H : Heap} {s : State} (hK : va_K D vwCl [(cO, .object "java/lang/Object")] s) (hP : va_P D vwCl (pool cO S) H) {a : Nat} (hO : a ∈ sL S ∧ sK S a = 1) : ∃ cell : Cell, H[a]? = some cell ∧ cell.vm.isStatics = false ∧ s.vm.findClass RX1 = some cell.cls := by
  obtain ⟨k0, hk0, hk1⟩ := wG_Gun cO S hO
  exact va_recv (ci := 2) (q := (RX1, TX1, 4)) hK hP rfl hk1
theorem gc_Gun {cc : ByteArray} {nL : Nat} {own : String} {rm : Room} {κ : KX} (hκ : Cx cc nL own rm κ) {Φ : HQ} {pc : Nat} {lv : List (Nat × Value)} {st : List Value} {S : wPS} (hΦ : Hd κ Φ S) {a idx : Nat} (hO : a ∈ sL S ∧ sK S a = 1) (hlink : Cond.classLink own idx RX1 ∈ GA) (hdg : decode cc pc = .ok (.checkcast idx, 3)) (kk : Gj κ Φ (pc + 3) lv (.ref a :: st)) : Gj κ Φ pc lv (.ref a :: st) := by
  obtain ⟨p, l, e, R, s, m, args, below, meth, c, Q, D, cO, e0, A, mc, ms⟩ := κ
  obtain ⟨hx, hb, hml, hown, hts, hK, hG, hR, hlk⟩ := hκ
  intro H locs cells slots ls hF hl
  exact va_castE hx hb hown (hts _ hlink) (rc_Gun hK (hΦ H locs cells slots hF).1 hO) hdg (kk H locs cells slots ls hF hl)
theorem gn_Gun {cc : ByteArray} {nL : Nat} {own : String} {rm : Room} {κ : KX} (hκ : Cx cc nL own rm κ) {pc : Nat} {lv : List (Nat × Value)} {st : List Value} (hz : Vz κ) {S : wPS} {k n : Nat} {idx : Nat} (hcl : Cond.classLink own idx RX1 ∈ GA) (hinst : Cond.instantiable RX1 4 ∈ GA) (hini : Cond.initialized RX1 ∈ GA) (hk : 1 ≤ k) (hn : 4 ≤ n) (hdg : decode cc pc = .ok (.new idx, 3)) (kk : ∀ a : Nat, a ∉ sL S → Gj κ (PV κ (newS S a 1 0) (k - 1) (n - 4)) (pc + 3) lv (.ref a :: st)) : Gj κ (PV κ S k n) pc lv st := by
  obtain ⟨p, l, e, R, s, m, args, below, meth, c, Q, D, cO, e0, A, mc, ms⟩ := κ
  obtain ⟨hx, hb, hml, hown, hts, hK, hG, hR, hlk⟩ := hκ
  obtain ⟨hA, hH, hmc, hms⟩ := hz
  intro H locs cells slots ls hF hl
  obtain ⟨hP, hD, hS, hc, hs⟩ := hF
  refine va_new (ci := 2) (fs := [.int 0, .int 0, .int 0, .int 0]) (C := RX1) (T := TX1) (N := 4) hx hb hts inlX1 tyX1 tyX1_ok hown (hts _ hcl) (hts _ hinst) (hts _ hini) hK hP hD hS hA rfl (fun j hj => by rcases (show j = 0 ∨ j = 1 ∨ j = 2 ∨ j = 3 by omega) with rfl | rfl | rfl | rfl <;> rfl) (by omega) (by omega) hdg (fun a H1 hP1 hD1 hS1 => ?_)
  obtain ⟨eq9, hf⟩ := w_new cO S 1 0 hD1 rfl
  exact kk a hf H1 locs (cells + 1) (slots + 4) ls ⟨Eq.mp (congrArg (fun z => va_P D vwCl z H1) eq9) hP1, Eq.mp (congrArg (fun z => va_D A z) eq9) hD1, hS1, by omega, by omega⟩ hl
theorem rc_Lots {D : va_G} {cO : ClassId} {S : wPS} {H : Heap} {s : State} (hK : va_K D vwCl [(cO, .object "java/lang/Object")] s) (hP : va_P D vwCl (pool cO S) H) {a : Nat} (hO : a ∈ sL S ∧ sK S a = 2) : ∃ cell : Cell, H[a]? = some cell ∧ cell.vm.isStatics = false ∧ s.vm.findClass RX2 = some cell.cls := by
  obtain ⟨k0, hk0, hk1⟩ := wG_Lots cO S hO
  exact va_recv (ci := 3) (q := (RX2, TX2, 2)) hK hP rfl hk1
theorem gc_Lots {cc : ByteArray} {nL : Nat} {own : String} {rm : Room} {κ : KX} (hκ : Cx cc nL own rm κ) {Φ : HQ} {pc : Nat} {lv : List (Nat × Value)} {st : List Value} {S : wPS} (hΦ : Hd κ Φ S) {a idx : Nat} (hO : a ∈ sL S ∧ sK S a = 2) (hlink : Cond.classLink own idx RX2 ∈ GA) (hdg : decode cc pc = .ok (.checkcast idx, 3)) (kk : Gj κ Φ (pc + 3) lv (.ref a :: st)) : Gj κ Φ pc lv (.ref a :: st) := by
  obtain ⟨p, l, e, R, s, m, args, below, meth, c, Q, D, cO, e0, A, mc, ms⟩ := κ
  obtain ⟨hx, hb, hml, hown, hts, hK, hG, hR, hlk⟩ := hκ
  intro H locs cells slots ls hF hl
  exact va_castE hx hb hown (hts _ hlink) (rc_Lots hK (hΦ H locs cells slots hF).1 hO) hdg (kk H locs cells slots ls hF hl)
theorem gn_Lots {cc : ByteArray} {nL : Nat} {own : String} {rm : Room} {κ : KX} (hκ : Cx cc nL own rm κ) {pc : Nat} {lv : List (Nat × Value)} {st : List Value} (hz : Vz κ) {S : wPS} {k n : Nat} {idx : Nat} (hcl : Cond.classLink own idx RX2 ∈ GA) (hinst : Cond.instantiable RX2 2 ∈ GA) (hini : Cond.initialized RX2 ∈ GA) (hk : 1 ≤ k) (hn : 2 ≤ n) (hdg : decode cc pc = .ok (.new idx, 3)) (kk : ∀ a : Nat, a ∉ sL S → Gj κ (PV κ (newS S a 2 0) (k - 1) (n - 2)) (pc + 3) lv (.ref a :: st)) : Gj κ (PV κ S k n) pc lv st := by
  obtain ⟨p, l, e, R, s, m, args, below, meth, c, Q, D, cO, e0, A, mc, ms⟩ := κ
  obtain ⟨hx, hb, hml, hown, hts, hK, hG, hR, hlk⟩ := hκ
  obtain ⟨hA, hH, hmc, hms⟩ := hz
  intro H locs cells slots ls hF hl
  obtain ⟨hP, hD, hS, hc, hs⟩ := hF
  refine va_new (ci := 3) (fs := [.int 0, .int 0]) (C := RX2) (T := TX2) (N := 2) hx hb hts inlX2 tyX2 tyX2_ok hown (hts _ hcl) (hts _ hinst) (hts _ hini) hK hP hD hS hA rfl (fun j hj => by rcases (show j = 0 ∨ j = 1 by omega) with rfl | rfl <;> rfl) (by omega) (by omega) hdg (fun a H1 hP1 hD1 hS1 => ?_)
  obtain ⟨eq9, hf⟩ := w_new cO S 2 0 hD1 rfl
  exact kk a hf H1 locs (cells + 1) (slots + 2) ls ⟨Eq.mp (congrArg (fun z => va_P D vwCl z H1) eq9) hP1, Eq.mp (congrArg (fun z => va_D A z) eq9) hD1, hS1, by omega, by omega⟩ hl
theorem rc_Mast {D : va_G} {cO : ClassId} {S : wPS} {H : Heap} {s : State} (hK : va_K D vwCl [(cO, .object "java/lang/Object")] s) (hP : va_P D vwCl (pool cO S) H) {a : Nat} (hO : a ∈ sL S ∧ sK S a = 3) : ∃ cell : Cell, H[a]? = some cell ∧ cell.vm.isStatics = false ∧ s.vm.findClass RX3 = some cell.cls := by
  obtain ⟨k0, hk0, hk1⟩ := wG_Mast cO S hO
  exact va_recv (ci := 4) (q := (RX3, TX3, 10)) hK hP rfl hk1
theorem gc_Mast {cc : ByteArray} {nL : Nat} {own : String} {rm : Room} {κ : KX} (hκ : Cx cc nL own rm κ) {Φ : HQ} {pc : Nat} {lv : List (Nat × Value)} {st : List Value} {S : wPS} (hΦ : Hd κ Φ S) {a idx : Nat} (hO : a ∈ sL S ∧ sK S a = 3) (hlink : Cond.classLink own idx RX3 ∈ GA) (hdg : decode cc pc = .ok (.checkcast idx, 3)) (kk : Gj κ Φ (pc + 3) lv (.ref a :: st)) : Gj κ Φ pc lv (.ref a :: st) := by
  obtain ⟨p, l, e, R, s, m, args, below, meth, c, Q, D, cO, e0, A, mc, ms⟩ := κ
  obtain ⟨hx, hb, hml, hown, hts, hK, hG, hR, hlk⟩ := hκ
  intro H locs cells slots ls hF hl
  exact va_castE hx hb hown (hts _ hlink) (rc_Mast hK (hΦ H locs cells slots hF).1 hO) hdg (kk H locs cells slots ls hF hl)
theorem gn_Mast {cc : ByteArray} {nL : Nat} {own : String} {rm : Room} {κ : KX} (hκ : Cx cc nL own rm κ) {pc : Nat} {lv : List (Nat × Value)} {st : List Value} (hz : Vz κ) {S : wPS} {k n : Nat} {idx : Nat} (hcl : Cond.classLink own idx RX3 ∈ GA) (hinst : Cond.instantiable RX3 10 ∈ GA) (hini : Cond.initialized RX3 ∈ GA) (hk : 1 ≤ k) (hn : 10 ≤ n) (hdg : decode cc pc = .ok (.new idx, 3)) (kk : ∀ a : Nat, a ∉ sL S → Gj κ (PV κ (newS S a 3 0) (k - 1) (n - 10)) (pc + 3) lv (.ref a :: st)) : Gj κ (PV κ S k n) pc lv st := by
  obtain ⟨p, l, e, R, s, m, args, below, meth, c, Q, D, cO, e0, A, mc, ms⟩ := κ
  obtain ⟨hx, hb, hml, hown, hts, hK, hG, hR, hlk⟩ := hκ
  obtain ⟨hA, hH, hmc, hms⟩ := hz
  intro H locs cells slots ls hF hl
  obtain ⟨hP, hD, hS, hc, hs⟩ := hF
  refine va_new (ci := 4) (fs := [.int 0, .int 0, .int 0, .int 0, .int 0, .int 0, .int 0, .int 0, .int 0, .int 0]) (C := RX3) (T := TX3) (N := 10) hx hb hts inlX3 tyX3 tyX3_ok hown (hts _ hcl) (hts _ hinst) (hts _ hini) hK hP hD hS hA rfl (fun j hj => by rcases (show j = 0 ∨ j = 1 ∨ j = 2 ∨ j = 3 ∨ j = 4 ∨ j = 5 ∨ j = 6 ∨ j = 7 ∨ j = 8 ∨ j = 9 by omega) with rfl | rfl | rfl | rfl | rfl | rfl | rfl | rfl | rfl | rfl <;> rfl) (by omega) (by omega) hdg (fun a H1 hP1 hD1 hS1 => ?_)
  obtain ⟨eq9, hf⟩ := w_new cO S 3 0 hD1 rfl
  exact kk a hf H1 locs (cells + 1) (slots + 10) ls ⟨Eq.mp (congrArg (fun z => va_P D vwCl z H1) eq9) hP1, Eq.mp (congrArg (fun z => va_D A z) eq9) hD1, hS1, by omega, by omega⟩ hl
theorem rc_Place {D : va_G} {cO : ClassId} {S : wPS} {H : Heap} {s : State} (hK : va_K D vwCl [(cO, .object "java/lang/Object")] s) (hP : va_P D vwCl (pool cO S) H) {a : Nat} (hO : a ∈ sL S ∧ sK S a = 4) : ∃ cell : Cell, H[a]? = some cell ∧ cell.vm.isStatics = false ∧ s.vm.findClass RX4 = some cell.cls := by
  obtain ⟨k0, hk0, hk1⟩ := wG_Place cO S hO
  exact va_recv (ci := 5) (q := (RX4, TX4, 2)) hK hP rfl hk1
theorem gc_Place {cc : ByteArray} {nL : Nat} {own : String} {rm : Room} {κ : KX} (hκ : Cx cc nL own rm κ) {Φ : HQ} {pc : Nat} {lv : List (Nat × Value)} {st : List Value} {S : wPS} (hΦ : Hd κ Φ S) {a idx : Nat} (hO : a ∈ sL S ∧ sK S a = 4) (hlink : Cond.classLink own idx RX4 ∈ GA) (hdg : decode cc pc = .ok (.checkcast idx, 3)) (kk : Gj κ Φ (pc + 3) lv (.ref a :: st)) : Gj κ Φ pc lv (.ref a :: st) := by
  obtain ⟨p, l, e, R, s, m, args, below, meth, c, Q, D, cO, e0, A, mc, ms⟩ := κ
  obtain ⟨hx, hb, hml, hown, hts, hK, hG, hR, hlk⟩ := hκ
  intro H locs cells slots ls hF hl
  exact va_castE hx hb hown (hts _ hlink) (rc_Place hK (hΦ H locs cells slots hF).1 hO) hdg (kk H locs cells slots ls hF hl)
theorem gn_Place {cc : ByteArray} {nL : Nat} {own : String} {rm : Room} {κ : KX} (hκ : Cx cc nL own rm κ) {pc : Nat} {lv : List (Nat × Value)} {st : List Value} (hz : Vz κ) {S : wPS} {k n : Nat} {idx : Nat} (hcl : Cond.classLink own idx RX4 ∈ GA) (hinst : Cond.instantiable RX4 2 ∈ GA) (hini : Cond.initialized RX4 ∈ GA) (hk : 1 ≤ k) (hn : 2 ≤ n) (hdg : decode cc pc = .ok (.new idx, 3)) (kk : ∀ a : Nat, a ∉ sL S → Gj κ (PV κ (newS S a 4 0) (k - 1) (n - 2)) (pc + 3) lv (.ref a :: st)) : Gj κ (PV κ S k n) pc lv st := by
  obtain ⟨p, l, e, R, s, m, args, below, meth, c, Q, D, cO, e0, A, mc, ms⟩ := κ
  obtain ⟨hx, hb, hml, hown, hts, hK, hG, hR, hlk⟩ := hκ
  obtain ⟨hA, hH, hmc, hms⟩ := hz
  intro H locs cells slots ls hF hl
  obtain ⟨hP, hD, hS, hc, hs⟩ := hF
  refine va_new (ci := 5) (fs := [.int 0, .int 0]) (C := RX4) (T := TX4) (N := 2) hx hb hts inlX4 tyX4 tyX4_ok hown (hts _ hcl) (hts _ hinst) (hts _ hini) hK hP hD hS hA rfl (fun j hj => by rcases (show j = 0 ∨ j = 1 by omega) with rfl | rfl <;> rfl) (by omega) (by omega) hdg (fun a H1 hP1 hD1 hS1 => ?_)
  obtain ⟨eq9, hf⟩ := w_new cO S 4 0 hD1 rfl
  exact kk a hf H1 locs (cells + 1) (slots + 2) ls ⟨Eq.mp (congrArg (fun z => va_P D vwCl z H1) eq9) hP1, Eq.mp (congrArg (fun z => va_D A z) eq9) hD1, hS1, by omega, by omega⟩ hl
theorem rc_Plot {D : va_G} {cO : ClassId} {S : wPS} {H : Heap} {s : State} (hK : va_K D vwCl [(cO, .object "java/lang/Object")] s) (hP : va_P D vwCl (pool cO S) H) {a : Nat} (hO : a ∈ sL S ∧ sK S a = 5) : ∃ cell : Cell, H[a]? = some cell ∧ cell.vm.isStatics = false ∧ s.vm.findClass RX6 = some cell.cls := by
  obtain ⟨k0, hk0, hk1⟩ := wG_Plot cO S hO
  exact va_recv (ci := 6) (q := (RX6, TX6, 6)) hK hP rfl hk1
theorem gc_Plot {cc : ByteArray} {nL : Nat} {own : String} {rm : Room} {κ : KX} (hκ : Cx cc nL own rm κ) {Φ : HQ} {pc : Nat} {lv : List (Nat × Value)} {st : List Value} {S : wPS} (hΦ : Hd κ Φ S) {a idx : Nat} (hO : a ∈ sL S ∧ sK S a = 5) (hlink : Cond.classLink own idx RX6 ∈ GA) (hdg : decode cc pc = .ok (.checkcast idx, 3)) (kk : Gj κ Φ (pc + 3) lv (.ref a :: st)) : Gj κ Φ pc lv (.ref a :: st) := by
  obtain ⟨p, l, e, R, s, m, args, below, meth, c, Q, D, cO, e0, A, mc, ms⟩ := κ
  obtain ⟨hx, hb, hml, hown, hts, hK, hG, hR, hlk⟩ := hκ
  intro H locs cells slots ls hF hl
  exact va_castE hx hb hown (hts _ hlink) (rc_Plot hK (hΦ H locs cells slots hF).1 hO) hdg (kk H locs cells slots ls hF hl)
theorem gn_Plot {cc : ByteArray} {nL : Nat} {own : String} {rm : Room} {κ : KX} (hκ : Cx cc nL own rm κ) {pc : Nat} {lv : List (Nat × Value)} {st : List Value} (hz : Vz κ) {S : wPS} {k n : Nat} {idx : Nat} (hcl : Cond.classLink own idx RX6 ∈ GA) (hinst : Cond.instantiable RX6 6 ∈ GA) (hini : Cond.initialized RX6 ∈ GA) (hk : 1 ≤ k) (hn : 6 ≤ n) (hdg : decode cc pc = .ok (.new idx, 3)) (kk : ∀ a : Nat, a ∉ sL S → Gj κ (PV κ (newS S a 5 0) (k - 1) (n - 6)) (pc + 3) lv (.ref a :: st)) : Gj κ (PV κ S k n) pc lv st := by
  obtain ⟨p, l, e, R, s, m, args, below, meth, c, Q, D, cO, e0, A, mc, ms⟩ := κ
  obtain ⟨hx, hb, hml, hown, hts, hK, hG, hR, hlk⟩ := hκ
  obtain ⟨hA, hH, hmc, hms⟩ := hz
  intro H locs cells slots ls hF hl
  obtain ⟨hP, hD, hS, hc, hs⟩ := hF
  refine va_new (ci := 6) (fs := [.int 0, .int 0, .null, .int 0, .int 0, .int 0]) (C := RX6) (T := TX6) (N := 6) hx hb hts inlX6 tyX6 tyX6_ok hown (hts _ hcl) (hts _ hinst) (hts _ hini) hK hP hD hS hA rfl (fun j hj => by rcases (show j = 0 ∨ j = 1 ∨ j = 2 ∨ j = 3 ∨ j = 4 ∨ j = 5 by omega) with rfl | rfl | rfl | rfl | rfl | rfl <;> rfl) (by omega) (by omega) hdg (fun a H1 hP1 hD1 hS1 => ?_)
  obtain ⟨eq9, hf⟩ := w_new cO S 5 0 hD1 rfl
  exact kk a hf H1 locs (cells + 1) (slots + 6) ls ⟨Eq.mp (congrArg (fun z => va_P D vwCl z H1) eq9) hP1, Eq.mp (congrArg (fun z => va_D A z) eq9) hD1, hS1, by omega, by omega⟩ hl
theorem rc_Squadron {D : va_G} {cO : ClassId} {S : wPS} {H : Heap} {s : State} (hK : va_K D vwCl [(cO, .object "java/lang/Object")] s) (hP : va_P D vwCl (pool cO S) H) {a : Nat} (hO : a ∈ sL S ∧ sK S a = 6) : ∃ cell : Cell, H[a]? = some cell ∧ cell.vm.isStatics = false ∧ s.vm.findClass RX7 = some cell.cls := by
  obtain ⟨k0, hk0, hk1⟩ := wG_Squadron cO S hO
  exact va_recv (ci := 7) (q := (RX7, TX7, 13)) hK hP rfl hk1
theorem gc_Squadron {cc : ByteArray} {nL : Nat} {own : String} {rm : Room} {κ : KX} (hκ : Cx cc nL own rm κ) {Φ : HQ} {pc : Nat} {lv : List (Nat × Value)} {st : List Value} {S : wPS} (hΦ : Hd κ Φ S) {a idx : Nat} (hO : a ∈ sL S ∧ sK S a = 6) (hlink : Cond.classLink own idx RX7 ∈ GA) (hdg : decode cc pc = .ok (.checkcast idx, 3)) (kk : Gj κ Φ (pc + 3) lv (.ref a :: st)) : Gj κ Φ pc lv (.ref a :: st) := by
  obtain ⟨p, l, e, R, s, m, args, below, meth, c, Q, D, cO, e0, A, mc, ms⟩ := κ
  obtain ⟨hx, hb, hml, hown, hts, hK, hG, hR, hlk⟩ := hκ
  intro H locs cells slots ls hF hl
  exact va_castE hx hb hown (hts _ hlink) (rc_Squadron hK (hΦ H locs cells slots hF).1 hO) hdg (kk H locs cells slots ls hF hl)
theorem gn_Squadron {cc : ByteArray} {nL : Nat} {own : String} {rm : Room} {κ : KX} (hκ : Cx cc nL own rm κ) {pc : Nat} {lv : List (Nat × Value)} {st : List Value} (hz : Vz κ) {S : wPS} {k n : Nat} {idx : Nat} (hcl : Cond.classLink own idx RX7 ∈ GA) (hinst : Cond.instantiable RX7 13 ∈ GA) (hini : Cond.initialized RX7 ∈ GA) (hk : 1 ≤ k) (hn : 13 ≤ n) (hdg : decode cc pc = .ok (.new idx, 3)) (kk : ∀ a : Nat, a ∉ sL S → Gj κ (PV κ (newS S a 6 0) (k - 1) (n - 13)) (pc + 3) lv (.ref a :: st)) : Gj κ (PV κ S k n) pc lv st := by
  obtain ⟨p, l, e, R, s, m, args, below, meth, c, Q, D, cO, e0, A, mc, ms⟩ := κ
  obtain ⟨hx, hb, hml, hown, hts, hK, hG, hR, hlk⟩ := hκ
  obtain ⟨hA, hH, hmc, hms⟩ := hz
  intro H locs cells slots ls hF hl
  obtain ⟨hP, hD, hS, hc, hs⟩ := hF
  refine va_new (ci := 7) (fs := [.int 0, .int 0, .int 0, .null, .int 0, .int 0, .int 0, .int 0, .int 0, .int 0, .null, .int 0, .int 0]) (C := RX7) (T := TX7) (N := 13) hx hb hts inlX7 tyX7 tyX7_ok hown (hts _ hcl) (hts _ hinst) (hts _ hini) hK hP hD hS hA rfl (fun j hj => by rcases (show j = 0 ∨ j = 1 ∨ j = 2 ∨ j = 3 ∨ j = 4 ∨ j = 5 ∨ j = 6 ∨ j = 7 ∨ j = 8 ∨ j = 9 ∨ j = 10 ∨ j = 11 ∨ j = 12 by omega) with rfl | rfl | rfl | rfl | rfl | rfl | rfl | rfl | rfl | rfl | rfl | rfl | rfl <;> rfl) (by omega) (by omega) hdg (fun a H1 hP1 hD1 hS1 => ?_)
  obtain ⟨eq9, hf⟩ := w_new cO S 6 0 hD1 rfl
  exact kk a hf H1 locs (cells + 1) (slots + 13) ls ⟨Eq.mp (congrArg (fun z => va_P D vwCl z H1) eq9) hP1, Eq.mp (congrArg (fun z => va_D A z) eq9) hD1, hS1, by omega, by omega⟩ hl
theorem rc_Tally {D : va_G} {cO : ClassId} {S : wPS} {H : Heap} {s : State} (hK : va_K D vwCl [(cO, .object "java/lang/Object")] s) (hP : va_P D vwCl (pool cO S) H) {a : Nat} (hO : a ∈ sL S ∧ sK S a = 7) : ∃ cell : Cell, H[a]? = some cell ∧ cell.vm.isStatics = false ∧ s.vm.findClass RX8 = some cell.cls := by
  obtain ⟨k0, hk0, hk1⟩ := wG_Tally cO S hO
  exact va_recv (ci := 8) (q := (RX8, TX8, 8)) hK hP rfl hk1
theorem gc_Tally {cc : ByteArray} {nL : Nat} {own : String} {rm : Room} {κ : KX} (hκ : Cx cc nL own rm κ) {Φ : HQ} {pc : Nat} {lv : List (Nat × Value)} {st : List Value} {S : wPS} (hΦ : Hd κ Φ S) {a idx : Nat} (hO : a ∈ sL S ∧ sK S a = 7) (hlink : Cond.classLink own idx RX8 ∈ GA) (hdg : decode cc pc = .ok (.checkcast idx, 3)) (kk : Gj κ Φ (pc + 3) lv (.ref a :: st)) : Gj κ Φ pc lv (.ref a :: st) := by
  obtain ⟨p, l, e, R, s, m, args, below, meth, c, Q, D, cO, e0, A, mc, ms⟩ := κ
  obtain ⟨hx, hb, hml, hown, hts, hK, hG, hR, hlk⟩ := hκ
  intro H locs cells slots ls hF hl
  exact va_castE hx hb hown (hts _ hlink) (rc_Tally hK (hΦ H locs cells slots hF).1 hO) hdg (kk H locs cells slots ls hF hl)
theorem gn_Tally {cc : ByteArray} {nL : Nat} {own : String} {rm : Room} {κ : KX} (hκ : Cx cc nL own rm κ) {pc : Nat} {lv : List (Nat × Value)} {st : List Value} (hz : Vz κ) {S : wPS} {k n : Nat} {idx : Nat} (hcl : Cond.classLink own idx RX8 ∈ GA) (hinst : Cond.instantiable RX8 8 ∈ GA) (hini : Cond.initialized RX8 ∈ GA) (hk : 1 ≤ k) (hn : 8 ≤ n) (hdg : decode cc pc = .ok (.new idx, 3)) (kk : ∀ a : Nat, a ∉ sL S → Gj κ (PV κ (newS S a 7 0) (k - 1) (n - 8)) (pc + 3) lv (.ref a :: st)) : Gj κ (PV κ S k n) pc lv st := by
  obtain ⟨p, l, e, R, s, m, args, below, meth, c, Q, D, cO, e0, A, mc, ms⟩ := κ
  obtain ⟨hx, hb, hml, hown, hts, hK, hG, hR, hlk⟩ := hκ
  obtain ⟨hA, hH, hmc, hms⟩ := hz
  intro H locs cells slots ls hF hl
  obtain ⟨hP, hD, hS, hc, hs⟩ := hF
  refine va_new (ci := 8) (fs := [.int 0, .int 0, .int 0, .int 0, .int 0, .int 0, .int 0, .int 0]) (C := RX8) (T := TX8) (N := 8) hx hb hts inlX8 tyX8 tyX8_ok hown (hts _ hcl) (hts _ hinst) (hts _ hini) hK hP hD hS hA rfl (fun j hj => by rcases (show j = 0 ∨ j = 1 ∨ j = 2 ∨ j = 3 ∨ j = 4 ∨ j = 5 ∨ j = 6 ∨ j = 7 by omega) with rfl | rfl | rfl | rfl | rfl | rfl | rfl | rfl <;> rfl) (by omega) (by omega) hdg (fun a H1 hP1 hD1 hS1 => ?_)
  obtain ⟨eq9, hf⟩ := w_new cO S 7 0 hD1 rfl
  exact kk a hf H1 locs (cells + 1) (slots + 8) ls ⟨Eq.mp (congrArg (fun z => va_P D vwCl z H1) eq9) hP1, Eq.mp (congrArg (fun z => va_D A z) eq9) hD1, hS1, by omega, by omega⟩ hl
theorem rc_Town {D : va_G} {cO : ClassId} {S : wPS} {H : Heap} {s : State} (hK : va_K D vwCl [(cO, .object "java/lang/Object")] s) (hP : va_P D vwCl (pool cO S) H) {a : Nat} (hO : a ∈ sL S ∧ sK S a = 8) : ∃ cell : Cell, H[a]? = some cell ∧ cell.vm.isStatics = false ∧ s.vm.findClass RX9 = some cell.cls := by
  obtain ⟨k0, hk0, hk1⟩ := wG_Town cO S hO
  exact va_recv (ci := 9) (q := (RX9, TX9, 3)) hK hP rfl hk1
theorem gc_Town {cc : ByteArray} {nL : Nat} {own : String} {rm : Room} {κ : KX} (hκ : Cx cc nL own rm κ) {Φ : HQ} {pc : Nat} {lv : List (Nat × Value)} {st : List Value} {S : wPS} (hΦ : Hd κ Φ S) {a idx : Nat} (hO : a ∈ sL S ∧ sK S a = 8) (hlink : Cond.classLink own idx RX9 ∈ GA) (hdg : decode cc pc = .ok (.checkcast idx, 3)) (kk : Gj κ Φ (pc + 3) lv (.ref a :: st)) : Gj κ Φ pc lv (.ref a :: st) := by
  obtain ⟨p, l, e, R, s, m, args, below, meth, c, Q, D, cO, e0, A, mc, ms⟩ := κ
  obtain ⟨hx, hb, hml, hown, hts, hK, hG, hR, hlk⟩ := hκ
  intro H locs cells slots ls hF hl
  exact va_castE hx hb hown (hts _ hlink) (rc_Town hK (hΦ H locs cells slots hF).1 hO) hdg (kk H locs cells slots ls hF hl)
theorem gn_Town {cc : ByteArray} {nL : Nat} {own : String} {rm : Room} {κ : KX} (hκ : Cx cc nL own rm κ) {pc : Nat} {lv : List (Nat × Value)} {st : List Value} (hz : Vz κ) {S : wPS} {k n : Nat} {idx : Nat} (hcl : Cond.classLink own idx RX9 ∈ GA) (hinst : Cond.instantiable RX9 3 ∈ GA) (hini : Cond.initialized RX9 ∈ GA) (hk : 1 ≤ k) (hn : 3 ≤ n) (hdg : decode cc pc = .ok (.new idx, 3)) (kk : ∀ a : Nat, a ∉ sL S → Gj κ (PV κ (newS S a 8 0) (k - 1) (n - 3)) (pc + 3) lv (.ref a :: st)) : Gj κ (PV κ S k n) pc lv st := by
  obtain ⟨p, l, e, R, s, m, args, below, meth, c, Q, D, cO, e0, A, mc, ms⟩ := κ
  obtain ⟨hx, hb, hml, hown, hts, hK, hG, hR, hlk⟩ := hκ
  obtain ⟨hA, hH, hmc, hms⟩ := hz
  intro H locs cells slots ls hF hl
  obtain ⟨hP, hD, hS, hc, hs⟩ := hF
  refine va_new (ci := 9) (fs := [.int 0, .int 0, .int 0]) (C := RX9) (T := TX9) (N := 3) hx hb hts inlX9 tyX9 tyX9_ok hown (hts _ hcl) (hts _ hinst) (hts _ hini) hK hP hD hS hA rfl (fun j hj => by rcases (show j = 0 ∨ j = 1 ∨ j = 2 by omega) with rfl | rfl | rfl <;> rfl) (by omega) (by omega) hdg (fun a H1 hP1 hD1 hS1 => ?_)
  obtain ⟨eq9, hf⟩ := w_new cO S 8 0 hD1 rfl
  exact kk a hf H1 locs (cells + 1) (slots + 3) ls ⟨Eq.mp (congrArg (fun z => va_P D vwCl z H1) eq9) hP1, Eq.mp (congrArg (fun z => va_D A z) eq9) hD1, hS1, by omega, by omega⟩ hl
theorem rc_Track {D : va_G} {cO : ClassId} {S : wPS} {H : Heap} {s : State} (hK : va_K D vwCl [(cO, .object "java/lang/Object")] s) (hP : va_P D vwCl (pool cO S) H) {a : Nat} (hO : a ∈ sL S ∧ sK S a = 9) : ∃ cell : Cell, H[a]? = some cell ∧ cell.vm.isStatics = false ∧ s.vm.findClass RX10 = some cell.cls := by
  obtain ⟨k0, hk0, hk1⟩ := wG_Track cO S hO
  exact va_recv (ci := 10) (q := (RX10, TX10, 10)) hK hP rfl hk1
theorem gc_Track {cc : ByteArray} {nL : Nat} {own : String} {rm : Room} {κ : KX} (hκ : Cx cc nL own rm κ) {Φ : HQ} {pc : Nat} {lv : List (Nat × Value)} {st : List Value} {S : wPS} (hΦ : Hd κ Φ S) {a idx : Nat} (hO : a ∈ sL S ∧ sK S a = 9) (hlink : Cond.classLink own idx RX10 ∈ GA) (hdg : decode cc pc = .ok (.checkcast idx, 3)) (kk : Gj κ Φ (pc + 3) lv (.ref a :: st)) : Gj κ Φ pc lv (.ref a :: st) := by
  obtain ⟨p, l, e, R, s, m, args, below, meth, c, Q, D, cO, e0, A, mc, ms⟩ := κ
  obtain ⟨hx, hb, hml, hown, hts, hK, hG, hR, hlk⟩ := hκ
  intro H locs cells slots ls hF hl
  exact va_castE hx hb hown (hts _ hlink) (rc_Track hK (hΦ H locs cells slots hF).1 hO) hdg (kk H locs cells slots ls hF hl)
theorem gn_Track {cc : ByteArray} {nL : Nat} {own : String} {rm : Room} {κ : KX} (hκ : Cx cc nL own rm κ) {pc : Nat} {lv : List (Nat × Value)} {st : List Value} (hz : Vz κ) {S : wPS} {k n : Nat} {idx : Nat} (hcl : Cond.classLink own idx RX10 ∈ GA) (hinst : Cond.instantiable RX10 10 ∈ GA) (hini : Cond.initialized RX10 ∈ GA) (hk : 1 ≤ k) (hn : 10 ≤ n) (hdg : decode cc pc = .ok (.new idx, 3)) (kk : ∀ a : Nat, a ∉ sL S → Gj κ (PV κ (newS S a 9 0) (k - 1) (n - 10)) (pc + 3) lv (.ref a :: st)) : Gj κ (PV κ S k n) pc lv st := by
  obtain ⟨p, l, e, R, s, m, args, below, meth, c, Q, D, cO, e0, A, mc, ms⟩ := κ
  obtain ⟨hx, hb, hml, hown, hts, hK, hG, hR, hlk⟩ := hκ
  obtain ⟨hA, hH, hmc, hms⟩ := hz
  intro H locs cells slots ls hF hl
  obtain ⟨hP, hD, hS, hc, hs⟩ := hF
  refine va_new (ci := 10) (fs := [.int 0, .int 0, .int 0, .int 0, .int 0, .int 0, .int 0, .int 0, .int 0, .int 0]) (C := RX10) (T := TX10) (N := 10) hx hb hts inlX10 tyX10 tyX10_ok hown (hts _ hcl) (hts _ hinst) (hts _ hini) hK hP hD hS hA rfl (fun j hj => by rcases (show j = 0 ∨ j = 1 ∨ j = 2 ∨ j = 3 ∨ j = 4 ∨ j = 5 ∨ j = 6 ∨ j = 7 ∨ j = 8 ∨ j = 9 by omega) with rfl | rfl | rfl | rfl | rfl | rfl | rfl | rfl | rfl | rfl <;> rfl) (by omega) (by omega) hdg (fun a H1 hP1 hD1 hS1 => ?_)
  obtain ⟨eq9, hf⟩ := w_new cO S 9 0 hD1 rfl
  exact kk a hf H1 locs (cells + 1) (slots + 10) ls ⟨Eq.mp (congrArg (fun z => va_P D vwCl z H1) eq9) hP1, Eq.mp (congrArg (fun z => va_D A z) eq9) hD1, hS1, by omega, by omega⟩ hl
theorem rc_Room {D : va_G} {cO : ClassId} {S : wPS} {H : Heap} {s : State} (hK : va_K D vwCl [(cO, .object "java/lang/Object")] s) (hP : va_P D vwCl (pool cO S) H) {a : Nat} (hO : a ∈ sL S ∧ sK S a = 10) : ∃ cell : Cell, H[a]? = some cell ∧ cell.vm.isStatics = false ∧ s.vm.findClass RX11 = some cell.cls := by
  obtain ⟨k0, hk0, hk1⟩ := wG_Room cO S hO
  exact va_recv (ci := 11) (q := (RX11, TX11, 14)) hK hP rfl hk1
theorem gc_Room {cc : ByteArray} {nL : Nat} {own : String} {rm : Room} {κ : KX} (hκ : Cx cc nL own rm κ) {Φ : HQ} {pc : Nat} {lv : List (Nat × Value)} {st : List Value} {S : wPS} (hΦ : Hd κ Φ S) {a idx : Nat} (hO : a ∈ sL S ∧ sK S a = 10) (hlink : Cond.classLink own idx RX11 ∈ GA) (hdg : decode cc pc = .ok (.checkcast idx, 3)) (kk : Gj κ Φ (pc + 3) lv (.ref a :: st)) : Gj κ Φ pc lv (.ref a :: st) := by
  obtain ⟨p, l, e, R, s, m, args, below, meth, c, Q, D, cO, e0, A, mc, ms⟩ := κ
  obtain ⟨hx, hb, hml, hown, hts, hK, hG, hR, hlk⟩ := hκ
  intro H locs cells slots ls hF hl
  exact va_castE hx hb hown (hts _ hlink) (rc_Room hK (hΦ H locs cells slots hF).1 hO) hdg (kk H locs cells slots ls hF hl)
theorem gn_Room {cc : ByteArray} {nL : Nat} {own : String} {rm : Room} {κ : KX} (hκ : Cx cc nL own rm κ) {pc : Nat} {lv : List (Nat × Value)} {st : List Value} (hz : Vz κ) {S : wPS} {k n : Nat} {idx : Nat} (hcl : Cond.classLink own idx RX11 ∈ GA) (hinst : Cond.instantiable RX11 14 ∈ GA) (hini : Cond.initialized RX11 ∈ GA) (hk : 1 ≤ k) (hn : 14 ≤ n) (hdg : decode cc pc = .ok (.new idx, 3)) (kk : ∀ a : Nat, a ∉ sL S → Gj κ (PV κ (newS S a 10 0) (k - 1) (n - 14)) (pc + 3) lv (.ref a :: st)) : Gj κ (PV κ S k n) pc lv st := by
  obtain ⟨p, l, e, R, s, m, args, below, meth, c, Q, D, cO, e0, A, mc, ms⟩ := κ
  obtain ⟨hx, hb, hml, hown, hts, hK, hG, hR, hlk⟩ := hκ
  obtain ⟨hA, hH, hmc, hms⟩ := hz
  intro H locs cells slots ls hF hl
  obtain ⟨hP, hD, hS, hc, hs⟩ := hF
  refine va_new (ci := 11) (fs := [.null, .null, .null, .null, .null, .null, .null, .null, .null, .int 0, .null, .null, .int 0, .int 0]) (C := RX11) (T := TX11) (N := 14) hx hb hts inlX11 tyX11 tyX11_ok hown (hts _ hcl) (hts _ hinst) (hts _ hini) hK hP hD hS hA rfl (fun j hj => by rcases (show j = 0 ∨ j = 1 ∨ j = 2 ∨ j = 3 ∨ j = 4 ∨ j = 5 ∨ j = 6 ∨ j = 7 ∨ j = 8 ∨ j = 9 ∨ j = 10 ∨ j = 11 ∨ j = 12 ∨ j = 13 by omega) with rfl | rfl | rfl | rfl | rfl | rfl | rfl | rfl | rfl | rfl | rfl | rfl | rfl | rfl <;> rfl) (by omega) (by omega) hdg (fun a H1 hP1 hD1 hS1 => ?_)
  obtain ⟨eq9, hf⟩ := w_new cO S 10 0 hD1 rfl
  exact kk a hf H1 locs (cells + 1) (slots + 14) ls ⟨Eq.mp (congrArg (fun z => va_P D vwCl z H1) eq9) hP1, Eq.mp (congrArg (fun z => va_D A z) eq9) hD1, hS1, by omega, by omega⟩ hl
theorem rc_List {D : va_G} {cO : ClassId} {S : wPS} {H : Heap} {s : State} (hK : va_K D vwCl [(cO, .object "java/lang/Object")] s) (hP : va_P D vwCl (pool cO S) H) {a : Nat} (hO : a ∈ sL S ∧ sK S a = 11) : ∃ cell : Cell, H[a]? = some cell ∧ cell.vm.isStatics = false ∧ s.vm.findClass RJx4a65c = some cell.cls := by
  obtain ⟨k0, hk0, hk1⟩ := wG_List cO S hO
  exact va_recv (ci := 0) (q := (RJx4a65c, TJx4a65c, 3)) hK hP rfl hk1
theorem gc_List {cc : ByteArray} {nL : Nat} {own : String} {rm : Room} {κ : KX} (hκ : Cx cc nL own rm κ) {Φ : HQ} {pc : Nat} {lv : List (Nat × Value)} {st : List Value} {S : wPS} (hΦ : Hd κ Φ S) {a idx : Nat} (hO : a ∈ sL S ∧ sK S a = 11) (hlink : Cond.classLink own idx RJx4a65c ∈ GA) (hdg : decode cc pc = .ok (.checkcast idx, 3)) (kk : Gj κ Φ (pc + 3) lv (.ref a :: st)) : Gj κ Φ pc lv (.ref a :: st) := by
  obtain ⟨p, l, e, R, s, m, args, below, meth, c, Q, D, cO, e0, A, mc, ms⟩ := κ
  obtain ⟨hx, hb, hml, hown, hts, hK, hG, hR, hlk⟩ := hκ
  intro H locs cells slots ls hF hl
  exact va_castE hx hb hown (hts _ hlink) (rc_List hK (hΦ H locs cells slots hF).1 hO) hdg (kk H locs cells slots ls hF hl)
theorem gn_List {cc : ByteArray} {nL : Nat} {own : String} {rm : Room} {κ : KX} (hκ : Cx cc nL own rm κ) {pc : Nat} {lv : List (Nat × Value)} {st : List Value} (hz : Vz κ) {S : wPS} {k n : Nat} {idx : Nat} (hcl : Cond.classLink own idx RJx4a65c ∈ GA) (hinst : Cond.instantiable RJx4a65c 3 ∈ GA) (hini : Cond.initialized RJx4a65c ∈ GA) (hk : 1 ≤ k) (hn : 3 ≤ n) (hdg : decode cc pc = .ok (.new idx, 3)) (kk : ∀ a : Nat, a ∉ sL S → Gj κ (PV κ (newS S a 11 0) (k - 1) (n - 3)) (pc + 3) lv (.ref a :: st)) : Gj κ (PV κ S k n) pc lv st := by
  obtain ⟨p, l, e, R, s, m, args, below, meth, c, Q, D, cO, e0, A, mc, ms⟩ := κ
  obtain ⟨hx, hb, hml, hown, hts, hK, hG, hR, hlk⟩ := hκ
  obtain ⟨hA, hH, hmc, hms⟩ := hz
  intro H locs cells slots ls hF hl
  obtain ⟨hP, hD, hS, hc, hs⟩ := hF
  refine va_new (ci := 0) (fs := [.int 0, .null, .int 0]) (C := RJx4a65c) (T := TJx4a65c) (N := 3) hx hb hts inlJx4a65c tyJx4a65c tyJx4a65c_ok hown (hts _ hcl) (hts _ hinst) (hts _ hini) hK hP hD hS hA rfl (fun j hj => by rcases (show j = 0 ∨ j = 1 ∨ j = 2 by omega) with rfl | rfl | rfl <;> rfl) (by omega) (by omega) hdg (fun a H1 hP1 hD1 hS1 => ?_)
  obtain ⟨eq9, hf⟩ := w_new cO S 11 0 hD1 rfl
  exact kk a hf H1 locs (cells + 1) (slots + 3) ls ⟨Eq.mp (congrArg (fun z => va_P D vwCl z H1) eq9) hP1, Eq.mp (congrArg (fun z => va_D A z) eq9) hD1, hS1, by omega, by omega⟩ hl
theorem ga_all : GoodIn GA GA := goodIn_sub (fun _ h => h) (by decide +kernel)
theorem ga_c {y : MethodName} {c : ByteArray} {n : Nat} {r : Option FieldType} (h : Cond.code y c n r ∈ GA) : GoodIn GA (Cond.code y c n r :: GA) := fun w hw => (List.mem_cons.mp hw).elim (fun z => by rw [z]; exact ga_all _ h) (fun z => ga_all _ z)
/-- contracts: reading alone; and over the pool with room for new things -/
def CR (D : va_G) (cO : ClassId) (S : wPS) (av : List Value) : Array Value → State → Prop := va_Pc av (fun U => va_P D vwCl (pool cO S) U.heap ∧ va_K D vwCl [(cO, .object "java/lang/Object")] U ∧ GK U)
def CP (D : va_G) (cO : ClassId) (e0 : Nat) (S : wPS) (sz : Nat) (av : List Value) : Array Value → State → Prop := va_Pc av (fun U => U.heap.size = sz ∧ va_P D vwCl (pool cO S) U.heap ∧ va_K D vwCl [(cO, .object "java/lang/Object")] U ∧ GK U ∧ va_D (fun _ => True) (pool cO S) ∧ GH e0 (va_A (pool cO S) sz) U U.heap)
theorem CR.blind {D : va_G} {cO : ClassId} {S : wPS} {av : List Value} : FrameBlind (CR D cO S av) := fun a U g mk h => by
  obtain ⟨h0, h1, h2, h3⟩ := h
  exact ⟨h0, h1, va_K.moved (u := U) (U := U.calling g mk a) (Vm.Alike.refl U.vm) h2, GK.call h3⟩
theorem CP.blind {D : va_G} {cO : ClassId} {e0 : Nat} {S : wPS} {sz : Nat} {av : List Value} : FrameBlind (CP D cO e0 S sz av) := fun a U g mk h => by
  obtain ⟨h0, h1, h2, h3, h4, h5, h6⟩ := h
  exact ⟨h0, h1, h2, va_K.moved (u := U) (U := U.calling g mk a) (Vm.Alike.refl U.vm) h3, GK.call h4, h5, GH.moved (u := U) (U := U.calling g mk a) (Vm.Alike.refl U.vm) h6⟩
theorem CR.pre {D : va_G} {cO : ClassId} {S : wPS} {av : List Value} {s : State} {H : Heap} (hK : va_K D vwCl [(cO, .object "java/lang/Object")] s) (hG : GK s) (hP : va_P D vwCl (pool cO S) H) : ∀ U : State, U.heap = H → s.WarmedH U.vm → CR D cO S av av.toArray U := fun U hU hW => ⟨rfl, by rw [hU]; exact hP, va_K.moved hW.alike hK, GK.warm hW hG⟩
theorem pool_free {A : Nat → Prop} {D : va_G} {cO : ClassId} {S : wPS} {H0 H : Heap} {locs : List Loc} (hD : va_D A (pool cO S)) (hS : va_S A H0 H locs) (hA : ∀ q, H0.size ≤ q → A q) : ∀ q, va_A (pool cO S) H.size q → A q := fun q h => by
  rcases h with ⟨k, e, h⟩ | h
  · exact hD.2 k (q, e) h
  · exact hA q (Nat.le_trans hS.1 h)
theorem CP.pre {D : va_G} {cO : ClassId} {e0 : Nat} {S : wPS} {av : List Value} {s : State} {H : Heap} {A : Nat → Prop} {locs : List Loc} (hK : va_K D vwCl [(cO, .object "java/lang/Object")] s) (hG : GK s) (hH : GH e0 A s s.heap) (hP : va_P D vwCl (pool cO S) H) (hD : va_D A (pool cO S)) (hS : va_S A s.heap H locs) (hA : ∀ q, s.heap.size ≤ q → A q) : ∀ U : State, U.heap = H → s.WarmedH U.vm → CP D cO e0 S H.size av av.toArray U := fun U hU hW =>
  ⟨rfl, by rw [hU], by rw [hU]; exact hP, va_K.moved hW.alike hK, GK.warm hW hG, hD.weaken (fun _ _ _ _ => trivial), by rw [hU]; exact GH.moved hW.alike (GH.narrow (GH.kept hH hS.2.1) (pool_free (D := D) hD hS hA))⟩
/-- what a change of the pool is behind a method -/
def Bp (D : va_G) (cO : ClassId) (A : Nat → Prop) (S : wPS) (t : State) : Prop := va_P D vwCl (pool cO S) t.heap ∧ va_D A (pool cO S)
def MR (y : MethodName) (cb : ByteArray) (maxL : Nat) (ret : Option FieldType) (rm : Room) (S : wPS) (av : List Value) (Qc : Array Value → State → Outcome → State → Prop) : Prop := ∀ (l : Launch) (D : va_G) (cO : ClassId), Met l y (Cond.code y cb maxL ret :: GA) rm (CR D cO S av) Qc 0 0 (fun _ => False)
def MVv (y : MethodName) (cb : ByteArray) (maxL : Nat) (ret : Option FieldType) (rm : Room) (S : wPS) (av : List Value) (post : wPS → Prop) (mc ms : Nat) : Prop := ∀ (l : Launch) (D : va_G) (cO : ClassId) (e0 sz : Nat), Met l y (Cond.code y cb maxL ret :: GA) rm (CP D cO e0 S sz av) (va_Qv post (Bp D cO (va_A (pool cO S) sz)) (va_A (pool cO S) sz)) mc ms (va_A (pool cO S) sz)
def MVi (y : MethodName) (cb : ByteArray) (maxL : Nat) (ret : Option FieldType) (rm : Room) (S : wPS) (av : List Value) (post : Int32 → wPS → Prop) (mc ms : Nat) : Prop := ∀ (l : Launch) (D : va_G) (cO : ClassId) (e0 sz : Nat), Met l y (Cond.code y cb maxL ret :: GA) rm (CP D cO e0 S sz av) (va_Qi post (Bp D cO (va_A (pool cO S) sz)) (va_A (pool cO S) sz)) mc ms (va_A (pool cO S) sz)
def MVq (y : MethodName) (cb : ByteArray) (maxL : Nat) (ret : Option FieldType) (rm : Room) (S : wPS) (av : List Value) (post : Option Nat → wPS → Prop) (mc ms : Nat) : Prop := ∀ (l : Launch) (D : va_G) (cO : ClassId) (e0 sz : Nat), Met l y (Cond.code y cb maxL ret :: GA) rm (CP D cO e0 S sz av) (va_Qq post (Bp D cO (va_A (pool cO S) sz)) (va_A (pool cO S) sz)) mc ms (va_A (pool cO S) sz)
/-- what the tables say of a callee -/
def SD (y : MethodName) (cb : ByteArray) (maxL : Nat) (ret : Option FieldType) (n : Nat) : Prop := (Cond.static y ∈ GA ∧ Cond.initialized y.cls ∈ GA ∧ Cond.code y cb maxL ret ∈ GA) ∧ y.cls ≠ "java/lang/invoke/MethodHandle" ∧ y.cls ≠ "java/lang/invoke/VarHandle" ∧ (parseMethodDescriptor y.desc).map (fun d => d.parameters.length) = some n
def VD (C : String) (y : MethodName) (cb : ByteArray) (maxL : Nat) (ret : Option FieldType) (n : Nat) : Prop := (Cond.instanceMethod y ∈ GA ∧ Cond.selects C y y ∈ GA ∧ Cond.initialized y.cls ∈ GA ∧ Cond.code y cb maxL ret ∈ GA) ∧ y.cls ≠ "java/lang/invoke/MethodHandle" ∧ y.cls ≠ "java/lang/invoke/VarHandle" ∧ (parseMethodDescriptor y.desc).map (fun d => d.parameters.length) = some n
def ID (y : MethodName) (cb : ByteArray) (maxL : Nat) (n : Nat) : Prop := (Cond.instanceMethod y ∈ GA ∧ Cond.initialized y.cls ∈ GA ∧ Cond.code y cb maxL none ∈ GA) ∧ y.name = "<init>" ∧ y.cls ≠ "java/lang/invoke/MethodHandle" ∧ y.cls ≠ "java/lang/invoke/VarHandle" ∧ (parseMethodDescriptor y.desc).map (fun d => d.parameters.length) = some n
def UD (C owner : String) (x y : MethodName) (cb : ByteArray) (maxL : Nat) (ret : Option FieldType) (n : Nat) : Prop := (Cond.sameMethod x.cls owner x.name x.desc ∈ GA ∧ Cond.selects C x y ∈ GA ∧ Cond.instanceMethod y ∈ GA ∧ Cond.initialized y.cls ∈ GA ∧ Cond.code y cb maxL ret ∈ GA) ∧ y = ⟨owner, x.name, x.desc⟩ ∧ owner ≠ "java/lang/invoke/MethodHandle" ∧ owner ≠ "java/lang/invoke/VarHandle" ∧ (parseMethodDescriptor x.desc).map (fun d => d.parameters.length) = some n
theorem sig_of {d : String} {n : Nat} (h : (parseMethodDescriptor d).map (fun d => d.parameters.length) = some n) : ∀ sig, parseMethodDescriptor d = some sig → n = sig.parameters.length := fun sig h2 => by
  rw [h2] at h
  exact (Option.some.inj h).symm
abbrev RmOk (rm2 rm : Room) (mc ms maxL : Nat) : Prop := rm2.cells = mc ∧ rm2.slots = ms ∧ rm2.frames + 1 ≤ rm.frames ∧ 8 + (maxL + 11) + rm2.locals ≤ rm.locals
theorem cb_of {R : Room} {s : State} {args : Array Value} {own : String} {index maxL mc ms n : Nat} {y : MethodName} {cb : ByteArray} {ret : Option FieldType} {rm2 : Room} (hts : ∀ w ∈ GA, w.before args s = true) (hr : RmOk rm2 R mc ms maxL) (hc : Cond.code y cb maxL ret ∈ GA) (hi : Cond.initialized y.cls ∈ GA) (h1 : y.cls ≠ "java/lang/invoke/MethodHandle") (h2 : y.cls ≠ "java/lang/invoke/VarHandle") (hn : (parseMethodDescriptor y.desc).map (fun d => d.parameters.length) = some n) (hl : Cond.methodLink own index y ∈ GA) : CallB R s args own index y cb maxL ret (Cond.code y cb maxL ret :: GA) rm2 mc ms n :=
  ⟨hr.1, hr.2.1, hr.2.2.1, hr.2.2.2, pay_in hts (ga_c hc), List.mem_cons_self, hts _ hc, hts _ hi, ⟨h1, h2⟩, sig_of hn, hts _ hl⟩
theorem cn_of {R : Room} {s : State} {args : Array Value} {own host : String} {index maxL mc ms n : Nat} {y : MethodName} {cb : ByteArray} {ret : Option FieldType} {rm2 : Room} (hts : ∀ w ∈ GA, w.before args s = true) (hG : GK s) (hr : RmOk rm2 R mc ms maxL) (hc : Cond.code y cb maxL ret ∈ GA) (hi : Cond.initialized y.cls ∈ GA) (h1 : y.cls ≠ "java/lang/invoke/MethodHandle") (h2 : y.cls ≠ "java/lang/invoke/VarHandle") (hn : (parseMethodDescriptor y.desc).map (fun d => d.parameters.length) = some n) (hl : (own, index, y, host) ∈ nestM) : va_CN R s args own index y host cb maxL ret (Cond.code y cb maxL ret :: GA) rm2 mc ms n :=
  ⟨⟨hr.1, hr.2.1, hr.2.2.1, hr.2.2.2, pay_in hts (ga_c hc), List.mem_cons_self⟩, hts _ hc, hts _ hi, ⟨h1, h2⟩, sig_of hn, va_Nw.use rfl (hG.2.1 _ hl)⟩
theorem rS_i {cc : ByteArray} {nL : Nat} {own : String} {rm : Room} {κ : KX} (hκ : Cx cc nL own rm κ) {Φ : HQ} {pc : Nat} {lv : List (Nat × Value)} {st : List Value} {S : wPS} (hΦ : Hd κ Φ S) {y : MethodName} {cb : ByteArray} {maxL nA idx : Nat} {ret : Option FieldType} {rm2 : Room} {stk : List Value} (av : List Value) {post : Int32 → Prop} (sd : SD y cb maxL ret nA) (hlk : Cond.methodLink own idx y ∈ GA) (hM : MR y cb maxL ret rm2 S av (vp_Si post)) (hrm : RmOk rm2 rm 0 0 maxL) (hn : av.length = nA) (hstk : stk = av.reverse ++ st) (hw : (st.map fun v => v.category).sum ≤ 8) (hdg : decode cc pc = .ok (.invokestatic idx, 3)) (kk : ∀ r : Int32, post r → Gj κ Φ (pc + 3) lv (.int r :: st)) : Gj κ Φ pc lv stk := by
  subst hstk
  obtain ⟨p, l, e, R, s, m, args, below, meth, c, Q, D, cO, e0, A, mc, ms⟩ := κ
  obtain ⟨hx, hb, hml, hown, hts, hK, hG, hR, hlk⟩ := hκ
  intro H locs cells slots ls hF hl
  obtain ⟨hP, hc9, hs9⟩ := hΦ H locs cells slots hF
  exact vp_callSi (va_Run.run (va_runS (As := av) (rest := st) ⟨hx, hb, rfl, hown, hts⟩ (hM l D cO) ⟨cb_of hts (hR ▸ hrm) sd.1.2.2 sd.1.2.1 sd.2.1 sd.2.2.1 sd.2.2.2 hlk, hts _ sd.1.1⟩ ⟨CR.blind, CR.pre hK hG hP⟩ rfl hn hl.1 rfl (lv_room hw) hdg ⟨hc9, hs9⟩)) (fun r hr => kk r hr H locs cells slots ls hF hl)
theorem rS_l {cc : ByteArray} {nL : Nat} {own : String} {rm : Room} {κ : KX} (hκ : Cx cc nL own rm κ) {Φ : HQ} {pc : Nat} {lv : List (Nat × Value)} {st : List Value} {S : wPS} (hΦ : Hd κ Φ S) {y : MethodName} {cb : ByteArray} {maxL nA idx : Nat} {ret : Option FieldType} {rm2 : Room} {stk : List Value} (av : List Value) {post : Int64 → Prop} (sd : SD y cb maxL ret nA) (hlk : Cond.methodLink own idx y ∈ GA) (hM : MR y cb maxL ret rm2 S av (vp_Sl post)) (hrm : RmOk rm2 rm 0 0 maxL) (hn : av.length = nA) (hstk : stk = av.reverse ++ st) (hw : (st.map fun v => v.category).sum ≤ 8) (hdg : decode cc pc = .ok (.invokestatic idx, 3)) (kk : ∀ r : Int64, post r → Gj κ Φ (pc + 3) lv (.long r :: st)) : Gj κ Φ pc lv stk := by
  subst hstk
  obtain ⟨p, l, e, R, s, m, args, below, meth, c, Q, D, cO, e0, A, mc, ms⟩ := κ
  obtain ⟨hx, hb, hml, hown, hts, hK, hG, hR, hlk⟩ := hκ
  intro H locs cells slots ls hF hl
  obtain ⟨hP, hc9, hs9⟩ := hΦ H locs cells slots hF
  exact vp_callSl (va_Run.run (va_runS (As := av) (rest := st) ⟨hx, hb, rfl, hown, hts⟩ (hM l D cO) ⟨cb_of hts (hR ▸ hrm) sd.1.2.2 sd.1.2.1 sd.2.1 sd.2.2.1 sd.2.2.2 hlk, hts _ sd.1.1⟩ ⟨CR.blind, CR.pre hK hG hP⟩ rfl hn hl.1 rfl (lv_room hw) hdg ⟨hc9, hs9⟩)) (fun r hr => kk r hr H locs cells slots ls hF hl)
theorem rS_d {cc : ByteArray} {nL : Nat} {own : String} {rm : Room} {κ : KX} (hκ : Cx cc nL own rm κ) {Φ : HQ} {pc : Nat} {lv : List (Nat × Value)} {st : List Value} {S : wPS} (hΦ : Hd κ Φ S) {y : MethodName} {cb : ByteArray} {maxL nA idx : Nat} {ret : Option FieldType} {rm2 : Room} {stk : List Value} (av : List Value) {post : UInt64 → Prop} (sd : SD y cb maxL ret nA) (hlk : Cond.methodLink own idx y ∈ GA) (hM : MR y cb maxL ret rm2 S av (vp_Sd post)) (hrm : RmOk rm2 rm 0 0 maxL) (hn : av.length = nA) (hstk : stk = av.reverse ++ st) (hw : (st.map fun v => v.category).sum ≤ 8) (hdg : decode cc pc = .ok (.invokestatic idx, 3)) (kk : ∀ r : UInt64, post r → Gj κ Φ (pc + 3) lv (.double r :: st)) : Gj κ Φ pc lv stk := by
  subst hstk
  obtain ⟨p, l, e, R, s, m, args, below, meth, c, Q, D, cO, e0, A, mc, ms⟩ := κ
  obtain ⟨hx, hb, hml, hown, hts, hK, hG, hR, hlk⟩ := hκ
  intro H locs cells slots ls hF hl
  obtain ⟨hP, hc9, hs9⟩ := hΦ H locs cells slots hF
  exact vp_callSd (va_Run.run (va_runS (As := av) (rest := st) ⟨hx, hb, rfl, hown, hts⟩ (hM l D cO) ⟨cb_of hts (hR ▸ hrm) sd.1.2.2 sd.1.2.1 sd.2.1 sd.2.2.1 sd.2.2.2 hlk, hts _ sd.1.1⟩ ⟨CR.blind, CR.pre hK hG hP⟩ rfl hn hl.1 rfl (lv_room hw) hdg ⟨hc9, hs9⟩)) (fun r hr => kk r hr H locs cells slots ls hF hl)
theorem rS_q {cc : ByteArray} {nL : Nat} {own : String} {rm : Room} {κ : KX} (hκ : Cx cc nL own rm κ) {Φ : HQ} {pc : Nat} {lv : List (Nat × Value)} {st : List Value} {S : wPS} (hΦ : Hd κ Φ S) {y : MethodName} {cb : ByteArray} {maxL nA idx : Nat} {ret : Option FieldType} {rm2 : Room} {stk : List Value} (av : List Value) {post : Option Nat → Prop} (sd : SD y cb maxL ret nA) (hlk : Cond.methodLink own idx y ∈ GA) (hM : MR y cb maxL ret rm2 S av (va_Sq post)) (hrm : RmOk rm2 rm 0 0 maxL) (hn : av.length = nA) (hstk : stk = av.reverse ++ st) (hw : (st.map fun v => v.category).sum ≤ 8) (hdg : decode cc pc = .ok (.invokestatic idx, 3)) (kk : ∀ r : Option Nat, post r → Gj κ Φ (pc + 3) lv (va_rf r :: st)) : Gj κ Φ pc lv stk := by
  subst hstk
  obtain ⟨p, l, e, R, s, m, args, below, meth, c, Q, D, cO, e0, A, mc, ms⟩ := κ
  obtain ⟨hx, hb, hml, hown, hts, hK, hG, hR, hlk⟩ := hκ
  intro H locs cells slots ls hF hl
  obtain ⟨hP, hc9, hs9⟩ := hΦ H locs cells slots hF
  exact va_csq (va_Run.run (va_runS (As := av) (rest := st) ⟨hx, hb, rfl, hown, hts⟩ (hM l D cO) ⟨cb_of hts (hR ▸ hrm) sd.1.2.2 sd.1.2.1 sd.2.1 sd.2.2.1 sd.2.2.2 hlk, hts _ sd.1.1⟩ ⟨CR.blind, CR.pre hK hG hP⟩ rfl hn hl.1 rfl (lv_room hw) hdg ⟨hc9, hs9⟩)) (fun r hr => kk r hr H locs cells slots ls hF hl)
theorem rS_v {cc : ByteArray} {nL : Nat} {own : String} {rm : Room} {κ : KX} (hκ : Cx cc nL own rm κ) {Φ : HQ} {pc : Nat} {lv : List (Nat × Value)} {st : List Value} {S : wPS} (hΦ : Hd κ Φ S) {y : MethodName} {cb : ByteArray} {maxL nA idx : Nat} {ret : Option FieldType} {rm2 : Room} {stk : List Value} (av : List Value) {post : Unit → Prop} (sd : SD y cb maxL ret nA) (hlk : Cond.methodLink own idx y ∈ GA) (hM : MR y cb maxL ret rm2 S av (va_Sv post)) (hrm : RmOk rm2 rm 0 0 maxL) (hn : av.length = nA) (hstk : stk = av.reverse ++ st) (hw : (st.map fun v => v.category).sum ≤ 8) (hdg : decode cc pc = .ok (.invokestatic idx, 3)) (kk : post () → Gj κ Φ (pc + 3) lv st) : Gj κ Φ pc lv stk := by
  subst hstk
  obtain ⟨p, l, e, R, s, m, args, below, meth, c, Q, D, cO, e0, A, mc, ms⟩ := κ
  obtain ⟨hx, hb, hml, hown, hts, hK, hG, hR, hlk⟩ := hκ
  intro H locs cells slots ls hF hl
  obtain ⟨hP, hc9, hs9⟩ := hΦ H locs cells slots hF
  exact va_csv (va_Run.run (va_runS (As := av) (rest := st) ⟨hx, hb, rfl, hown, hts⟩ (hM l D cO) ⟨cb_of hts (hR ▸ hrm) sd.1.2.2 sd.1.2.1 sd.2.1 sd.2.2.1 sd.2.2.2 hlk, hts _ sd.1.1⟩ ⟨CR.blind, CR.pre hK hG hP⟩ rfl hn hl.1 rfl (lv_room hw) hdg ⟨hc9, hs9⟩)) (fun hr => kk hr H locs cells slots ls hF hl)
theorem rSN_i {cc : ByteArray} {nL : Nat} {own : String} {rm : Room} {κ : KX} (hκ : Cx cc nL own rm κ) {Φ : HQ} {pc : Nat} {lv : List (Nat × Value)} {st : List Value} {S : wPS} (hΦ : Hd κ Φ S) {y : MethodName} {cb : ByteArray} {maxL nA idx : Nat} {ret : Option FieldType} {rm2 : Room} {stk : List Value} (av : List Value) {post : Int32 → Prop} (sd : SD y cb maxL ret nA) {host : String} (hlk : (own, idx, y, host) ∈ nestM) (hM : MR y cb maxL ret rm2 S av (vp_Si post)) (hrm : RmOk rm2 rm 0 0 maxL) (hn : av.length = nA) (hstk : stk = av.reverse ++ st) (hw : (st.map fun v => v.category).sum ≤ 8) (hdg : decode cc pc = .ok (.invokestatic idx, 3)) (kk : ∀ r : Int32, post r → Gj κ Φ (pc + 3) lv (.int r :: st)) : Gj κ Φ pc lv stk := by
  subst hstk
  obtain ⟨p, l, e, R, s, m, args, below, meth, c, Q, D, cO, e0, A, mc, ms⟩ := κ
  obtain ⟨hx, hb, hml, hown, hts, hK, hG, hR, hlk⟩ := hκ
  intro H locs cells slots ls hF hl
  obtain ⟨hP, hc9, hs9⟩ := hΦ H locs cells slots hF
  exact vp_callSi (va_Run.run (va_runSN (As := av) (rest := st) ⟨hx, hb, rfl, hown, hts⟩ (hM l D cO) ⟨cn_of hts hG (hR ▸ hrm) sd.1.2.2 sd.1.2.1 sd.2.1 sd.2.2.1 sd.2.2.2 hlk, hts _ sd.1.1, trivial⟩ ⟨CR.blind, CR.pre hK hG hP⟩ rfl hn hl.1 rfl (lv_room hw) hdg ⟨hc9, hs9⟩)) (fun r hr => kk r hr H locs cells slots ls hF hl)
theorem rV_i {cc : ByteArray} {nL : Nat} {own : String} {rm : Room} {κ : KX} (hκ : Cx cc nL own rm κ) {Φ : HQ} {pc : Nat} {lv : List (Nat × Value)} {st : List Value} {S : wPS} (hΦ : Hd κ Φ S) {y : MethodName} {cb : ByteArray} {maxL nA idx : Nat} {ret : Option FieldType} {rm2 : Room} {stk : List Value} (av : List Value) {post : Int32 → Prop} {C : String} {b : Nat} (sd : VD C y cb maxL ret nA) (hlk : Cond.methodLink own idx y ∈ GA) (hrc : ∀ (D : va_G) (cO : ClassId) (H : Heap) (s : State), va_K D vwCl [(cO, .object "java/lang/Object")] s → va_P D vwCl (pool cO S) H → ∃ cell : Cell, H[b]? = some cell ∧ cell.vm.isStatics = false ∧ s.vm.findClass C = some cell.cls) (hM : MR y cb maxL ret rm2 S (.ref b :: av) (vp_Si post)) (hrm : RmOk rm2 rm 0 0 maxL) (hn : av.length = nA) (hstk : stk = av.reverse ++ .ref b :: st) (hw : (st.map fun v => v.category).sum ≤ 8) (hdg : decode cc pc = .ok (.invokevirtual idx, 3)) (kk : ∀ r : Int32, post r → Gj κ Φ (pc + 3) lv (.int r :: st)) : Gj κ Φ pc lv stk := by
  subst hstk
  obtain ⟨p, l, e, R, s, m, args, below, meth, c, Q, D, cO, e0, A, mc, ms⟩ := κ
  obtain ⟨hx, hb, hml, hown, hts, hK, hG, hR, hlk⟩ := hκ
  intro H locs cells slots ls hF hl
  obtain ⟨hP, hc9, hs9⟩ := hΦ H locs cells slots hF
  exact vp_callSi (va_Run.run (va_runV (As := av) (rest := st) ⟨hx, hb, rfl, hown, hts⟩ (hM l D cO) ⟨cb_of hts (hR ▸ hrm) sd.1.2.2.2 sd.1.2.2.1 sd.2.1 sd.2.2.1 sd.2.2.2 hlk, hts _ sd.1.1, hts _ sd.1.2.1⟩ ⟨CR.blind, hrc D cO H s hK hP, CR.pre hK hG hP⟩ rfl hn hl.1 rfl (lv_room hw) hdg ⟨hc9, hs9⟩)) (fun r hr => kk r hr H locs cells slots ls hF hl)
theorem rV_l {cc : ByteArray} {nL : Nat} {own : String} {rm : Room} {κ : KX} (hκ : Cx cc nL own rm κ) {Φ : HQ} {pc : Nat} {lv : List (Nat × Value)} {st : List Value} {S : wPS} (hΦ : Hd κ Φ S) {y : MethodName} {cb : ByteArray} {maxL nA idx : Nat} {ret : Option FieldType} {rm2 : Room} {stk : List Value} (av : List Value) {post : Int64 → Prop} {C : String} {b : Nat} (sd : VD C y cb maxL ret nA) (hlk : Cond.methodLink own idx y ∈ GA) (hrc : ∀ (D : va_G) (cO : ClassId) (H : Heap) (s : State), va_K D vwCl [(cO, .object "java/lang/Object")] s → va_P D vwCl (pool cO S) H → ∃ cell : Cell, H[b]? = some cell ∧ cell.vm.isStatics = false ∧ s.vm.findClass C = some cell.cls) (hM : MR y cb maxL ret rm2 S (.ref b :: av) (vp_Sl post)) (hrm : RmOk rm2 rm 0 0 maxL) (hn : av.length = nA) (hstk : stk = av.reverse ++ .ref b :: st) (hw : (st.map fun v => v.category).sum ≤ 8) (hdg : decode cc pc = .ok (.invokevirtual idx, 3)) (kk : ∀ r : Int64, post r → Gj κ Φ (pc + 3) lv (.long r :: st)) : Gj κ Φ pc lv stk := by
  subst hstk
  obtain ⟨p, l, e, R, s, m, args, below, meth, c, Q, D, cO, e0, A, mc, ms⟩ := κ
  obtain ⟨hx, hb, hml, hown, hts, hK, hG, hR, hlk⟩ := hκ
  intro H locs cells slots ls hF hl
  obtain ⟨hP, hc9, hs9⟩ := hΦ H locs cells slots hF
  exact vp_callSl (va_Run.run (va_runV (As := av) (rest := st) ⟨hx, hb, rfl, hown, hts⟩ (hM l D cO) ⟨cb_of hts (hR ▸ hrm) sd.1.2.2.2 sd.1.2.2.1 sd.2.1 sd.2.2.1 sd.2.2.2 hlk, hts _ sd.1.1, hts _ sd.1.2.1⟩ ⟨CR.blind, hrc D cO H s hK hP, CR.pre hK hG hP⟩ rfl hn hl.1 rfl (lv_room hw) hdg ⟨hc9, hs9⟩)) (fun r hr => kk r hr H locs cells slots ls hF hl)
theorem rV_d {cc : ByteArray} {nL : Nat} {own : String} {rm : Room} {κ : KX} (hκ : Cx cc nL own rm κ) {Φ : HQ} {pc : Nat} {lv : List (Nat × Value)} {st : List Value} {S : wPS} (hΦ : Hd κ Φ S) {y : MethodName} {cb : ByteArray} {maxL nA idx : Nat} {ret : Option FieldType} {rm2 : Room} {stk : List Value} (av : List Value) {post : UInt64 → Prop} {C : String} {b : Nat} (sd : VD C y cb maxL ret nA) (hlk : Cond.methodLink own idx y ∈ GA) (hrc : ∀ (D : va_G) (cO : ClassId) (H : Heap) (s : State), va_K D vwCl [(cO, .object "java/lang/Object")] s → va_P D vwCl (pool cO S) H → ∃ cell : Cell, H[b]? = some cell ∧ cell.vm.isStatics = false ∧ s.vm.findClass C = some cell.cls) (hM : MR y cb maxL ret rm2 S (.ref b :: av) (vp_Sd post)) (hrm : RmOk rm2 rm 0 0 maxL) (hn : av.length = nA) (hstk : stk = av.reverse ++ .ref b :: st) (hw : (st.map fun v => v.category).sum ≤ 8) (hdg : decode cc pc = .ok (.invokevirtual idx, 3)) (kk : ∀ r : UInt64, post r → Gj κ Φ (pc + 3) lv (.double r :: st)) : Gj κ Φ pc lv stk := by
  subst hstk
  obtain ⟨p, l, e, R, s, m, args, below, meth, c, Q, D, cO, e0, A, mc, ms⟩ := κ
  obtain ⟨hx, hb, hml, hown, hts, hK, hG, hR, hlk⟩ := hκ
  intro H locs cells slots ls hF hl
  obtain ⟨hP, hc9, hs9⟩ := hΦ H locs cells slots hF
  exact vp_callSd (va_Run.run (va_runV (As := av) (rest := st) ⟨hx, hb, rfl, hown, hts⟩ (hM l D cO) ⟨cb_of hts (hR ▸ hrm) sd.1.2.2.2 sd.1.2.2.1 sd.2.1 sd.2.2.1 sd.2.2.2 hlk, hts _ sd.1.1, hts _ sd.1.2.1⟩ ⟨CR.blind, hrc D cO H s hK hP, CR.pre hK hG hP⟩ rfl hn hl.1 rfl (lv_room hw) hdg ⟨hc9, hs9⟩)) (fun r hr => kk r hr H locs cells slots ls hF hl)
theorem rV_q {cc : ByteArray} {nL : Nat} {own : String} {rm : Room} {κ : KX} (hκ : Cx cc nL own rm κ) {Φ : HQ} {pc : Nat} {lv : List (Nat × Value)} {st : List Value} {S : wPS} (hΦ : Hd κ Φ S) {y : MethodName} {cb : ByteArray} {maxL nA idx : Nat} {ret : Option FieldType} {rm2 : Room} {stk : List Value} (av : List Value) {post : Option Nat → Prop} {C : String} {b : Nat} (sd : VD C y cb maxL ret nA) (hlk : Cond.methodLink own idx y ∈ GA) (hrc : ∀ (D : va_G) (cO : ClassId) (H : Heap) (s : State), va_K D vwCl [(cO, .object "java/lang/Object")] s → va_P D vwCl (pool cO S) H → ∃ cell : Cell, H[b]? = some cell ∧ cell.vm.isStatics = false ∧ s.vm.findClass C = some cell.cls) (hM : MR y cb maxL ret rm2 S (.ref b :: av) (va_Sq post)) (hrm : RmOk rm2 rm 0 0 maxL) (hn : av.length = nA) (hstk : stk = av.reverse ++ .ref b :: st) (hw : (st.map fun v => v.category).sum ≤ 8) (hdg : decode cc pc = .ok (.invokevirtual idx, 3)) (kk : ∀ r : Option Nat, post r → Gj κ Φ (pc + 3) lv (va_rf r :: st)) : Gj κ Φ pc lv stk := by
  subst hstk
  obtain ⟨p, l, e, R, s, m, args, below, meth, c, Q, D, cO, e0, A, mc, ms⟩ := κ
  obtain ⟨hx, hb, hml, hown, hts, hK, hG, hR, hlk⟩ := hκ
  intro H locs cells slots ls hF hl
  obtain ⟨hP, hc9, hs9⟩ := hΦ H locs cells slots hF
  exact va_csq (va_Run.run (va_runV (As := av) (rest := st) ⟨hx, hb, rfl, hown, hts⟩ (hM l D cO) ⟨cb_of hts (hR ▸ hrm) sd.1.2.2.2 sd.1.2.2.1 sd.2.1 sd.2.2.1 sd.2.2.2 hlk, hts _ sd.1.1, hts _ sd.1.2.1⟩ ⟨CR.blind, hrc D cO H s hK hP, CR.pre hK hG hP⟩ rfl hn hl.1 rfl (lv_room hw) hdg ⟨hc9, hs9⟩)) (fun r hr => kk r hr H locs cells slots ls hF hl)
theorem rV_v {cc : ByteArray} {nL : Nat} {own : String} {rm : Room} {κ : KX} (hκ : Cx cc nL own rm κ) {Φ : HQ} {pc : Nat} {lv : List (Nat × Value)} {st : List Value} {S : wPS} (hΦ : Hd κ Φ S) {y : MethodName} {cb : ByteArray} {maxL nA idx : Nat} {ret : Option FieldType} {rm2 : Room} {stk : List Value} (av : List Value) {post : Unit → Prop} {C : String} {b : Nat} (sd : VD C y cb maxL ret nA) (hlk : Cond.methodLink own idx y ∈ GA) (hrc : ∀ (D : va_G) (cO : ClassId) (H : Heap) (s : State), va_K D vwCl [(cO, .object "java/lang/Object")] s → va_P D vwCl (pool cO S) H → ∃ cell : Cell, H[b]? = some cell ∧ cell.vm.isStatics = false ∧ s.vm.findClass C = some cell.cls) (hM : MR y cb maxL ret rm2 S (.ref b :: av) (va_Sv post)) (hrm : RmOk rm2 rm 0 0 maxL) (hn : av.length = nA) (hstk : stk = av.reverse ++ .ref b :: st) (hw : (st.map fun v => v.category).sum ≤ 8) (hdg : decode cc pc = .ok (.invokevirtual idx, 3)) (kk : post () → Gj κ Φ (pc + 3) lv st) : Gj κ Φ pc lv stk := by
  subst hstk
  obtain ⟨p, l, e, R, s, m, args, below, meth, c, Q, D, cO, e0, A, mc, ms⟩ := κ
  obtain ⟨hx, hb, hml, hown, hts, hK, hG, hR, hlk⟩ := hκ
  intro H locs cells slots ls hF hl
  obtain ⟨hP, hc9, hs9⟩ := hΦ H locs cells slots hF
  exact va_csv (va_Run.run (va_runV (As := av) (rest := st) ⟨hx, hb, rfl, hown, hts⟩ (hM l D cO) ⟨cb_of hts (hR ▸ hrm) sd.1.2.2.2 sd.1.2.2.1 sd.2.1 sd.2.2.1 sd.2.2.2 hlk, hts _ sd.1.1, hts _ sd.1.2.1⟩ ⟨CR.blind, hrc D cO H s hK hP, CR.pre hK hG hP⟩ rfl hn hl.1 rfl (lv_room hw) hdg ⟨hc9, hs9⟩)) (fun hr => kk hr H locs cells slots ls hF hl)
theorem rU_i {cc : ByteArray} {nL : Nat} {own : String} {rm : Room} {κ : KX} (hκ : Cx cc nL own rm κ) {Φ : HQ} {pc : Nat} {lv : List (Nat × Value)} {st : List Value} {S : wPS} (hΦ : Hd κ Φ S) {y : MethodName} {cb : ByteArray} {maxL nA idx : Nat} {ret : Option FieldType} {rm2 : Room} {stk : List Value} (av : List Value) {post : Int32 → Prop} {C owner : String} {x : MethodName} {b : Nat} (sd : UD C owner x y cb maxL ret nA) (hlk : Cond.methodLink own idx x ∈ GA) (hde : (⟨owner, x.name, x.desc⟩ : MethodName) ∈ declN) (hrc : ∀ (D : va_G) (cO : ClassId) (H : Heap) (s : State), va_K D vwCl [(cO, .object "java/lang/Object")] s → va_P D vwCl (pool cO S) H → ∃ cell : Cell, H[b]? = some cell ∧ cell.vm.isStatics = false ∧ s.vm.findClass C = some cell.cls) (hM : MR y cb maxL ret rm2 S (.ref b :: av) (vp_Si post)) (hrm : RmOk rm2 rm 0 0 maxL) (hn : av.length = nA) (hstk : stk = av.reverse ++ .ref b :: st) (hw : (st.map fun v => v.category).sum ≤ 8) (hdg : decode cc pc = .ok (.invokevirtual idx, 3)) (kk : ∀ r : Int32, post r → Gj κ Φ (pc + 3) lv (.int r :: st)) : Gj κ Φ pc lv stk := by
  subst hstk
  obtain ⟨p, l, e, R, s, m, args, below, meth, c, Q, D, cO, e0, A, mc, ms⟩ := κ
  obtain ⟨hx, hb, hml, hown, hts, hK, hG, hR, hlk⟩ := hκ
  intro H locs cells slots ls hF hl
  obtain ⟨hP, hc9, hs9⟩ := hΦ H locs cells slots hF
  exact vp_callSi (va_Run.run (va_runU (As := av) (rest := st) ⟨hx, hb, rfl, hown, hts⟩ (hM l D cO) ⟨⟨hrm.1, hrm.2.1, (hR ▸ hrm).2.2.1, (hR ▸ hrm).2.2.2, pay_in hts (ga_c sd.1.2.2.2.2), List.mem_cons_self⟩, hts _ sd.1.2.2.2.2, hts _ sd.1.2.2.2.1, ⟨sd.2.2.1, sd.2.2.2.1⟩, sig_of sd.2.2.2.2, hts _ hlk, hts _ sd.1.1, va_Decl.abs (hG.2.2.2.2.1 _ hde), hts _ sd.1.2.1, hts _ sd.1.2.2.1⟩ ⟨CR.blind, hrc D cO H s hK hP, CR.pre hK hG hP⟩ rfl hn hl.1 rfl (lv_room hw) hdg ⟨hc9, hs9⟩)) (fun r hr => kk r hr H locs cells slots ls hF hl)
theorem vS_v {cc : ByteArray} {nL : Nat} {own : String} {rm : Room} {κ : KX} (hκ : Cx cc nL own rm κ) {pc : Nat} {lv : List (Nat × Value)} {st : List Value} (hz : Vz κ) {S : wPS} {k n : Nat} {y : MethodName} {cb : ByteArray} {maxL nA idx mc2 ms2 : Nat} {ret : Option FieldType} {rm2 : Room} {stk : List Value} (av : List Value) {post : wPS → Prop} (sd : SD y cb maxL ret nA) (hlk : Cond.methodLink own idx y ∈ GA) (hM : MVv y cb maxL ret rm2 S av post mc2 ms2) (hrm : RmOk rm2 rm mc2 ms2 maxL) (hn : av.length = nA) (hstk : stk = av.reverse ++ st) (hw : (st.map fun v => v.category).sum ≤ 8) (hdg : decode cc pc = .ok (.invokestatic idx, 3)) (hk9 : mc2 ≤ k) (hn9 : ms2 ≤ n) (kk : ∀ S1 : wPS, post S1 → Gj κ (PV κ S1 (k - mc2) (n - ms2)) (pc + 3) lv st) : Gj κ (PV κ S k n) pc lv stk := by
  subst hstk
  obtain ⟨p, l, e, R, s, m, args, below, meth, c, Q, D, cO, e0, A, mc, ms⟩ := κ
  obtain ⟨hx, hb, hml, hown, hts, hK, hG, hR, hlk⟩ := hκ
  obtain ⟨hA, hH, hmc, hms⟩ := hz
  intro H locs cells slots ls hF hl
  obtain ⟨hP, hD, hS, hc, hs⟩ := hF
  have hf9 := pool_free (D := D) hD hS hA
  refine va_callv (va_runS (As := av) (rest := st) ⟨hx, hb, rfl, hown, hts⟩ (hM l D cO e0 H.size) ⟨cb_of hts (hR ▸ hrm) sd.1.2.2 sd.1.2.1 sd.2.1 sd.2.2.1 sd.2.2.2 hlk, hts _ sd.1.1⟩ ⟨CP.blind, CP.pre hK hG hH hP hD hS hA⟩ rfl hn hl.1 rfl (lv_room hw) hdg ⟨by omega, by omega⟩) hS (fun q _ h9 => hf9 q h9) hf9 (fun u t H1 locs1 ht hvm hw1 hB hz1 hk1 hS1 => ?_)
  obtain ⟨hP1, hD1⟩ := hB
  rw [ht] at hP1
  exact kk u hw1 H1 locs1 (cells + mc2) (slots + ms2) ls ⟨hP1, hD1.weaken (fun k9 q9 _ h9 => hf9 q9.1 h9), hS1, by omega, by omega⟩ hl
theorem vS_i {cc : ByteArray} {nL : Nat} {own : String} {rm : Room} {κ : KX} (hκ : Cx cc nL own rm κ) {pc : Nat} {lv : List (Nat × Value)} {st : List Value} (hz : Vz κ) {S : wPS} {k n : Nat} {y : MethodName} {cb : ByteArray} {maxL nA idx mc2 ms2 : Nat} {ret : Option FieldType} {rm2 : Room} {stk : List Value} (av : List Value) {post : Int32 → wPS → Prop} (sd : SD y cb maxL ret nA) (hlk : Cond.methodLink own idx y ∈ GA) (hM : MVi y cb maxL ret rm2 S av post mc2 ms2) (hrm : RmOk rm2 rm mc2 ms2 maxL) (hn : av.length = nA) (hstk : stk = av.reverse ++ st) (hw : (st.map fun v => v.category).sum ≤ 8) (hdg : decode cc pc = .ok (.invokestatic idx, 3)) (hk9 : mc2 ≤ k) (hn9 : ms2 ≤ n) (kk : ∀ (r : Int32) (S1 : wPS), post r S1 → Gj κ (PV κ S1 (k - mc2) (n - ms2)) (pc + 3) lv (.int r :: st)) : Gj κ (PV κ S k n) pc lv stk := by
  subst hstk
  obtain ⟨p, l, e, R, s, m, args, below, meth, c, Q, D, cO, e0, A, mc, ms⟩ := κ
  obtain ⟨hx, hb, hml, hown, hts, hK, hG, hR, hlk⟩ := hκ
  obtain ⟨hA, hH, hmc, hms⟩ := hz
  intro H locs cells slots ls hF hl
  obtain ⟨hP, hD, hS, hc, hs⟩ := hF
  have hf9 := pool_free (D := D) hD hS hA
  refine va_calli (va_runS (As := av) (rest := st) ⟨hx, hb, rfl, hown, hts⟩ (hM l D cO e0 H.size) ⟨cb_of hts (hR ▸ hrm) sd.1.2.2 sd.1.2.1 sd.2.1 sd.2.2.1 sd.2.2.2 hlk, hts _ sd.1.1⟩ ⟨CP.blind, CP.pre hK hG hH hP hD hS hA⟩ rfl hn hl.1 rfl (lv_room hw) hdg ⟨by omega, by omega⟩) hS (fun q _ h9 => hf9 q h9) hf9 (fun r u t H1 locs1 ht hvm hw1 hB hz1 hk1 hS1 => ?_)
  obtain ⟨hP1, hD1⟩ := hB
  rw [ht] at hP1
  exact kk r u hw1 H1 locs1 (cells + mc2) (slots + ms2) ls ⟨hP1, hD1.weaken (fun k9 q9 _ h9 => hf9 q9.1 h9), hS1, by omega, by omega⟩ hl
theorem vS_q {cc : ByteArray} {nL : Nat} {own : String} {rm : Room} {κ : KX} (hκ : Cx cc nL own rm κ) {pc : Nat} {lv : List (Nat × Value)} {st : List Value} (hz : Vz κ) {S : wPS} {k n : Nat} {y : MethodName} {cb : ByteArray} {maxL nA idx mc2 ms2 : Nat} {ret : Option FieldType} {rm2 : Room} {stk : List Value} (av : List Value) {post : Option Nat → wPS → Prop} (sd : SD y cb maxL ret nA) (hlk : Cond.methodLink own idx y ∈ GA) (hM : MVq y cb maxL ret rm2 S av post mc2 ms2) (hrm : RmOk rm2 rm mc2 ms2 maxL) (hn : av.length = nA) (hstk : stk = av.reverse ++ st) (hw : (st.map fun v => v.category).sum ≤ 8) (hdg : decode cc pc = .ok (.invokestatic idx, 3)) (hk9 : mc2 ≤ k) (hn9 : ms2 ≤ n) (kk : ∀ (r : Option Nat) (S1 : wPS), post r S1 → Gj κ (PV κ S1 (k - mc2) (n - ms2)) (pc + 3) lv (va_rf r :: st)) : Gj κ (PV κ S k n) pc lv stk := by
  subst hstk
  obtain ⟨p, l, e, R, s, m, args, below, meth, c, Q, D, cO, e0, A, mc, ms⟩ := κ
  obtain ⟨hx, hb, hml, hown, hts, hK, hG, hR, hlk⟩ := hκ
  obtain ⟨hA, hH, hmc, hms⟩ := hz
  intro H locs cells slots ls hF hl
  obtain ⟨hP, hD, hS, hc, hs⟩ := hF
  have hf9 := pool_free (D := D) hD hS hA
  refine va_callq (va_runS (As := av) (rest := st) ⟨hx, hb, rfl, hown, hts⟩ (hM l D cO e0 H.size) ⟨cb_of hts (hR ▸ hrm) sd.1.2.2 sd.1.2.1 sd.2.1 sd.2.2.1 sd.2.2.2 hlk, hts _ sd.1.1⟩ ⟨CP.blind, CP.pre hK hG hH hP hD hS hA⟩ rfl hn hl.1 rfl (lv_room hw) hdg ⟨by omega, by omega⟩) hS (fun q _ h9 => hf9 q h9) hf9 (fun r u t H1 locs1 ht hvm hw1 hB hz1 hk1 hS1 => ?_)
  obtain ⟨hP1, hD1⟩ := hB
  rw [ht] at hP1
  exact kk r u hw1 H1 locs1 (cells + mc2) (slots + ms2) ls ⟨hP1, hD1.weaken (fun k9 q9 _ h9 => hf9 q9.1 h9), hS1, by omega, by omega⟩ hl
theorem vV_v {cc : ByteArray} {nL : Nat} {own : String} {rm : Room} {κ : KX} (hκ : Cx cc nL own rm κ) {pc : Nat} {lv : List (Nat × Value)} {st : List Value} (hz : Vz κ) {S : wPS} {k n : Nat} {y : MethodName} {cb : ByteArray} {maxL nA idx mc2 ms2 : Nat} {ret : Option FieldType} {rm2 : Room} {stk : List Value} (av : List Value) {post : wPS → Prop} {C : String} {b : Nat} (sd : VD C y cb maxL ret nA) (hlk : Cond.methodLink own idx y ∈ GA) (hrc : ∀ (D : va_G) (cO : ClassId) (H : Heap) (s : State), va_K D vwCl [(cO, .object "java/lang/Object")] s → va_P D vwCl (pool cO S) H → ∃ cell : Cell, H[b]? = some cell ∧ cell.vm.isStatics = false ∧ s.vm.findClass C = some cell.cls) (hM : MVv y cb maxL ret rm2 S (.ref b :: av) post mc2 ms2) (hrm : RmOk rm2 rm mc2 ms2 maxL) (hn : av.length = nA) (hstk : stk = av.reverse ++ .ref b :: st) (hw : (st.map fun v => v.category).sum ≤ 8) (hdg : decode cc pc = .ok (.invokevirtual idx, 3)) (hk9 : mc2 ≤ k) (hn9 : ms2 ≤ n) (kk : ∀ S1 : wPS, post S1 → Gj κ (PV κ S1 (k - mc2) (n - ms2)) (pc + 3) lv st) : Gj κ (PV κ S k n) pc lv stk := by
  subst hstk
  obtain ⟨p, l, e, R, s, m, args, below, meth, c, Q, D, cO, e0, A, mc, ms⟩ := κ
  obtain ⟨hx, hb, hml, hown, hts, hK, hG, hR, hlk⟩ := hκ
  obtain ⟨hA, hH, hmc, hms⟩ := hz
  intro H locs cells slots ls hF hl
  obtain ⟨hP, hD, hS, hc, hs⟩ := hF
  have hf9 := pool_free (D := D) hD hS hA
  refine va_callv (va_runV (As := av) (rest := st) ⟨hx, hb, rfl, hown, hts⟩ (hM l D cO e0 H.size) ⟨cb_of hts (hR ▸ hrm) sd.1.2.2.2 sd.1.2.2.1 sd.2.1 sd.2.2.1 sd.2.2.2 hlk, hts _ sd.1.1, hts _ sd.1.2.1⟩ ⟨CP.blind, hrc D cO H s hK hP, CP.pre hK hG hH hP hD hS hA⟩ rfl hn hl.1 rfl (lv_room hw) hdg ⟨by omega, by omega⟩) hS (fun q _ h9 => hf9 q h9) hf9 (fun u t H1 locs1 ht hvm hw1 hB hz1 hk1 hS1 => ?_)
  obtain ⟨hP1, hD1⟩ := hB
  rw [ht] at hP1
  exact kk u hw1 H1 locs1 (cells + mc2) (slots + ms2) ls ⟨hP1, hD1.weaken (fun k9 q9 _ h9 => hf9 q9.1 h9), hS1, by omega, by omega⟩ hl
theorem vV_i {cc : ByteArray} {nL : Nat} {own : String} {rm : Room} {κ : KX} (hκ : Cx cc nL own rm κ) {pc : Nat} {lv : List (Nat × Value)} {st : List Value} (hz : Vz κ) {S : wPS} {k n : Nat} {y : MethodName} {cb : ByteArray} {maxL nA idx mc2 ms2 : Nat} {ret : Option FieldType} {rm2 : Room} {stk : List Value} (av : List Value) {post : Int32 → wPS → Prop} {C : String} {b : Nat} (sd : VD C y cb maxL ret nA) (hlk : Cond.methodLink own idx y ∈ GA) (hrc : ∀ (D : va_G) (cO : ClassId) (H : Heap) (s : State), va_K D vwCl [(cO, .object "java/lang/Object")] s → va_P D vwCl (pool cO S) H → ∃ cell : Cell, H[b]? = some cell ∧ cell.vm.isStatics = false ∧ s.vm.findClass C = some cell.cls) (hM : MVi y cb maxL ret rm2 S (.ref b :: av) post mc2 ms2) (hrm : RmOk rm2 rm mc2 ms2 maxL) (hn : av.length = nA) (hstk : stk = av.reverse ++ .ref b :: st) (hw : (st.map fun v => v.category).sum ≤ 8) (hdg : decode cc pc = .ok (.invokevirtual idx, 3)) (hk9 : mc2 ≤ k) (hn9 : ms2 ≤ n) (kk : ∀ (r : Int32) (S1 : wPS), post r S1 → Gj κ (PV κ S1 (k - mc2) (n - ms2)) (pc + 3) lv (.int r :: st)) : Gj κ (PV κ S k n) pc lv stk := by
  subst hstk
  obtain ⟨p, l, e, R, s, m, args, below, meth, c, Q, D, cO, e0, A, mc, ms⟩ := κ
  obtain ⟨hx, hb, hml, hown, hts, hK, hG, hR, hlk⟩ := hκ
  obtain ⟨hA, hH, hmc, hms⟩ := hz
  intro H locs cells slots ls hF hl
  obtain ⟨hP, hD, hS, hc, hs⟩ := hF
  have hf9 := pool_free (D := D) hD hS hA
  refine va_calli (va_runV (As := av) (rest := st) ⟨hx, hb, rfl, hown, hts⟩ (hM l D cO e0 H.size) ⟨cb_of hts (hR ▸ hrm) sd.1.2.2.2 sd.1.2.2.1 sd.2.1 sd.2.2.1 sd.2.2.2 hlk, hts _ sd.1.1, hts _ sd.1.2.1⟩ ⟨CP.blind, hrc D cO H s hK hP, CP.pre hK hG hH hP hD hS hA⟩ rfl hn hl.1 rfl (lv_room hw) hdg ⟨by omega, by omega⟩) hS (fun q _ h9 => hf9 q h9) hf9 (fun r u t H1 locs1 ht hvm hw1 hB hz1 hk1 hS1 => ?_)
  obtain ⟨hP1, hD1⟩ := hB
  rw [ht] at hP1
  exact kk r u hw1 H1 locs1 (cells + mc2) (slots + ms2) ls ⟨hP1, hD1.weaken (fun k9 q9 _ h9 => hf9 q9.1 h9), hS1, by omega, by omega⟩ hl
theorem vV_q {cc : ByteArray} {nL : Nat} {own : String} {rm : Room} {κ : KX} (hκ : Cx cc nL own rm κ) {pc : Nat} {lv : List (Nat × Value)} {st : List Value} (hz : Vz κ) {S : wPS} {k n : Nat} {y : MethodName} {cb : ByteArray} {maxL nA idx mc2 ms2 : Nat} {ret : Option FieldType} {rm2 : Room} {stk : List Value} (av : List Value) {post : Option Nat → wPS → Prop} {C : String} {b : Nat} (sd : VD C y cb maxL ret nA) (hlk : Cond.methodLink own idx y ∈ GA) (hrc : ∀ (D : va_G) (cO : ClassId) (H : Heap) (s : State), va_K D vwCl [(cO, .object "java/lang/Object")] s → va_P D vwCl (pool cO S) H → ∃ cell : Cell, H[b]? = some cell ∧ cell.vm.isStatics = false ∧ s.vm.findClass C = some cell.cls) (hM : MVq y cb maxL ret rm2 S (.ref b :: av) post mc2 ms2) (hrm : RmOk rm2 rm mc2 ms2 maxL) (hn : av.length = nA) (hstk : stk = av.reverse ++ .ref b :: st) (hw : (st.map fun v => v.category).sum ≤ 8) (hdg : decode cc pc = .ok (.invokevirtual idx, 3)) (hk9 : mc2 ≤ k) (hn9 : ms2 ≤ n) (kk : ∀ (r : Option Nat) (S1 : wPS), post r S1 → Gj κ (PV κ S1 (k - mc2) (n - ms2)) (pc + 3) lv (va_rf r :: st)) : Gj κ (PV κ S k n) pc lv stk := by
  subst hstk
  obtain ⟨p, l, e, R, s, m, args, below, meth, c, Q, D, cO, e0, A, mc, ms⟩ := κ
  obtain ⟨hx, hb, hml, hown, hts, hK, hG, hR, hlk⟩ := hκ
  obtain ⟨hA, hH, hmc, hms⟩ := hz
  intro H locs cells slots ls hF hl
  obtain ⟨hP, hD, hS, hc, hs⟩ := hF
  have hf9 := pool_free (D := D) hD hS hA
  refine va_callq (va_runV (As := av) (rest := st) ⟨hx, hb, rfl, hown, hts⟩ (hM l D cO e0 H.size) ⟨cb_of hts (hR ▸ hrm) sd.1.2.2.2 sd.1.2.2.1 sd.2.1 sd.2.2.1 sd.2.2.2 hlk, hts _ sd.1.1, hts _ sd.1.2.1⟩ ⟨CP.blind, hrc D cO H s hK hP, CP.pre hK hG hH hP hD hS hA⟩ rfl hn hl.1 rfl (lv_room hw) hdg ⟨by omega, by omega⟩) hS (fun q _ h9 => hf9 q h9) hf9 (fun r u t H1 locs1 ht hvm hw1 hB hz1 hk1 hS1 => ?_)
  obtain ⟨hP1, hD1⟩ := hB
  rw [ht] at hP1
  exact kk r u hw1 H1 locs1 (cells + mc2) (slots + ms2) ls ⟨hP1, hD1.weaken (fun k9 q9 _ h9 => hf9 q9.1 h9), hS1, by omega, by omega⟩ hl
theorem vI_v {cc : ByteArray} {nL : Nat} {own : String} {rm : Room} {κ : KX} (hκ : Cx cc nL own rm κ) {pc : Nat} {lv : List (Nat × Value)} {st : List Value} (hz : Vz κ) {S : wPS} {k n : Nat} {y : MethodName} {cb : ByteArray} {maxL nA idx mc2 ms2 : Nat}  {rm2 : Room} {stk : List Value} (av : List Value) {post : wPS → Prop} {b : Nat} (sd : ID y cb maxL nA) (hlk : Cond.methodLink own idx y ∈ GA) (hM : MVv y cb maxL none rm2 S (.ref b :: av) post mc2 ms2) (hrm : RmOk rm2 rm mc2 ms2 maxL) (hn : av.length = nA) (hstk : stk = av.reverse ++ .ref b :: st) (hw : (st.map fun v => v.category).sum ≤ 8) (hdg : decode cc pc = .ok (.invokespecial idx, 3)) (hk9 : mc2 ≤ k) (hn9 : ms2 ≤ n) (kk : ∀ S1 : wPS, post S1 → Gj κ (PV κ S1 (k - mc2) (n - ms2)) (pc + 3) lv st) : Gj κ (PV κ S k n) pc lv stk := by
  subst hstk
  obtain ⟨p, l, e, R, s, m, args, below, meth, c, Q, D, cO, e0, A, mc, ms⟩ := κ
  obtain ⟨hx, hb, hml, hown, hts, hK, hG, hR, hlk⟩ := hκ
  obtain ⟨hA, hH, hmc, hms⟩ := hz
  intro H locs cells slots ls hF hl
  obtain ⟨hP, hD, hS, hc, hs⟩ := hF
  have hf9 := pool_free (D := D) hD hS hA
  refine va_callv (va_runI (As := av) (rest := st) ⟨hx, hb, rfl, hown, hts⟩ (hM l D cO e0 H.size) ⟨cb_of hts (hR ▸ hrm) sd.1.2.2 sd.1.2.1 sd.2.2.1 sd.2.2.2.1 sd.2.2.2.2 hlk, sd.2.1, hts _ sd.1.1⟩ ⟨CP.blind, CP.pre hK hG hH hP hD hS hA⟩ rfl hn hl.1 rfl (lv_room hw) hdg ⟨by omega, by omega⟩) hS (fun q _ h9 => hf9 q h9) hf9 (fun u t H1 locs1 ht hvm hw1 hB hz1 hk1 hS1 => ?_)
  obtain ⟨hP1, hD1⟩ := hB
  rw [ht] at hP1
  exact kk u hw1 H1 locs1 (cells + mc2) (slots + ms2) ls ⟨hP1, hD1.weaken (fun k9 q9 _ h9 => hf9 q9.1 h9), hS1, by omega, by omega⟩ hl
theorem vIN_v {cc : ByteArray} {nL : Nat} {own : String} {rm : Room} {κ : KX} (hκ : Cx cc nL own rm κ) {pc : Nat} {lv : List (Nat × Value)} {st : List Value} (hz : Vz κ) {S : wPS} {k n : Nat} {y : MethodName} {cb : ByteArray} {maxL nA idx mc2 ms2 : Nat}  {rm2 : Room} {stk : List Value} (av : List Value) {post : wPS → Prop} {b : Nat} (sd : ID y cb maxL nA) {host : String} (hlk : (own, idx, y, host) ∈ nestM) (hM : MVv y cb maxL none rm2 S (.ref b :: av) post mc2 ms2) (hrm : RmOk rm2 rm mc2 ms2 maxL) (hn : av.length = nA) (hstk : stk = av.reverse ++ .ref b :: st) (hw : (st.map fun v => v.category).sum ≤ 8) (hdg : decode cc pc = .ok (.invokespecial idx, 3)) (hk9 : mc2 ≤ k) (hn9 : ms2 ≤ n) (kk : ∀ S1 : wPS, post S1 → Gj κ (PV κ S1 (k - mc2) (n - ms2)) (pc + 3) lv st) : Gj κ (PV κ S k n) pc lv stk := by
  subst hstk
  obtain ⟨p, l, e, R, s, m, args, below, meth, c, Q, D, cO, e0, A, mc, ms⟩ := κ
  obtain ⟨hx, hb, hml, hown, hts, hK, hG, hR, hlk⟩ := hκ
  obtain ⟨hA, hH, hmc, hms⟩ := hz
  intro H locs cells slots ls hF hl
  obtain ⟨hP, hD, hS, hc, hs⟩ := hF
  have hf9 := pool_free (D := D) hD hS hA
  refine va_callv (va_runIN (As := av) (rest := st) ⟨hx, hb, rfl, hown, hts⟩ (hM l D cO e0 H.size) ⟨cn_of hts hG (hR ▸ hrm) sd.1.2.2 sd.1.2.1 sd.2.2.1 sd.2.2.2.1 sd.2.2.2.2 hlk, sd.2.1, hts _ sd.1.1⟩ ⟨CP.blind, CP.pre hK hG hH hP hD hS hA⟩ rfl hn hl.1 rfl (lv_room hw) hdg ⟨by omega, by omega⟩) hS (fun q _ h9 => hf9 q h9) hf9 (fun u t H1 locs1 ht hvm hw1 hB hz1 hk1 hS1 => ?_)
  obtain ⟨hP1, hD1⟩ := hB
  rw [ht] at hP1
  exact kk u hw1 H1 locs1 (cells + mc2) (slots + ms2) ls ⟨hP1, hD1.weaken (fun k9 q9 _ h9 => hf9 q9.1 h9), hS1, by omega, by omega⟩ hl
theorem vU_v {cc : ByteArray} {nL : Nat} {own : String} {rm : Room} {κ : KX} (hκ : Cx cc nL own rm κ) {pc : Nat} {lv : List (Nat × Value)} {st : List Value} (hz : Vz κ) {S : wPS} {k n : Nat} {y : MethodName} {cb : ByteArray} {maxL nA idx mc2 ms2 : Nat} {ret : Option FieldType} {rm2 : Room} {stk : List Value} (av : List Value) {post : wPS → Prop} {C owner : String} {x : MethodName} {b : Nat} (sd : UD C owner x y cb maxL ret nA) (hlk : Cond.methodLink own idx x ∈ GA) (hde : (⟨owner, x.name, x.desc⟩ : MethodName) ∈ declN) (hrc : ∀ (D : va_G) (cO : ClassId) (H : Heap) (s : State), va_K D vwCl [(cO, .object "java/lang/Object")] s → va_P D vwCl (pool cO S) H → ∃ cell : Cell, H[b]? = some cell ∧ cell.vm.isStatics = false ∧ s.vm.findClass C = some cell.cls) (hM : MVv y cb maxL ret rm2 S (.ref b :: av) post mc2 ms2) (hrm : RmOk rm2 rm mc2 ms2 maxL) (hn : av.length = nA) (hstk : stk = av.reverse ++ .ref b :: st) (hw : (st.map fun v => v.category).sum ≤ 8) (hdg : decode cc pc = .ok (.invokevirtual idx, 3)) (hk9 : mc2 ≤ k) (hn9 : ms2 ≤ n) (kk : ∀ S1 : wPS, post S1 → Gj κ (PV κ S1 (k - mc2) (n - ms2)) (pc + 3) lv st) : Gj κ (PV κ S k n) pc lv stk := by
  subst hstk
  obtain ⟨p, l, e, R, s, m, args, below, meth, c, Q, D, cO, e0, A, mc, ms⟩ := κ
  obtain ⟨hx, hb, hml, hown, hts, hK, hG, hR, hlk⟩ := hκ
  obtain ⟨hA, hH, hmc, hms⟩ := hz
  intro H locs cells slots ls hF hl
  obtain ⟨hP, hD, hS, hc, hs⟩ := hF
  have hf9 := pool_free (D := D) hD hS hA
  refine va_callv (va_runU (As := av) (rest := st) ⟨hx, hb, rfl, hown, hts⟩ (hM l D cO e0 H.size) ⟨⟨hrm.1, hrm.2.1, (hR ▸ hrm).2.2.1, (hR ▸ hrm).2.2.2, pay_in hts (ga_c sd.1.2.2.2.2), List.mem_cons_self⟩, hts _ sd.1.2.2.2.2, hts _ sd.1.2.2.2.1, ⟨sd.2.2.1, sd.2.2.2.1⟩, sig_of sd.2.2.2.2, hts _ hlk, hts _ sd.1.1, va_Decl.abs (hG.2.2.2.2.1 _ hde), hts _ sd.1.2.1, hts _ sd.1.2.2.1⟩ ⟨CP.blind, hrc D cO H s hK hP, CP.pre hK hG hH hP hD hS hA⟩ rfl hn hl.1 rfl (lv_room hw) hdg ⟨by omega, by omega⟩) hS (fun q _ h9 => hf9 q h9) hf9 (fun u t H1 locs1 ht hvm hw1 hB hz1 hk1 hS1 => ?_)
  obtain ⟨hP1, hD1⟩ := hB
  rw [ht] at hP1
  exact kk u hw1 H1 locs1 (cells + mc2) (slots + ms2) ls ⟨hP1, hD1.weaken (fun k9 q9 _ h9 => hf9 q9.1 h9), hS1, by omega, by omega⟩ hl
theorem wU_Arr {A : Nat → Prop} (cO : ClassId) (S : wPS) {a k : Nat} (hD : va_D A (pool cO S)) (hO : a ∈ sL S ∧ sK S a = 12) (hk : (pool cO S)[k]? = some (a, wF cO S a)) (f : Nat → Option Nat) : (pool cO S).set k (a, .inl (cO, sN S a, .inr (.inr (.inr (.inr f))))) = pool cO (putW S a f) := by
  refine w_set hD hO.1 hk rfl (fun b hb => ?_) ?_
  · have h : sW (putW S a f) b = sW S b := if_neg hb
    show wE cO (sK S b) (fun c2 => sI S c2 b) (fun c2 => sR S c2 b) (sN S b) (sW (putW S a f) b) = _
    rw [h]; rfl
  · refine (wA_Arr cO (putW S a f) hO.2).trans ?_
    have h : sW (putW S a f) a = f := if_pos rfl
    rw [h]; rfl
theorem ga_len {cc : ByteArray} {nL : Nat} {own : String} {rm : Room} {κ : KX} (hκ : Cx cc nL own rm κ) {Φ : HQ} {pc : Nat} {lv : List (Nat × Value)} {st : List Value} {S : wPS} (hΦ : Hd κ Φ S) {a : Nat} (hO : a ∈ sL S ∧ sK S a = 12) (hdg : decode cc pc = .ok (.arraylength, 1)) (kk : Gj κ Φ (pc + 1) lv (.int (Int32.ofNat (sN S a)) :: st)) : Gj κ Φ pc lv (.ref a :: st) := by
  obtain ⟨p, l, e, R, s, m, args, below, meth, c, Q, D, cO, e0, A, mc, ms⟩ := κ
  obtain ⟨hx, hb, hml, hown, hts, hK, hG, hR, hlk⟩ := hκ
  intro H locs cells slots ls hF hl
  obtain ⟨k0, hk0, hk1⟩ := wG_Arr cO S hO
  exact va_alen hx hb hK (hΦ H locs cells slots hF).1 k0 0 hk1 rfl rfl hdg (kk H locs cells slots ls hF hl)
theorem ga_ald {cc : ByteArray} {nL : Nat} {own : String} {rm : Room} {κ : KX} (hκ : Cx cc nL own rm κ) {Φ : HQ} {pc : Nat} {lv : List (Nat × Value)} {st : List Value} {S : wPS} (hΦ : Hd κ Φ S) {a : Nat} {i : Int32} (hO : a ∈ sL S ∧ sK S a = 12) (hin : vp_in i (sN S a)) (hdg : decode cc pc = .ok (.aaload, 1)) (kk : Gj κ Φ (pc + 1) lv (va_rf (sW S a i.toNatClampNeg) :: st)) : Gj κ Φ pc lv (.int i :: .ref a :: st) := by
  obtain ⟨p, l, e, R, s, m, args, below, meth, c, Q, D, cO, e0, A, mc, ms⟩ := κ
  obtain ⟨hx, hb, hml, hown, hts, hK, hG, hR, hlk⟩ := hκ
  intro H locs cells slots ls hF hl
  obtain ⟨k0, hk0, hk1⟩ := wG_Arr cO S hO
  exact va_aldq hx hb hK (hΦ H locs cells slots hF).1 k0 0 hk1 rfl hin hdg (kk H locs cells slots ls hF hl)
theorem ga_e0len {cc : ByteArray} {nL : Nat} {own : String} {rm : Room} {κ : KX} (hκ : Cx cc nL own rm κ) {pc : Nat} {lv : List (Nat × Value)} {st : List Value} (hz : Vz κ) {S : wPS} {k n e1 : Nat} (he : e1 = κ.2.2.2.2.2.2.2.2.2.2.2.2.2.1) (hdg : decode cc pc = .ok (.arraylength, 1)) (kk : Gj κ (PV κ S k n) (pc + 1) lv (.int 0 :: st)) : Gj κ (PV κ S k n) pc lv (.ref e1 :: st) := by
  obtain ⟨p, l, e, R, s, m, args, below, meth, c, Q, D, cO, e0, A, mc, ms⟩ := κ
  obtain ⟨hx, hb, hml, hown, hts, hK, hG, hR, hlk⟩ := hκ
  obtain ⟨hA, hH, hmc, hms⟩ := hz
  intro H locs cells slots ls hF hl
  subst he
  exact va_tlen hx hb hH.2.1 hF.2.2.1 rfl hdg (kk H locs cells slots ls hF hl)
theorem ga_e0 {cc : ByteArray} {nL : Nat} {own : String} {rm : Room} {κ : KX} (hκ : Cx cc nL own rm κ) {pc : Nat} {lv : List (Nat × Value)} {st : List Value} (hz : Vz κ) {S : wPS} {k n idx : Nat} (hlink : Cond.fieldLink own idx "java/util/ArrayList" "DEFAULTCAPACITY_EMPTY_ELEMENTDATA" "[Ljava/lang/Object;" ∈ GA) (hdg : decode cc pc = .ok (.getstatic idx, 3)) (kk : ∀ e1 : Nat, e1 = κ.2.2.2.2.2.2.2.2.2.2.2.2.2.1 → Gj κ (PV κ S k n) (pc + 3) lv (.ref e1 :: st)) : Gj κ (PV κ S k n) pc lv st := by
  obtain ⟨p, l, e, R, s, m, args, below, meth, c, Q, D, cO, e0, A, mc, ms⟩ := κ
  obtain ⟨hx, hb, hml, hown, hts, hK, hG, hR, hlk⟩ := hκ
  obtain ⟨hA, hH, hmc, hms⟩ := hz
  intro H locs cells slots ls hF hl
  exact va_gets hx hb hH.1 hF.2.2.1 hown (hts _ hlink) (fun _ h9 => h9) hdg (kk e0 rfl H locs cells slots ls hF hl)
theorem ga_ast {cc : ByteArray} {nL : Nat} {own : String} {rm : Room} {κ : KX} (hκ : Cx cc nL own rm κ) {pc : Nat} {lv : List (Nat × Value)} {st : List Value} (hz : Vz κ) {S : wPS} {k n a v : Nat} {i : Int32} {C : String} (hO : a ∈ sL S ∧ sK S a = 12) (hin : vp_in i (sN S a)) (hca : C ∈ castO) (hrc : ∀ (D : va_G) (cO : ClassId) (H : Heap) (s : State), va_K D vwCl [(cO, .object "java/lang/Object")] s → va_P D vwCl (pool cO S) H → ∃ cell : Cell, H[v]? = some cell ∧ cell.vm.isStatics = false ∧ s.vm.findClass C = some cell.cls) (hdg : decode cc pc = .ok (.aastore, 1)) (kk : Gj κ (PV κ (putW S a (va_up (sW S a) i.toNatClampNeg (some v))) k n) (pc + 1) lv st) : Gj κ (PV κ S k n) pc lv (.ref v :: .int i :: .ref a :: st) := by
  obtain ⟨p, l, e, R, s, m, args, below, meth, c, Q, D, cO, e0, A, mc, ms⟩ := κ
  obtain ⟨hx, hb, hml, hown, hts, hK, hG, hR, hlk⟩ := hκ
  obtain ⟨hA, hH, hmc, hms⟩ := hz
  intro H locs cells slots ls hF hl
  obtain ⟨hP, hD, hS, hc, hs⟩ := hF
  obtain ⟨k0, hk0, hk1⟩ := wG_Arr cO S hO
  have eq9 := wU_Arr cO S hD hO hk0 (va_up (sW S a) i.toNatClampNeg (some v))
  refine vb_astq hx hb hK hP hD hS k0 0 hk1 rfl (hrc D cO H s hK hP) (vb_asgC (hG.2.2.2.1 _ hca)) hin hdg (fun H1 locs1 hP1 hD1 hS1 => ?_)
  exact kk H1 locs1 cells slots ls ⟨Eq.mp (congrArg (fun z => va_P D vwCl z H1) eq9) hP1, Eq.mp (congrArg (fun z => va_D A z) eq9) hD1, hS1, hc, hs⟩ hl
theorem arr_one {D : va_G} {cO cA : ClassId} {s : State} (hK : va_K D vwCl ([(cO, .object "java/lang/Object")] ++ [(cA, .object "java/lang/Object")]) s) : cA = cO := by
  obtain ⟨-, k1, c1, -, -, -, h1⟩ := hK.2 0 _ rfl
  obtain ⟨-, k2, c2, -, -, -, h2⟩ := hK.2 1 _ rfl
  exact Option.some.inj (h2.symm.trans h1)
theorem ga_new {cc : ByteArray} {nL : Nat} {own : String} {rm : Room} {κ : KX} (hκ : Cx cc nL own rm κ) {pc : Nat} {lv : List (Nat × Value)} {st : List Value} (hz : Vz κ) {S : wPS} {k n idx N : Nat} {i : Int32} (hcl : Cond.classLink own idx "java/lang/Object" ∈ GA) (h0 : ¬ i < 0) (hN : i.toNatClampNeg = N) (hN2 : N ≤ 100000) (hk : 1 ≤ k) (hn : N ≤ n) (hdg : decode cc pc = .ok (.anewarray idx, 3)) (kk : ∀ a : Nat, a ∉ sL S → Gj κ (PV κ (newS S a 12 N) (k - 1) (n - N)) (pc + 3) lv (.ref a :: st)) : Gj κ (PV κ S k n) pc lv (.int i :: st) := by
  obtain ⟨p, l, e, R, s, m, args, below, meth, c, Q, D, cO, e0, A, mc, ms⟩ := κ
  obtain ⟨hx, hb, hml, hown, hts, hK, hG, hR, hlk⟩ := hκ
  obtain ⟨hA, hH, hmc, hms⟩ := hz
  intro H locs cells slots ls hF hl
  obtain ⟨hP, hD, hS, hc, hs⟩ := hF
  refine va_newq hx hb hown (hts _ hcl) hG.2.2.2.2.2.1 hK hP hD hS hA h0 hN (by omega) (by omega) (by omega) hdg (fun a cA H1 hK1 hP1 hD1 hS1 => ?_)
  obtain rfl := arr_one hK1
  obtain ⟨eq9, hf⟩ := w_new cA S 12 N hD1 rfl
  exact kk a hf H1 locs (cells + 1) (slots + N) ls ⟨Eq.mp (congrArg (fun z => va_P D vwCl z H1) eq9) hP1, Eq.mp (congrArg (fun z => va_D A z) eq9) hD1, hS1, by omega, by omega⟩ hl
theorem g_max {cc : ByteArray} {nL : Nat} {own : String} {rm : Room} {κ : KX} (hκ : Cx cc nL own rm κ) {Φ : HQ} {pc : Nat} {lv : List (Nat × Value)} {st : List Value} {S : wPS} (hΦ : Hd κ Φ S) {x y : Int32} {idx : Nat} (hlk : Cond.methodLink own idx Lib.Math.max.name ∈ GA) (hrm : 1 ≤ rm.frames ∧ (st.map fun v => v.category).sum + 13 ≤ rm.locals) (hdg : decode cc pc = .ok (.invokestatic idx, 3)) (kk : Gj κ Φ (pc + 3) lv (.int (if x < y then y else x) :: st)) : Gj κ Φ pc lv (.int y :: .int x :: st) := by
  obtain ⟨p, l, e, R, s, m, args, below, meth, c, Q, D, cO, e0, A, mc, ms⟩ := κ
  obtain ⟨hx, hb, hml, hown, hts, hK, hG, hR, hlk⟩ := hκ
  intro H locs cells slots ls hF hl
  obtain ⟨hP, hc9, hs9⟩ := hΦ H locs cells slots hF
  exact va_mmax hx hb hl.1.symm hown (hts _ hlk) (hts _ qm_max_s) (hts _ qm_i) (hts _ qm_max_c) (hR ▸ hrm).1 (hR ▸ hrm).2 hc9 hs9 hdg (kk H locs cells slots ls hF hl)
theorem g_min {cc : ByteArray} {nL : Nat} {own : String} {rm : Room} {κ : KX} (hκ : Cx cc nL own rm κ) {Φ : HQ} {pc : Nat} {lv : List (Nat × Value)} {st : List Value} {S : wPS} (hΦ : Hd κ Φ S) {x y : Int32} {idx : Nat} (hlk : Cond.methodLink own idx Lib.Math.min.name ∈ GA) (hrm : 1 ≤ rm.frames ∧ (st.map fun v => v.category).sum + 13 ≤ rm.locals) (hdg : decode cc pc = .ok (.invokestatic idx, 3)) (kk : Gj κ Φ (pc + 3) lv (.int (if y < x then y else x) :: st)) : Gj κ Φ pc lv (.int y :: .int x :: st) := by
  obtain ⟨p, l, e, R, s, m, args, below, meth, c, Q, D, cO, e0, A, mc, ms⟩ := κ
  obtain ⟨hx, hb, hml, hown, hts, hK, hG, hR, hlk⟩ := hκ
  intro H locs cells slots ls hF hl
  obtain ⟨hP, hc9, hs9⟩ := hΦ H locs cells slots hF
  exact va_mmin hx hb hl.1.symm hown (hts _ hlk) (hts _ qm_min_s) (hts _ qm_i) (hts _ qm_min_c) (hR ▸ hrm).1 (hR ▸ hrm).2 hc9 hs9 hdg (kk H locs cells slots ls hF hl)
theorem stR {y : MethodName} {cc : ByteArray} {nL : Nat} {ret : Option FieldType} {rm : Room} {S : wPS} {av : List Value} {Qc : Array Value → State → Outcome → State → Prop} (hy : plainName y.cls = true) (hlen : (lg_sl av).length ≤ nL)
    (body : ∀ (p : Program) (l : Launch) (e : Env) (s : State) (m : MethodId) (below : List Frame) (meth : Method) (c : Code) (D : va_G) (cO : ClassId), meth.sig.returnType = ret → Cx cc nL y.cls rm (p, l, e, rm, s, m, av.toArray, below, meth, c, MQ below Qc av.toArray s 0 0 (fun _ => False), D, cO, 0, (fun _ => False), 0, 0) → Gj (p, l, e, rm, s, m, av.toArray, below, meth, c, MQ below Qc av.toArray s 0 0 (fun _ => False), D, cO, 0, (fun _ => False), 0, 0) (PR (p, l, e, rm, s, m, av.toArray, below, meth, c, MQ below Qc av.toArray s 0 0 (fun _ => False), D, cO, 0, (fun _ => False), 0, 0) S) 0 (lv_args 0 av) []) : MR y cc nL ret rm S av Qc := by
  intro l D cO
  refine Met.ofW (cc := cc) (maxL := nL) (ret := ret) hy rfl ?_
  intro p e s m args below meth c s₁ B hml hv
  obtain ⟨rfl, hP, hK, hG⟩ := hv
  have hts := atoms_spec (ws := Cond.code y cc nL ret :: GA) B.pre
  have h := body p l e s m below meth c D cO B.returns ⟨B.exec, B.bytes, hml, findClass_of_methodNamed B.named, fun w hw => hts w (List.mem_cons_of_mem _ hw), hK, hG, rfl, B.notSynchronized⟩ s.heap [] 0 0 _ ⟨hP, rfl, rfl, rfl, rfl⟩ (hml.symm ▸ lv_entry av hlen)
  rw [lg_entry_eq]
  exact h
theorem stR_i {y : MethodName} {cc : ByteArray} {nL : Nat} {ret : Option FieldType} {rm : Room} {S : wPS} {av : List Value} {ty : FieldType} {post : Int32 → Prop} (hy : plainName y.cls = true) (hlen : (lg_sl av).length ≤ nL) (hret : ret = some ty) (hfit : ∀ v : Int32, post v → narrow ty (.int v) = .int v) (body : ∀ κ : KX, Cx cc nL y.cls rm κ → (∀ (pc : Nat) (lv : List (Nat × Value)) (r : Int32), decode cc pc = .ok (.ireturn, 1) → post r → Gj κ (PR κ S) pc lv [.int r]) → Gj κ (PR κ S) 0 (lv_args 0 av) []) : MR y cc nL ret rm S av (vp_Si post) := by
  refine stR hy hlen (fun p l e s m below meth c D cO hr hκ => body _ hκ ?_)
  obtain ⟨hx, hb, hml, hown, hts, hK, hG, hR, hlk⟩ := hκ
  intro pc lv r hd hp H locs cells slots ls hF hl
  obtain ⟨hP, rfl, rfl, rfl, rfl⟩ := hF
  exact W.zret hx hb (hr.trans hret) (hfit r hp) (fun t ht hW => ⟨r, rfl, hp, ht⟩) (fun q hq => absurd hq List.not_mem_nil) hd hlk
theorem stR_l {y : MethodName} {cc : ByteArray} {nL : Nat} {ret : Option FieldType} {rm : Room} {S : wPS} {av : List Value} {post : Int64 → Prop} (hy : plainName y.cls = true) (hlen : (lg_sl av).length ≤ nL) (hret : ret = some .long) (body : ∀ κ : KX, Cx cc nL y.cls rm κ → (∀ (pc : Nat) (lv : List (Nat × Value)) (r : Int64), decode cc pc = .ok (.lreturn, 1) → post r → Gj κ (PR κ S) pc lv [.long r]) → Gj κ (PR κ S) 0 (lv_args 0 av) []) : MR y cc nL ret rm S av (vp_Sl post) := by
  refine stR hy hlen (fun p l e s m below meth c D cO hr hκ => body _ hκ ?_)
  obtain ⟨hx, hb, hml, hown, hts, hK, hG, hR, hlk⟩ := hκ
  intro pc lv r hd hp H locs cells slots ls hF hl
  obtain ⟨hP, rfl, rfl, rfl, rfl⟩ := hF
  exact W.lret hx hb (hr.trans hret) (fun t ht hW => ⟨r, rfl, hp, ht⟩) (fun q hq => absurd hq List.not_mem_nil) hd hlk
theorem stR_d {y : MethodName} {cc : ByteArray} {nL : Nat} {ret : Option FieldType} {rm : Room} {S : wPS} {av : List Value} {post : UInt64 → Prop} (hy : plainName y.cls = true) (hlen : (lg_sl av).length ≤ nL) (hret : ret = some .double) (body : ∀ κ : KX, Cx cc nL y.cls rm κ → (∀ (pc : Nat) (lv : List (Nat × Value)) (r : UInt64), decode cc pc = .ok (.dreturn, 1) → post r → Gj κ (PR κ S) pc lv [.double r]) → Gj κ (PR κ S) 0 (lv_args 0 av) []) : MR y cc nL ret rm S av (vp_Sd post) := by
  refine stR hy hlen (fun p l e s m below meth c D cO hr hκ => body _ hκ ?_)
  obtain ⟨hx, hb, hml, hown, hts, hK, hG, hR, hlk⟩ := hκ
  intro pc lv r hd hp H locs cells slots ls hF hl
  obtain ⟨hP, rfl, rfl, rfl, rfl⟩ := hF
  exact W.dret hx hb (hr.trans hret) (fun t ht hW => ⟨r, rfl, hp, ht⟩) (fun q hq => absurd hq List.not_mem_nil) hd hlk
theorem stR_q {y : MethodName} {cc : ByteArray} {nL : Nat} {ret : Option FieldType} {rm : Room} {S : wPS} {av : List Value} {ty : FieldType} {post : Option Nat → Prop} (hy : plainName y.cls = true) (hlen : (lg_sl av).length ≤ nL) (hret : ret = some ty) (hty : (∃ n, ty = .object n) ∨ ∃ t, ty = .array t) (body : ∀ κ : KX, Cx cc nL y.cls rm κ → (∀ (pc : Nat) (lv : List (Nat × Value)) (r : Option Nat), decode cc pc = .ok (.areturn, 1) → post r → Gj κ (PR κ S) pc lv [va_rf r]) → Gj κ (PR κ S) 0 (lv_args 0 av) []) : MR y cc nL ret rm S av (va_Sq post) := by
  refine stR hy hlen (fun p l e s m below meth c D cO hr hκ => body _ hκ ?_)
  obtain ⟨hx, hb, hml, hown, hts, hK, hG, hR, hlk⟩ := hκ
  intro pc lv r hd hp H locs cells slots ls hF hl
  obtain ⟨hP, rfl, rfl, rfl, rfl⟩ := hF
  exact W.aret hx hb (hr.trans hret) hty (va_rf_or r) (fun t ht hW => ⟨r, rfl, hp, ht⟩) (fun q hq => absurd hq List.not_mem_nil) hd hlk
theorem stR_v {y : MethodName} {cc : ByteArray} {nL : Nat} {ret : Option FieldType} {rm : Room} {S : wPS} {av : List Value} {post : Unit → Prop} (hy : plainName y.cls = true) (hlen : (lg_sl av).length ≤ nL) (hret : ret = none) (body : ∀ κ : KX, Cx cc nL y.cls rm κ → (∀ (pc : Nat) (lv : List (Nat × Value)), decode cc pc = .ok (.return_, 1) → post () → Gj κ (PR κ S) pc lv []) → Gj κ (PR κ S) 0 (lv_args 0 av) []) : MR y cc nL ret rm S av (va_Sv post) := by
  refine stR hy hlen (fun p l e s m below meth c D cO hr hκ => body _ hκ ?_)
  obtain ⟨hx, hb, hml, hown, hts, hK, hG, hR, hlk⟩ := hκ
  intro pc lv hd hp H locs cells slots ls hF hl
  obtain ⟨hP, rfl, rfl, rfl, rfl⟩ := hF
  exact W.vret hx hb (hr.trans hret) (fun t ht hW => ⟨rfl, hp, ht⟩) (fun q hq => absurd hq List.not_mem_nil) hd hlk
theorem stV {y : MethodName} {cc : ByteArray} {nL : Nat} {ret : Option FieldType} {rm : Room} {S : wPS} {av : List Value} {mc ms : Nat} {Qc : (Nat → Prop) → va_G → ClassId → Array Value → State → Outcome → State → Prop} (hy : plainName y.cls = true) (hlen : (lg_sl av).length ≤ nL) (hrm : mc ≤ rm.cells ∧ ms ≤ rm.slots)
    (body : ∀ (p : Program) (l : Launch) (e : Env) (s : State) (m : MethodId) (below : List Frame) (meth : Method) (c : Code) (D : va_G) (cO : ClassId) (e0 : Nat) (A : Nat → Prop), meth.sig.returnType = ret → Cx cc nL y.cls rm (p, l, e, rm, s, m, av.toArray, below, meth, c, MQ below (Qc A D cO) av.toArray s mc ms A, D, cO, e0, A, mc, ms) → Vz (p, l, e, rm, s, m, av.toArray, below, meth, c, MQ below (Qc A D cO) av.toArray s mc ms A, D, cO, e0, A, mc, ms) → Nm y.name (p, l, e, rm, s, m, av.toArray, below, meth, c, MQ below (Qc A D cO) av.toArray s mc ms A, D, cO, e0, A, mc, ms) → Gj (p, l, e, rm, s, m, av.toArray, below, meth, c, MQ below (Qc A D cO) av.toArray s mc ms A, D, cO, e0, A, mc, ms) (PV (p, l, e, rm, s, m, av.toArray, below, meth, c, MQ below (Qc A D cO) av.toArray s mc ms A, D, cO, e0, A, mc, ms) S mc ms) 0 (lv_args 0 av) []) :
    ∀ (l : Launch) (D : va_G) (cO : ClassId) (e0 sz : Nat), Met l y (Cond.code y cc nL ret :: GA) rm (CP D cO e0 S sz av) (Qc (va_A (pool cO S) sz) D cO) mc ms (va_A (pool cO S) sz) := by
  intro l D cO e0 sz
  refine Met.ofW (cc := cc) (maxL := nL) (ret := ret) hy rfl ?_
  intro p e s m args below meth c s₁ B hml hv
  obtain ⟨rfl, hsz, hP, hK, hG, hD0, hH⟩ := hv
  have hts := atoms_spec (ws := Cond.code y cc nL ret :: GA) B.pre
  subst hsz
  have h := body p l e s m below meth c D cO e0 (va_A (pool cO S) s.heap.size) B.returns ⟨B.exec, B.bytes, hml, findClass_of_methodNamed B.named, fun w hw => hts w (List.mem_cons_of_mem _ hw), hK, hG, rfl, B.notSynchronized⟩ ⟨fun q h9 => Or.inr h9, hH, hrm.1, hrm.2⟩ (name_of_methodNamed B.named B.method).1 s.heap [] 0 0 _ ⟨hP, hD0.self, va_S.rf, Nat.le_of_eq (Nat.zero_add _), Nat.le_of_eq (Nat.zero_add _)⟩ (hml.symm ▸ lv_entry av hlen)
  rw [lg_entry_eq]
  exact h
theorem stV_v {y : MethodName} {cc : ByteArray} {nL : Nat} {ret : Option FieldType} {rm : Room} {S : wPS} {av : List Value} {mc ms : Nat} {post : wPS → Prop} (hy : plainName y.cls = true) (hlen : (lg_sl av).length ≤ nL) (hrm : mc ≤ rm.cells ∧ ms ≤ rm.slots) (hret : ret = none) (body : ∀ κ : KX, Cx cc nL y.cls rm κ → Vz κ → Nm y.name κ → (∀ (pc : Nat) (lv : List (Nat × Value)) (S1 : wPS) (k n : Nat), decode cc pc = .ok (.return_, 1) → post S1 → Gj κ (PV κ S1 k n) pc lv []) → Gj κ (PV κ S mc ms) 0 (lv_args 0 av) []) : MVv y cc nL ret rm S av post mc ms := by
  refine stV (Qc := fun A D cO => va_Qv post (Bp D cO A) A) hy hlen hrm (fun p l e s m below meth c D cO e0 A hr hκ hz hnm => body _ hκ hz hnm ?_)
  obtain ⟨hx, hb, hml, hown, hts, hK, hG, hR, hlk⟩ := hκ
  intro pc lv S1 k n hd hp H locs cells slots ls hF hl
  obtain ⟨hP, hD, hS, hc, hs⟩ := hF
  refine W.widen (k := mc) (n := ms) (by omega) (by omega) ?_
  exact W.vret hx hb (hr.trans hret) (fun t ht hW => ⟨⟨S1, rfl, hp, by rw [ht]; exact hP, hD⟩, hS.F ht⟩) hS.2.2 hd hlk
theorem stV_i {y : MethodName} {cc : ByteArray} {nL : Nat} {ret : Option FieldType} {rm : Room} {S : wPS} {av : List Value} {mc ms : Nat} {ty : FieldType} {post : Int32 → wPS → Prop} (hy : plainName y.cls = true) (hlen : (lg_sl av).length ≤ nL) (hrm : mc ≤ rm.cells ∧ ms ≤ rm.slots) (hret : ret = some ty) (hfit : ∀ (v : Int32) (S1 : wPS), post v S1 → narrow ty (.int v) = .int v) (body : ∀ κ : KX, Cx cc nL y.cls rm κ → Vz κ → Nm y.name κ → (∀ (pc : Nat) (lv : List (Nat × Value)) (r : Int32) (S1 : wPS) (k n : Nat), decode cc pc = .ok (.ireturn, 1) → post r S1 → Gj κ (PV κ S1 k n) pc lv [.int r]) → Gj κ (PV κ S mc ms) 0 (lv_args 0 av) []) : MVi y cc nL ret rm S av post mc ms := by
  refine stV (Qc := fun A D cO => va_Qi post (Bp D cO A) A) hy hlen hrm (fun p l e s m below meth c D cO e0 A hr hκ hz hnm => body _ hκ hz hnm ?_)
  obtain ⟨hx, hb, hml, hown, hts, hK, hG, hR, hlk⟩ := hκ
  intro pc lv r S1 k n hd hp H locs cells slots ls hF hl
  obtain ⟨hP, hD, hS, hc, hs⟩ := hF
  refine W.widen (k := mc) (n := ms) (by omega) (by omega) ?_
  exact W.zret hx hb (hr.trans hret) (hfit r S1 hp) (fun t ht hW => ⟨⟨r, S1, rfl, hp, by rw [ht]; exact hP, hD⟩, hS.F ht⟩) hS.2.2 hd hlk
theorem stV_q {y : MethodName} {cc : ByteArray} {nL : Nat} {ret : Option FieldType} {rm : Room} {S : wPS} {av : List Value} {mc ms : Nat} {ty : FieldType} {post : Option Nat → wPS → Prop} (hy : plainName y.cls = true) (hlen : (lg_sl av).length ≤ nL) (hrm : mc ≤ rm.cells ∧ ms ≤ rm.slots) (hret : ret = some ty) (hty : (∃ n, ty = .object n) ∨ ∃ t, ty = .array t) (body : ∀ κ : KX, Cx cc nL y.cls rm κ → Vz κ → Nm y.name κ → (∀ (pc : Nat) (lv : List (Nat × Value)) (r : Option Nat) (S1 : wPS) (k n : Nat), decode cc pc = .ok (.areturn, 1) → post r S1 → Gj κ (PV κ S1 k n) pc lv [va_rf r]) → Gj κ (PV κ S mc ms) 0 (lv_args 0 av) []) : MVq y cc nL ret rm S av post mc ms := by
  refine stV (Qc := fun A D cO => va_Qq post (Bp D cO A) A) hy hlen hrm (fun p l e s m below meth c D cO e0 A hr hκ hz hnm => body _ hκ hz hnm ?_)
  obtain ⟨hx, hb, hml, hown, hts, hK, hG, hR, hlk⟩ := hκ
  intro pc lv r S1 k n hd hp H locs cells slots ls hF hl
  obtain ⟨hP, hD, hS, hc, hs⟩ := hF
  refine W.widen (k := mc) (n := ms) (by omega) (by omega) ?_
  exact W.aret hx hb (hr.trans hret) hty (va_rf_or r) (fun t ht hW => ⟨⟨r, S1, rfl, hp, by rw [ht]; exact hP, hD⟩, hS.F ht⟩) hS.2.2 hd hlk
