theorem gt_Flight_x {cc : ByteArray} {nL : Nat} {own : String} {rm : Room} {κ : KX} (hκ : Cx cc nL own rm κ) {Φ : HQ} {pc : Nat} {lv : List (Nat × Value)} {st : List Value} {S : wPS} (hΦ : Hd κ Φ S) {a idx : Nat} {ref : String} (hO : a ∈ sL S ∧ sK S a = 0) (hlink : Cond.fieldLink own idx ref "x" "I" ∈ GA) (hsm : ref = "Plotroom$Place" ∨ Cond.sameField ref "Plotroom$Place" "x" "I" ∈ GA) (hdg : decode cc pc = .ok (.getfield idx, 3)) (kk : Gj κ Φ (pc + 3) lv (.int (sI S 0 a) :: st)) : Gj κ Φ pc lv (.ref a :: st) := by
  obtain ⟨p, l, e, R, s, m, args, below, meth, c, Q, D, cO, e0, A, mc, ms⟩ := κ
  obtain ⟨hx, hb, hml, hown, hts, hK, hG, hR, hlk9⟩ := hκ
  intro H locs cells slots ls hF hl
  obtain ⟨k0, hk0, hk1⟩ := wG_Flight cO S hO
  have h1 : vwCl[1]? = some (RX0, TX0, 8) := rfl
  have h2 : ∀ x, s.fieldFound? (TX0 0).1 (TX0 0).2.1 (TX0 0).2.2.1 = some x → s.fieldFound? ref (TX0 0).2.1 (TX0 0).2.2.1 = some x := fun x9 h9 => hsm.elim (fun z => by rw [z]; exact h9) (fun z => u_same (hts _ z) x9 h9)
  have h3 : (Cond.fieldLink own idx ref (TX0 0).2.1 (TX0 0).2.2.1).before args s = true := hts _ hlink
  have h4 : ∀ w ∈ u_ws RX0 TX0 8, w ∈ GA := inlX0
  have h5 := (hΦ H locs cells slots hF).1
  have h6 := kk H locs cells slots ls hF hl
  exact va_get (D := D) (ci := 1) (C := RX0) (T := TX0) (N := 8) hx hb hts h4 hown hK h5 k0 hk1 h1 0 (by decide) h3 h2 rfl hdg h6
theorem gt_Flight_y {cc : ByteArray} {nL : Nat} {own : String} {rm : Room} {κ : KX} (hκ : Cx cc nL own rm κ) {Φ : HQ} {pc : Nat} {lv : List (Nat × Value)} {st : List Value} {S : wPS} (hΦ : Hd κ Φ S) {a idx : Nat} {ref : String} (hO : a ∈ sL S ∧ sK S a = 0) (hlink : Cond.fieldLink own idx ref "y" "I" ∈ GA) (hsm : ref = "Plotroom$Place" ∨ Cond.sameField ref "Plotroom$Place" "y" "I" ∈ GA) (hdg : decode cc pc = .ok (.getfield idx, 3)) (kk : Gj κ Φ (pc + 3) lv (.int (sI S 1 a) :: st)) : Gj κ Φ pc lv (.ref a :: st) := by
  obtain ⟨p, l, e, R, s, m, args, below, meth, c, Q, D, cO, e0, A, mc, ms⟩ := κ
  obtain ⟨hx, hb, hml, hown, hts, hK, hG, hR, hlk9⟩ := hκ
  intro H locs cells slots ls hF hl
  obtain ⟨k0, hk0, hk1⟩ := wG_Flight cO S hO
  have h1 : vwCl[1]? = some (RX0, TX0, 8) := rfl
  have h2 : ∀ x, s.fieldFound? (TX0 1).1 (TX0 1).2.1 (TX0 1).2.2.1 = some x → s.fieldFound? ref (TX0 1).2.1 (TX0 1).2.2.1 = some x := fun x9 h9 => hsm.elim (fun z => by rw [z]; exact h9) (fun z => u_same (hts _ z) x9 h9)
  have h3 : (Cond.fieldLink own idx ref (TX0 1).2.1 (TX0 1).2.2.1).before args s = true := hts _ hlink
  have h4 : ∀ w ∈ u_ws RX0 TX0 8, w ∈ GA := inlX0
  have h5 := (hΦ H locs cells slots hF).1
  have h6 := kk H locs cells slots ls hF hl
  exact va_get (D := D) (ci := 1) (C := RX0) (T := TX0) (N := 8) hx hb hts h4 hown hK h5 k0 hk1 h1 1 (by decide) h3 h2 rfl hdg h6
theorem gt_Flight_isFoe {cc : ByteArray} {nL : Nat} {own : String} {rm : Room} {κ : KX} (hκ : Cx cc nL own rm κ) {Φ : HQ} {pc : Nat} {lv : List (Nat × Value)} {st : List Value} {S : wPS} (hΦ : Hd κ Φ S) {a idx : Nat} {ref : String} (hO : a ∈ sL S ∧ sK S a = 0) (hlink : Cond.fieldLink own idx ref "isFoe" "Z" ∈ GA) (hsm : ref = "Plotroom$Flight" ∨ Cond.sameField ref "Plotroom$Flight" "isFoe" "Z" ∈ GA) (hdg : decode cc pc = .ok (.getfield idx, 3)) (kk : Gj κ Φ (pc + 3) lv (.int (sI S 2 a) :: st)) : Gj κ Φ pc lv (.ref a :: st) := by
  obtain ⟨p, l, e, R, s, m, args, below, meth, c, Q, D, cO, e0, A, mc, ms⟩ := κ
  obtain ⟨hx, hb, hml, hown, hts, hK, hG, hR, hlk9⟩ := hκ
  intro H locs cells slots ls hF hl
  obtain ⟨k0, hk0, hk1⟩ := wG_Flight cO S hO
  have h1 : vwCl[1]? = some (RX0, TX0, 8) := rfl
  have h2 : ∀ x, s.fieldFound? (TX0 2).1 (TX0 2).2.1 (TX0 2).2.2.1 = some x → s.fieldFound? ref (TX0 2).2.1 (TX0 2).2.2.1 = some x := fun x9 h9 => hsm.elim (fun z => by rw [z]; exact h9) (fun z => u_same (hts _ z) x9 h9)
  have h3 : (Cond.fieldLink own idx ref (TX0 2).2.1 (TX0 2).2.2.1).before args s = true := hts _ hlink
  have h4 : ∀ w ∈ u_ws RX0 TX0 8, w ∈ GA := inlX0
  have h5 := (hΦ H locs cells slots hF).1
  have h6 := kk H locs cells slots ls hF hl
  exact va_get (D := D) (ci := 1) (C := RX0) (T := TX0) (N := 8) hx hb hts h4 hown hK h5 k0 hk1 h1 2 (by decide) h3 h2 rfl hdg h6
theorem gtN_Flight_isFoe {cc : ByteArray} {nL : Nat} {own : String} {rm : Room} {κ : KX} (hκ : Cx cc nL own rm κ) {Φ : HQ} {pc : Nat} {lv : List (Nat × Value)} {st : List Value} {S : wPS} (hΦ : Hd κ Φ S) {a idx : Nat} {ref host : String} (hO : a ∈ sL S ∧ sK S a = 0) (hlink : (own, idx, ref, "isFoe", "Z", host) ∈ nestF) (hsm : ref = "Plotroom$Flight" ∨ Cond.sameField ref "Plotroom$Flight" "isFoe" "Z" ∈ GA) (hdg : decode cc pc = .ok (.getfield idx, 3)) (kk : Gj κ Φ (pc + 3) lv (.int (sI S 2 a) :: st)) : Gj κ Φ pc lv (.ref a :: st) := by
  obtain ⟨p, l, e, R, s, m, args, below, meth, c, Q, D, cO, e0, A, mc, ms⟩ := κ
  obtain ⟨hx, hb, hml, hown, hts, hK, hG, hR, hlk9⟩ := hκ
  intro H locs cells slots ls hF hl
  obtain ⟨k0, hk0, hk1⟩ := wG_Flight cO S hO
  have h30 : va_Nw (Cond.fieldLinkNest own idx ref "isFoe" "Z" host) s := hG.nf hlink
  have h31 : (Cond.fieldLinkNest own idx ref "isFoe" "Z" host).onTables = true := rfl
  have h1 : vwCl[1]? = some (RX0, TX0, 8) := rfl
  have h2 : ∀ x, s.fieldFound? (TX0 2).1 (TX0 2).2.1 (TX0 2).2.2.1 = some x → s.fieldFound? ref (TX0 2).2.1 (TX0 2).2.2.1 = some x := fun x9 h9 => hsm.elim (fun z => by rw [z]; exact h9) (fun z => u_same (hts _ z) x9 h9)
  have h3 : (Cond.fieldLinkNest own idx ref (TX0 2).2.1 (TX0 2).2.2.1 host).before args s = true := va_Nw.use h31 h30
  have h4 : ∀ w ∈ u_ws RX0 TX0 8, w ∈ GA := inlX0
  have h5 := (hΦ H locs cells slots hF).1
  have h6 := kk H locs cells slots ls hF hl
  exact va_getN (D := D) (ci := 1) (C := RX0) (T := TX0) (N := 8) hx hb hts h4 hown hK h5 k0 hk1 h1 2 (by decide) h3 h2 rfl hdg h6
theorem gt_Flight_height {cc : ByteArray} {nL : Nat} {own : String} {rm : Room} {κ : KX} (hκ : Cx cc nL own rm κ) {Φ : HQ} {pc : Nat} {lv : List (Nat × Value)} {st : List Value} {S : wPS} (hΦ : Hd κ Φ S) {a idx : Nat} {ref : String} (hO : a ∈ sL S ∧ sK S a = 0) (hlink : Cond.fieldLink own idx ref "height" "I" ∈ GA) (hsm : ref = "Plotroom$Flight" ∨ Cond.sameField ref "Plotroom$Flight" "height" "I" ∈ GA) (hdg : decode cc pc = .ok (.getfield idx, 3)) (kk : Gj κ Φ (pc + 3) lv (.int (sI S 3 a) :: st)) : Gj κ Φ pc lv (.ref a :: st) := by
  obtain ⟨p, l, e, R, s, m, args, below, meth, c, Q, D, cO, e0, A, mc, ms⟩ := κ
  obtain ⟨hx, hb, hml, hown, hts, hK, hG, hR, hlk9⟩ := hκ
  intro H locs cells slots ls hF hl
  obtain ⟨k0, hk0, hk1⟩ := wG_Flight cO S hO
  have h1 : vwCl[1]? = some (RX0, TX0, 8) := rfl
  have h2 : ∀ x, s.fieldFound? (TX0 3).1 (TX0 3).2.1 (TX0 3).2.2.1 = some x → s.fieldFound? ref (TX0 3).2.1 (TX0 3).2.2.1 = some x := fun x9 h9 => hsm.elim (fun z => by rw [z]; exact h9) (fun z => u_same (hts _ z) x9 h9)
  have h3 : (Cond.fieldLink own idx ref (TX0 3).2.1 (TX0 3).2.2.1).before args s = true := hts _ hlink
  have h4 : ∀ w ∈ u_ws RX0 TX0 8, w ∈ GA := inlX0
  have h5 := (hΦ H locs cells slots hF).1
  have h6 := kk H locs cells slots ls hF hl
  exact va_get (D := D) (ci := 1) (C := RX0) (T := TX0) (N := 8) hx hb hts h4 hown hK h5 k0 hk1 h1 3 (by decide) h3 h2 rfl hdg h6
theorem gtN_Flight_height {cc : ByteArray} {nL : Nat} {own : String} {rm : Room} {κ : KX} (hκ : Cx cc nL own rm κ) {Φ : HQ} {pc : Nat} {lv : List (Nat × Value)} {st : List Value} {S : wPS} (hΦ : Hd κ Φ S) {a idx : Nat} {ref host : String} (hO : a ∈ sL S ∧ sK S a = 0) (hlink : (own, idx, ref, "height", "I", host) ∈ nestF) (hsm : ref = "Plotroom$Flight" ∨ Cond.sameField ref "Plotroom$Flight" "height" "I" ∈ GA) (hdg : decode cc pc = .ok (.getfield idx, 3)) (kk : Gj κ Φ (pc + 3) lv (.int (sI S 3 a) :: st)) : Gj κ Φ pc lv (.ref a :: st) := by
  obtain ⟨p, l, e, R, s, m, args, below, meth, c, Q, D, cO, e0, A, mc, ms⟩ := κ
  obtain ⟨hx, hb, hml, hown, hts, hK, hG, hR, hlk9⟩ := hκ
  intro H locs cells slots ls hF hl
  obtain ⟨k0, hk0, hk1⟩ := wG_Flight cO S hO
  have h30 : va_Nw (Cond.fieldLinkNest own idx ref "height" "I" host) s := hG.nf hlink
  have h31 : (Cond.fieldLinkNest own idx ref "height" "I" host).onTables = true := rfl
  have h1 : vwCl[1]? = some (RX0, TX0, 8) := rfl
  have h2 : ∀ x, s.fieldFound? (TX0 3).1 (TX0 3).2.1 (TX0 3).2.2.1 = some x → s.fieldFound? ref (TX0 3).2.1 (TX0 3).2.2.1 = some x := fun x9 h9 => hsm.elim (fun z => by rw [z]; exact h9) (fun z => u_same (hts _ z) x9 h9)
  have h3 : (Cond.fieldLinkNest own idx ref (TX0 3).2.1 (TX0 3).2.2.1 host).before args s = true := va_Nw.use h31 h30
  have h4 : ∀ w ∈ u_ws RX0 TX0 8, w ∈ GA := inlX0
  have h5 := (hΦ H locs cells slots hF).1
  have h6 := kk H locs cells slots ls hF hl
  exact va_getN (D := D) (ci := 1) (C := RX0) (T := TX0) (N := 8) hx hb hts h4 hown hK h5 k0 hk1 h1 3 (by decide) h3 h2 rfl hdg h6
theorem gt_Flight_courseX {cc : ByteArray} {nL : Nat} {own : String} {rm : Room} {κ : KX} (hκ : Cx cc nL own rm κ) {Φ : HQ} {pc : Nat} {lv : List (Nat × Value)} {st : List Value} {S : wPS} (hΦ : Hd κ Φ S) {a idx : Nat} {ref : String} (hO : a ∈ sL S ∧ sK S a = 0) (hlink : Cond.fieldLink own idx ref "courseX" "I" ∈ GA) (hsm : ref = "Plotroom$Flight" ∨ Cond.sameField ref "Plotroom$Flight" "courseX" "I" ∈ GA) (hdg : decode cc pc = .ok (.getfield idx, 3)) (kk : Gj κ Φ (pc + 3) lv (.int (sI S 4 a) :: st)) : Gj κ Φ pc lv (.ref a :: st) := by
  obtain ⟨p, l, e, R, s, m, args, below, meth, c, Q, D, cO, e0, A, mc, ms⟩ := κ
  obtain ⟨hx, hb, hml, hown, hts, hK, hG, hR, hlk9⟩ := hκ
  intro H locs cells slots ls hF hl
  obtain ⟨k0, hk0, hk1⟩ := wG_Flight cO S hO
  have h1 : vwCl[1]? = some (RX0, TX0, 8) := rfl
  have h2 : ∀ x, s.fieldFound? (TX0 4).1 (TX0 4).2.1 (TX0 4).2.2.1 = some x → s.fieldFound? ref (TX0 4).2.1 (TX0 4).2.2.1 = some x := fun x9 h9 => hsm.elim (fun z => by rw [z]; exact h9) (fun z => u_same (hts _ z) x9 h9)
  have h3 : (Cond.fieldLink own idx ref (TX0 4).2.1 (TX0 4).2.2.1).before args s = true := hts _ hlink
  have h4 : ∀ w ∈ u_ws RX0 TX0 8, w ∈ GA := inlX0
  have h5 := (hΦ H locs cells slots hF).1
  have h6 := kk H locs cells slots ls hF hl
  exact va_get (D := D) (ci := 1) (C := RX0) (T := TX0) (N := 8) hx hb hts h4 hown hK h5 k0 hk1 h1 4 (by decide) h3 h2 rfl hdg h6
theorem gt_Flight_courseY {cc : ByteArray} {nL : Nat} {own : String} {rm : Room} {κ : KX} (hκ : Cx cc nL own rm κ) {Φ : HQ} {pc : Nat} {lv : List (Nat × Value)} {st : List Value} {S : wPS} (hΦ : Hd κ Φ S) {a idx : Nat} {ref : String} (hO : a ∈ sL S ∧ sK S a = 0) (hlink : Cond.fieldLink own idx ref "courseY" "I" ∈ GA) (hsm : ref = "Plotroom$Flight" ∨ Cond.sameField ref "Plotroom$Flight" "courseY" "I" ∈ GA) (hdg : decode cc pc = .ok (.getfield idx, 3)) (kk : Gj κ Φ (pc + 3) lv (.int (sI S 5 a) :: st)) : Gj κ Φ pc lv (.ref a :: st) := by
  obtain ⟨p, l, e, R, s, m, args, below, meth, c, Q, D, cO, e0, A, mc, ms⟩ := κ
  obtain ⟨hx, hb, hml, hown, hts, hK, hG, hR, hlk9⟩ := hκ
  intro H locs cells slots ls hF hl
  obtain ⟨k0, hk0, hk1⟩ := wG_Flight cO S hO
  have h1 : vwCl[1]? = some (RX0, TX0, 8) := rfl
  have h2 : ∀ x, s.fieldFound? (TX0 5).1 (TX0 5).2.1 (TX0 5).2.2.1 = some x → s.fieldFound? ref (TX0 5).2.1 (TX0 5).2.2.1 = some x := fun x9 h9 => hsm.elim (fun z => by rw [z]; exact h9) (fun z => u_same (hts _ z) x9 h9)
  have h3 : (Cond.fieldLink own idx ref (TX0 5).2.1 (TX0 5).2.2.1).before args s = true := hts _ hlink
  have h4 : ∀ w ∈ u_ws RX0 TX0 8, w ∈ GA := inlX0
  have h5 := (hΦ H locs cells slots hF).1
  have h6 := kk H locs cells slots ls hF hl
  exact va_get (D := D) (ci := 1) (C := RX0) (T := TX0) (N := 8) hx hb hts h4 hown hK h5 k0 hk1 h1 5 (by decide) h3 h2 rfl hdg h6
theorem gt_Flight_count {cc : ByteArray} {nL : Nat} {own : String} {rm : Room} {κ : KX} (hκ : Cx cc nL own rm κ) {Φ : HQ} {pc : Nat} {lv : List (Nat × Value)} {st : List Value} {S : wPS} (hΦ : Hd κ Φ S) {a idx : Nat} {ref : String} (hO : a ∈ sL S ∧ sK S a = 0) (hlink : Cond.fieldLink own idx ref "count" "I" ∈ GA) (hsm : ref = "Plotroom$Flight" ∨ Cond.sameField ref "Plotroom$Flight" "count" "I" ∈ GA) (hdg : decode cc pc = .ok (.getfield idx, 3)) (kk : Gj κ Φ (pc + 3) lv (.int (sI S 6 a) :: st)) : Gj κ Φ pc lv (.ref a :: st) := by
  obtain ⟨p, l, e, R, s, m, args, below, meth, c, Q, D, cO, e0, A, mc, ms⟩ := κ
  obtain ⟨hx, hb, hml, hown, hts, hK, hG, hR, hlk9⟩ := hκ
  intro H locs cells slots ls hF hl
  obtain ⟨k0, hk0, hk1⟩ := wG_Flight cO S hO
  have h1 : vwCl[1]? = some (RX0, TX0, 8) := rfl
  have h2 : ∀ x, s.fieldFound? (TX0 6).1 (TX0 6).2.1 (TX0 6).2.2.1 = some x → s.fieldFound? ref (TX0 6).2.1 (TX0 6).2.2.1 = some x := fun x9 h9 => hsm.elim (fun z => by rw [z]; exact h9) (fun z => u_same (hts _ z) x9 h9)
  have h3 : (Cond.fieldLink own idx ref (TX0 6).2.1 (TX0 6).2.2.1).before args s = true := hts _ hlink
  have h4 : ∀ w ∈ u_ws RX0 TX0 8, w ∈ GA := inlX0
  have h5 := (hΦ H locs cells slots hF).1
  have h6 := kk H locs cells slots ls hF hl
  exact va_get (D := D) (ci := 1) (C := RX0) (T := TX0) (N := 8) hx hb hts h4 hown hK h5 k0 hk1 h1 6 (by decide) h3 h2 rfl hdg h6
theorem gtN_Flight_count {cc : ByteArray} {nL : Nat} {own : String} {rm : Room} {κ : KX} (hκ : Cx cc nL own rm κ) {Φ : HQ} {pc : Nat} {lv : List (Nat × Value)} {st : List Value} {S : wPS} (hΦ : Hd κ Φ S) {a idx : Nat} {ref host : String} (hO : a ∈ sL S ∧ sK S a = 0) (hlink : (own, idx, ref, "count", "I", host) ∈ nestF) (hsm : ref = "Plotroom$Flight" ∨ Cond.sameField ref "Plotroom$Flight" "count" "I" ∈ GA) (hdg : decode cc pc = .ok (.getfield idx, 3)) (kk : Gj κ Φ (pc + 3) lv (.int (sI S 6 a) :: st)) : Gj κ Φ pc lv (.ref a :: st) := by
  obtain ⟨p, l, e, R, s, m, args, below, meth, c, Q, D, cO, e0, A, mc, ms⟩ := κ
  obtain ⟨hx, hb, hml, hown, hts, hK, hG, hR, hlk9⟩ := hκ
  intro H locs cells slots ls hF hl
  obtain ⟨k0, hk0, hk1⟩ := wG_Flight cO S hO
  have h30 : va_Nw (Cond.fieldLinkNest own idx ref "count" "I" host) s := hG.nf hlink
  have h31 : (Cond.fieldLinkNest own idx ref "count" "I" host).onTables = true := rfl
  have h1 : vwCl[1]? = some (RX0, TX0, 8) := rfl
  have h2 : ∀ x, s.fieldFound? (TX0 6).1 (TX0 6).2.1 (TX0 6).2.2.1 = some x → s.fieldFound? ref (TX0 6).2.1 (TX0 6).2.2.1 = some x := fun x9 h9 => hsm.elim (fun z => by rw [z]; exact h9) (fun z => u_same (hts _ z) x9 h9)
  have h3 : (Cond.fieldLinkNest own idx ref (TX0 6).2.1 (TX0 6).2.2.1 host).before args s = true := va_Nw.use h31 h30
  have h4 : ∀ w ∈ u_ws RX0 TX0 8, w ∈ GA := inlX0
  have h5 := (hΦ H locs cells slots hF).1
  have h6 := kk H locs cells slots ls hF hl
  exact va_getN (D := D) (ci := 1) (C := RX0) (T := TX0) (N := 8) hx hb hts h4 hown hK h5 k0 hk1 h1 6 (by decide) h3 h2 rfl hdg h6
theorem gt_Flight_isUp {cc : ByteArray} {nL : Nat} {own : String} {rm : Room} {κ : KX} (hκ : Cx cc nL own rm κ) {Φ : HQ} {pc : Nat} {lv : List (Nat × Value)} {st : List Value} {S : wPS} (hΦ : Hd κ Φ S) {a idx : Nat} {ref : String} (hO : a ∈ sL S ∧ sK S a = 0) (hlink : Cond.fieldLink own idx ref "isUp" "Z" ∈ GA) (hsm : ref = "Plotroom$Flight" ∨ Cond.sameField ref "Plotroom$Flight" "isUp" "Z" ∈ GA) (hdg : decode cc pc = .ok (.getfield idx, 3)) (kk : Gj κ Φ (pc + 3) lv (.int (sI S 7 a) :: st)) : Gj κ Φ pc lv (.ref a :: st) := by
  obtain ⟨p, l, e, R, s, m, args, below, meth, c, Q, D, cO, e0, A, mc, ms⟩ := κ
  obtain ⟨hx, hb, hml, hown, hts, hK, hG, hR, hlk9⟩ := hκ
  intro H locs cells slots ls hF hl
  obtain ⟨k0, hk0, hk1⟩ := wG_Flight cO S hO
  have h1 : vwCl[1]? = some (RX0, TX0, 8) := rfl
  have h2 : ∀ x, s.fieldFound? (TX0 7).1 (TX0 7).2.1 (TX0 7).2.2.1 = some x → s.fieldFound? ref (TX0 7).2.1 (TX0 7).2.2.1 = some x := fun x9 h9 => hsm.elim (fun z => by rw [z]; exact h9) (fun z => u_same (hts _ z) x9 h9)
  have h3 : (Cond.fieldLink own idx ref (TX0 7).2.1 (TX0 7).2.2.1).before args s = true := hts _ hlink
  have h4 : ∀ w ∈ u_ws RX0 TX0 8, w ∈ GA := inlX0
  have h5 := (hΦ H locs cells slots hF).1
  have h6 := kk H locs cells slots ls hF hl
  exact va_get (D := D) (ci := 1) (C := RX0) (T := TX0) (N := 8) hx hb hts h4 hown hK h5 k0 hk1 h1 7 (by decide) h3 h2 rfl hdg h6
theorem gtN_Flight_isUp {cc : ByteArray} {nL : Nat} {own : String} {rm : Room} {κ : KX} (hκ : Cx cc nL own rm κ) {Φ : HQ} {pc : Nat} {lv : List (Nat × Value)} {st : List Value} {S : wPS} (hΦ : Hd κ Φ S) {a idx : Nat} {ref host : String} (hO : a ∈ sL S ∧ sK S a = 0) (hlink : (own, idx, ref, "isUp", "Z", host) ∈ nestF) (hsm : ref = "Plotroom$Flight" ∨ Cond.sameField ref "Plotroom$Flight" "isUp" "Z" ∈ GA) (hdg : decode cc pc = .ok (.getfield idx, 3)) (kk : Gj κ Φ (pc + 3) lv (.int (sI S 7 a) :: st)) : Gj κ Φ pc lv (.ref a :: st) := by
  obtain ⟨p, l, e, R, s, m, args, below, meth, c, Q, D, cO, e0, A, mc, ms⟩ := κ
  obtain ⟨hx, hb, hml, hown, hts, hK, hG, hR, hlk9⟩ := hκ
  intro H locs cells slots ls hF hl
  obtain ⟨k0, hk0, hk1⟩ := wG_Flight cO S hO
  have h30 : va_Nw (Cond.fieldLinkNest own idx ref "isUp" "Z" host) s := hG.nf hlink
  have h31 : (Cond.fieldLinkNest own idx ref "isUp" "Z" host).onTables = true := rfl
  have h1 : vwCl[1]? = some (RX0, TX0, 8) := rfl
  have h2 : ∀ x, s.fieldFound? (TX0 7).1 (TX0 7).2.1 (TX0 7).2.2.1 = some x → s.fieldFound? ref (TX0 7).2.1 (TX0 7).2.2.1 = some x := fun x9 h9 => hsm.elim (fun z => by rw [z]; exact h9) (fun z => u_same (hts _ z) x9 h9)
  have h3 : (Cond.fieldLinkNest own idx ref (TX0 7).2.1 (TX0 7).2.2.1 host).before args s = true := va_Nw.use h31 h30
  have h4 : ∀ w ∈ u_ws RX0 TX0 8, w ∈ GA := inlX0
  have h5 := (hΦ H locs cells slots hF).1
  have h6 := kk H locs cells slots ls hF hl
  exact va_getN (D := D) (ci := 1) (C := RX0) (T := TX0) (N := 8) hx hb hts h4 hown hK h5 k0 hk1 h1 7 (by decide) h3 h2 rfl hdg h6
theorem gt_Gun_x {cc : ByteArray} {nL : Nat} {own : String} {rm : Room} {κ : KX} (hκ : Cx cc nL own rm κ) {Φ : HQ} {pc : Nat} {lv : List (Nat × Value)} {st : List Value} {S : wPS} (hΦ : Hd κ Φ S) {a idx : Nat} {ref : String} (hO : a ∈ sL S ∧ sK S a = 1) (hlink : Cond.fieldLink own idx ref "x" "I" ∈ GA) (hsm : ref = "Plotroom$Place" ∨ Cond.sameField ref "Plotroom$Place" "x" "I" ∈ GA) (hdg : decode cc pc = .ok (.getfield idx, 3)) (kk : Gj κ Φ (pc + 3) lv (.int (sI S 8 a) :: st)) : Gj κ Φ pc lv (.ref a :: st) := by
  obtain ⟨p, l, e, R, s, m, args, below, meth, c, Q, D, cO, e0, A, mc, ms⟩ := κ
  obtain ⟨hx, hb, hml, hown, hts, hK, hG, hR, hlk9⟩ := hκ
  intro H locs cells slots ls hF hl
  obtain ⟨k0, hk0, hk1⟩ := wG_Gun cO S hO
  have h1 : vwCl[2]? = some (RX1, TX1, 4) := rfl
  have h2 : ∀ x, s.fieldFound? (TX1 0).1 (TX1 0).2.1 (TX1 0).2.2.1 = some x → s.fieldFound? ref (TX1 0).2.1 (TX1 0).2.2.1 = some x := fun x9 h9 => hsm.elim (fun z => by rw [z]; exact h9) (fun z => u_same (hts _ z) x9 h9)
  have h3 : (Cond.fieldLink own idx ref (TX1 0).2.1 (TX1 0).2.2.1).before args s = true := hts _ hlink
  have h4 : ∀ w ∈ u_ws RX1 TX1 4, w ∈ GA := inlX1
  have h5 := (hΦ H locs cells slots hF).1
  have h6 := kk H locs cells slots ls hF hl
  exact va_get (D := D) (ci := 2) (C := RX1) (T := TX1) (N := 4) hx hb hts h4 hown hK h5 k0 hk1 h1 0 (by decide) h3 h2 rfl hdg h6
theorem gt_Gun_y {cc : ByteArray} {nL : Nat} {own : String} {rm : Room} {κ : KX} (hκ : Cx cc nL own rm κ) {Φ : HQ} {pc : Nat} {lv : List (Nat × Value)} {st : List Value} {S : wPS} (hΦ : Hd κ Φ S) {a idx : Nat} {ref : String} (hO : a ∈ sL S ∧ sK S a = 1) (hlink : Cond.fieldLink own idx ref "y" "I" ∈ GA) (hsm : ref = "Plotroom$Place" ∨ Cond.sameField ref "Plotroom$Place" "y" "I" ∈ GA) (hdg : decode cc pc = .ok (.getfield idx, 3)) (kk : Gj κ Φ (pc + 3) lv (.int (sI S 9 a) :: st)) : Gj κ Φ pc lv (.ref a :: st) := by
  obtain ⟨p, l, e, R, s, m, args, below, meth, c, Q, D, cO, e0, A, mc, ms⟩ := κ
  obtain ⟨hx, hb, hml, hown, hts, hK, hG, hR, hlk9⟩ := hκ
  intro H locs cells slots ls hF hl
  obtain ⟨k0, hk0, hk1⟩ := wG_Gun cO S hO
  have h1 : vwCl[2]? = some (RX1, TX1, 4) := rfl
  have h2 : ∀ x, s.fieldFound? (TX1 1).1 (TX1 1).2.1 (TX1 1).2.2.1 = some x → s.fieldFound? ref (TX1 1).2.1 (TX1 1).2.2.1 = some x := fun x9 h9 => hsm.elim (fun z => by rw [z]; exact h9) (fun z => u_same (hts _ z) x9 h9)
  have h3 : (Cond.fieldLink own idx ref (TX1 1).2.1 (TX1 1).2.2.1).before args s = true := hts _ hlink
  have h4 : ∀ w ∈ u_ws RX1 TX1 4, w ∈ GA := inlX1
  have h5 := (hΦ H locs cells slots hF).1
  have h6 := kk H locs cells slots ls hF hl
  exact va_get (D := D) (ci := 2) (C := RX1) (T := TX1) (N := 4) hx hb hts h4 hown hK h5 k0 hk1 h1 1 (by decide) h3 h2 rfl hdg h6
theorem gt_Gun_radius {cc : ByteArray} {nL : Nat} {own : String} {rm : Room} {κ : KX} (hκ : Cx cc nL own rm κ) {Φ : HQ} {pc : Nat} {lv : List (Nat × Value)} {st : List Value} {S : wPS} (hΦ : Hd κ Φ S) {a idx : Nat} {ref : String} (hO : a ∈ sL S ∧ sK S a = 1) (hlink : Cond.fieldLink own idx ref "radius" "I" ∈ GA) (hsm : ref = "Plotroom$Gun" ∨ Cond.sameField ref "Plotroom$Gun" "radius" "I" ∈ GA) (hdg : decode cc pc = .ok (.getfield idx, 3)) (kk : Gj κ Φ (pc + 3) lv (.int (sI S 10 a) :: st)) : Gj κ Φ pc lv (.ref a :: st) := by
  obtain ⟨p, l, e, R, s, m, args, below, meth, c, Q, D, cO, e0, A, mc, ms⟩ := κ
  obtain ⟨hx, hb, hml, hown, hts, hK, hG, hR, hlk9⟩ := hκ
  intro H locs cells slots ls hF hl
  obtain ⟨k0, hk0, hk1⟩ := wG_Gun cO S hO
  have h1 : vwCl[2]? = some (RX1, TX1, 4) := rfl
  have h2 : ∀ x, s.fieldFound? (TX1 2).1 (TX1 2).2.1 (TX1 2).2.2.1 = some x → s.fieldFound? ref (TX1 2).2.1 (TX1 2).2.2.1 = some x := fun x9 h9 => hsm.elim (fun z => by rw [z]; exact h9) (fun z => u_same (hts _ z) x9 h9)
  have h3 : (Cond.fieldLink own idx ref (TX1 2).2.1 (TX1 2).2.2.1).before args s = true := hts _ hlink
  have h4 : ∀ w ∈ u_ws RX1 TX1 4, w ∈ GA := inlX1
  have h5 := (hΦ H locs cells slots hF).1
  have h6 := kk H locs cells slots ls hF hl
  exact va_get (D := D) (ci := 2) (C := RX1) (T := TX1) (N := 4) hx hb hts h4 hown hK h5 k0 hk1 h1 2 (by decide) h3 h2 rfl hdg h6
theorem gtN_Gun_radius {cc : ByteArray} {nL : Nat} {own : String} {rm : Room} {κ : KX} (hκ : Cx cc nL own rm κ) {Φ : HQ} {pc : Nat} {lv : List (Nat × Value)} {st : List Value} {S : wPS} (hΦ : Hd κ Φ S) {a idx : Nat} {ref host : String} (hO : a ∈ sL S ∧ sK S a = 1) (hlink : (own, idx, ref, "radius", "I", host) ∈ nestF) (hsm : ref = "Plotroom$Gun" ∨ Cond.sameField ref "Plotroom$Gun" "radius" "I" ∈ GA) (hdg : decode cc pc = .ok (.getfield idx, 3)) (kk : Gj κ Φ (pc + 3) lv (.int (sI S 10 a) :: st)) : Gj κ Φ pc lv (.ref a :: st) := by
  obtain ⟨p, l, e, R, s, m, args, below, meth, c, Q, D, cO, e0, A, mc, ms⟩ := κ
  obtain ⟨hx, hb, hml, hown, hts, hK, hG, hR, hlk9⟩ := hκ
  intro H locs cells slots ls hF hl
  obtain ⟨k0, hk0, hk1⟩ := wG_Gun cO S hO
  have h30 : va_Nw (Cond.fieldLinkNest own idx ref "radius" "I" host) s := hG.nf hlink
  have h31 : (Cond.fieldLinkNest own idx ref "radius" "I" host).onTables = true := rfl
  have h1 : vwCl[2]? = some (RX1, TX1, 4) := rfl
  have h2 : ∀ x, s.fieldFound? (TX1 2).1 (TX1 2).2.1 (TX1 2).2.2.1 = some x → s.fieldFound? ref (TX1 2).2.1 (TX1 2).2.2.1 = some x := fun x9 h9 => hsm.elim (fun z => by rw [z]; exact h9) (fun z => u_same (hts _ z) x9 h9)
  have h3 : (Cond.fieldLinkNest own idx ref (TX1 2).2.1 (TX1 2).2.2.1 host).before args s = true := va_Nw.use h31 h30
  have h4 : ∀ w ∈ u_ws RX1 TX1 4, w ∈ GA := inlX1
  have h5 := (hΦ H locs cells slots hF).1
  have h6 := kk H locs cells slots ls hF hl
  exact va_getN (D := D) (ci := 2) (C := RX1) (T := TX1) (N := 4) hx hb hts h4 hown hK h5 k0 hk1 h1 2 (by decide) h3 h2 rfl hdg h6
theorem gt_Gun_isLent {cc : ByteArray} {nL : Nat} {own : String} {rm : Room} {κ : KX} (hκ : Cx cc nL own rm κ) {Φ : HQ} {pc : Nat} {lv : List (Nat × Value)} {st : List Value} {S : wPS} (hΦ : Hd κ Φ S) {a idx : Nat} {ref : String} (hO : a ∈ sL S ∧ sK S a = 1) (hlink : Cond.fieldLink own idx ref "isLent" "Z" ∈ GA) (hsm : ref = "Plotroom$Gun" ∨ Cond.sameField ref "Plotroom$Gun" "isLent" "Z" ∈ GA) (hdg : decode cc pc = .ok (.getfield idx, 3)) (kk : Gj κ Φ (pc + 3) lv (.int (sI S 11 a) :: st)) : Gj κ Φ pc lv (.ref a :: st) := by
  obtain ⟨p, l, e, R, s, m, args, below, meth, c, Q, D, cO, e0, A, mc, ms⟩ := κ
  obtain ⟨hx, hb, hml, hown, hts, hK, hG, hR, hlk9⟩ := hκ
  intro H locs cells slots ls hF hl
  obtain ⟨k0, hk0, hk1⟩ := wG_Gun cO S hO
  have h1 : vwCl[2]? = some (RX1, TX1, 4) := rfl
  have h2 : ∀ x, s.fieldFound? (TX1 3).1 (TX1 3).2.1 (TX1 3).2.2.1 = some x → s.fieldFound? ref (TX1 3).2.1 (TX1 3).2.2.1 = some x := fun x9 h9 => hsm.elim (fun z => by rw [z]; exact h9) (fun z => u_same (hts _ z) x9 h9)
  have h3 : (Cond.fieldLink own idx ref (TX1 3).2.1 (TX1 3).2.2.1).before args s = true := hts _ hlink
  have h4 : ∀ w ∈ u_ws RX1 TX1 4, w ∈ GA := inlX1
  have h5 := (hΦ H locs cells slots hF).1
  have h6 := kk H locs cells slots ls hF hl
  exact va_get (D := D) (ci := 2) (C := RX1) (T := TX1) (N := 4) hx hb hts h4 hown hK h5 k0 hk1 h1 3 (by decide) h3 h2 rfl hdg h6
theorem gtN_Gun_isLent {cc : ByteArray} {nL : Nat} {own : String} {rm : Room} {κ : KX} (hκ : Cx cc nL own rm κ) {Φ : HQ} {pc : Nat} {lv : List (Nat × Value)} {st : List Value} {S : wPS} (hΦ : Hd κ Φ S) {a idx : Nat} {ref host : String} (hO : a ∈ sL S ∧ sK S a = 1) (hlink : (own, idx, ref, "isLent", "Z", host) ∈ nestF) (hsm : ref = "Plotroom$Gun" ∨ Cond.sameField ref "Plotroom$Gun" "isLent" "Z" ∈ GA) (hdg : decode cc pc = .ok (.getfield idx, 3)) (kk : Gj κ Φ (pc + 3) lv (.int (sI S 11 a) :: st)) : Gj κ Φ pc lv (.ref a :: st) := by
  obtain ⟨p, l, e, R, s, m, args, below, meth, c, Q, D, cO, e0, A, mc, ms⟩ := κ
  obtain ⟨hx, hb, hml, hown, hts, hK, hG, hR, hlk9⟩ := hκ
  intro H locs cells slots ls hF hl
  obtain ⟨k0, hk0, hk1⟩ := wG_Gun cO S hO
  have h30 : va_Nw (Cond.fieldLinkNest own idx ref "isLent" "Z" host) s := hG.nf hlink
  have h31 : (Cond.fieldLinkNest own idx ref "isLent" "Z" host).onTables = true := rfl
  have h1 : vwCl[2]? = some (RX1, TX1, 4) := rfl
  have h2 : ∀ x, s.fieldFound? (TX1 3).1 (TX1 3).2.1 (TX1 3).2.2.1 = some x → s.fieldFound? ref (TX1 3).2.1 (TX1 3).2.2.1 = some x := fun x9 h9 => hsm.elim (fun z => by rw [z]; exact h9) (fun z => u_same (hts _ z) x9 h9)
  have h3 : (Cond.fieldLinkNest own idx ref (TX1 3).2.1 (TX1 3).2.2.1 host).before args s = true := va_Nw.use h31 h30
  have h4 : ∀ w ∈ u_ws RX1 TX1 4, w ∈ GA := inlX1
  have h5 := (hΦ H locs cells slots hF).1
  have h6 := kk H locs cells slots ls hF hl
  exact va_getN (D := D) (ci := 2) (C := RX1) (T := TX1) (N := 4) hx hb hts h4 hown hK h5 k0 hk1 h1 3 (by decide) h3 h2 rfl hdg h6
theorem gt_Lots_next {cc : ByteArray} {nL : Nat} {own : String} {rm : Room} {κ : KX} (hκ : Cx cc nL own rm κ) {Φ : HQ} {pc : Nat} {lv : List (Nat × Value)} {st : List Value} {S : wPS} (hΦ : Hd κ Φ S) {a idx : Nat} {ref : String} (hO : a ∈ sL S ∧ sK S a = 2) (hlink : Cond.fieldLink own idx ref "next" "I" ∈ GA) (hsm : ref = "Plotroom$Lots" ∨ Cond.sameField ref "Plotroom$Lots" "next" "I" ∈ GA) (hdg : decode cc pc = .ok (.getfield idx, 3)) (kk : Gj κ Φ (pc + 3) lv (.int (sI S 12 a) :: st)) : Gj κ Φ pc lv (.ref a :: st) := by
  obtain ⟨p, l, e, R, s, m, args, below, meth, c, Q, D, cO, e0, A, mc, ms⟩ := κ
  obtain ⟨hx, hb, hml, hown, hts, hK, hG, hR, hlk9⟩ := hκ
  intro H locs cells slots ls hF hl
  obtain ⟨k0, hk0, hk1⟩ := wG_Lots cO S hO
  have h1 : vwCl[3]? = some (RX2, TX2, 2) := rfl
  have h2 : ∀ x, s.fieldFound? (TX2 0).1 (TX2 0).2.1 (TX2 0).2.2.1 = some x → s.fieldFound? ref (TX2 0).2.1 (TX2 0).2.2.1 = some x := fun x9 h9 => hsm.elim (fun z => by rw [z]; exact h9) (fun z => u_same (hts _ z) x9 h9)
  have h3 : (Cond.fieldLink own idx ref (TX2 0).2.1 (TX2 0).2.2.1).before args s = true := hts _ hlink
  have h4 : ∀ w ∈ u_ws RX2 TX2 2, w ∈ GA := inlX2
  have h5 := (hΦ H locs cells slots hF).1
  have h6 := kk H locs cells slots ls hF hl
  exact va_get (D := D) (ci := 3) (C := RX2) (T := TX2) (N := 2) hx hb hts h4 hown hK h5 k0 hk1 h1 0 (by decide) h3 h2 rfl hdg h6
theorem gt_Lots_drawn {cc : ByteArray} {nL : Nat} {own : String} {rm : Room} {κ : KX} (hκ : Cx cc nL own rm κ) {Φ : HQ} {pc : Nat} {lv : List (Nat × Value)} {st : List Value} {S : wPS} (hΦ : Hd κ Φ S) {a idx : Nat} {ref : String} (hO : a ∈ sL S ∧ sK S a = 2) (hlink : Cond.fieldLink own idx ref "drawn" "I" ∈ GA) (hsm : ref = "Plotroom$Lots" ∨ Cond.sameField ref "Plotroom$Lots" "drawn" "I" ∈ GA) (hdg : decode cc pc = .ok (.getfield idx, 3)) (kk : Gj κ Φ (pc + 3) lv (.int (sI S 13 a) :: st)) : Gj κ Φ pc lv (.ref a :: st) := by
  obtain ⟨p, l, e, R, s, m, args, below, meth, c, Q, D, cO, e0, A, mc, ms⟩ := κ
  obtain ⟨hx, hb, hml, hown, hts, hK, hG, hR, hlk9⟩ := hκ
  intro H locs cells slots ls hF hl
  obtain ⟨k0, hk0, hk1⟩ := wG_Lots cO S hO
  have h1 : vwCl[3]? = some (RX2, TX2, 2) := rfl
  have h2 : ∀ x, s.fieldFound? (TX2 1).1 (TX2 1).2.1 (TX2 1).2.2.1 = some x → s.fieldFound? ref (TX2 1).2.1 (TX2 1).2.2.1 = some x := fun x9 h9 => hsm.elim (fun z => by rw [z]; exact h9) (fun z => u_same (hts _ z) x9 h9)
  have h3 : (Cond.fieldLink own idx ref (TX2 1).2.1 (TX2 1).2.2.1).before args s = true := hts _ hlink
  have h4 : ∀ w ∈ u_ws RX2 TX2 2, w ∈ GA := inlX2
  have h5 := (hΦ H locs cells slots hF).1
  have h6 := kk H locs cells slots ls hF hl
  exact va_get (D := D) (ci := 3) (C := RX2) (T := TX2) (N := 2) hx hb hts h4 hown hK h5 k0 hk1 h1 1 (by decide) h3 h2 rfl hdg h6
theorem gtN_Lots_drawn {cc : ByteArray} {nL : Nat} {own : String} {rm : Room} {κ : KX} (hκ : Cx cc nL own rm κ) {Φ : HQ} {pc : Nat} {lv : List (Nat × Value)} {st : List Value} {S : wPS} (hΦ : Hd κ Φ S) {a idx : Nat} {ref host : String} (hO : a ∈ sL S ∧ sK S a = 2) (hlink : (own, idx, ref, "drawn", "I", host) ∈ nestF) (hsm : ref = "Plotroom$Lots" ∨ Cond.sameField ref "Plotroom$Lots" "drawn" "I" ∈ GA) (hdg : decode cc pc = .ok (.getfield idx, 3)) (kk : Gj κ Φ (pc + 3) lv (.int (sI S 13 a) :: st)) : Gj κ Φ pc lv (.ref a :: st) := by
  obtain ⟨p, l, e, R, s, m, args, below, meth, c, Q, D, cO, e0, A, mc, ms⟩ := κ
  obtain ⟨hx, hb, hml, hown, hts, hK, hG, hR, hlk9⟩ := hκ
  intro H locs cells slots ls hF hl
  obtain ⟨k0, hk0, hk1⟩ := wG_Lots cO S hO
  have h30 : va_Nw (Cond.fieldLinkNest own idx ref "drawn" "I" host) s := hG.nf hlink
  have h31 : (Cond.fieldLinkNest own idx ref "drawn" "I" host).onTables = true := rfl
  have h1 : vwCl[3]? = some (RX2, TX2, 2) := rfl
  have h2 : ∀ x, s.fieldFound? (TX2 1).1 (TX2 1).2.1 (TX2 1).2.2.1 = some x → s.fieldFound? ref (TX2 1).2.1 (TX2 1).2.2.1 = some x := fun x9 h9 => hsm.elim (fun z => by rw [z]; exact h9) (fun z => u_same (hts _ z) x9 h9)
  have h3 : (Cond.fieldLinkNest own idx ref (TX2 1).2.1 (TX2 1).2.2.1 host).before args s = true := va_Nw.use h31 h30
  have h4 : ∀ w ∈ u_ws RX2 TX2 2, w ∈ GA := inlX2
  have h5 := (hΦ H locs cells slots hF).1
  have h6 := kk H locs cells slots ls hF hl
  exact va_getN (D := D) (ci := 3) (C := RX2) (T := TX2) (N := 2) hx hb hts h4 hown hK h5 k0 hk1 h1 1 (by decide) h3 h2 rfl hdg h6
theorem gt_Mast_x {cc : ByteArray} {nL : Nat} {own : String} {rm : Room} {κ : KX} (hκ : Cx cc nL own rm κ) {Φ : HQ} {pc : Nat} {lv : List (Nat × Value)} {st : List Value} {S : wPS} (hΦ : Hd κ Φ S) {a idx : Nat} {ref : String} (hO : a ∈ sL S ∧ sK S a = 3) (hlink : Cond.fieldLink own idx ref "x" "I" ∈ GA) (hsm : ref = "Plotroom$Place" ∨ Cond.sameField ref "Plotroom$Place" "x" "I" ∈ GA) (hdg : decode cc pc = .ok (.getfield idx, 3)) (kk : Gj κ Φ (pc + 3) lv (.int (sI S 14 a) :: st)) : Gj κ Φ pc lv (.ref a :: st) := by
  obtain ⟨p, l, e, R, s, m, args, below, meth, c, Q, D, cO, e0, A, mc, ms⟩ := κ
  obtain ⟨hx, hb, hml, hown, hts, hK, hG, hR, hlk9⟩ := hκ
  intro H locs cells slots ls hF hl
  obtain ⟨k0, hk0, hk1⟩ := wG_Mast cO S hO
  have h1 : vwCl[4]? = some (RX3, TX3, 10) := rfl
  have h2 : ∀ x, s.fieldFound? (TX3 0).1 (TX3 0).2.1 (TX3 0).2.2.1 = some x → s.fieldFound? ref (TX3 0).2.1 (TX3 0).2.2.1 = some x := fun x9 h9 => hsm.elim (fun z => by rw [z]; exact h9) (fun z => u_same (hts _ z) x9 h9)
  have h3 : (Cond.fieldLink own idx ref (TX3 0).2.1 (TX3 0).2.2.1).before args s = true := hts _ hlink
  have h4 : ∀ w ∈ u_ws RX3 TX3 10, w ∈ GA := inlX3
  have h5 := (hΦ H locs cells slots hF).1
  have h6 := kk H locs cells slots ls hF hl
  exact va_get (D := D) (ci := 4) (C := RX3) (T := TX3) (N := 10) hx hb hts h4 hown hK h5 k0 hk1 h1 0 (by decide) h3 h2 rfl hdg h6
theorem gt_Mast_y {cc : ByteArray} {nL : Nat} {own : String} {rm : Room} {κ : KX} (hκ : Cx cc nL own rm κ) {Φ : HQ} {pc : Nat} {lv : List (Nat × Value)} {st : List Value} {S : wPS} (hΦ : Hd κ Φ S) {a idx : Nat} {ref : String} (hO : a ∈ sL S ∧ sK S a = 3) (hlink : Cond.fieldLink own idx ref "y" "I" ∈ GA) (hsm : ref = "Plotroom$Place" ∨ Cond.sameField ref "Plotroom$Place" "y" "I" ∈ GA) (hdg : decode cc pc = .ok (.getfield idx, 3)) (kk : Gj κ Φ (pc + 3) lv (.int (sI S 15 a) :: st)) : Gj κ Φ pc lv (.ref a :: st) := by
  obtain ⟨p, l, e, R, s, m, args, below, meth, c, Q, D, cO, e0, A, mc, ms⟩ := κ
  obtain ⟨hx, hb, hml, hown, hts, hK, hG, hR, hlk9⟩ := hκ
  intro H locs cells slots ls hF hl
  obtain ⟨k0, hk0, hk1⟩ := wG_Mast cO S hO
  have h1 : vwCl[4]? = some (RX3, TX3, 10) := rfl
  have h2 : ∀ x, s.fieldFound? (TX3 1).1 (TX3 1).2.1 (TX3 1).2.2.1 = some x → s.fieldFound? ref (TX3 1).2.1 (TX3 1).2.2.1 = some x := fun x9 h9 => hsm.elim (fun z => by rw [z]; exact h9) (fun z => u_same (hts _ z) x9 h9)
  have h3 : (Cond.fieldLink own idx ref (TX3 1).2.1 (TX3 1).2.2.1).before args s = true := hts _ hlink
  have h4 : ∀ w ∈ u_ws RX3 TX3 10, w ∈ GA := inlX3
  have h5 := (hΦ H locs cells slots hF).1
  have h6 := kk H locs cells slots ls hF hl
  exact va_get (D := D) (ci := 4) (C := RX3) (T := TX3) (N := 10) hx hb hts h4 hown hK h5 k0 hk1 h1 1 (by decide) h3 h2 rfl hdg h6
theorem gt_Mast_range {cc : ByteArray} {nL : Nat} {own : String} {rm : Room} {κ : KX} (hκ : Cx cc nL own rm κ) {Φ : HQ} {pc : Nat} {lv : List (Nat × Value)} {st : List Value} {S : wPS} (hΦ : Hd κ Φ S) {a idx : Nat} {ref : String} (hO : a ∈ sL S ∧ sK S a = 3) (hlink : Cond.fieldLink own idx ref "range" "I" ∈ GA) (hsm : ref = "Plotroom$Mast" ∨ Cond.sameField ref "Plotroom$Mast" "range" "I" ∈ GA) (hdg : decode cc pc = .ok (.getfield idx, 3)) (kk : Gj κ Φ (pc + 3) lv (.int (sI S 16 a) :: st)) : Gj κ Φ pc lv (.ref a :: st) := by
  obtain ⟨p, l, e, R, s, m, args, below, meth, c, Q, D, cO, e0, A, mc, ms⟩ := κ
  obtain ⟨hx, hb, hml, hown, hts, hK, hG, hR, hlk9⟩ := hκ
  intro H locs cells slots ls hF hl
  obtain ⟨k0, hk0, hk1⟩ := wG_Mast cO S hO
  have h1 : vwCl[4]? = some (RX3, TX3, 10) := rfl
  have h2 : ∀ x, s.fieldFound? (TX3 2).1 (TX3 2).2.1 (TX3 2).2.2.1 = some x → s.fieldFound? ref (TX3 2).2.1 (TX3 2).2.2.1 = some x := fun x9 h9 => hsm.elim (fun z => by rw [z]; exact h9) (fun z => u_same (hts _ z) x9 h9)
  have h3 : (Cond.fieldLink own idx ref (TX3 2).2.1 (TX3 2).2.2.1).before args s = true := hts _ hlink
  have h4 : ∀ w ∈ u_ws RX3 TX3 10, w ∈ GA := inlX3
  have h5 := (hΦ H locs cells slots hF).1
  have h6 := kk H locs cells slots ls hF hl
  exact va_get (D := D) (ci := 4) (C := RX3) (T := TX3) (N := 10) hx hb hts h4 hown hK h5 k0 hk1 h1 2 (by decide) h3 h2 rfl hdg h6
theorem gt_Mast_blind {cc : ByteArray} {nL : Nat} {own : String} {rm : Room} {κ : KX} (hκ : Cx cc nL own rm κ) {Φ : HQ} {pc : Nat} {lv : List (Nat × Value)} {st : List Value} {S : wPS} (hΦ : Hd κ Φ S) {a idx : Nat} {ref : String} (hO : a ∈ sL S ∧ sK S a = 3) (hlink : Cond.fieldLink own idx ref "blind" "I" ∈ GA) (hsm : ref = "Plotroom$Mast" ∨ Cond.sameField ref "Plotroom$Mast" "blind" "I" ∈ GA) (hdg : decode cc pc = .ok (.getfield idx, 3)) (kk : Gj κ Φ (pc + 3) lv (.int (sI S 17 a) :: st)) : Gj κ Φ pc lv (.ref a :: st) := by
  obtain ⟨p, l, e, R, s, m, args, below, meth, c, Q, D, cO, e0, A, mc, ms⟩ := κ
  obtain ⟨hx, hb, hml, hown, hts, hK, hG, hR, hlk9⟩ := hκ
  intro H locs cells slots ls hF hl
  obtain ⟨k0, hk0, hk1⟩ := wG_Mast cO S hO
  have h1 : vwCl[4]? = some (RX3, TX3, 10) := rfl
  have h2 : ∀ x, s.fieldFound? (TX3 3).1 (TX3 3).2.1 (TX3 3).2.2.1 = some x → s.fieldFound? ref (TX3 3).2.1 (TX3 3).2.2.1 = some x := fun x9 h9 => hsm.elim (fun z => by rw [z]; exact h9) (fun z => u_same (hts _ z) x9 h9)
  have h3 : (Cond.fieldLink own idx ref (TX3 3).2.1 (TX3 3).2.2.1).before args s = true := hts _ hlink
  have h4 : ∀ w ∈ u_ws RX3 TX3 10, w ∈ GA := inlX3
  have h5 := (hΦ H locs cells slots hF).1
  have h6 := kk H locs cells slots ls hF hl
  exact va_get (D := D) (ci := 4) (C := RX3) (T := TX3) (N := 10) hx hb hts h4 hown hK h5 k0 hk1 h1 3 (by decide) h3 h2 rfl hdg h6
theorem gt_Mast_slip {cc : ByteArray} {nL : Nat} {own : String} {rm : Room} {κ : KX} (hκ : Cx cc nL own rm κ) {Φ : HQ} {pc : Nat} {lv : List (Nat × Value)} {st : List Value} {S : wPS} (hΦ : Hd κ Φ S) {a idx : Nat} {ref : String} (hO : a ∈ sL S ∧ sK S a = 3) (hlink : Cond.fieldLink own idx ref "slip" "I" ∈ GA) (hsm : ref = "Plotroom$Mast" ∨ Cond.sameField ref "Plotroom$Mast" "slip" "I" ∈ GA) (hdg : decode cc pc = .ok (.getfield idx, 3)) (kk : Gj κ Φ (pc + 3) lv (.int (sI S 18 a) :: st)) : Gj κ Φ pc lv (.ref a :: st) := by
  obtain ⟨p, l, e, R, s, m, args, below, meth, c, Q, D, cO, e0, A, mc, ms⟩ := κ
  obtain ⟨hx, hb, hml, hown, hts, hK, hG, hR, hlk9⟩ := hκ
  intro H locs cells slots ls hF hl
  obtain ⟨k0, hk0, hk1⟩ := wG_Mast cO S hO
  have h1 : vwCl[4]? = some (RX3, TX3, 10) := rfl
  have h2 : ∀ x, s.fieldFound? (TX3 4).1 (TX3 4).2.1 (TX3 4).2.2.1 = some x → s.fieldFound? ref (TX3 4).2.1 (TX3 4).2.2.1 = some x := fun x9 h9 => hsm.elim (fun z => by rw [z]; exact h9) (fun z => u_same (hts _ z) x9 h9)
  have h3 : (Cond.fieldLink own idx ref (TX3 4).2.1 (TX3 4).2.2.1).before args s = true := hts _ hlink
  have h4 : ∀ w ∈ u_ws RX3 TX3 10, w ∈ GA := inlX3
  have h5 := (hΦ H locs cells slots hF).1
  have h6 := kk H locs cells slots ls hF hl
  exact va_get (D := D) (ci := 4) (C := RX3) (T := TX3) (N := 10) hx hb hts h4 hown hK h5 k0 hk1 h1 4 (by decide) h3 h2 rfl hdg h6
theorem gtN_Mast_slip {cc : ByteArray} {nL : Nat} {own : String} {rm : Room} {κ : KX} (hκ : Cx cc nL own rm κ) {Φ : HQ} {pc : Nat} {lv : List (Nat × Value)} {st : List Value} {S : wPS} (hΦ : Hd κ Φ S) {a idx : Nat} {ref host : String} (hO : a ∈ sL S ∧ sK S a = 3) (hlink : (own, idx, ref, "slip", "I", host) ∈ nestF) (hsm : ref = "Plotroom$Mast" ∨ Cond.sameField ref "Plotroom$Mast" "slip" "I" ∈ GA) (hdg : decode cc pc = .ok (.getfield idx, 3)) (kk : Gj κ Φ (pc + 3) lv (.int (sI S 18 a) :: st)) : Gj κ Φ pc lv (.ref a :: st) := by
  obtain ⟨p, l, e, R, s, m, args, below, meth, c, Q, D, cO, e0, A, mc, ms⟩ := κ
  obtain ⟨hx, hb, hml, hown, hts, hK, hG, hR, hlk9⟩ := hκ
  intro H locs cells slots ls hF hl
  obtain ⟨k0, hk0, hk1⟩ := wG_Mast cO S hO
  have h30 : va_Nw (Cond.fieldLinkNest own idx ref "slip" "I" host) s := hG.nf hlink
  have h31 : (Cond.fieldLinkNest own idx ref "slip" "I" host).onTables = true := rfl
  have h1 : vwCl[4]? = some (RX3, TX3, 10) := rfl
  have h2 : ∀ x, s.fieldFound? (TX3 4).1 (TX3 4).2.1 (TX3 4).2.2.1 = some x → s.fieldFound? ref (TX3 4).2.1 (TX3 4).2.2.1 = some x := fun x9 h9 => hsm.elim (fun z => by rw [z]; exact h9) (fun z => u_same (hts _ z) x9 h9)
  have h3 : (Cond.fieldLinkNest own idx ref (TX3 4).2.1 (TX3 4).2.2.1 host).before args s = true := va_Nw.use h31 h30
  have h4 : ∀ w ∈ u_ws RX3 TX3 10, w ∈ GA := inlX3
  have h5 := (hΦ H locs cells slots hF).1
  have h6 := kk H locs cells slots ls hF hl
  exact va_getN (D := D) (ci := 4) (C := RX3) (T := TX3) (N := 10) hx hb hts h4 hown hK h5 k0 hk1 h1 4 (by decide) h3 h2 rfl hdg h6
theorem gt_Mast_lag {cc : ByteArray} {nL : Nat} {own : String} {rm : Room} {κ : KX} (hκ : Cx cc nL own rm κ) {Φ : HQ} {pc : Nat} {lv : List (Nat × Value)} {st : List Value} {S : wPS} (hΦ : Hd κ Φ S) {a idx : Nat} {ref : String} (hO : a ∈ sL S ∧ sK S a = 3) (hlink : Cond.fieldLink own idx ref "lag" "I" ∈ GA) (hsm : ref = "Plotroom$Mast" ∨ Cond.sameField ref "Plotroom$Mast" "lag" "I" ∈ GA) (hdg : decode cc pc = .ok (.getfield idx, 3)) (kk : Gj κ Φ (pc + 3) lv (.int (sI S 19 a) :: st)) : Gj κ Φ pc lv (.ref a :: st) := by
  obtain ⟨p, l, e, R, s, m, args, below, meth, c, Q, D, cO, e0, A, mc, ms⟩ := κ
  obtain ⟨hx, hb, hml, hown, hts, hK, hG, hR, hlk9⟩ := hκ
  intro H locs cells slots ls hF hl
  obtain ⟨k0, hk0, hk1⟩ := wG_Mast cO S hO
  have h1 : vwCl[4]? = some (RX3, TX3, 10) := rfl
  have h2 : ∀ x, s.fieldFound? (TX3 5).1 (TX3 5).2.1 (TX3 5).2.2.1 = some x → s.fieldFound? ref (TX3 5).2.1 (TX3 5).2.2.1 = some x := fun x9 h9 => hsm.elim (fun z => by rw [z]; exact h9) (fun z => u_same (hts _ z) x9 h9)
  have h3 : (Cond.fieldLink own idx ref (TX3 5).2.1 (TX3 5).2.2.1).before args s = true := hts _ hlink
  have h4 : ∀ w ∈ u_ws RX3 TX3 10, w ∈ GA := inlX3
  have h5 := (hΦ H locs cells slots hF).1
  have h6 := kk H locs cells slots ls hF hl
  exact va_get (D := D) (ci := 4) (C := RX3) (T := TX3) (N := 10) hx hb hts h4 hown hK h5 k0 hk1 h1 5 (by decide) h3 h2 rfl hdg h6
theorem gtN_Mast_lag {cc : ByteArray} {nL : Nat} {own : String} {rm : Room} {κ : KX} (hκ : Cx cc nL own rm κ) {Φ : HQ} {pc : Nat} {lv : List (Nat × Value)} {st : List Value} {S : wPS} (hΦ : Hd κ Φ S) {a idx : Nat} {ref host : String} (hO : a ∈ sL S ∧ sK S a = 3) (hlink : (own, idx, ref, "lag", "I", host) ∈ nestF) (hsm : ref = "Plotroom$Mast" ∨ Cond.sameField ref "Plotroom$Mast" "lag" "I" ∈ GA) (hdg : decode cc pc = .ok (.getfield idx, 3)) (kk : Gj κ Φ (pc + 3) lv (.int (sI S 19 a) :: st)) : Gj κ Φ pc lv (.ref a :: st) := by
  obtain ⟨p, l, e, R, s, m, args, below, meth, c, Q, D, cO, e0, A, mc, ms⟩ := κ
  obtain ⟨hx, hb, hml, hown, hts, hK, hG, hR, hlk9⟩ := hκ
  intro H locs cells slots ls hF hl
  obtain ⟨k0, hk0, hk1⟩ := wG_Mast cO S hO
  have h30 : va_Nw (Cond.fieldLinkNest own idx ref "lag" "I" host) s := hG.nf hlink
  have h31 : (Cond.fieldLinkNest own idx ref "lag" "I" host).onTables = true := rfl
  have h1 : vwCl[4]? = some (RX3, TX3, 10) := rfl
  have h2 : ∀ x, s.fieldFound? (TX3 5).1 (TX3 5).2.1 (TX3 5).2.2.1 = some x → s.fieldFound? ref (TX3 5).2.1 (TX3 5).2.2.1 = some x := fun x9 h9 => hsm.elim (fun z => by rw [z]; exact h9) (fun z => u_same (hts _ z) x9 h9)
  have h3 : (Cond.fieldLinkNest own idx ref (TX3 5).2.1 (TX3 5).2.2.1 host).before args s = true := va_Nw.use h31 h30
  have h4 : ∀ w ∈ u_ws RX3 TX3 10, w ∈ GA := inlX3
  have h5 := (hΦ H locs cells slots hF).1
  have h6 := kk H locs cells slots ls hF hl
  exact va_getN (D := D) (ci := 4) (C := RX3) (T := TX3) (N := 10) hx hb hts h4 hown hK h5 k0 hk1 h1 5 (by decide) h3 h2 rfl hdg h6
theorem gt_Mast_isCut {cc : ByteArray} {nL : Nat} {own : String} {rm : Room} {κ : KX} (hκ : Cx cc nL own rm κ) {Φ : HQ} {pc : Nat} {lv : List (Nat × Value)} {st : List Value} {S : wPS} (hΦ : Hd κ Φ S) {a idx : Nat} {ref : String} (hO : a ∈ sL S ∧ sK S a = 3) (hlink : Cond.fieldLink own idx ref "isCut" "Z" ∈ GA) (hsm : ref = "Plotroom$Mast" ∨ Cond.sameField ref "Plotroom$Mast" "isCut" "Z" ∈ GA) (hdg : decode cc pc = .ok (.getfield idx, 3)) (kk : Gj κ Φ (pc + 3) lv (.int (sI S 20 a) :: st)) : Gj κ Φ pc lv (.ref a :: st) := by
  obtain ⟨p, l, e, R, s, m, args, below, meth, c, Q, D, cO, e0, A, mc, ms⟩ := κ
  obtain ⟨hx, hb, hml, hown, hts, hK, hG, hR, hlk9⟩ := hκ
  intro H locs cells slots ls hF hl
  obtain ⟨k0, hk0, hk1⟩ := wG_Mast cO S hO
  have h1 : vwCl[4]? = some (RX3, TX3, 10) := rfl
  have h2 : ∀ x, s.fieldFound? (TX3 6).1 (TX3 6).2.1 (TX3 6).2.2.1 = some x → s.fieldFound? ref (TX3 6).2.1 (TX3 6).2.2.1 = some x := fun x9 h9 => hsm.elim (fun z => by rw [z]; exact h9) (fun z => u_same (hts _ z) x9 h9)
  have h3 : (Cond.fieldLink own idx ref (TX3 6).2.1 (TX3 6).2.2.1).before args s = true := hts _ hlink
  have h4 : ∀ w ∈ u_ws RX3 TX3 10, w ∈ GA := inlX3
  have h5 := (hΦ H locs cells slots hF).1
  have h6 := kk H locs cells slots ls hF hl
  exact va_get (D := D) (ci := 4) (C := RX3) (T := TX3) (N := 10) hx hb hts h4 hown hK h5 k0 hk1 h1 6 (by decide) h3 h2 rfl hdg h6
theorem gtN_Mast_isCut {cc : ByteArray} {nL : Nat} {own : String} {rm : Room} {κ : KX} (hκ : Cx cc nL own rm κ) {Φ : HQ} {pc : Nat} {lv : List (Nat × Value)} {st : List Value} {S : wPS} (hΦ : Hd κ Φ S) {a idx : Nat} {ref host : String} (hO : a ∈ sL S ∧ sK S a = 3) (hlink : (own, idx, ref, "isCut", "Z", host) ∈ nestF) (hsm : ref = "Plotroom$Mast" ∨ Cond.sameField ref "Plotroom$Mast" "isCut" "Z" ∈ GA) (hdg : decode cc pc = .ok (.getfield idx, 3)) (kk : Gj κ Φ (pc + 3) lv (.int (sI S 20 a) :: st)) : Gj κ Φ pc lv (.ref a :: st) := by
  obtain ⟨p, l, e, R, s, m, args, below, meth, c, Q, D, cO, e0, A, mc, ms⟩ := κ
  obtain ⟨hx, hb, hml, hown, hts, hK, hG, hR, hlk9⟩ := hκ
  intro H locs cells slots ls hF hl
  obtain ⟨k0, hk0, hk1⟩ := wG_Mast cO S hO
  have h30 : va_Nw (Cond.fieldLinkNest own idx ref "isCut" "Z" host) s := hG.nf hlink
  have h31 : (Cond.fieldLinkNest own idx ref "isCut" "Z" host).onTables = true := rfl
  have h1 : vwCl[4]? = some (RX3, TX3, 10) := rfl
  have h2 : ∀ x, s.fieldFound? (TX3 6).1 (TX3 6).2.1 (TX3 6).2.2.1 = some x → s.fieldFound? ref (TX3 6).2.1 (TX3 6).2.2.1 = some x := fun x9 h9 => hsm.elim (fun z => by rw [z]; exact h9) (fun z => u_same (hts _ z) x9 h9)
  have h3 : (Cond.fieldLinkNest own idx ref (TX3 6).2.1 (TX3 6).2.2.1 host).before args s = true := va_Nw.use h31 h30
  have h4 : ∀ w ∈ u_ws RX3 TX3 10, w ∈ GA := inlX3
  have h5 := (hΦ H locs cells slots hF).1
  have h6 := kk H locs cells slots ls hF hl
  exact va_getN (D := D) (ci := 4) (C := RX3) (T := TX3) (N := 10) hx hb hts h4 hown hK h5 k0 hk1 h1 6 (by decide) h3 h2 rfl hdg h6
theorem gt_Mast_made {cc : ByteArray} {nL : Nat} {own : String} {rm : Room} {κ : KX} (hκ : Cx cc nL own rm κ) {Φ : HQ} {pc : Nat} {lv : List (Nat × Value)} {st : List Value} {S : wPS} (hΦ : Hd κ Φ S) {a idx : Nat} {ref : String} (hO : a ∈ sL S ∧ sK S a = 3) (hlink : Cond.fieldLink own idx ref "made" "I" ∈ GA) (hsm : ref = "Plotroom$Mast" ∨ Cond.sameField ref "Plotroom$Mast" "made" "I" ∈ GA) (hdg : decode cc pc = .ok (.getfield idx, 3)) (kk : Gj κ Φ (pc + 3) lv (.int (sI S 21 a) :: st)) : Gj κ Φ pc lv (.ref a :: st) := by
  obtain ⟨p, l, e, R, s, m, args, below, meth, c, Q, D, cO, e0, A, mc, ms⟩ := κ
  obtain ⟨hx, hb, hml, hown, hts, hK, hG, hR, hlk9⟩ := hκ
  intro H locs cells slots ls hF hl
  obtain ⟨k0, hk0, hk1⟩ := wG_Mast cO S hO
  have h1 : vwCl[4]? = some (RX3, TX3, 10) := rfl
  have h2 : ∀ x, s.fieldFound? (TX3 7).1 (TX3 7).2.1 (TX3 7).2.2.1 = some x → s.fieldFound? ref (TX3 7).2.1 (TX3 7).2.2.1 = some x := fun x9 h9 => hsm.elim (fun z => by rw [z]; exact h9) (fun z => u_same (hts _ z) x9 h9)
  have h3 : (Cond.fieldLink own idx ref (TX3 7).2.1 (TX3 7).2.2.1).before args s = true := hts _ hlink
  have h4 : ∀ w ∈ u_ws RX3 TX3 10, w ∈ GA := inlX3
  have h5 := (hΦ H locs cells slots hF).1
  have h6 := kk H locs cells slots ls hF hl
  exact va_get (D := D) (ci := 4) (C := RX3) (T := TX3) (N := 10) hx hb hts h4 hown hK h5 k0 hk1 h1 7 (by decide) h3 h2 rfl hdg h6
theorem gtN_Mast_made {cc : ByteArray} {nL : Nat} {own : String} {rm : Room} {κ : KX} (hκ : Cx cc nL own rm κ) {Φ : HQ} {pc : Nat} {lv : List (Nat × Value)} {st : List Value} {S : wPS} (hΦ : Hd κ Φ S) {a idx : Nat} {ref host : String} (hO : a ∈ sL S ∧ sK S a = 3) (hlink : (own, idx, ref, "made", "I", host) ∈ nestF) (hsm : ref = "Plotroom$Mast" ∨ Cond.sameField ref "Plotroom$Mast" "made" "I" ∈ GA) (hdg : decode cc pc = .ok (.getfield idx, 3)) (kk : Gj κ Φ (pc + 3) lv (.int (sI S 21 a) :: st)) : Gj κ Φ pc lv (.ref a :: st) := by
  obtain ⟨p, l, e, R, s, m, args, below, meth, c, Q, D, cO, e0, A, mc, ms⟩ := κ
  obtain ⟨hx, hb, hml, hown, hts, hK, hG, hR, hlk9⟩ := hκ
  intro H locs cells slots ls hF hl
  obtain ⟨k0, hk0, hk1⟩ := wG_Mast cO S hO
  have h30 : va_Nw (Cond.fieldLinkNest own idx ref "made" "I" host) s := hG.nf hlink
  have h31 : (Cond.fieldLinkNest own idx ref "made" "I" host).onTables = true := rfl
  have h1 : vwCl[4]? = some (RX3, TX3, 10) := rfl
  have h2 : ∀ x, s.fieldFound? (TX3 7).1 (TX3 7).2.1 (TX3 7).2.2.1 = some x → s.fieldFound? ref (TX3 7).2.1 (TX3 7).2.2.1 = some x := fun x9 h9 => hsm.elim (fun z => by rw [z]; exact h9) (fun z => u_same (hts _ z) x9 h9)
  have h3 : (Cond.fieldLinkNest own idx ref (TX3 7).2.1 (TX3 7).2.2.1 host).before args s = true := va_Nw.use h31 h30
  have h4 : ∀ w ∈ u_ws RX3 TX3 10, w ∈ GA := inlX3
  have h5 := (hΦ H locs cells slots hF).1
  have h6 := kk H locs cells slots ls hF hl
  exact va_getN (D := D) (ci := 4) (C := RX3) (T := TX3) (N := 10) hx hb hts h4 hown hK h5 k0 hk1 h1 7 (by decide) h3 h2 rfl hdg h6
theorem gt_Mast_came {cc : ByteArray} {nL : Nat} {own : String} {rm : Room} {κ : KX} (hκ : Cx cc nL own rm κ) {Φ : HQ} {pc : Nat} {lv : List (Nat × Value)} {st : List Value} {S : wPS} (hΦ : Hd κ Φ S) {a idx : Nat} {ref : String} (hO : a ∈ sL S ∧ sK S a = 3) (hlink : Cond.fieldLink own idx ref "came" "I" ∈ GA) (hsm : ref = "Plotroom$Mast" ∨ Cond.sameField ref "Plotroom$Mast" "came" "I" ∈ GA) (hdg : decode cc pc = .ok (.getfield idx, 3)) (kk : Gj κ Φ (pc + 3) lv (.int (sI S 22 a) :: st)) : Gj κ Φ pc lv (.ref a :: st) := by
  obtain ⟨p, l, e, R, s, m, args, below, meth, c, Q, D, cO, e0, A, mc, ms⟩ := κ
  obtain ⟨hx, hb, hml, hown, hts, hK, hG, hR, hlk9⟩ := hκ
  intro H locs cells slots ls hF hl
  obtain ⟨k0, hk0, hk1⟩ := wG_Mast cO S hO
  have h1 : vwCl[4]? = some (RX3, TX3, 10) := rfl
  have h2 : ∀ x, s.fieldFound? (TX3 8).1 (TX3 8).2.1 (TX3 8).2.2.1 = some x → s.fieldFound? ref (TX3 8).2.1 (TX3 8).2.2.1 = some x := fun x9 h9 => hsm.elim (fun z => by rw [z]; exact h9) (fun z => u_same (hts _ z) x9 h9)
  have h3 : (Cond.fieldLink own idx ref (TX3 8).2.1 (TX3 8).2.2.1).before args s = true := hts _ hlink
  have h4 : ∀ w ∈ u_ws RX3 TX3 10, w ∈ GA := inlX3
  have h5 := (hΦ H locs cells slots hF).1
  have h6 := kk H locs cells slots ls hF hl
  exact va_get (D := D) (ci := 4) (C := RX3) (T := TX3) (N := 10) hx hb hts h4 hown hK h5 k0 hk1 h1 8 (by decide) h3 h2 rfl hdg h6
theorem gtN_Mast_came {cc : ByteArray} {nL : Nat} {own : String} {rm : Room} {κ : KX} (hκ : Cx cc nL own rm κ) {Φ : HQ} {pc : Nat} {lv : List (Nat × Value)} {st : List Value} {S : wPS} (hΦ : Hd κ Φ S) {a idx : Nat} {ref host : String} (hO : a ∈ sL S ∧ sK S a = 3) (hlink : (own, idx, ref, "came", "I", host) ∈ nestF) (hsm : ref = "Plotroom$Mast" ∨ Cond.sameField ref "Plotroom$Mast" "came" "I" ∈ GA) (hdg : decode cc pc = .ok (.getfield idx, 3)) (kk : Gj κ Φ (pc + 3) lv (.int (sI S 22 a) :: st)) : Gj κ Φ pc lv (.ref a :: st) := by
  obtain ⟨p, l, e, R, s, m, args, below, meth, c, Q, D, cO, e0, A, mc, ms⟩ := κ
  obtain ⟨hx, hb, hml, hown, hts, hK, hG, hR, hlk9⟩ := hκ
  intro H locs cells slots ls hF hl
  obtain ⟨k0, hk0, hk1⟩ := wG_Mast cO S hO
  have h30 : va_Nw (Cond.fieldLinkNest own idx ref "came" "I" host) s := hG.nf hlink
  have h31 : (Cond.fieldLinkNest own idx ref "came" "I" host).onTables = true := rfl
  have h1 : vwCl[4]? = some (RX3, TX3, 10) := rfl
  have h2 : ∀ x, s.fieldFound? (TX3 8).1 (TX3 8).2.1 (TX3 8).2.2.1 = some x → s.fieldFound? ref (TX3 8).2.1 (TX3 8).2.2.1 = some x := fun x9 h9 => hsm.elim (fun z => by rw [z]; exact h9) (fun z => u_same (hts _ z) x9 h9)
  have h3 : (Cond.fieldLinkNest own idx ref (TX3 8).2.1 (TX3 8).2.2.1 host).before args s = true := va_Nw.use h31 h30
  have h4 : ∀ w ∈ u_ws RX3 TX3 10, w ∈ GA := inlX3
  have h5 := (hΦ H locs cells slots hF).1
  have h6 := kk H locs cells slots ls hF hl
  exact va_getN (D := D) (ci := 4) (C := RX3) (T := TX3) (N := 10) hx hb hts h4 hown hK h5 k0 hk1 h1 8 (by decide) h3 h2 rfl hdg h6
theorem gt_Mast_lost {cc : ByteArray} {nL : Nat} {own : String} {rm : Room} {κ : KX} (hκ : Cx cc nL own rm κ) {Φ : HQ} {pc : Nat} {lv : List (Nat × Value)} {st : List Value} {S : wPS} (hΦ : Hd κ Φ S) {a idx : Nat} {ref : String} (hO : a ∈ sL S ∧ sK S a = 3) (hlink : Cond.fieldLink own idx ref "lost" "I" ∈ GA) (hsm : ref = "Plotroom$Mast" ∨ Cond.sameField ref "Plotroom$Mast" "lost" "I" ∈ GA) (hdg : decode cc pc = .ok (.getfield idx, 3)) (kk : Gj κ Φ (pc + 3) lv (.int (sI S 23 a) :: st)) : Gj κ Φ pc lv (.ref a :: st) := by
  obtain ⟨p, l, e, R, s, m, args, below, meth, c, Q, D, cO, e0, A, mc, ms⟩ := κ
  obtain ⟨hx, hb, hml, hown, hts, hK, hG, hR, hlk9⟩ := hκ
  intro H locs cells slots ls hF hl
  obtain ⟨k0, hk0, hk1⟩ := wG_Mast cO S hO
  have h1 : vwCl[4]? = some (RX3, TX3, 10) := rfl
  have h2 : ∀ x, s.fieldFound? (TX3 9).1 (TX3 9).2.1 (TX3 9).2.2.1 = some x → s.fieldFound? ref (TX3 9).2.1 (TX3 9).2.2.1 = some x := fun x9 h9 => hsm.elim (fun z => by rw [z]; exact h9) (fun z => u_same (hts _ z) x9 h9)
  have h3 : (Cond.fieldLink own idx ref (TX3 9).2.1 (TX3 9).2.2.1).before args s = true := hts _ hlink
  have h4 : ∀ w ∈ u_ws RX3 TX3 10, w ∈ GA := inlX3
  have h5 := (hΦ H locs cells slots hF).1
  have h6 := kk H locs cells slots ls hF hl
  exact va_get (D := D) (ci := 4) (C := RX3) (T := TX3) (N := 10) hx hb hts h4 hown hK h5 k0 hk1 h1 9 (by decide) h3 h2 rfl hdg h6
theorem gtN_Mast_lost {cc : ByteArray} {nL : Nat} {own : String} {rm : Room} {κ : KX} (hκ : Cx cc nL own rm κ) {Φ : HQ} {pc : Nat} {lv : List (Nat × Value)} {st : List Value} {S : wPS} (hΦ : Hd κ Φ S) {a idx : Nat} {ref host : String} (hO : a ∈ sL S ∧ sK S a = 3) (hlink : (own, idx, ref, "lost", "I", host) ∈ nestF) (hsm : ref = "Plotroom$Mast" ∨ Cond.sameField ref "Plotroom$Mast" "lost" "I" ∈ GA) (hdg : decode cc pc = .ok (.getfield idx, 3)) (kk : Gj κ Φ (pc + 3) lv (.int (sI S 23 a) :: st)) : Gj κ Φ pc lv (.ref a :: st) := by
  obtain ⟨p, l, e, R, s, m, args, below, meth, c, Q, D, cO, e0, A, mc, ms⟩ := κ
  obtain ⟨hx, hb, hml, hown, hts, hK, hG, hR, hlk9⟩ := hκ
  intro H locs cells slots ls hF hl
  obtain ⟨k0, hk0, hk1⟩ := wG_Mast cO S hO
  have h30 : va_Nw (Cond.fieldLinkNest own idx ref "lost" "I" host) s := hG.nf hlink
  have h31 : (Cond.fieldLinkNest own idx ref "lost" "I" host).onTables = true := rfl
  have h1 : vwCl[4]? = some (RX3, TX3, 10) := rfl
  have h2 : ∀ x, s.fieldFound? (TX3 9).1 (TX3 9).2.1 (TX3 9).2.2.1 = some x → s.fieldFound? ref (TX3 9).2.1 (TX3 9).2.2.1 = some x := fun x9 h9 => hsm.elim (fun z => by rw [z]; exact h9) (fun z => u_same (hts _ z) x9 h9)
  have h3 : (Cond.fieldLinkNest own idx ref (TX3 9).2.1 (TX3 9).2.2.1 host).before args s = true := va_Nw.use h31 h30
  have h4 : ∀ w ∈ u_ws RX3 TX3 10, w ∈ GA := inlX3
  have h5 := (hΦ H locs cells slots hF).1
  have h6 := kk H locs cells slots ls hF hl
  exact va_getN (D := D) (ci := 4) (C := RX3) (T := TX3) (N := 10) hx hb hts h4 hown hK h5 k0 hk1 h1 9 (by decide) h3 h2 rfl hdg h6
theorem gt_Place_x {cc : ByteArray} {nL : Nat} {own : String} {rm : Room} {κ : KX} (hκ : Cx cc nL own rm κ) {Φ : HQ} {pc : Nat} {lv : List (Nat × Value)} {st : List Value} {S : wPS} (hΦ : Hd κ Φ S) {a idx : Nat} {ref : String} (hO : a ∈ sL S ∧ sK S a = 4) (hlink : Cond.fieldLink own idx ref "x" "I" ∈ GA) (hsm : ref = "Plotroom$Place" ∨ Cond.sameField ref "Plotroom$Place" "x" "I" ∈ GA) (hdg : decode cc pc = .ok (.getfield idx, 3)) (kk : Gj κ Φ (pc + 3) lv (.int (sI S 24 a) :: st)) : Gj κ Φ pc lv (.ref a :: st) := by
  obtain ⟨p, l, e, R, s, m, args, below, meth, c, Q, D, cO, e0, A, mc, ms⟩ := κ
  obtain ⟨hx, hb, hml, hown, hts, hK, hG, hR, hlk9⟩ := hκ
  intro H locs cells slots ls hF hl
  obtain ⟨k0, hk0, hk1⟩ := wG_Place cO S hO
  have h1 : vwCl[5]? = some (RX4, TX4, 2) := rfl
  have h2 : ∀ x, s.fieldFound? (TX4 0).1 (TX4 0).2.1 (TX4 0).2.2.1 = some x → s.fieldFound? ref (TX4 0).2.1 (TX4 0).2.2.1 = some x := fun x9 h9 => hsm.elim (fun z => by rw [z]; exact h9) (fun z => u_same (hts _ z) x9 h9)
  have h3 : (Cond.fieldLink own idx ref (TX4 0).2.1 (TX4 0).2.2.1).before args s = true := hts _ hlink
  have h4 : ∀ w ∈ u_ws RX4 TX4 2, w ∈ GA := inlX4
  have h5 := (hΦ H locs cells slots hF).1
  have h6 := kk H locs cells slots ls hF hl
  exact va_get (D := D) (ci := 5) (C := RX4) (T := TX4) (N := 2) hx hb hts h4 hown hK h5 k0 hk1 h1 0 (by decide) h3 h2 rfl hdg h6
theorem gt_Place_y {cc : ByteArray} {nL : Nat} {own : String} {rm : Room} {κ : KX} (hκ : Cx cc nL own rm κ) {Φ : HQ} {pc : Nat} {lv : List (Nat × Value)} {st : List Value} {S : wPS} (hΦ : Hd κ Φ S) {a idx : Nat} {ref : String} (hO : a ∈ sL S ∧ sK S a = 4) (hlink : Cond.fieldLink own idx ref "y" "I" ∈ GA) (hsm : ref = "Plotroom$Place" ∨ Cond.sameField ref "Plotroom$Place" "y" "I" ∈ GA) (hdg : decode cc pc = .ok (.getfield idx, 3)) (kk : Gj κ Φ (pc + 3) lv (.int (sI S 25 a) :: st)) : Gj κ Φ pc lv (.ref a :: st) := by
  obtain ⟨p, l, e, R, s, m, args, below, meth, c, Q, D, cO, e0, A, mc, ms⟩ := κ
  obtain ⟨hx, hb, hml, hown, hts, hK, hG, hR, hlk9⟩ := hκ
  intro H locs cells slots ls hF hl
  obtain ⟨k0, hk0, hk1⟩ := wG_Place cO S hO
  have h1 : vwCl[5]? = some (RX4, TX4, 2) := rfl
  have h2 : ∀ x, s.fieldFound? (TX4 1).1 (TX4 1).2.1 (TX4 1).2.2.1 = some x → s.fieldFound? ref (TX4 1).2.1 (TX4 1).2.2.1 = some x := fun x9 h9 => hsm.elim (fun z => by rw [z]; exact h9) (fun z => u_same (hts _ z) x9 h9)
  have h3 : (Cond.fieldLink own idx ref (TX4 1).2.1 (TX4 1).2.2.1).before args s = true := hts _ hlink
  have h4 : ∀ w ∈ u_ws RX4 TX4 2, w ∈ GA := inlX4
  have h5 := (hΦ H locs cells slots hF).1
  have h6 := kk H locs cells slots ls hF hl
  exact va_get (D := D) (ci := 5) (C := RX4) (T := TX4) (N := 2) hx hb hts h4 hown hK h5 k0 hk1 h1 1 (by decide) h3 h2 rfl hdg h6
theorem gt_Plot_x {cc : ByteArray} {nL : Nat} {own : String} {rm : Room} {κ : KX} (hκ : Cx cc nL own rm κ) {Φ : HQ} {pc : Nat} {lv : List (Nat × Value)} {st : List Value} {S : wPS} (hΦ : Hd κ Φ S) {a idx : Nat} {ref : String} (hO : a ∈ sL S ∧ sK S a = 5) (hlink : Cond.fieldLink own idx ref "x" "I" ∈ GA) (hsm : ref = "Plotroom$Place" ∨ Cond.sameField ref "Plotroom$Place" "x" "I" ∈ GA) (hdg : decode cc pc = .ok (.getfield idx, 3)) (kk : Gj κ Φ (pc + 3) lv (.int (sI S 26 a) :: st)) : Gj κ Φ pc lv (.ref a :: st) := by
  obtain ⟨p, l, e, R, s, m, args, below, meth, c, Q, D, cO, e0, A, mc, ms⟩ := κ
  obtain ⟨hx, hb, hml, hown, hts, hK, hG, hR, hlk9⟩ := hκ
  intro H locs cells slots ls hF hl
  obtain ⟨k0, hk0, hk1⟩ := wG_Plot cO S hO
  have h1 : vwCl[6]? = some (RX6, TX6, 6) := rfl
  have h2 : ∀ x, s.fieldFound? (TX6 0).1 (TX6 0).2.1 (TX6 0).2.2.1 = some x → s.fieldFound? ref (TX6 0).2.1 (TX6 0).2.2.1 = some x := fun x9 h9 => hsm.elim (fun z => by rw [z]; exact h9) (fun z => u_same (hts _ z) x9 h9)
  have h3 : (Cond.fieldLink own idx ref (TX6 0).2.1 (TX6 0).2.2.1).before args s = true := hts _ hlink
  have h4 : ∀ w ∈ u_ws RX6 TX6 6, w ∈ GA := inlX6
  have h5 := (hΦ H locs cells slots hF).1
  have h6 := kk H locs cells slots ls hF hl
  exact va_get (D := D) (ci := 6) (C := RX6) (T := TX6) (N := 6) hx hb hts h4 hown hK h5 k0 hk1 h1 0 (by decide) h3 h2 rfl hdg h6
theorem gt_Plot_y {cc : ByteArray} {nL : Nat} {own : String} {rm : Room} {κ : KX} (hκ : Cx cc nL own rm κ) {Φ : HQ} {pc : Nat} {lv : List (Nat × Value)} {st : List Value} {S : wPS} (hΦ : Hd κ Φ S) {a idx : Nat} {ref : String} (hO : a ∈ sL S ∧ sK S a = 5) (hlink : Cond.fieldLink own idx ref "y" "I" ∈ GA) (hsm : ref = "Plotroom$Place" ∨ Cond.sameField ref "Plotroom$Place" "y" "I" ∈ GA) (hdg : decode cc pc = .ok (.getfield idx, 3)) (kk : Gj κ Φ (pc + 3) lv (.int (sI S 27 a) :: st)) : Gj κ Φ pc lv (.ref a :: st) := by
  obtain ⟨p, l, e, R, s, m, args, below, meth, c, Q, D, cO, e0, A, mc, ms⟩ := κ
  obtain ⟨hx, hb, hml, hown, hts, hK, hG, hR, hlk9⟩ := hκ
  intro H locs cells slots ls hF hl
  obtain ⟨k0, hk0, hk1⟩ := wG_Plot cO S hO
  have h1 : vwCl[6]? = some (RX6, TX6, 6) := rfl
  have h2 : ∀ x, s.fieldFound? (TX6 1).1 (TX6 1).2.1 (TX6 1).2.2.1 = some x → s.fieldFound? ref (TX6 1).2.1 (TX6 1).2.2.1 = some x := fun x9 h9 => hsm.elim (fun z => by rw [z]; exact h9) (fun z => u_same (hts _ z) x9 h9)
  have h3 : (Cond.fieldLink own idx ref (TX6 1).2.1 (TX6 1).2.2.1).before args s = true := hts _ hlink
  have h4 : ∀ w ∈ u_ws RX6 TX6 6, w ∈ GA := inlX6
  have h5 := (hΦ H locs cells slots hF).1
  have h6 := kk H locs cells slots ls hF hl
  exact va_get (D := D) (ci := 6) (C := RX6) (T := TX6) (N := 6) hx hb hts h4 hown hK h5 k0 hk1 h1 1 (by decide) h3 h2 rfl hdg h6
theorem gt_Plot_mast {cc : ByteArray} {nL : Nat} {own : String} {rm : Room} {κ : KX} (hκ : Cx cc nL own rm κ) {Φ : HQ} {pc : Nat} {lv : List (Nat × Value)} {st : List Value} {S : wPS} (hΦ : Hd κ Φ S) {a idx : Nat} {ref : String} (hO : a ∈ sL S ∧ sK S a = 5) (hlink : Cond.fieldLink own idx ref "mast" "LPlotroom$Mast;" ∈ GA) (hsm : ref = "Plotroom$Plot" ∨ Cond.sameField ref "Plotroom$Plot" "mast" "LPlotroom$Mast;" ∈ GA) (hdg : decode cc pc = .ok (.getfield idx, 3)) (kk : Gj κ Φ (pc + 3) lv (va_rf (sR S 0 a) :: st)) : Gj κ Φ pc lv (.ref a :: st) := by
  obtain ⟨p, l, e, R, s, m, args, below, meth, c, Q, D, cO, e0, A, mc, ms⟩ := κ
  obtain ⟨hx, hb, hml, hown, hts, hK, hG, hR, hlk9⟩ := hκ
  intro H locs cells slots ls hF hl
  obtain ⟨k0, hk0, hk1⟩ := wG_Plot cO S hO
  have h1 : vwCl[6]? = some (RX6, TX6, 6) := rfl
  have h2 : ∀ x, s.fieldFound? (TX6 2).1 (TX6 2).2.1 (TX6 2).2.2.1 = some x → s.fieldFound? ref (TX6 2).2.1 (TX6 2).2.2.1 = some x := fun x9 h9 => hsm.elim (fun z => by rw [z]; exact h9) (fun z => u_same (hts _ z) x9 h9)
  have h3 : (Cond.fieldLink own idx ref (TX6 2).2.1 (TX6 2).2.2.1).before args s = true := hts _ hlink
  have h4 : ∀ w ∈ u_ws RX6 TX6 6, w ∈ GA := inlX6
  have h5 := (hΦ H locs cells slots hF).1
  have h6 := kk H locs cells slots ls hF hl
  exact va_get (D := D) (ci := 6) (C := RX6) (T := TX6) (N := 6) hx hb hts h4 hown hK h5 k0 hk1 h1 2 (by decide) h3 h2 rfl hdg h6
theorem gtN_Plot_mast {cc : ByteArray} {nL : Nat} {own : String} {rm : Room} {κ : KX} (hκ : Cx cc nL own rm κ) {Φ : HQ} {pc : Nat} {lv : List (Nat × Value)} {st : List Value} {S : wPS} (hΦ : Hd κ Φ S) {a idx : Nat} {ref host : String} (hO : a ∈ sL S ∧ sK S a = 5) (hlink : (own, idx, ref, "mast", "LPlotroom$Mast;", host) ∈ nestF) (hsm : ref = "Plotroom$Plot" ∨ Cond.sameField ref "Plotroom$Plot" "mast" "LPlotroom$Mast;" ∈ GA) (hdg : decode cc pc = .ok (.getfield idx, 3)) (kk : Gj κ Φ (pc + 3) lv (va_rf (sR S 0 a) :: st)) : Gj κ Φ pc lv (.ref a :: st) := by
  obtain ⟨p, l, e, R, s, m, args, below, meth, c, Q, D, cO, e0, A, mc, ms⟩ := κ
  obtain ⟨hx, hb, hml, hown, hts, hK, hG, hR, hlk9⟩ := hκ
  intro H locs cells slots ls hF hl
  obtain ⟨k0, hk0, hk1⟩ := wG_Plot cO S hO
  have h30 : va_Nw (Cond.fieldLinkNest own idx ref "mast" "LPlotroom$Mast;" host) s := hG.nf hlink
  have h31 : (Cond.fieldLinkNest own idx ref "mast" "LPlotroom$Mast;" host).onTables = true := rfl
  have h1 : vwCl[6]? = some (RX6, TX6, 6) := rfl
  have h2 : ∀ x, s.fieldFound? (TX6 2).1 (TX6 2).2.1 (TX6 2).2.2.1 = some x → s.fieldFound? ref (TX6 2).2.1 (TX6 2).2.2.1 = some x := fun x9 h9 => hsm.elim (fun z => by rw [z]; exact h9) (fun z => u_same (hts _ z) x9 h9)
  have h3 : (Cond.fieldLinkNest own idx ref (TX6 2).2.1 (TX6 2).2.2.1 host).before args s = true := va_Nw.use h31 h30
  have h4 : ∀ w ∈ u_ws RX6 TX6 6, w ∈ GA := inlX6
  have h5 := (hΦ H locs cells slots hF).1
  have h6 := kk H locs cells slots ls hF hl
  exact va_getN (D := D) (ci := 6) (C := RX6) (T := TX6) (N := 6) hx hb hts h4 hown hK h5 k0 hk1 h1 2 (by decide) h3 h2 rfl hdg h6
theorem gt_Plot_guess {cc : ByteArray} {nL : Nat} {own : String} {rm : Room} {κ : KX} (hκ : Cx cc nL own rm κ) {Φ : HQ} {pc : Nat} {lv : List (Nat × Value)} {st : List Value} {S : wPS} (hΦ : Hd κ Φ S) {a idx : Nat} {ref : String} (hO : a ∈ sL S ∧ sK S a = 5) (hlink : Cond.fieldLink own idx ref "guess" "I" ∈ GA) (hsm : ref = "Plotroom$Plot" ∨ Cond.sameField ref "Plotroom$Plot" "guess" "I" ∈ GA) (hdg : decode cc pc = .ok (.getfield idx, 3)) (kk : Gj κ Φ (pc + 3) lv (.int (sI S 28 a) :: st)) : Gj κ Φ pc lv (.ref a :: st) := by
  obtain ⟨p, l, e, R, s, m, args, below, meth, c, Q, D, cO, e0, A, mc, ms⟩ := κ
  obtain ⟨hx, hb, hml, hown, hts, hK, hG, hR, hlk9⟩ := hκ
  intro H locs cells slots ls hF hl
  obtain ⟨k0, hk0, hk1⟩ := wG_Plot cO S hO
  have h1 : vwCl[6]? = some (RX6, TX6, 6) := rfl
  have h2 : ∀ x, s.fieldFound? (TX6 3).1 (TX6 3).2.1 (TX6 3).2.2.1 = some x → s.fieldFound? ref (TX6 3).2.1 (TX6 3).2.2.1 = some x := fun x9 h9 => hsm.elim (fun z => by rw [z]; exact h9) (fun z => u_same (hts _ z) x9 h9)
  have h3 : (Cond.fieldLink own idx ref (TX6 3).2.1 (TX6 3).2.2.1).before args s = true := hts _ hlink
  have h4 : ∀ w ∈ u_ws RX6 TX6 6, w ∈ GA := inlX6
  have h5 := (hΦ H locs cells slots hF).1
  have h6 := kk H locs cells slots ls hF hl
  exact va_get (D := D) (ci := 6) (C := RX6) (T := TX6) (N := 6) hx hb hts h4 hown hK h5 k0 hk1 h1 3 (by decide) h3 h2 rfl hdg h6
theorem gtN_Plot_guess {cc : ByteArray} {nL : Nat} {own : String} {rm : Room} {κ : KX} (hκ : Cx cc nL own rm κ) {Φ : HQ} {pc : Nat} {lv : List (Nat × Value)} {st : List Value} {S : wPS} (hΦ : Hd κ Φ S) {a idx : Nat} {ref host : String} (hO : a ∈ sL S ∧ sK S a = 5) (hlink : (own, idx, ref, "guess", "I", host) ∈ nestF) (hsm : ref = "Plotroom$Plot" ∨ Cond.sameField ref "Plotroom$Plot" "guess" "I" ∈ GA) (hdg : decode cc pc = .ok (.getfield idx, 3)) (kk : Gj κ Φ (pc + 3) lv (.int (sI S 28 a) :: st)) : Gj κ Φ pc lv (.ref a :: st) := by
  obtain ⟨p, l, e, R, s, m, args, below, meth, c, Q, D, cO, e0, A, mc, ms⟩ := κ
  obtain ⟨hx, hb, hml, hown, hts, hK, hG, hR, hlk9⟩ := hκ
  intro H locs cells slots ls hF hl
  obtain ⟨k0, hk0, hk1⟩ := wG_Plot cO S hO
  have h30 : va_Nw (Cond.fieldLinkNest own idx ref "guess" "I" host) s := hG.nf hlink
  have h31 : (Cond.fieldLinkNest own idx ref "guess" "I" host).onTables = true := rfl
  have h1 : vwCl[6]? = some (RX6, TX6, 6) := rfl
  have h2 : ∀ x, s.fieldFound? (TX6 3).1 (TX6 3).2.1 (TX6 3).2.2.1 = some x → s.fieldFound? ref (TX6 3).2.1 (TX6 3).2.2.1 = some x := fun x9 h9 => hsm.elim (fun z => by rw [z]; exact h9) (fun z => u_same (hts _ z) x9 h9)
  have h3 : (Cond.fieldLinkNest own idx ref (TX6 3).2.1 (TX6 3).2.2.1 host).before args s = true := va_Nw.use h31 h30
  have h4 : ∀ w ∈ u_ws RX6 TX6 6, w ∈ GA := inlX6
  have h5 := (hΦ H locs cells slots hF).1
  have h6 := kk H locs cells slots ls hF hl
  exact va_getN (D := D) (ci := 6) (C := RX6) (T := TX6) (N := 6) hx hb hts h4 hown hK h5 k0 hk1 h1 3 (by decide) h3 h2 rfl hdg h6
theorem gt_Plot_seenAt {cc : ByteArray} {nL : Nat} {own : String} {rm : Room} {κ : KX} (hκ : Cx cc nL own rm κ) {Φ : HQ} {pc : Nat} {lv : List (Nat × Value)} {st : List Value} {S : wPS} (hΦ : Hd κ Φ S) {a idx : Nat} {ref : String} (hO : a ∈ sL S ∧ sK S a = 5) (hlink : Cond.fieldLink own idx ref "seenAt" "I" ∈ GA) (hsm : ref = "Plotroom$Plot" ∨ Cond.sameField ref "Plotroom$Plot" "seenAt" "I" ∈ GA) (hdg : decode cc pc = .ok (.getfield idx, 3)) (kk : Gj κ Φ (pc + 3) lv (.int (sI S 29 a) :: st)) : Gj κ Φ pc lv (.ref a :: st) := by
  obtain ⟨p, l, e, R, s, m, args, below, meth, c, Q, D, cO, e0, A, mc, ms⟩ := κ
  obtain ⟨hx, hb, hml, hown, hts, hK, hG, hR, hlk9⟩ := hκ
  intro H locs cells slots ls hF hl
  obtain ⟨k0, hk0, hk1⟩ := wG_Plot cO S hO
  have h1 : vwCl[6]? = some (RX6, TX6, 6) := rfl
  have h2 : ∀ x, s.fieldFound? (TX6 4).1 (TX6 4).2.1 (TX6 4).2.2.1 = some x → s.fieldFound? ref (TX6 4).2.1 (TX6 4).2.2.1 = some x := fun x9 h9 => hsm.elim (fun z => by rw [z]; exact h9) (fun z => u_same (hts _ z) x9 h9)
  have h3 : (Cond.fieldLink own idx ref (TX6 4).2.1 (TX6 4).2.2.1).before args s = true := hts _ hlink
  have h4 : ∀ w ∈ u_ws RX6 TX6 6, w ∈ GA := inlX6
  have h5 := (hΦ H locs cells slots hF).1
  have h6 := kk H locs cells slots ls hF hl
  exact va_get (D := D) (ci := 6) (C := RX6) (T := TX6) (N := 6) hx hb hts h4 hown hK h5 k0 hk1 h1 4 (by decide) h3 h2 rfl hdg h6
theorem gtN_Plot_seenAt {cc : ByteArray} {nL : Nat} {own : String} {rm : Room} {κ : KX} (hκ : Cx cc nL own rm κ) {Φ : HQ} {pc : Nat} {lv : List (Nat × Value)} {st : List Value} {S : wPS} (hΦ : Hd κ Φ S) {a idx : Nat} {ref host : String} (hO : a ∈ sL S ∧ sK S a = 5) (hlink : (own, idx, ref, "seenAt", "I", host) ∈ nestF) (hsm : ref = "Plotroom$Plot" ∨ Cond.sameField ref "Plotroom$Plot" "seenAt" "I" ∈ GA) (hdg : decode cc pc = .ok (.getfield idx, 3)) (kk : Gj κ Φ (pc + 3) lv (.int (sI S 29 a) :: st)) : Gj κ Φ pc lv (.ref a :: st) := by
  obtain ⟨p, l, e, R, s, m, args, below, meth, c, Q, D, cO, e0, A, mc, ms⟩ := κ
  obtain ⟨hx, hb, hml, hown, hts, hK, hG, hR, hlk9⟩ := hκ
  intro H locs cells slots ls hF hl
  obtain ⟨k0, hk0, hk1⟩ := wG_Plot cO S hO
  have h30 : va_Nw (Cond.fieldLinkNest own idx ref "seenAt" "I" host) s := hG.nf hlink
  have h31 : (Cond.fieldLinkNest own idx ref "seenAt" "I" host).onTables = true := rfl
  have h1 : vwCl[6]? = some (RX6, TX6, 6) := rfl
  have h2 : ∀ x, s.fieldFound? (TX6 4).1 (TX6 4).2.1 (TX6 4).2.2.1 = some x → s.fieldFound? ref (TX6 4).2.1 (TX6 4).2.2.1 = some x := fun x9 h9 => hsm.elim (fun z => by rw [z]; exact h9) (fun z => u_same (hts _ z) x9 h9)
  have h3 : (Cond.fieldLinkNest own idx ref (TX6 4).2.1 (TX6 4).2.2.1 host).before args s = true := va_Nw.use h31 h30
  have h4 : ∀ w ∈ u_ws RX6 TX6 6, w ∈ GA := inlX6
  have h5 := (hΦ H locs cells slots hF).1
  have h6 := kk H locs cells slots ls hF hl
  exact va_getN (D := D) (ci := 6) (C := RX6) (T := TX6) (N := 6) hx hb hts h4 hown hK h5 k0 hk1 h1 4 (by decide) h3 h2 rfl hdg h6
theorem gt_Plot_due {cc : ByteArray} {nL : Nat} {own : String} {rm : Room} {κ : KX} (hκ : Cx cc nL own rm κ) {Φ : HQ} {pc : Nat} {lv : List (Nat × Value)} {st : List Value} {S : wPS} (hΦ : Hd κ Φ S) {a idx : Nat} {ref : String} (hO : a ∈ sL S ∧ sK S a = 5) (hlink : Cond.fieldLink own idx ref "due" "I" ∈ GA) (hsm : ref = "Plotroom$Plot" ∨ Cond.sameField ref "Plotroom$Plot" "due" "I" ∈ GA) (hdg : decode cc pc = .ok (.getfield idx, 3)) (kk : Gj κ Φ (pc + 3) lv (.int (sI S 30 a) :: st)) : Gj κ Φ pc lv (.ref a :: st) := by
  obtain ⟨p, l, e, R, s, m, args, below, meth, c, Q, D, cO, e0, A, mc, ms⟩ := κ
  obtain ⟨hx, hb, hml, hown, hts, hK, hG, hR, hlk9⟩ := hκ
  intro H locs cells slots ls hF hl
  obtain ⟨k0, hk0, hk1⟩ := wG_Plot cO S hO
  have h1 : vwCl[6]? = some (RX6, TX6, 6) := rfl
  have h2 : ∀ x, s.fieldFound? (TX6 5).1 (TX6 5).2.1 (TX6 5).2.2.1 = some x → s.fieldFound? ref (TX6 5).2.1 (TX6 5).2.2.1 = some x := fun x9 h9 => hsm.elim (fun z => by rw [z]; exact h9) (fun z => u_same (hts _ z) x9 h9)
  have h3 : (Cond.fieldLink own idx ref (TX6 5).2.1 (TX6 5).2.2.1).before args s = true := hts _ hlink
  have h4 : ∀ w ∈ u_ws RX6 TX6 6, w ∈ GA := inlX6
  have h5 := (hΦ H locs cells slots hF).1
  have h6 := kk H locs cells slots ls hF hl
  exact va_get (D := D) (ci := 6) (C := RX6) (T := TX6) (N := 6) hx hb hts h4 hown hK h5 k0 hk1 h1 5 (by decide) h3 h2 rfl hdg h6
theorem gtN_Plot_due {cc : ByteArray} {nL : Nat} {own : String} {rm : Room} {κ : KX} (hκ : Cx cc nL own rm κ) {Φ : HQ} {pc : Nat} {lv : List (Nat × Value)} {st : List Value} {S : wPS} (hΦ : Hd κ Φ S) {a idx : Nat} {ref host : String} (hO : a ∈ sL S ∧ sK S a = 5) (hlink : (own, idx, ref, "due", "I", host) ∈ nestF) (hsm : ref = "Plotroom$Plot" ∨ Cond.sameField ref "Plotroom$Plot" "due" "I" ∈ GA) (hdg : decode cc pc = .ok (.getfield idx, 3)) (kk : Gj κ Φ (pc + 3) lv (.int (sI S 30 a) :: st)) : Gj κ Φ pc lv (.ref a :: st) := by
  obtain ⟨p, l, e, R, s, m, args, below, meth, c, Q, D, cO, e0, A, mc, ms⟩ := κ
  obtain ⟨hx, hb, hml, hown, hts, hK, hG, hR, hlk9⟩ := hκ
  intro H locs cells slots ls hF hl
  obtain ⟨k0, hk0, hk1⟩ := wG_Plot cO S hO
  have h30 : va_Nw (Cond.fieldLinkNest own idx ref "due" "I" host) s := hG.nf hlink
  have h31 : (Cond.fieldLinkNest own idx ref "due" "I" host).onTables = true := rfl
  have h1 : vwCl[6]? = some (RX6, TX6, 6) := rfl
  have h2 : ∀ x, s.fieldFound? (TX6 5).1 (TX6 5).2.1 (TX6 5).2.2.1 = some x → s.fieldFound? ref (TX6 5).2.1 (TX6 5).2.2.1 = some x := fun x9 h9 => hsm.elim (fun z => by rw [z]; exact h9) (fun z => u_same (hts _ z) x9 h9)
  have h3 : (Cond.fieldLinkNest own idx ref (TX6 5).2.1 (TX6 5).2.2.1 host).before args s = true := va_Nw.use h31 h30
  have h4 : ∀ w ∈ u_ws RX6 TX6 6, w ∈ GA := inlX6
  have h5 := (hΦ H locs cells slots hF).1
  have h6 := kk H locs cells slots ls hF hl
  exact va_getN (D := D) (ci := 6) (C := RX6) (T := TX6) (N := 6) hx hb hts h4 hown hK h5 k0 hk1 h1 5 (by decide) h3 h2 rfl hdg h6
theorem gt_Squadron_x {cc : ByteArray} {nL : Nat} {own : String} {rm : Room} {κ : KX} (hκ : Cx cc nL own rm κ) {Φ : HQ} {pc : Nat} {lv : List (Nat × Value)} {st : List Value} {S : wPS} (hΦ : Hd κ Φ S) {a idx : Nat} {ref : String} (hO : a ∈ sL S ∧ sK S a = 6) (hlink : Cond.fieldLink own idx ref "x" "I" ∈ GA) (hsm : ref = "Plotroom$Place" ∨ Cond.sameField ref "Plotroom$Place" "x" "I" ∈ GA) (hdg : decode cc pc = .ok (.getfield idx, 3)) (kk : Gj κ Φ (pc + 3) lv (.int (sI S 31 a) :: st)) : Gj κ Φ pc lv (.ref a :: st) := by
  obtain ⟨p, l, e, R, s, m, args, below, meth, c, Q, D, cO, e0, A, mc, ms⟩ := κ
  obtain ⟨hx, hb, hml, hown, hts, hK, hG, hR, hlk9⟩ := hκ
  intro H locs cells slots ls hF hl
  obtain ⟨k0, hk0, hk1⟩ := wG_Squadron cO S hO
  have h1 : vwCl[7]? = some (RX7, TX7, 13) := rfl
  have h2 : ∀ x, s.fieldFound? (TX7 0).1 (TX7 0).2.1 (TX7 0).2.2.1 = some x → s.fieldFound? ref (TX7 0).2.1 (TX7 0).2.2.1 = some x := fun x9 h9 => hsm.elim (fun z => by rw [z]; exact h9) (fun z => u_same (hts _ z) x9 h9)
  have h3 : (Cond.fieldLink own idx ref (TX7 0).2.1 (TX7 0).2.2.1).before args s = true := hts _ hlink
  have h4 : ∀ w ∈ u_ws RX7 TX7 13, w ∈ GA := inlX7
  have h5 := (hΦ H locs cells slots hF).1
  have h6 := kk H locs cells slots ls hF hl
  exact va_get (D := D) (ci := 7) (C := RX7) (T := TX7) (N := 13) hx hb hts h4 hown hK h5 k0 hk1 h1 0 (by decide) h3 h2 rfl hdg h6
theorem gt_Squadron_y {cc : ByteArray} {nL : Nat} {own : String} {rm : Room} {κ : KX} (hκ : Cx cc nL own rm κ) {Φ : HQ} {pc : Nat} {lv : List (Nat × Value)} {st : List Value} {S : wPS} (hΦ : Hd κ Φ S) {a idx : Nat} {ref : String} (hO : a ∈ sL S ∧ sK S a = 6) (hlink : Cond.fieldLink own idx ref "y" "I" ∈ GA) (hsm : ref = "Plotroom$Place" ∨ Cond.sameField ref "Plotroom$Place" "y" "I" ∈ GA) (hdg : decode cc pc = .ok (.getfield idx, 3)) (kk : Gj κ Φ (pc + 3) lv (.int (sI S 32 a) :: st)) : Gj κ Φ pc lv (.ref a :: st) := by
  obtain ⟨p, l, e, R, s, m, args, below, meth, c, Q, D, cO, e0, A, mc, ms⟩ := κ
  obtain ⟨hx, hb, hml, hown, hts, hK, hG, hR, hlk9⟩ := hκ
  intro H locs cells slots ls hF hl
  obtain ⟨k0, hk0, hk1⟩ := wG_Squadron cO S hO
  have h1 : vwCl[7]? = some (RX7, TX7, 13) := rfl
  have h2 : ∀ x, s.fieldFound? (TX7 1).1 (TX7 1).2.1 (TX7 1).2.2.1 = some x → s.fieldFound? ref (TX7 1).2.1 (TX7 1).2.2.1 = some x := fun x9 h9 => hsm.elim (fun z => by rw [z]; exact h9) (fun z => u_same (hts _ z) x9 h9)
  have h3 : (Cond.fieldLink own idx ref (TX7 1).2.1 (TX7 1).2.2.1).before args s = true := hts _ hlink
  have h4 : ∀ w ∈ u_ws RX7 TX7 13, w ∈ GA := inlX7
  have h5 := (hΦ H locs cells slots hF).1
  have h6 := kk H locs cells slots ls hF hl
  exact va_get (D := D) (ci := 7) (C := RX7) (T := TX7) (N := 13) hx hb hts h4 hown hK h5 k0 hk1 h1 1 (by decide) h3 h2 rfl hdg h6
theorem gt_Squadron_stationNumber {cc : ByteArray} {nL : Nat} {own : String} {rm : Room} {κ : KX} (hκ : Cx cc nL own rm κ) {Φ : HQ} {pc : Nat} {lv : List (Nat × Value)} {st : List Value} {S : wPS} (hΦ : Hd κ Φ S) {a idx : Nat} {ref : String} (hO : a ∈ sL S ∧ sK S a = 6) (hlink : Cond.fieldLink own idx ref "stationNumber" "I" ∈ GA) (hsm : ref = "Plotroom$Squadron" ∨ Cond.sameField ref "Plotroom$Squadron" "stationNumber" "I" ∈ GA) (hdg : decode cc pc = .ok (.getfield idx, 3)) (kk : Gj κ Φ (pc + 3) lv (.int (sI S 33 a) :: st)) : Gj κ Φ pc lv (.ref a :: st) := by
  obtain ⟨p, l, e, R, s, m, args, below, meth, c, Q, D, cO, e0, A, mc, ms⟩ := κ
  obtain ⟨hx, hb, hml, hown, hts, hK, hG, hR, hlk9⟩ := hκ
  intro H locs cells slots ls hF hl
  obtain ⟨k0, hk0, hk1⟩ := wG_Squadron cO S hO
  have h1 : vwCl[7]? = some (RX7, TX7, 13) := rfl
  have h2 : ∀ x, s.fieldFound? (TX7 2).1 (TX7 2).2.1 (TX7 2).2.2.1 = some x → s.fieldFound? ref (TX7 2).2.1 (TX7 2).2.2.1 = some x := fun x9 h9 => hsm.elim (fun z => by rw [z]; exact h9) (fun z => u_same (hts _ z) x9 h9)
  have h3 : (Cond.fieldLink own idx ref (TX7 2).2.1 (TX7 2).2.2.1).before args s = true := hts _ hlink
  have h4 : ∀ w ∈ u_ws RX7 TX7 13, w ∈ GA := inlX7
  have h5 := (hΦ H locs cells slots hF).1
  have h6 := kk H locs cells slots ls hF hl
  exact va_get (D := D) (ci := 7) (C := RX7) (T := TX7) (N := 13) hx hb hts h4 hown hK h5 k0 hk1 h1 2 (by decide) h3 h2 rfl hdg h6
theorem gt_Squadron_base {cc : ByteArray} {nL : Nat} {own : String} {rm : Room} {κ : KX} (hκ : Cx cc nL own rm κ) {Φ : HQ} {pc : Nat} {lv : List (Nat × Value)} {st : List Value} {S : wPS} (hΦ : Hd κ Φ S) {a idx : Nat} {ref : String} (hO : a ∈ sL S ∧ sK S a = 6) (hlink : Cond.fieldLink own idx ref "base" "LPlotroom$Place;" ∈ GA) (hsm : ref = "Plotroom$Squadron" ∨ Cond.sameField ref "Plotroom$Squadron" "base" "LPlotroom$Place;" ∈ GA) (hdg : decode cc pc = .ok (.getfield idx, 3)) (kk : Gj κ Φ (pc + 3) lv (va_rf (sR S 1 a) :: st)) : Gj κ Φ pc lv (.ref a :: st) := by
  obtain ⟨p, l, e, R, s, m, args, below, meth, c, Q, D, cO, e0, A, mc, ms⟩ := κ
  obtain ⟨hx, hb, hml, hown, hts, hK, hG, hR, hlk9⟩ := hκ
  intro H locs cells slots ls hF hl
  obtain ⟨k0, hk0, hk1⟩ := wG_Squadron cO S hO
  have h1 : vwCl[7]? = some (RX7, TX7, 13) := rfl
  have h2 : ∀ x, s.fieldFound? (TX7 3).1 (TX7 3).2.1 (TX7 3).2.2.1 = some x → s.fieldFound? ref (TX7 3).2.1 (TX7 3).2.2.1 = some x := fun x9 h9 => hsm.elim (fun z => by rw [z]; exact h9) (fun z => u_same (hts _ z) x9 h9)
  have h3 : (Cond.fieldLink own idx ref (TX7 3).2.1 (TX7 3).2.2.1).before args s = true := hts _ hlink
  have h4 : ∀ w ∈ u_ws RX7 TX7 13, w ∈ GA := inlX7
  have h5 := (hΦ H locs cells slots hF).1
  have h6 := kk H locs cells slots ls hF hl
  exact va_get (D := D) (ci := 7) (C := RX7) (T := TX7) (N := 13) hx hb hts h4 hown hK h5 k0 hk1 h1 3 (by decide) h3 h2 rfl hdg h6
theorem gtN_Squadron_base {cc : ByteArray} {nL : Nat} {own : String} {rm : Room} {κ : KX} (hκ : Cx cc nL own rm κ) {Φ : HQ} {pc : Nat} {lv : List (Nat × Value)} {st : List Value} {S : wPS} (hΦ : Hd κ Φ S) {a idx : Nat} {ref host : String} (hO : a ∈ sL S ∧ sK S a = 6) (hlink : (own, idx, ref, "base", "LPlotroom$Place;", host) ∈ nestF) (hsm : ref = "Plotroom$Squadron" ∨ Cond.sameField ref "Plotroom$Squadron" "base" "LPlotroom$Place;" ∈ GA) (hdg : decode cc pc = .ok (.getfield idx, 3)) (kk : Gj κ Φ (pc + 3) lv (va_rf (sR S 1 a) :: st)) : Gj κ Φ pc lv (.ref a :: st) := by
  obtain ⟨p, l, e, R, s, m, args, below, meth, c, Q, D, cO, e0, A, mc, ms⟩ := κ
  obtain ⟨hx, hb, hml, hown, hts, hK, hG, hR, hlk9⟩ := hκ
  intro H locs cells slots ls hF hl
  obtain ⟨k0, hk0, hk1⟩ := wG_Squadron cO S hO
  have h30 : va_Nw (Cond.fieldLinkNest own idx ref "base" "LPlotroom$Place;" host) s := hG.nf hlink
  have h31 : (Cond.fieldLinkNest own idx ref "base" "LPlotroom$Place;" host).onTables = true := rfl
  have h1 : vwCl[7]? = some (RX7, TX7, 13) := rfl
  have h2 : ∀ x, s.fieldFound? (TX7 3).1 (TX7 3).2.1 (TX7 3).2.2.1 = some x → s.fieldFound? ref (TX7 3).2.1 (TX7 3).2.2.1 = some x := fun x9 h9 => hsm.elim (fun z => by rw [z]; exact h9) (fun z => u_same (hts _ z) x9 h9)
  have h3 : (Cond.fieldLinkNest own idx ref (TX7 3).2.1 (TX7 3).2.2.1 host).before args s = true := va_Nw.use h31 h30
  have h4 : ∀ w ∈ u_ws RX7 TX7 13, w ∈ GA := inlX7
  have h5 := (hΦ H locs cells slots hF).1
  have h6 := kk H locs cells slots ls hF hl
  exact va_getN (D := D) (ci := 7) (C := RX7) (T := TX7) (N := 13) hx hb hts h4 hown hK h5 k0 hk1 h1 3 (by decide) h3 h2 rfl hdg h6
theorem gt_Squadron_speed {cc : ByteArray} {nL : Nat} {own : String} {rm : Room} {κ : KX} (hκ : Cx cc nL own rm κ) {Φ : HQ} {pc : Nat} {lv : List (Nat × Value)} {st : List Value} {S : wPS} (hΦ : Hd κ Φ S) {a idx : Nat} {ref : String} (hO : a ∈ sL S ∧ sK S a = 6) (hlink : Cond.fieldLink own idx ref "speed" "I" ∈ GA) (hsm : ref = "Plotroom$Squadron" ∨ Cond.sameField ref "Plotroom$Squadron" "speed" "I" ∈ GA) (hdg : decode cc pc = .ok (.getfield idx, 3)) (kk : Gj κ Φ (pc + 3) lv (.int (sI S 34 a) :: st)) : Gj κ Φ pc lv (.ref a :: st) := by
  obtain ⟨p, l, e, R, s, m, args, below, meth, c, Q, D, cO, e0, A, mc, ms⟩ := κ
  obtain ⟨hx, hb, hml, hown, hts, hK, hG, hR, hlk9⟩ := hκ
  intro H locs cells slots ls hF hl
  obtain ⟨k0, hk0, hk1⟩ := wG_Squadron cO S hO
  have h1 : vwCl[7]? = some (RX7, TX7, 13) := rfl
  have h2 : ∀ x, s.fieldFound? (TX7 4).1 (TX7 4).2.1 (TX7 4).2.2.1 = some x → s.fieldFound? ref (TX7 4).2.1 (TX7 4).2.2.1 = some x := fun x9 h9 => hsm.elim (fun z => by rw [z]; exact h9) (fun z => u_same (hts _ z) x9 h9)
  have h3 : (Cond.fieldLink own idx ref (TX7 4).2.1 (TX7 4).2.2.1).before args s = true := hts _ hlink
  have h4 : ∀ w ∈ u_ws RX7 TX7 13, w ∈ GA := inlX7
  have h5 := (hΦ H locs cells slots hF).1
  have h6 := kk H locs cells slots ls hF hl
  exact va_get (D := D) (ci := 7) (C := RX7) (T := TX7) (N := 13) hx hb hts h4 hown hK h5 k0 hk1 h1 4 (by decide) h3 h2 rfl hdg h6
theorem gt_Squadron_tank {cc : ByteArray} {nL : Nat} {own : String} {rm : Room} {κ : KX} (hκ : Cx cc nL own rm κ) {Φ : HQ} {pc : Nat} {lv : List (Nat × Value)} {st : List Value} {S : wPS} (hΦ : Hd κ Φ S) {a idx : Nat} {ref : String} (hO : a ∈ sL S ∧ sK S a = 6) (hlink : Cond.fieldLink own idx ref "tank" "I" ∈ GA) (hsm : ref = "Plotroom$Squadron" ∨ Cond.sameField ref "Plotroom$Squadron" "tank" "I" ∈ GA) (hdg : decode cc pc = .ok (.getfield idx, 3)) (kk : Gj κ Φ (pc + 3) lv (.int (sI S 35 a) :: st)) : Gj κ Φ pc lv (.ref a :: st) := by
  obtain ⟨p, l, e, R, s, m, args, below, meth, c, Q, D, cO, e0, A, mc, ms⟩ := κ
  obtain ⟨hx, hb, hml, hown, hts, hK, hG, hR, hlk9⟩ := hκ
  intro H locs cells slots ls hF hl
  obtain ⟨k0, hk0, hk1⟩ := wG_Squadron cO S hO
  have h1 : vwCl[7]? = some (RX7, TX7, 13) := rfl
  have h2 : ∀ x, s.fieldFound? (TX7 5).1 (TX7 5).2.1 (TX7 5).2.2.1 = some x → s.fieldFound? ref (TX7 5).2.1 (TX7 5).2.2.1 = some x := fun x9 h9 => hsm.elim (fun z => by rw [z]; exact h9) (fun z => u_same (hts _ z) x9 h9)
  have h3 : (Cond.fieldLink own idx ref (TX7 5).2.1 (TX7 5).2.2.1).before args s = true := hts _ hlink
  have h4 : ∀ w ∈ u_ws RX7 TX7 13, w ∈ GA := inlX7
  have h5 := (hΦ H locs cells slots hF).1
  have h6 := kk H locs cells slots ls hF hl
  exact va_get (D := D) (ci := 7) (C := RX7) (T := TX7) (N := 13) hx hb hts h4 hown hK h5 k0 hk1 h1 5 (by decide) h3 h2 rfl hdg h6
theorem gtN_Squadron_tank {cc : ByteArray} {nL : Nat} {own : String} {rm : Room} {κ : KX} (hκ : Cx cc nL own rm κ) {Φ : HQ} {pc : Nat} {lv : List (Nat × Value)} {st : List Value} {S : wPS} (hΦ : Hd κ Φ S) {a idx : Nat} {ref host : String} (hO : a ∈ sL S ∧ sK S a = 6) (hlink : (own, idx, ref, "tank", "I", host) ∈ nestF) (hsm : ref = "Plotroom$Squadron" ∨ Cond.sameField ref "Plotroom$Squadron" "tank" "I" ∈ GA) (hdg : decode cc pc = .ok (.getfield idx, 3)) (kk : Gj κ Φ (pc + 3) lv (.int (sI S 35 a) :: st)) : Gj κ Φ pc lv (.ref a :: st) := by
  obtain ⟨p, l, e, R, s, m, args, below, meth, c, Q, D, cO, e0, A, mc, ms⟩ := κ
  obtain ⟨hx, hb, hml, hown, hts, hK, hG, hR, hlk9⟩ := hκ
  intro H locs cells slots ls hF hl
  obtain ⟨k0, hk0, hk1⟩ := wG_Squadron cO S hO
  have h30 : va_Nw (Cond.fieldLinkNest own idx ref "tank" "I" host) s := hG.nf hlink
  have h31 : (Cond.fieldLinkNest own idx ref "tank" "I" host).onTables = true := rfl
  have h1 : vwCl[7]? = some (RX7, TX7, 13) := rfl
  have h2 : ∀ x, s.fieldFound? (TX7 5).1 (TX7 5).2.1 (TX7 5).2.2.1 = some x → s.fieldFound? ref (TX7 5).2.1 (TX7 5).2.2.1 = some x := fun x9 h9 => hsm.elim (fun z => by rw [z]; exact h9) (fun z => u_same (hts _ z) x9 h9)
  have h3 : (Cond.fieldLinkNest own idx ref (TX7 5).2.1 (TX7 5).2.2.1 host).before args s = true := va_Nw.use h31 h30
  have h4 : ∀ w ∈ u_ws RX7 TX7 13, w ∈ GA := inlX7
  have h5 := (hΦ H locs cells slots hF).1
  have h6 := kk H locs cells slots ls hF hl
  exact va_getN (D := D) (ci := 7) (C := RX7) (T := TX7) (N := 13) hx hb hts h4 hown hK h5 k0 hk1 h1 5 (by decide) h3 h2 rfl hdg h6
theorem gt_Squadron_ready {cc : ByteArray} {nL : Nat} {own : String} {rm : Room} {κ : KX} (hκ : Cx cc nL own rm κ) {Φ : HQ} {pc : Nat} {lv : List (Nat × Value)} {st : List Value} {S : wPS} (hΦ : Hd κ Φ S) {a idx : Nat} {ref : String} (hO : a ∈ sL S ∧ sK S a = 6) (hlink : Cond.fieldLink own idx ref "ready" "I" ∈ GA) (hsm : ref = "Plotroom$Squadron" ∨ Cond.sameField ref "Plotroom$Squadron" "ready" "I" ∈ GA) (hdg : decode cc pc = .ok (.getfield idx, 3)) (kk : Gj κ Φ (pc + 3) lv (.int (sI S 36 a) :: st)) : Gj κ Φ pc lv (.ref a :: st) := by
  obtain ⟨p, l, e, R, s, m, args, below, meth, c, Q, D, cO, e0, A, mc, ms⟩ := κ
  obtain ⟨hx, hb, hml, hown, hts, hK, hG, hR, hlk9⟩ := hκ
  intro H locs cells slots ls hF hl
  obtain ⟨k0, hk0, hk1⟩ := wG_Squadron cO S hO
  have h1 : vwCl[7]? = some (RX7, TX7, 13) := rfl
  have h2 : ∀ x, s.fieldFound? (TX7 6).1 (TX7 6).2.1 (TX7 6).2.2.1 = some x → s.fieldFound? ref (TX7 6).2.1 (TX7 6).2.2.1 = some x := fun x9 h9 => hsm.elim (fun z => by rw [z]; exact h9) (fun z => u_same (hts _ z) x9 h9)
  have h3 : (Cond.fieldLink own idx ref (TX7 6).2.1 (TX7 6).2.2.1).before args s = true := hts _ hlink
  have h4 : ∀ w ∈ u_ws RX7 TX7 13, w ∈ GA := inlX7
  have h5 := (hΦ H locs cells slots hF).1
  have h6 := kk H locs cells slots ls hF hl
  exact va_get (D := D) (ci := 7) (C := RX7) (T := TX7) (N := 13) hx hb hts h4 hown hK h5 k0 hk1 h1 6 (by decide) h3 h2 rfl hdg h6
theorem gtN_Squadron_ready {cc : ByteArray} {nL : Nat} {own : String} {rm : Room} {κ : KX} (hκ : Cx cc nL own rm κ) {Φ : HQ} {pc : Nat} {lv : List (Nat × Value)} {st : List Value} {S : wPS} (hΦ : Hd κ Φ S) {a idx : Nat} {ref host : String} (hO : a ∈ sL S ∧ sK S a = 6) (hlink : (own, idx, ref, "ready", "I", host) ∈ nestF) (hsm : ref = "Plotroom$Squadron" ∨ Cond.sameField ref "Plotroom$Squadron" "ready" "I" ∈ GA) (hdg : decode cc pc = .ok (.getfield idx, 3)) (kk : Gj κ Φ (pc + 3) lv (.int (sI S 36 a) :: st)) : Gj κ Φ pc lv (.ref a :: st) := by
  obtain ⟨p, l, e, R, s, m, args, below, meth, c, Q, D, cO, e0, A, mc, ms⟩ := κ
  obtain ⟨hx, hb, hml, hown, hts, hK, hG, hR, hlk9⟩ := hκ
  intro H locs cells slots ls hF hl
  obtain ⟨k0, hk0, hk1⟩ := wG_Squadron cO S hO
  have h30 : va_Nw (Cond.fieldLinkNest own idx ref "ready" "I" host) s := hG.nf hlink
  have h31 : (Cond.fieldLinkNest own idx ref "ready" "I" host).onTables = true := rfl
  have h1 : vwCl[7]? = some (RX7, TX7, 13) := rfl
  have h2 : ∀ x, s.fieldFound? (TX7 6).1 (TX7 6).2.1 (TX7 6).2.2.1 = some x → s.fieldFound? ref (TX7 6).2.1 (TX7 6).2.2.1 = some x := fun x9 h9 => hsm.elim (fun z => by rw [z]; exact h9) (fun z => u_same (hts _ z) x9 h9)
  have h3 : (Cond.fieldLinkNest own idx ref (TX7 6).2.1 (TX7 6).2.2.1 host).before args s = true := va_Nw.use h31 h30
  have h4 : ∀ w ∈ u_ws RX7 TX7 13, w ∈ GA := inlX7
  have h5 := (hΦ H locs cells slots hF).1
  have h6 := kk H locs cells slots ls hF hl
  exact va_getN (D := D) (ci := 7) (C := RX7) (T := TX7) (N := 13) hx hb hts h4 hown hK h5 k0 hk1 h1 6 (by decide) h3 h2 rfl hdg h6
theorem gt_Squadron_machines {cc : ByteArray} {nL : Nat} {own : String} {rm : Room} {κ : KX} (hκ : Cx cc nL own rm κ) {Φ : HQ} {pc : Nat} {lv : List (Nat × Value)} {st : List Value} {S : wPS} (hΦ : Hd κ Φ S) {a idx : Nat} {ref : String} (hO : a ∈ sL S ∧ sK S a = 6) (hlink : Cond.fieldLink own idx ref "machines" "I" ∈ GA) (hsm : ref = "Plotroom$Squadron" ∨ Cond.sameField ref "Plotroom$Squadron" "machines" "I" ∈ GA) (hdg : decode cc pc = .ok (.getfield idx, 3)) (kk : Gj κ Φ (pc + 3) lv (.int (sI S 37 a) :: st)) : Gj κ Φ pc lv (.ref a :: st) := by
  obtain ⟨p, l, e, R, s, m, args, below, meth, c, Q, D, cO, e0, A, mc, ms⟩ := κ
  obtain ⟨hx, hb, hml, hown, hts, hK, hG, hR, hlk9⟩ := hκ
  intro H locs cells slots ls hF hl
  obtain ⟨k0, hk0, hk1⟩ := wG_Squadron cO S hO
  have h1 : vwCl[7]? = some (RX7, TX7, 13) := rfl
  have h2 : ∀ x, s.fieldFound? (TX7 7).1 (TX7 7).2.1 (TX7 7).2.2.1 = some x → s.fieldFound? ref (TX7 7).2.1 (TX7 7).2.2.1 = some x := fun x9 h9 => hsm.elim (fun z => by rw [z]; exact h9) (fun z => u_same (hts _ z) x9 h9)
  have h3 : (Cond.fieldLink own idx ref (TX7 7).2.1 (TX7 7).2.2.1).before args s = true := hts _ hlink
  have h4 : ∀ w ∈ u_ws RX7 TX7 13, w ∈ GA := inlX7
  have h5 := (hΦ H locs cells slots hF).1
  have h6 := kk H locs cells slots ls hF hl
  exact va_get (D := D) (ci := 7) (C := RX7) (T := TX7) (N := 13) hx hb hts h4 hown hK h5 k0 hk1 h1 7 (by decide) h3 h2 rfl hdg h6
theorem gtN_Squadron_machines {cc : ByteArray} {nL : Nat} {own : String} {rm : Room} {κ : KX} (hκ : Cx cc nL own rm κ) {Φ : HQ} {pc : Nat} {lv : List (Nat × Value)} {st : List Value} {S : wPS} (hΦ : Hd κ Φ S) {a idx : Nat} {ref host : String} (hO : a ∈ sL S ∧ sK S a = 6) (hlink : (own, idx, ref, "machines", "I", host) ∈ nestF) (hsm : ref = "Plotroom$Squadron" ∨ Cond.sameField ref "Plotroom$Squadron" "machines" "I" ∈ GA) (hdg : decode cc pc = .ok (.getfield idx, 3)) (kk : Gj κ Φ (pc + 3) lv (.int (sI S 37 a) :: st)) : Gj κ Φ pc lv (.ref a :: st) := by
  obtain ⟨p, l, e, R, s, m, args, below, meth, c, Q, D, cO, e0, A, mc, ms⟩ := κ
  obtain ⟨hx, hb, hml, hown, hts, hK, hG, hR, hlk9⟩ := hκ
  intro H locs cells slots ls hF hl
  obtain ⟨k0, hk0, hk1⟩ := wG_Squadron cO S hO
  have h30 : va_Nw (Cond.fieldLinkNest own idx ref "machines" "I" host) s := hG.nf hlink
  have h31 : (Cond.fieldLinkNest own idx ref "machines" "I" host).onTables = true := rfl
  have h1 : vwCl[7]? = some (RX7, TX7, 13) := rfl
  have h2 : ∀ x, s.fieldFound? (TX7 7).1 (TX7 7).2.1 (TX7 7).2.2.1 = some x → s.fieldFound? ref (TX7 7).2.1 (TX7 7).2.2.1 = some x := fun x9 h9 => hsm.elim (fun z => by rw [z]; exact h9) (fun z => u_same (hts _ z) x9 h9)
  have h3 : (Cond.fieldLinkNest own idx ref (TX7 7).2.1 (TX7 7).2.2.1 host).before args s = true := va_Nw.use h31 h30
  have h4 : ∀ w ∈ u_ws RX7 TX7 13, w ∈ GA := inlX7
  have h5 := (hΦ H locs cells slots hF).1
  have h6 := kk H locs cells slots ls hF hl
  exact va_getN (D := D) (ci := 7) (C := RX7) (T := TX7) (N := 13) hx hb hts h4 hown hK h5 k0 hk1 h1 7 (by decide) h3 h2 rfl hdg h6
theorem gt_Squadron_state {cc : ByteArray} {nL : Nat} {own : String} {rm : Room} {κ : KX} (hκ : Cx cc nL own rm κ) {Φ : HQ} {pc : Nat} {lv : List (Nat × Value)} {st : List Value} {S : wPS} (hΦ : Hd κ Φ S) {a idx : Nat} {ref : String} (hO : a ∈ sL S ∧ sK S a = 6) (hlink : Cond.fieldLink own idx ref "state" "I" ∈ GA) (hsm : ref = "Plotroom$Squadron" ∨ Cond.sameField ref "Plotroom$Squadron" "state" "I" ∈ GA) (hdg : decode cc pc = .ok (.getfield idx, 3)) (kk : Gj κ Φ (pc + 3) lv (.int (sI S 38 a) :: st)) : Gj κ Φ pc lv (.ref a :: st) := by
  obtain ⟨p, l, e, R, s, m, args, below, meth, c, Q, D, cO, e0, A, mc, ms⟩ := κ
  obtain ⟨hx, hb, hml, hown, hts, hK, hG, hR, hlk9⟩ := hκ
  intro H locs cells slots ls hF hl
  obtain ⟨k0, hk0, hk1⟩ := wG_Squadron cO S hO
  have h1 : vwCl[7]? = some (RX7, TX7, 13) := rfl
  have h2 : ∀ x, s.fieldFound? (TX7 8).1 (TX7 8).2.1 (TX7 8).2.2.1 = some x → s.fieldFound? ref (TX7 8).2.1 (TX7 8).2.2.1 = some x := fun x9 h9 => hsm.elim (fun z => by rw [z]; exact h9) (fun z => u_same (hts _ z) x9 h9)
  have h3 : (Cond.fieldLink own idx ref (TX7 8).2.1 (TX7 8).2.2.1).before args s = true := hts _ hlink
  have h4 : ∀ w ∈ u_ws RX7 TX7 13, w ∈ GA := inlX7
  have h5 := (hΦ H locs cells slots hF).1
  have h6 := kk H locs cells slots ls hF hl
  exact va_get (D := D) (ci := 7) (C := RX7) (T := TX7) (N := 13) hx hb hts h4 hown hK h5 k0 hk1 h1 8 (by decide) h3 h2 rfl hdg h6
theorem gtN_Squadron_state {cc : ByteArray} {nL : Nat} {own : String} {rm : Room} {κ : KX} (hκ : Cx cc nL own rm κ) {Φ : HQ} {pc : Nat} {lv : List (Nat × Value)} {st : List Value} {S : wPS} (hΦ : Hd κ Φ S) {a idx : Nat} {ref host : String} (hO : a ∈ sL S ∧ sK S a = 6) (hlink : (own, idx, ref, "state", "I", host) ∈ nestF) (hsm : ref = "Plotroom$Squadron" ∨ Cond.sameField ref "Plotroom$Squadron" "state" "I" ∈ GA) (hdg : decode cc pc = .ok (.getfield idx, 3)) (kk : Gj κ Φ (pc + 3) lv (.int (sI S 38 a) :: st)) : Gj κ Φ pc lv (.ref a :: st) := by
  obtain ⟨p, l, e, R, s, m, args, below, meth, c, Q, D, cO, e0, A, mc, ms⟩ := κ
  obtain ⟨hx, hb, hml, hown, hts, hK, hG, hR, hlk9⟩ := hκ
  intro H locs cells slots ls hF hl
  obtain ⟨k0, hk0, hk1⟩ := wG_Squadron cO S hO
  have h30 : va_Nw (Cond.fieldLinkNest own idx ref "state" "I" host) s := hG.nf hlink
  have h31 : (Cond.fieldLinkNest own idx ref "state" "I" host).onTables = true := rfl
  have h1 : vwCl[7]? = some (RX7, TX7, 13) := rfl
  have h2 : ∀ x, s.fieldFound? (TX7 8).1 (TX7 8).2.1 (TX7 8).2.2.1 = some x → s.fieldFound? ref (TX7 8).2.1 (TX7 8).2.2.1 = some x := fun x9 h9 => hsm.elim (fun z => by rw [z]; exact h9) (fun z => u_same (hts _ z) x9 h9)
  have h3 : (Cond.fieldLinkNest own idx ref (TX7 8).2.1 (TX7 8).2.2.1 host).before args s = true := va_Nw.use h31 h30
  have h4 : ∀ w ∈ u_ws RX7 TX7 13, w ∈ GA := inlX7
  have h5 := (hΦ H locs cells slots hF).1
  have h6 := kk H locs cells slots ls hF hl
  exact va_getN (D := D) (ci := 7) (C := RX7) (T := TX7) (N := 13) hx hb hts h4 hown hK h5 k0 hk1 h1 8 (by decide) h3 h2 rfl hdg h6
theorem gt_Squadron_fuel {cc : ByteArray} {nL : Nat} {own : String} {rm : Room} {κ : KX} (hκ : Cx cc nL own rm κ) {Φ : HQ} {pc : Nat} {lv : List (Nat × Value)} {st : List Value} {S : wPS} (hΦ : Hd κ Φ S) {a idx : Nat} {ref : String} (hO : a ∈ sL S ∧ sK S a = 6) (hlink : Cond.fieldLink own idx ref "fuel" "I" ∈ GA) (hsm : ref = "Plotroom$Squadron" ∨ Cond.sameField ref "Plotroom$Squadron" "fuel" "I" ∈ GA) (hdg : decode cc pc = .ok (.getfield idx, 3)) (kk : Gj κ Φ (pc + 3) lv (.int (sI S 39 a) :: st)) : Gj κ Φ pc lv (.ref a :: st) := by
  obtain ⟨p, l, e, R, s, m, args, below, meth, c, Q, D, cO, e0, A, mc, ms⟩ := κ
  obtain ⟨hx, hb, hml, hown, hts, hK, hG, hR, hlk9⟩ := hκ
  intro H locs cells slots ls hF hl
  obtain ⟨k0, hk0, hk1⟩ := wG_Squadron cO S hO
  have h1 : vwCl[7]? = some (RX7, TX7, 13) := rfl
  have h2 : ∀ x, s.fieldFound? (TX7 9).1 (TX7 9).2.1 (TX7 9).2.2.1 = some x → s.fieldFound? ref (TX7 9).2.1 (TX7 9).2.2.1 = some x := fun x9 h9 => hsm.elim (fun z => by rw [z]; exact h9) (fun z => u_same (hts _ z) x9 h9)
  have h3 : (Cond.fieldLink own idx ref (TX7 9).2.1 (TX7 9).2.2.1).before args s = true := hts _ hlink
  have h4 : ∀ w ∈ u_ws RX7 TX7 13, w ∈ GA := inlX7
  have h5 := (hΦ H locs cells slots hF).1
  have h6 := kk H locs cells slots ls hF hl
  exact va_get (D := D) (ci := 7) (C := RX7) (T := TX7) (N := 13) hx hb hts h4 hown hK h5 k0 hk1 h1 9 (by decide) h3 h2 rfl hdg h6
theorem gtN_Squadron_fuel {cc : ByteArray} {nL : Nat} {own : String} {rm : Room} {κ : KX} (hκ : Cx cc nL own rm κ) {Φ : HQ} {pc : Nat} {lv : List (Nat × Value)} {st : List Value} {S : wPS} (hΦ : Hd κ Φ S) {a idx : Nat} {ref host : String} (hO : a ∈ sL S ∧ sK S a = 6) (hlink : (own, idx, ref, "fuel", "I", host) ∈ nestF) (hsm : ref = "Plotroom$Squadron" ∨ Cond.sameField ref "Plotroom$Squadron" "fuel" "I" ∈ GA) (hdg : decode cc pc = .ok (.getfield idx, 3)) (kk : Gj κ Φ (pc + 3) lv (.int (sI S 39 a) :: st)) : Gj κ Φ pc lv (.ref a :: st) := by
  obtain ⟨p, l, e, R, s, m, args, below, meth, c, Q, D, cO, e0, A, mc, ms⟩ := κ
  obtain ⟨hx, hb, hml, hown, hts, hK, hG, hR, hlk9⟩ := hκ
  intro H locs cells slots ls hF hl
  obtain ⟨k0, hk0, hk1⟩ := wG_Squadron cO S hO
  have h30 : va_Nw (Cond.fieldLinkNest own idx ref "fuel" "I" host) s := hG.nf hlink
  have h31 : (Cond.fieldLinkNest own idx ref "fuel" "I" host).onTables = true := rfl
  have h1 : vwCl[7]? = some (RX7, TX7, 13) := rfl
  have h2 : ∀ x, s.fieldFound? (TX7 9).1 (TX7 9).2.1 (TX7 9).2.2.1 = some x → s.fieldFound? ref (TX7 9).2.1 (TX7 9).2.2.1 = some x := fun x9 h9 => hsm.elim (fun z => by rw [z]; exact h9) (fun z => u_same (hts _ z) x9 h9)
  have h3 : (Cond.fieldLinkNest own idx ref (TX7 9).2.1 (TX7 9).2.2.1 host).before args s = true := va_Nw.use h31 h30
  have h4 : ∀ w ∈ u_ws RX7 TX7 13, w ∈ GA := inlX7
  have h5 := (hΦ H locs cells slots hF).1
  have h6 := kk H locs cells slots ls hF hl
  exact va_getN (D := D) (ci := 7) (C := RX7) (T := TX7) (N := 13) hx hb hts h4 hown hK h5 k0 hk1 h1 9 (by decide) h3 h2 rfl hdg h6
theorem gt_Squadron_target {cc : ByteArray} {nL : Nat} {own : String} {rm : Room} {κ : KX} (hκ : Cx cc nL own rm κ) {Φ : HQ} {pc : Nat} {lv : List (Nat × Value)} {st : List Value} {S : wPS} (hΦ : Hd κ Φ S) {a idx : Nat} {ref : String} (hO : a ∈ sL S ∧ sK S a = 6) (hlink : Cond.fieldLink own idx ref "target" "LPlotroom$Track;" ∈ GA) (hsm : ref = "Plotroom$Squadron" ∨ Cond.sameField ref "Plotroom$Squadron" "target" "LPlotroom$Track;" ∈ GA) (hdg : decode cc pc = .ok (.getfield idx, 3)) (kk : Gj κ Φ (pc + 3) lv (va_rf (sR S 2 a) :: st)) : Gj κ Φ pc lv (.ref a :: st) := by
  obtain ⟨p, l, e, R, s, m, args, below, meth, c, Q, D, cO, e0, A, mc, ms⟩ := κ
  obtain ⟨hx, hb, hml, hown, hts, hK, hG, hR, hlk9⟩ := hκ
  intro H locs cells slots ls hF hl
  obtain ⟨k0, hk0, hk1⟩ := wG_Squadron cO S hO
  have h1 : vwCl[7]? = some (RX7, TX7, 13) := rfl
  have h2 : ∀ x, s.fieldFound? (TX7 10).1 (TX7 10).2.1 (TX7 10).2.2.1 = some x → s.fieldFound? ref (TX7 10).2.1 (TX7 10).2.2.1 = some x := fun x9 h9 => hsm.elim (fun z => by rw [z]; exact h9) (fun z => u_same (hts _ z) x9 h9)
  have h3 : (Cond.fieldLink own idx ref (TX7 10).2.1 (TX7 10).2.2.1).before args s = true := hts _ hlink
  have h4 : ∀ w ∈ u_ws RX7 TX7 13, w ∈ GA := inlX7
  have h5 := (hΦ H locs cells slots hF).1
  have h6 := kk H locs cells slots ls hF hl
  exact va_get (D := D) (ci := 7) (C := RX7) (T := TX7) (N := 13) hx hb hts h4 hown hK h5 k0 hk1 h1 10 (by decide) h3 h2 rfl hdg h6
theorem gtN_Squadron_target {cc : ByteArray} {nL : Nat} {own : String} {rm : Room} {κ : KX} (hκ : Cx cc nL own rm κ) {Φ : HQ} {pc : Nat} {lv : List (Nat × Value)} {st : List Value} {S : wPS} (hΦ : Hd κ Φ S) {a idx : Nat} {ref host : String} (hO : a ∈ sL S ∧ sK S a = 6) (hlink : (own, idx, ref, "target", "LPlotroom$Track;", host) ∈ nestF) (hsm : ref = "Plotroom$Squadron" ∨ Cond.sameField ref "Plotroom$Squadron" "target" "LPlotroom$Track;" ∈ GA) (hdg : decode cc pc = .ok (.getfield idx, 3)) (kk : Gj κ Φ (pc + 3) lv (va_rf (sR S 2 a) :: st)) : Gj κ Φ pc lv (.ref a :: st) := by
  obtain ⟨p, l, e, R, s, m, args, below, meth, c, Q, D, cO, e0, A, mc, ms⟩ := κ
  obtain ⟨hx, hb, hml, hown, hts, hK, hG, hR, hlk9⟩ := hκ
  intro H locs cells slots ls hF hl
  obtain ⟨k0, hk0, hk1⟩ := wG_Squadron cO S hO
  have h30 : va_Nw (Cond.fieldLinkNest own idx ref "target" "LPlotroom$Track;" host) s := hG.nf hlink
  have h31 : (Cond.fieldLinkNest own idx ref "target" "LPlotroom$Track;" host).onTables = true := rfl
  have h1 : vwCl[7]? = some (RX7, TX7, 13) := rfl
  have h2 : ∀ x, s.fieldFound? (TX7 10).1 (TX7 10).2.1 (TX7 10).2.2.1 = some x → s.fieldFound? ref (TX7 10).2.1 (TX7 10).2.2.1 = some x := fun x9 h9 => hsm.elim (fun z => by rw [z]; exact h9) (fun z => u_same (hts _ z) x9 h9)
  have h3 : (Cond.fieldLinkNest own idx ref (TX7 10).2.1 (TX7 10).2.2.1 host).before args s = true := va_Nw.use h31 h30
  have h4 : ∀ w ∈ u_ws RX7 TX7 13, w ∈ GA := inlX7
  have h5 := (hΦ H locs cells slots hF).1
  have h6 := kk H locs cells slots ls hF hl
  exact va_getN (D := D) (ci := 7) (C := RX7) (T := TX7) (N := 13) hx hb hts h4 hown hK h5 k0 hk1 h1 10 (by decide) h3 h2 rfl hdg h6
theorem gt_Squadron_due {cc : ByteArray} {nL : Nat} {own : String} {rm : Room} {κ : KX} (hκ : Cx cc nL own rm κ) {Φ : HQ} {pc : Nat} {lv : List (Nat × Value)} {st : List Value} {S : wPS} (hΦ : Hd κ Φ S) {a idx : Nat} {ref : String} (hO : a ∈ sL S ∧ sK S a = 6) (hlink : Cond.fieldLink own idx ref "due" "I" ∈ GA) (hsm : ref = "Plotroom$Squadron" ∨ Cond.sameField ref "Plotroom$Squadron" "due" "I" ∈ GA) (hdg : decode cc pc = .ok (.getfield idx, 3)) (kk : Gj κ Φ (pc + 3) lv (.int (sI S 40 a) :: st)) : Gj κ Φ pc lv (.ref a :: st) := by
  obtain ⟨p, l, e, R, s, m, args, below, meth, c, Q, D, cO, e0, A, mc, ms⟩ := κ
  obtain ⟨hx, hb, hml, hown, hts, hK, hG, hR, hlk9⟩ := hκ
  intro H locs cells slots ls hF hl
  obtain ⟨k0, hk0, hk1⟩ := wG_Squadron cO S hO
  have h1 : vwCl[7]? = some (RX7, TX7, 13) := rfl
  have h2 : ∀ x, s.fieldFound? (TX7 11).1 (TX7 11).2.1 (TX7 11).2.2.1 = some x → s.fieldFound? ref (TX7 11).2.1 (TX7 11).2.2.1 = some x := fun x9 h9 => hsm.elim (fun z => by rw [z]; exact h9) (fun z => u_same (hts _ z) x9 h9)
  have h3 : (Cond.fieldLink own idx ref (TX7 11).2.1 (TX7 11).2.2.1).before args s = true := hts _ hlink
  have h4 : ∀ w ∈ u_ws RX7 TX7 13, w ∈ GA := inlX7
  have h5 := (hΦ H locs cells slots hF).1
  have h6 := kk H locs cells slots ls hF hl
  exact va_get (D := D) (ci := 7) (C := RX7) (T := TX7) (N := 13) hx hb hts h4 hown hK h5 k0 hk1 h1 11 (by decide) h3 h2 rfl hdg h6
theorem gtN_Squadron_due {cc : ByteArray} {nL : Nat} {own : String} {rm : Room} {κ : KX} (hκ : Cx cc nL own rm κ) {Φ : HQ} {pc : Nat} {lv : List (Nat × Value)} {st : List Value} {S : wPS} (hΦ : Hd κ Φ S) {a idx : Nat} {ref host : String} (hO : a ∈ sL S ∧ sK S a = 6) (hlink : (own, idx, ref, "due", "I", host) ∈ nestF) (hsm : ref = "Plotroom$Squadron" ∨ Cond.sameField ref "Plotroom$Squadron" "due" "I" ∈ GA) (hdg : decode cc pc = .ok (.getfield idx, 3)) (kk : Gj κ Φ (pc + 3) lv (.int (sI S 40 a) :: st)) : Gj κ Φ pc lv (.ref a :: st) := by
  obtain ⟨p, l, e, R, s, m, args, below, meth, c, Q, D, cO, e0, A, mc, ms⟩ := κ
  obtain ⟨hx, hb, hml, hown, hts, hK, hG, hR, hlk9⟩ := hκ
  intro H locs cells slots ls hF hl
  obtain ⟨k0, hk0, hk1⟩ := wG_Squadron cO S hO
  have h30 : va_Nw (Cond.fieldLinkNest own idx ref "due" "I" host) s := hG.nf hlink
  have h31 : (Cond.fieldLinkNest own idx ref "due" "I" host).onTables = true := rfl
  have h1 : vwCl[7]? = some (RX7, TX7, 13) := rfl
  have h2 : ∀ x, s.fieldFound? (TX7 11).1 (TX7 11).2.1 (TX7 11).2.2.1 = some x → s.fieldFound? ref (TX7 11).2.1 (TX7 11).2.2.1 = some x := fun x9 h9 => hsm.elim (fun z => by rw [z]; exact h9) (fun z => u_same (hts _ z) x9 h9)
  have h3 : (Cond.fieldLinkNest own idx ref (TX7 11).2.1 (TX7 11).2.2.1 host).before args s = true := va_Nw.use h31 h30
  have h4 : ∀ w ∈ u_ws RX7 TX7 13, w ∈ GA := inlX7
  have h5 := (hΦ H locs cells slots hF).1
  have h6 := kk H locs cells slots ls hF hl
  exact va_getN (D := D) (ci := 7) (C := RX7) (T := TX7) (N := 13) hx hb hts h4 hown hK h5 k0 hk1 h1 11 (by decide) h3 h2 rfl hdg h6
theorem gt_Squadron_won {cc : ByteArray} {nL : Nat} {own : String} {rm : Room} {κ : KX} (hκ : Cx cc nL own rm κ) {Φ : HQ} {pc : Nat} {lv : List (Nat × Value)} {st : List Value} {S : wPS} (hΦ : Hd κ Φ S) {a idx : Nat} {ref : String} (hO : a ∈ sL S ∧ sK S a = 6) (hlink : Cond.fieldLink own idx ref "won" "I" ∈ GA) (hsm : ref = "Plotroom$Squadron" ∨ Cond.sameField ref "Plotroom$Squadron" "won" "I" ∈ GA) (hdg : decode cc pc = .ok (.getfield idx, 3)) (kk : Gj κ Φ (pc + 3) lv (.int (sI S 41 a) :: st)) : Gj κ Φ pc lv (.ref a :: st) := by
  obtain ⟨p, l, e, R, s, m, args, below, meth, c, Q, D, cO, e0, A, mc, ms⟩ := κ
  obtain ⟨hx, hb, hml, hown, hts, hK, hG, hR, hlk9⟩ := hκ
  intro H locs cells slots ls hF hl
  obtain ⟨k0, hk0, hk1⟩ := wG_Squadron cO S hO
  have h1 : vwCl[7]? = some (RX7, TX7, 13) := rfl
  have h2 : ∀ x, s.fieldFound? (TX7 12).1 (TX7 12).2.1 (TX7 12).2.2.1 = some x → s.fieldFound? ref (TX7 12).2.1 (TX7 12).2.2.1 = some x := fun x9 h9 => hsm.elim (fun z => by rw [z]; exact h9) (fun z => u_same (hts _ z) x9 h9)
  have h3 : (Cond.fieldLink own idx ref (TX7 12).2.1 (TX7 12).2.2.1).before args s = true := hts _ hlink
  have h4 : ∀ w ∈ u_ws RX7 TX7 13, w ∈ GA := inlX7
  have h5 := (hΦ H locs cells slots hF).1
  have h6 := kk H locs cells slots ls hF hl
  exact va_get (D := D) (ci := 7) (C := RX7) (T := TX7) (N := 13) hx hb hts h4 hown hK h5 k0 hk1 h1 12 (by decide) h3 h2 rfl hdg h6
theorem gtN_Squadron_won {cc : ByteArray} {nL : Nat} {own : String} {rm : Room} {κ : KX} (hκ : Cx cc nL own rm κ) {Φ : HQ} {pc : Nat} {lv : List (Nat × Value)} {st : List Value} {S : wPS} (hΦ : Hd κ Φ S) {a idx : Nat} {ref host : String} (hO : a ∈ sL S ∧ sK S a = 6) (hlink : (own, idx, ref, "won", "I", host) ∈ nestF) (hsm : ref = "Plotroom$Squadron" ∨ Cond.sameField ref "Plotroom$Squadron" "won" "I" ∈ GA) (hdg : decode cc pc = .ok (.getfield idx, 3)) (kk : Gj κ Φ (pc + 3) lv (.int (sI S 41 a) :: st)) : Gj κ Φ pc lv (.ref a :: st) := by
  obtain ⟨p, l, e, R, s, m, args, below, meth, c, Q, D, cO, e0, A, mc, ms⟩ := κ
  obtain ⟨hx, hb, hml, hown, hts, hK, hG, hR, hlk9⟩ := hκ
  intro H locs cells slots ls hF hl
  obtain ⟨k0, hk0, hk1⟩ := wG_Squadron cO S hO
  have h30 : va_Nw (Cond.fieldLinkNest own idx ref "won" "I" host) s := hG.nf hlink
  have h31 : (Cond.fieldLinkNest own idx ref "won" "I" host).onTables = true := rfl
  have h1 : vwCl[7]? = some (RX7, TX7, 13) := rfl
  have h2 : ∀ x, s.fieldFound? (TX7 12).1 (TX7 12).2.1 (TX7 12).2.2.1 = some x → s.fieldFound? ref (TX7 12).2.1 (TX7 12).2.2.1 = some x := fun x9 h9 => hsm.elim (fun z => by rw [z]; exact h9) (fun z => u_same (hts _ z) x9 h9)
  have h3 : (Cond.fieldLinkNest own idx ref (TX7 12).2.1 (TX7 12).2.2.1 host).before args s = true := va_Nw.use h31 h30
  have h4 : ∀ w ∈ u_ws RX7 TX7 13, w ∈ GA := inlX7
  have h5 := (hΦ H locs cells slots hF).1
  have h6 := kk H locs cells slots ls hF hl
  exact va_getN (D := D) (ci := 7) (C := RX7) (T := TX7) (N := 13) hx hb hts h4 hown hK h5 k0 hk1 h1 12 (by decide) h3 h2 rfl hdg h6
theorem gt_Tally_refused {cc : ByteArray} {nL : Nat} {own : String} {rm : Room} {κ : KX} (hκ : Cx cc nL own rm κ) {Φ : HQ} {pc : Nat} {lv : List (Nat × Value)} {st : List Value} {S : wPS} (hΦ : Hd κ Φ S) {a idx : Nat} {ref : String} (hO : a ∈ sL S ∧ sK S a = 7) (hlink : Cond.fieldLink own idx ref "refused" "I" ∈ GA) (hsm : ref = "Plotroom$Tally" ∨ Cond.sameField ref "Plotroom$Tally" "refused" "I" ∈ GA) (hdg : decode cc pc = .ok (.getfield idx, 3)) (kk : Gj κ Φ (pc + 3) lv (.int (sI S 42 a) :: st)) : Gj κ Φ pc lv (.ref a :: st) := by
  obtain ⟨p, l, e, R, s, m, args, below, meth, c, Q, D, cO, e0, A, mc, ms⟩ := κ
  obtain ⟨hx, hb, hml, hown, hts, hK, hG, hR, hlk9⟩ := hκ
  intro H locs cells slots ls hF hl
  obtain ⟨k0, hk0, hk1⟩ := wG_Tally cO S hO
  have h1 : vwCl[8]? = some (RX8, TX8, 8) := rfl
  have h2 : ∀ x, s.fieldFound? (TX8 0).1 (TX8 0).2.1 (TX8 0).2.2.1 = some x → s.fieldFound? ref (TX8 0).2.1 (TX8 0).2.2.1 = some x := fun x9 h9 => hsm.elim (fun z => by rw [z]; exact h9) (fun z => u_same (hts _ z) x9 h9)
  have h3 : (Cond.fieldLink own idx ref (TX8 0).2.1 (TX8 0).2.2.1).before args s = true := hts _ hlink
  have h4 : ∀ w ∈ u_ws RX8 TX8 8, w ∈ GA := inlX8
  have h5 := (hΦ H locs cells slots hF).1
  have h6 := kk H locs cells slots ls hF hl
  exact va_get (D := D) (ci := 8) (C := RX8) (T := TX8) (N := 8) hx hb hts h4 hown hK h5 k0 hk1 h1 0 (by decide) h3 h2 rfl hdg h6
theorem gtN_Tally_refused {cc : ByteArray} {nL : Nat} {own : String} {rm : Room} {κ : KX} (hκ : Cx cc nL own rm κ) {Φ : HQ} {pc : Nat} {lv : List (Nat × Value)} {st : List Value} {S : wPS} (hΦ : Hd κ Φ S) {a idx : Nat} {ref host : String} (hO : a ∈ sL S ∧ sK S a = 7) (hlink : (own, idx, ref, "refused", "I", host) ∈ nestF) (hsm : ref = "Plotroom$Tally" ∨ Cond.sameField ref "Plotroom$Tally" "refused" "I" ∈ GA) (hdg : decode cc pc = .ok (.getfield idx, 3)) (kk : Gj κ Φ (pc + 3) lv (.int (sI S 42 a) :: st)) : Gj κ Φ pc lv (.ref a :: st) := by
  obtain ⟨p, l, e, R, s, m, args, below, meth, c, Q, D, cO, e0, A, mc, ms⟩ := κ
  obtain ⟨hx, hb, hml, hown, hts, hK, hG, hR, hlk9⟩ := hκ
  intro H locs cells slots ls hF hl
  obtain ⟨k0, hk0, hk1⟩ := wG_Tally cO S hO
  have h30 : va_Nw (Cond.fieldLinkNest own idx ref "refused" "I" host) s := hG.nf hlink
  have h31 : (Cond.fieldLinkNest own idx ref "refused" "I" host).onTables = true := rfl
  have h1 : vwCl[8]? = some (RX8, TX8, 8) := rfl
  have h2 : ∀ x, s.fieldFound? (TX8 0).1 (TX8 0).2.1 (TX8 0).2.2.1 = some x → s.fieldFound? ref (TX8 0).2.1 (TX8 0).2.2.1 = some x := fun x9 h9 => hsm.elim (fun z => by rw [z]; exact h9) (fun z => u_same (hts _ z) x9 h9)
  have h3 : (Cond.fieldLinkNest own idx ref (TX8 0).2.1 (TX8 0).2.2.1 host).before args s = true := va_Nw.use h31 h30
  have h4 : ∀ w ∈ u_ws RX8 TX8 8, w ∈ GA := inlX8
  have h5 := (hΦ H locs cells slots hF).1
  have h6 := kk H locs cells slots ls hF hl
  exact va_getN (D := D) (ci := 8) (C := RX8) (T := TX8) (N := 8) hx hb hts h4 hown hK h5 k0 hk1 h1 0 (by decide) h3 h2 rfl hdg h6
theorem gt_Tally_plotsWithoutTrack {cc : ByteArray} {nL : Nat} {own : String} {rm : Room} {κ : KX} (hκ : Cx cc nL own rm κ) {Φ : HQ} {pc : Nat} {lv : List (Nat × Value)} {st : List Value} {S : wPS} (hΦ : Hd κ Φ S) {a idx : Nat} {ref : String} (hO : a ∈ sL S ∧ sK S a = 7) (hlink : Cond.fieldLink own idx ref "plotsWithoutTrack" "I" ∈ GA) (hsm : ref = "Plotroom$Tally" ∨ Cond.sameField ref "Plotroom$Tally" "plotsWithoutTrack" "I" ∈ GA) (hdg : decode cc pc = .ok (.getfield idx, 3)) (kk : Gj κ Φ (pc + 3) lv (.int (sI S 43 a) :: st)) : Gj κ Φ pc lv (.ref a :: st) := by
  obtain ⟨p, l, e, R, s, m, args, below, meth, c, Q, D, cO, e0, A, mc, ms⟩ := κ
  obtain ⟨hx, hb, hml, hown, hts, hK, hG, hR, hlk9⟩ := hκ
  intro H locs cells slots ls hF hl
  obtain ⟨k0, hk0, hk1⟩ := wG_Tally cO S hO
  have h1 : vwCl[8]? = some (RX8, TX8, 8) := rfl
  have h2 : ∀ x, s.fieldFound? (TX8 1).1 (TX8 1).2.1 (TX8 1).2.2.1 = some x → s.fieldFound? ref (TX8 1).2.1 (TX8 1).2.2.1 = some x := fun x9 h9 => hsm.elim (fun z => by rw [z]; exact h9) (fun z => u_same (hts _ z) x9 h9)
  have h3 : (Cond.fieldLink own idx ref (TX8 1).2.1 (TX8 1).2.2.1).before args s = true := hts _ hlink
  have h4 : ∀ w ∈ u_ws RX8 TX8 8, w ∈ GA := inlX8
  have h5 := (hΦ H locs cells slots hF).1
  have h6 := kk H locs cells slots ls hF hl
  exact va_get (D := D) (ci := 8) (C := RX8) (T := TX8) (N := 8) hx hb hts h4 hown hK h5 k0 hk1 h1 1 (by decide) h3 h2 rfl hdg h6
theorem gtN_Tally_plotsWithoutTrack {cc : ByteArray} {nL : Nat} {own : String} {rm : Room} {κ : KX} (hκ : Cx cc nL own rm κ) {Φ : HQ} {pc : Nat} {lv : List (Nat × Value)} {st : List Value} {S : wPS} (hΦ : Hd κ Φ S) {a idx : Nat} {ref host : String} (hO : a ∈ sL S ∧ sK S a = 7) (hlink : (own, idx, ref, "plotsWithoutTrack", "I", host) ∈ nestF) (hsm : ref = "Plotroom$Tally" ∨ Cond.sameField ref "Plotroom$Tally" "plotsWithoutTrack" "I" ∈ GA) (hdg : decode cc pc = .ok (.getfield idx, 3)) (kk : Gj κ Φ (pc + 3) lv (.int (sI S 43 a) :: st)) : Gj κ Φ pc lv (.ref a :: st) := by
  obtain ⟨p, l, e, R, s, m, args, below, meth, c, Q, D, cO, e0, A, mc, ms⟩ := κ
  obtain ⟨hx, hb, hml, hown, hts, hK, hG, hR, hlk9⟩ := hκ
  intro H locs cells slots ls hF hl
  obtain ⟨k0, hk0, hk1⟩ := wG_Tally cO S hO
  have h30 : va_Nw (Cond.fieldLinkNest own idx ref "plotsWithoutTrack" "I" host) s := hG.nf hlink
  have h31 : (Cond.fieldLinkNest own idx ref "plotsWithoutTrack" "I" host).onTables = true := rfl
  have h1 : vwCl[8]? = some (RX8, TX8, 8) := rfl
  have h2 : ∀ x, s.fieldFound? (TX8 1).1 (TX8 1).2.1 (TX8 1).2.2.1 = some x → s.fieldFound? ref (TX8 1).2.1 (TX8 1).2.2.1 = some x := fun x9 h9 => hsm.elim (fun z => by rw [z]; exact h9) (fun z => u_same (hts _ z) x9 h9)
  have h3 : (Cond.fieldLinkNest own idx ref (TX8 1).2.1 (TX8 1).2.2.1 host).before args s = true := va_Nw.use h31 h30
  have h4 : ∀ w ∈ u_ws RX8 TX8 8, w ∈ GA := inlX8
  have h5 := (hΦ H locs cells slots hF).1
  have h6 := kk H locs cells slots ls hF hl
  exact va_getN (D := D) (ci := 8) (C := RX8) (T := TX8) (N := 8) hx hb hts h4 hown hK h5 k0 hk1 h1 1 (by decide) h3 h2 rfl hdg h6
theorem gt_Tally_fights {cc : ByteArray} {nL : Nat} {own : String} {rm : Room} {κ : KX} (hκ : Cx cc nL own rm κ) {Φ : HQ} {pc : Nat} {lv : List (Nat × Value)} {st : List Value} {S : wPS} (hΦ : Hd κ Φ S) {a idx : Nat} {ref : String} (hO : a ∈ sL S ∧ sK S a = 7) (hlink : Cond.fieldLink own idx ref "fights" "I" ∈ GA) (hsm : ref = "Plotroom$Tally" ∨ Cond.sameField ref "Plotroom$Tally" "fights" "I" ∈ GA) (hdg : decode cc pc = .ok (.getfield idx, 3)) (kk : Gj κ Φ (pc + 3) lv (.int (sI S 44 a) :: st)) : Gj κ Φ pc lv (.ref a :: st) := by
  obtain ⟨p, l, e, R, s, m, args, below, meth, c, Q, D, cO, e0, A, mc, ms⟩ := κ
  obtain ⟨hx, hb, hml, hown, hts, hK, hG, hR, hlk9⟩ := hκ
  intro H locs cells slots ls hF hl
  obtain ⟨k0, hk0, hk1⟩ := wG_Tally cO S hO
  have h1 : vwCl[8]? = some (RX8, TX8, 8) := rfl
  have h2 : ∀ x, s.fieldFound? (TX8 2).1 (TX8 2).2.1 (TX8 2).2.2.1 = some x → s.fieldFound? ref (TX8 2).2.1 (TX8 2).2.2.1 = some x := fun x9 h9 => hsm.elim (fun z => by rw [z]; exact h9) (fun z => u_same (hts _ z) x9 h9)
  have h3 : (Cond.fieldLink own idx ref (TX8 2).2.1 (TX8 2).2.2.1).before args s = true := hts _ hlink
  have h4 : ∀ w ∈ u_ws RX8 TX8 8, w ∈ GA := inlX8
  have h5 := (hΦ H locs cells slots hF).1
  have h6 := kk H locs cells slots ls hF hl
  exact va_get (D := D) (ci := 8) (C := RX8) (T := TX8) (N := 8) hx hb hts h4 hown hK h5 k0 hk1 h1 2 (by decide) h3 h2 rfl hdg h6
theorem gtN_Tally_fights {cc : ByteArray} {nL : Nat} {own : String} {rm : Room} {κ : KX} (hκ : Cx cc nL own rm κ) {Φ : HQ} {pc : Nat} {lv : List (Nat × Value)} {st : List Value} {S : wPS} (hΦ : Hd κ Φ S) {a idx : Nat} {ref host : String} (hO : a ∈ sL S ∧ sK S a = 7) (hlink : (own, idx, ref, "fights", "I", host) ∈ nestF) (hsm : ref = "Plotroom$Tally" ∨ Cond.sameField ref "Plotroom$Tally" "fights" "I" ∈ GA) (hdg : decode cc pc = .ok (.getfield idx, 3)) (kk : Gj κ Φ (pc + 3) lv (.int (sI S 44 a) :: st)) : Gj κ Φ pc lv (.ref a :: st) := by
  obtain ⟨p, l, e, R, s, m, args, below, meth, c, Q, D, cO, e0, A, mc, ms⟩ := κ
  obtain ⟨hx, hb, hml, hown, hts, hK, hG, hR, hlk9⟩ := hκ
  intro H locs cells slots ls hF hl
  obtain ⟨k0, hk0, hk1⟩ := wG_Tally cO S hO
  have h30 : va_Nw (Cond.fieldLinkNest own idx ref "fights" "I" host) s := hG.nf hlink
  have h31 : (Cond.fieldLinkNest own idx ref "fights" "I" host).onTables = true := rfl
  have h1 : vwCl[8]? = some (RX8, TX8, 8) := rfl
  have h2 : ∀ x, s.fieldFound? (TX8 2).1 (TX8 2).2.1 (TX8 2).2.2.1 = some x → s.fieldFound? ref (TX8 2).2.1 (TX8 2).2.2.1 = some x := fun x9 h9 => hsm.elim (fun z => by rw [z]; exact h9) (fun z => u_same (hts _ z) x9 h9)
  have h3 : (Cond.fieldLinkNest own idx ref (TX8 2).2.1 (TX8 2).2.2.1 host).before args s = true := va_Nw.use h31 h30
  have h4 : ∀ w ∈ u_ws RX8 TX8 8, w ∈ GA := inlX8
  have h5 := (hΦ H locs cells slots hF).1
  have h6 := kk H locs cells slots ls hF hl
  exact va_getN (D := D) (ci := 8) (C := RX8) (T := TX8) (N := 8) hx hb hts h4 hown hK h5 k0 hk1 h1 2 (by decide) h3 h2 rfl hdg h6
theorem gt_Tally_claims {cc : ByteArray} {nL : Nat} {own : String} {rm : Room} {κ : KX} (hκ : Cx cc nL own rm κ) {Φ : HQ} {pc : Nat} {lv : List (Nat × Value)} {st : List Value} {S : wPS} (hΦ : Hd κ Φ S) {a idx : Nat} {ref : String} (hO : a ∈ sL S ∧ sK S a = 7) (hlink : Cond.fieldLink own idx ref "claims" "I" ∈ GA) (hsm : ref = "Plotroom$Tally" ∨ Cond.sameField ref "Plotroom$Tally" "claims" "I" ∈ GA) (hdg : decode cc pc = .ok (.getfield idx, 3)) (kk : Gj κ Φ (pc + 3) lv (.int (sI S 45 a) :: st)) : Gj κ Φ pc lv (.ref a :: st) := by
  obtain ⟨p, l, e, R, s, m, args, below, meth, c, Q, D, cO, e0, A, mc, ms⟩ := κ
  obtain ⟨hx, hb, hml, hown, hts, hK, hG, hR, hlk9⟩ := hκ
  intro H locs cells slots ls hF hl
  obtain ⟨k0, hk0, hk1⟩ := wG_Tally cO S hO
  have h1 : vwCl[8]? = some (RX8, TX8, 8) := rfl
  have h2 : ∀ x, s.fieldFound? (TX8 3).1 (TX8 3).2.1 (TX8 3).2.2.1 = some x → s.fieldFound? ref (TX8 3).2.1 (TX8 3).2.2.1 = some x := fun x9 h9 => hsm.elim (fun z => by rw [z]; exact h9) (fun z => u_same (hts _ z) x9 h9)
  have h3 : (Cond.fieldLink own idx ref (TX8 3).2.1 (TX8 3).2.2.1).before args s = true := hts _ hlink
  have h4 : ∀ w ∈ u_ws RX8 TX8 8, w ∈ GA := inlX8
  have h5 := (hΦ H locs cells slots hF).1
  have h6 := kk H locs cells slots ls hF hl
  exact va_get (D := D) (ci := 8) (C := RX8) (T := TX8) (N := 8) hx hb hts h4 hown hK h5 k0 hk1 h1 3 (by decide) h3 h2 rfl hdg h6
theorem gtN_Tally_claims {cc : ByteArray} {nL : Nat} {own : String} {rm : Room} {κ : KX} (hκ : Cx cc nL own rm κ) {Φ : HQ} {pc : Nat} {lv : List (Nat × Value)} {st : List Value} {S : wPS} (hΦ : Hd κ Φ S) {a idx : Nat} {ref host : String} (hO : a ∈ sL S ∧ sK S a = 7) (hlink : (own, idx, ref, "claims", "I", host) ∈ nestF) (hsm : ref = "Plotroom$Tally" ∨ Cond.sameField ref "Plotroom$Tally" "claims" "I" ∈ GA) (hdg : decode cc pc = .ok (.getfield idx, 3)) (kk : Gj κ Φ (pc + 3) lv (.int (sI S 45 a) :: st)) : Gj κ Φ pc lv (.ref a :: st) := by
  obtain ⟨p, l, e, R, s, m, args, below, meth, c, Q, D, cO, e0, A, mc, ms⟩ := κ
  obtain ⟨hx, hb, hml, hown, hts, hK, hG, hR, hlk9⟩ := hκ
  intro H locs cells slots ls hF hl
  obtain ⟨k0, hk0, hk1⟩ := wG_Tally cO S hO
  have h30 : va_Nw (Cond.fieldLinkNest own idx ref "claims" "I" host) s := hG.nf hlink
  have h31 : (Cond.fieldLinkNest own idx ref "claims" "I" host).onTables = true := rfl
  have h1 : vwCl[8]? = some (RX8, TX8, 8) := rfl
  have h2 : ∀ x, s.fieldFound? (TX8 3).1 (TX8 3).2.1 (TX8 3).2.2.1 = some x → s.fieldFound? ref (TX8 3).2.1 (TX8 3).2.2.1 = some x := fun x9 h9 => hsm.elim (fun z => by rw [z]; exact h9) (fun z => u_same (hts _ z) x9 h9)
  have h3 : (Cond.fieldLinkNest own idx ref (TX8 3).2.1 (TX8 3).2.2.1 host).before args s = true := va_Nw.use h31 h30
  have h4 : ∀ w ∈ u_ws RX8 TX8 8, w ∈ GA := inlX8
  have h5 := (hΦ H locs cells slots hF).1
  have h6 := kk H locs cells slots ls hF hl
  exact va_getN (D := D) (ci := 8) (C := RX8) (T := TX8) (N := 8) hx hb hts h4 hown hK h5 k0 hk1 h1 3 (by decide) h3 h2 rfl hdg h6
theorem gt_Tally_machinesLost {cc : ByteArray} {nL : Nat} {own : String} {rm : Room} {κ : KX} (hκ : Cx cc nL own rm κ) {Φ : HQ} {pc : Nat} {lv : List (Nat × Value)} {st : List Value} {S : wPS} (hΦ : Hd κ Φ S) {a idx : Nat} {ref : String} (hO : a ∈ sL S ∧ sK S a = 7) (hlink : Cond.fieldLink own idx ref "machinesLost" "I" ∈ GA) (hsm : ref = "Plotroom$Tally" ∨ Cond.sameField ref "Plotroom$Tally" "machinesLost" "I" ∈ GA) (hdg : decode cc pc = .ok (.getfield idx, 3)) (kk : Gj κ Φ (pc + 3) lv (.int (sI S 46 a) :: st)) : Gj κ Φ pc lv (.ref a :: st) := by
  obtain ⟨p, l, e, R, s, m, args, below, meth, c, Q, D, cO, e0, A, mc, ms⟩ := κ
  obtain ⟨hx, hb, hml, hown, hts, hK, hG, hR, hlk9⟩ := hκ
  intro H locs cells slots ls hF hl
  obtain ⟨k0, hk0, hk1⟩ := wG_Tally cO S hO
  have h1 : vwCl[8]? = some (RX8, TX8, 8) := rfl
  have h2 : ∀ x, s.fieldFound? (TX8 4).1 (TX8 4).2.1 (TX8 4).2.2.1 = some x → s.fieldFound? ref (TX8 4).2.1 (TX8 4).2.2.1 = some x := fun x9 h9 => hsm.elim (fun z => by rw [z]; exact h9) (fun z => u_same (hts _ z) x9 h9)
  have h3 : (Cond.fieldLink own idx ref (TX8 4).2.1 (TX8 4).2.2.1).before args s = true := hts _ hlink
  have h4 : ∀ w ∈ u_ws RX8 TX8 8, w ∈ GA := inlX8
  have h5 := (hΦ H locs cells slots hF).1
  have h6 := kk H locs cells slots ls hF hl
  exact va_get (D := D) (ci := 8) (C := RX8) (T := TX8) (N := 8) hx hb hts h4 hown hK h5 k0 hk1 h1 4 (by decide) h3 h2 rfl hdg h6
theorem gtN_Tally_machinesLost {cc : ByteArray} {nL : Nat} {own : String} {rm : Room} {κ : KX} (hκ : Cx cc nL own rm κ) {Φ : HQ} {pc : Nat} {lv : List (Nat × Value)} {st : List Value} {S : wPS} (hΦ : Hd κ Φ S) {a idx : Nat} {ref host : String} (hO : a ∈ sL S ∧ sK S a = 7) (hlink : (own, idx, ref, "machinesLost", "I", host) ∈ nestF) (hsm : ref = "Plotroom$Tally" ∨ Cond.sameField ref "Plotroom$Tally" "machinesLost" "I" ∈ GA) (hdg : decode cc pc = .ok (.getfield idx, 3)) (kk : Gj κ Φ (pc + 3) lv (.int (sI S 46 a) :: st)) : Gj κ Φ pc lv (.ref a :: st) := by
  obtain ⟨p, l, e, R, s, m, args, below, meth, c, Q, D, cO, e0, A, mc, ms⟩ := κ
  obtain ⟨hx, hb, hml, hown, hts, hK, hG, hR, hlk9⟩ := hκ
  intro H locs cells slots ls hF hl
  obtain ⟨k0, hk0, hk1⟩ := wG_Tally cO S hO
  have h30 : va_Nw (Cond.fieldLinkNest own idx ref "machinesLost" "I" host) s := hG.nf hlink
  have h31 : (Cond.fieldLinkNest own idx ref "machinesLost" "I" host).onTables = true := rfl
  have h1 : vwCl[8]? = some (RX8, TX8, 8) := rfl
  have h2 : ∀ x, s.fieldFound? (TX8 4).1 (TX8 4).2.1 (TX8 4).2.2.1 = some x → s.fieldFound? ref (TX8 4).2.1 (TX8 4).2.2.1 = some x := fun x9 h9 => hsm.elim (fun z => by rw [z]; exact h9) (fun z => u_same (hts _ z) x9 h9)
  have h3 : (Cond.fieldLinkNest own idx ref (TX8 4).2.1 (TX8 4).2.2.1 host).before args s = true := va_Nw.use h31 h30
  have h4 : ∀ w ∈ u_ws RX8 TX8 8, w ∈ GA := inlX8
  have h5 := (hΦ H locs cells slots hF).1
  have h6 := kk H locs cells slots ls hF hl
  exact va_getN (D := D) (ci := 8) (C := RX8) (T := TX8) (N := 8) hx hb hts h4 hown hK h5 k0 hk1 h1 4 (by decide) h3 h2 rfl hdg h6
theorem gt_Tally_shames {cc : ByteArray} {nL : Nat} {own : String} {rm : Room} {κ : KX} (hκ : Cx cc nL own rm κ) {Φ : HQ} {pc : Nat} {lv : List (Nat × Value)} {st : List Value} {S : wPS} (hΦ : Hd κ Φ S) {a idx : Nat} {ref : String} (hO : a ∈ sL S ∧ sK S a = 7) (hlink : Cond.fieldLink own idx ref "shames" "I" ∈ GA) (hsm : ref = "Plotroom$Tally" ∨ Cond.sameField ref "Plotroom$Tally" "shames" "I" ∈ GA) (hdg : decode cc pc = .ok (.getfield idx, 3)) (kk : Gj κ Φ (pc + 3) lv (.int (sI S 47 a) :: st)) : Gj κ Φ pc lv (.ref a :: st) := by
  obtain ⟨p, l, e, R, s, m, args, below, meth, c, Q, D, cO, e0, A, mc, ms⟩ := κ
  obtain ⟨hx, hb, hml, hown, hts, hK, hG, hR, hlk9⟩ := hκ
  intro H locs cells slots ls hF hl
  obtain ⟨k0, hk0, hk1⟩ := wG_Tally cO S hO
  have h1 : vwCl[8]? = some (RX8, TX8, 8) := rfl
  have h2 : ∀ x, s.fieldFound? (TX8 5).1 (TX8 5).2.1 (TX8 5).2.2.1 = some x → s.fieldFound? ref (TX8 5).2.1 (TX8 5).2.2.1 = some x := fun x9 h9 => hsm.elim (fun z => by rw [z]; exact h9) (fun z => u_same (hts _ z) x9 h9)
  have h3 : (Cond.fieldLink own idx ref (TX8 5).2.1 (TX8 5).2.2.1).before args s = true := hts _ hlink
  have h4 : ∀ w ∈ u_ws RX8 TX8 8, w ∈ GA := inlX8
  have h5 := (hΦ H locs cells slots hF).1
  have h6 := kk H locs cells slots ls hF hl
  exact va_get (D := D) (ci := 8) (C := RX8) (T := TX8) (N := 8) hx hb hts h4 hown hK h5 k0 hk1 h1 5 (by decide) h3 h2 rfl hdg h6
theorem gtN_Tally_shames {cc : ByteArray} {nL : Nat} {own : String} {rm : Room} {κ : KX} (hκ : Cx cc nL own rm κ) {Φ : HQ} {pc : Nat} {lv : List (Nat × Value)} {st : List Value} {S : wPS} (hΦ : Hd κ Φ S) {a idx : Nat} {ref host : String} (hO : a ∈ sL S ∧ sK S a = 7) (hlink : (own, idx, ref, "shames", "I", host) ∈ nestF) (hsm : ref = "Plotroom$Tally" ∨ Cond.sameField ref "Plotroom$Tally" "shames" "I" ∈ GA) (hdg : decode cc pc = .ok (.getfield idx, 3)) (kk : Gj κ Φ (pc + 3) lv (.int (sI S 47 a) :: st)) : Gj κ Φ pc lv (.ref a :: st) := by
  obtain ⟨p, l, e, R, s, m, args, below, meth, c, Q, D, cO, e0, A, mc, ms⟩ := κ
  obtain ⟨hx, hb, hml, hown, hts, hK, hG, hR, hlk9⟩ := hκ
  intro H locs cells slots ls hF hl
  obtain ⟨k0, hk0, hk1⟩ := wG_Tally cO S hO
  have h30 : va_Nw (Cond.fieldLinkNest own idx ref "shames" "I" host) s := hG.nf hlink
  have h31 : (Cond.fieldLinkNest own idx ref "shames" "I" host).onTables = true := rfl
  have h1 : vwCl[8]? = some (RX8, TX8, 8) := rfl
  have h2 : ∀ x, s.fieldFound? (TX8 5).1 (TX8 5).2.1 (TX8 5).2.2.1 = some x → s.fieldFound? ref (TX8 5).2.1 (TX8 5).2.2.1 = some x := fun x9 h9 => hsm.elim (fun z => by rw [z]; exact h9) (fun z => u_same (hts _ z) x9 h9)
  have h3 : (Cond.fieldLinkNest own idx ref (TX8 5).2.1 (TX8 5).2.2.1 host).before args s = true := va_Nw.use h31 h30
  have h4 : ∀ w ∈ u_ws RX8 TX8 8, w ∈ GA := inlX8
  have h5 := (hΦ H locs cells slots hF).1
  have h6 := kk H locs cells slots ls hF hl
  exact va_getN (D := D) (ci := 8) (C := RX8) (T := TX8) (N := 8) hx hb hts h4 hown hK h5 k0 hk1 h1 5 (by decide) h3 h2 rfl hdg h6
theorem gt_Tally_work {cc : ByteArray} {nL : Nat} {own : String} {rm : Room} {κ : KX} (hκ : Cx cc nL own rm κ) {Φ : HQ} {pc : Nat} {lv : List (Nat × Value)} {st : List Value} {S : wPS} (hΦ : Hd κ Φ S) {a idx : Nat} {ref : String} (hO : a ∈ sL S ∧ sK S a = 7) (hlink : Cond.fieldLink own idx ref "work" "I" ∈ GA) (hsm : ref = "Plotroom$Tally" ∨ Cond.sameField ref "Plotroom$Tally" "work" "I" ∈ GA) (hdg : decode cc pc = .ok (.getfield idx, 3)) (kk : Gj κ Φ (pc + 3) lv (.int (sI S 48 a) :: st)) : Gj κ Φ pc lv (.ref a :: st) := by
  obtain ⟨p, l, e, R, s, m, args, below, meth, c, Q, D, cO, e0, A, mc, ms⟩ := κ
  obtain ⟨hx, hb, hml, hown, hts, hK, hG, hR, hlk9⟩ := hκ
  intro H locs cells slots ls hF hl
  obtain ⟨k0, hk0, hk1⟩ := wG_Tally cO S hO
  have h1 : vwCl[8]? = some (RX8, TX8, 8) := rfl
  have h2 : ∀ x, s.fieldFound? (TX8 6).1 (TX8 6).2.1 (TX8 6).2.2.1 = some x → s.fieldFound? ref (TX8 6).2.1 (TX8 6).2.2.1 = some x := fun x9 h9 => hsm.elim (fun z => by rw [z]; exact h9) (fun z => u_same (hts _ z) x9 h9)
  have h3 : (Cond.fieldLink own idx ref (TX8 6).2.1 (TX8 6).2.2.1).before args s = true := hts _ hlink
  have h4 : ∀ w ∈ u_ws RX8 TX8 8, w ∈ GA := inlX8
  have h5 := (hΦ H locs cells slots hF).1
  have h6 := kk H locs cells slots ls hF hl
  exact va_get (D := D) (ci := 8) (C := RX8) (T := TX8) (N := 8) hx hb hts h4 hown hK h5 k0 hk1 h1 6 (by decide) h3 h2 rfl hdg h6
theorem gtN_Tally_work {cc : ByteArray} {nL : Nat} {own : String} {rm : Room} {κ : KX} (hκ : Cx cc nL own rm κ) {Φ : HQ} {pc : Nat} {lv : List (Nat × Value)} {st : List Value} {S : wPS} (hΦ : Hd κ Φ S) {a idx : Nat} {ref host : String} (hO : a ∈ sL S ∧ sK S a = 7) (hlink : (own, idx, ref, "work", "I", host) ∈ nestF) (hsm : ref = "Plotroom$Tally" ∨ Cond.sameField ref "Plotroom$Tally" "work" "I" ∈ GA) (hdg : decode cc pc = .ok (.getfield idx, 3)) (kk : Gj κ Φ (pc + 3) lv (.int (sI S 48 a) :: st)) : Gj κ Φ pc lv (.ref a :: st) := by
  obtain ⟨p, l, e, R, s, m, args, below, meth, c, Q, D, cO, e0, A, mc, ms⟩ := κ
  obtain ⟨hx, hb, hml, hown, hts, hK, hG, hR, hlk9⟩ := hκ
  intro H locs cells slots ls hF hl
  obtain ⟨k0, hk0, hk1⟩ := wG_Tally cO S hO
  have h30 : va_Nw (Cond.fieldLinkNest own idx ref "work" "I" host) s := hG.nf hlink
  have h31 : (Cond.fieldLinkNest own idx ref "work" "I" host).onTables = true := rfl
  have h1 : vwCl[8]? = some (RX8, TX8, 8) := rfl
  have h2 : ∀ x, s.fieldFound? (TX8 6).1 (TX8 6).2.1 (TX8 6).2.2.1 = some x → s.fieldFound? ref (TX8 6).2.1 (TX8 6).2.2.1 = some x := fun x9 h9 => hsm.elim (fun z => by rw [z]; exact h9) (fun z => u_same (hts _ z) x9 h9)
  have h3 : (Cond.fieldLinkNest own idx ref (TX8 6).2.1 (TX8 6).2.2.1 host).before args s = true := va_Nw.use h31 h30
  have h4 : ∀ w ∈ u_ws RX8 TX8 8, w ∈ GA := inlX8
  have h5 := (hΦ H locs cells slots hF).1
  have h6 := kk H locs cells slots ls hF hl
  exact va_getN (D := D) (ci := 8) (C := RX8) (T := TX8) (N := 8) hx hb hts h4 hown hK h5 k0 hk1 h1 6 (by decide) h3 h2 rfl hdg h6
theorem gt_Tally_lives {cc : ByteArray} {nL : Nat} {own : String} {rm : Room} {κ : KX} (hκ : Cx cc nL own rm κ) {Φ : HQ} {pc : Nat} {lv : List (Nat × Value)} {st : List Value} {S : wPS} (hΦ : Hd κ Φ S) {a idx : Nat} {ref : String} (hO : a ∈ sL S ∧ sK S a = 7) (hlink : Cond.fieldLink own idx ref "lives" "I" ∈ GA) (hsm : ref = "Plotroom$Tally" ∨ Cond.sameField ref "Plotroom$Tally" "lives" "I" ∈ GA) (hdg : decode cc pc = .ok (.getfield idx, 3)) (kk : Gj κ Φ (pc + 3) lv (.int (sI S 49 a) :: st)) : Gj κ Φ pc lv (.ref a :: st) := by
  obtain ⟨p, l, e, R, s, m, args, below, meth, c, Q, D, cO, e0, A, mc, ms⟩ := κ
  obtain ⟨hx, hb, hml, hown, hts, hK, hG, hR, hlk9⟩ := hκ
  intro H locs cells slots ls hF hl
  obtain ⟨k0, hk0, hk1⟩ := wG_Tally cO S hO
  have h1 : vwCl[8]? = some (RX8, TX8, 8) := rfl
  have h2 : ∀ x, s.fieldFound? (TX8 7).1 (TX8 7).2.1 (TX8 7).2.2.1 = some x → s.fieldFound? ref (TX8 7).2.1 (TX8 7).2.2.1 = some x := fun x9 h9 => hsm.elim (fun z => by rw [z]; exact h9) (fun z => u_same (hts _ z) x9 h9)
  have h3 : (Cond.fieldLink own idx ref (TX8 7).2.1 (TX8 7).2.2.1).before args s = true := hts _ hlink
  have h4 : ∀ w ∈ u_ws RX8 TX8 8, w ∈ GA := inlX8
  have h5 := (hΦ H locs cells slots hF).1
  have h6 := kk H locs cells slots ls hF hl
  exact va_get (D := D) (ci := 8) (C := RX8) (T := TX8) (N := 8) hx hb hts h4 hown hK h5 k0 hk1 h1 7 (by decide) h3 h2 rfl hdg h6
theorem gtN_Tally_lives {cc : ByteArray} {nL : Nat} {own : String} {rm : Room} {κ : KX} (hκ : Cx cc nL own rm κ) {Φ : HQ} {pc : Nat} {lv : List (Nat × Value)} {st : List Value} {S : wPS} (hΦ : Hd κ Φ S) {a idx : Nat} {ref host : String} (hO : a ∈ sL S ∧ sK S a = 7) (hlink : (own, idx, ref, "lives", "I", host) ∈ nestF) (hsm : ref = "Plotroom$Tally" ∨ Cond.sameField ref "Plotroom$Tally" "lives" "I" ∈ GA) (hdg : decode cc pc = .ok (.getfield idx, 3)) (kk : Gj κ Φ (pc + 3) lv (.int (sI S 49 a) :: st)) : Gj κ Φ pc lv (.ref a :: st) := by
  obtain ⟨p, l, e, R, s, m, args, below, meth, c, Q, D, cO, e0, A, mc, ms⟩ := κ
  obtain ⟨hx, hb, hml, hown, hts, hK, hG, hR, hlk9⟩ := hκ
  intro H locs cells slots ls hF hl
  obtain ⟨k0, hk0, hk1⟩ := wG_Tally cO S hO
  have h30 : va_Nw (Cond.fieldLinkNest own idx ref "lives" "I" host) s := hG.nf hlink
  have h31 : (Cond.fieldLinkNest own idx ref "lives" "I" host).onTables = true := rfl
  have h1 : vwCl[8]? = some (RX8, TX8, 8) := rfl
  have h2 : ∀ x, s.fieldFound? (TX8 7).1 (TX8 7).2.1 (TX8 7).2.2.1 = some x → s.fieldFound? ref (TX8 7).2.1 (TX8 7).2.2.1 = some x := fun x9 h9 => hsm.elim (fun z => by rw [z]; exact h9) (fun z => u_same (hts _ z) x9 h9)
  have h3 : (Cond.fieldLinkNest own idx ref (TX8 7).2.1 (TX8 7).2.2.1 host).before args s = true := va_Nw.use h31 h30
  have h4 : ∀ w ∈ u_ws RX8 TX8 8, w ∈ GA := inlX8
  have h5 := (hΦ H locs cells slots hF).1
  have h6 := kk H locs cells slots ls hF hl
  exact va_getN (D := D) (ci := 8) (C := RX8) (T := TX8) (N := 8) hx hb hts h4 hown hK h5 k0 hk1 h1 7 (by decide) h3 h2 rfl hdg h6
theorem gt_Town_x {cc : ByteArray} {nL : Nat} {own : String} {rm : Room} {κ : KX} (hκ : Cx cc nL own rm κ) {Φ : HQ} {pc : Nat} {lv : List (Nat × Value)} {st : List Value} {S : wPS} (hΦ : Hd κ Φ S) {a idx : Nat} {ref : String} (hO : a ∈ sL S ∧ sK S a = 8) (hlink : Cond.fieldLink own idx ref "x" "I" ∈ GA) (hsm : ref = "Plotroom$Place" ∨ Cond.sameField ref "Plotroom$Place" "x" "I" ∈ GA) (hdg : decode cc pc = .ok (.getfield idx, 3)) (kk : Gj κ Φ (pc + 3) lv (.int (sI S 50 a) :: st)) : Gj κ Φ pc lv (.ref a :: st) := by
  obtain ⟨p, l, e, R, s, m, args, below, meth, c, Q, D, cO, e0, A, mc, ms⟩ := κ
  obtain ⟨hx, hb, hml, hown, hts, hK, hG, hR, hlk9⟩ := hκ
  intro H locs cells slots ls hF hl
  obtain ⟨k0, hk0, hk1⟩ := wG_Town cO S hO
  have h1 : vwCl[9]? = some (RX9, TX9, 3) := rfl
  have h2 : ∀ x, s.fieldFound? (TX9 0).1 (TX9 0).2.1 (TX9 0).2.2.1 = some x → s.fieldFound? ref (TX9 0).2.1 (TX9 0).2.2.1 = some x := fun x9 h9 => hsm.elim (fun z => by rw [z]; exact h9) (fun z => u_same (hts _ z) x9 h9)
  have h3 : (Cond.fieldLink own idx ref (TX9 0).2.1 (TX9 0).2.2.1).before args s = true := hts _ hlink
  have h4 : ∀ w ∈ u_ws RX9 TX9 3, w ∈ GA := inlX9
  have h5 := (hΦ H locs cells slots hF).1
  have h6 := kk H locs cells slots ls hF hl
  exact va_get (D := D) (ci := 9) (C := RX9) (T := TX9) (N := 3) hx hb hts h4 hown hK h5 k0 hk1 h1 0 (by decide) h3 h2 rfl hdg h6
theorem gt_Town_y {cc : ByteArray} {nL : Nat} {own : String} {rm : Room} {κ : KX} (hκ : Cx cc nL own rm κ) {Φ : HQ} {pc : Nat} {lv : List (Nat × Value)} {st : List Value} {S : wPS} (hΦ : Hd κ Φ S) {a idx : Nat} {ref : String} (hO : a ∈ sL S ∧ sK S a = 8) (hlink : Cond.fieldLink own idx ref "y" "I" ∈ GA) (hsm : ref = "Plotroom$Place" ∨ Cond.sameField ref "Plotroom$Place" "y" "I" ∈ GA) (hdg : decode cc pc = .ok (.getfield idx, 3)) (kk : Gj κ Φ (pc + 3) lv (.int (sI S 51 a) :: st)) : Gj κ Φ pc lv (.ref a :: st) := by
  obtain ⟨p, l, e, R, s, m, args, below, meth, c, Q, D, cO, e0, A, mc, ms⟩ := κ
  obtain ⟨hx, hb, hml, hown, hts, hK, hG, hR, hlk9⟩ := hκ
  intro H locs cells slots ls hF hl
  obtain ⟨k0, hk0, hk1⟩ := wG_Town cO S hO
  have h1 : vwCl[9]? = some (RX9, TX9, 3) := rfl
  have h2 : ∀ x, s.fieldFound? (TX9 1).1 (TX9 1).2.1 (TX9 1).2.2.1 = some x → s.fieldFound? ref (TX9 1).2.1 (TX9 1).2.2.1 = some x := fun x9 h9 => hsm.elim (fun z => by rw [z]; exact h9) (fun z => u_same (hts _ z) x9 h9)
  have h3 : (Cond.fieldLink own idx ref (TX9 1).2.1 (TX9 1).2.2.1).before args s = true := hts _ hlink
  have h4 : ∀ w ∈ u_ws RX9 TX9 3, w ∈ GA := inlX9
  have h5 := (hΦ H locs cells slots hF).1
  have h6 := kk H locs cells slots ls hF hl
  exact va_get (D := D) (ci := 9) (C := RX9) (T := TX9) (N := 3) hx hb hts h4 hown hK h5 k0 hk1 h1 1 (by decide) h3 h2 rfl hdg h6
theorem gt_Town_people {cc : ByteArray} {nL : Nat} {own : String} {rm : Room} {κ : KX} (hκ : Cx cc nL own rm κ) {Φ : HQ} {pc : Nat} {lv : List (Nat × Value)} {st : List Value} {S : wPS} (hΦ : Hd κ Φ S) {a idx : Nat} {ref : String} (hO : a ∈ sL S ∧ sK S a = 8) (hlink : Cond.fieldLink own idx ref "people" "I" ∈ GA) (hsm : ref = "Plotroom$Town" ∨ Cond.sameField ref "Plotroom$Town" "people" "I" ∈ GA) (hdg : decode cc pc = .ok (.getfield idx, 3)) (kk : Gj κ Φ (pc + 3) lv (.int (sI S 52 a) :: st)) : Gj κ Φ pc lv (.ref a :: st) := by
  obtain ⟨p, l, e, R, s, m, args, below, meth, c, Q, D, cO, e0, A, mc, ms⟩ := κ
  obtain ⟨hx, hb, hml, hown, hts, hK, hG, hR, hlk9⟩ := hκ
  intro H locs cells slots ls hF hl
  obtain ⟨k0, hk0, hk1⟩ := wG_Town cO S hO
  have h1 : vwCl[9]? = some (RX9, TX9, 3) := rfl
  have h2 : ∀ x, s.fieldFound? (TX9 2).1 (TX9 2).2.1 (TX9 2).2.2.1 = some x → s.fieldFound? ref (TX9 2).2.1 (TX9 2).2.2.1 = some x := fun x9 h9 => hsm.elim (fun z => by rw [z]; exact h9) (fun z => u_same (hts _ z) x9 h9)
  have h3 : (Cond.fieldLink own idx ref (TX9 2).2.1 (TX9 2).2.2.1).before args s = true := hts _ hlink
  have h4 : ∀ w ∈ u_ws RX9 TX9 3, w ∈ GA := inlX9
  have h5 := (hΦ H locs cells slots hF).1
  have h6 := kk H locs cells slots ls hF hl
  exact va_get (D := D) (ci := 9) (C := RX9) (T := TX9) (N := 3) hx hb hts h4 hown hK h5 k0 hk1 h1 2 (by decide) h3 h2 rfl hdg h6
theorem gtN_Town_people {cc : ByteArray} {nL : Nat} {own : String} {rm : Room} {κ : KX} (hκ : Cx cc nL own rm κ) {Φ : HQ} {pc : Nat} {lv : List (Nat × Value)} {st : List Value} {S : wPS} (hΦ : Hd κ Φ S) {a idx : Nat} {ref host : String} (hO : a ∈ sL S ∧ sK S a = 8) (hlink : (own, idx, ref, "people", "I", host) ∈ nestF) (hsm : ref = "Plotroom$Town" ∨ Cond.sameField ref "Plotroom$Town" "people" "I" ∈ GA) (hdg : decode cc pc = .ok (.getfield idx, 3)) (kk : Gj κ Φ (pc + 3) lv (.int (sI S 52 a) :: st)) : Gj κ Φ pc lv (.ref a :: st) := by
  obtain ⟨p, l, e, R, s, m, args, below, meth, c, Q, D, cO, e0, A, mc, ms⟩ := κ
  obtain ⟨hx, hb, hml, hown, hts, hK, hG, hR, hlk9⟩ := hκ
  intro H locs cells slots ls hF hl
  obtain ⟨k0, hk0, hk1⟩ := wG_Town cO S hO
  have h30 : va_Nw (Cond.fieldLinkNest own idx ref "people" "I" host) s := hG.nf hlink
  have h31 : (Cond.fieldLinkNest own idx ref "people" "I" host).onTables = true := rfl
  have h1 : vwCl[9]? = some (RX9, TX9, 3) := rfl
  have h2 : ∀ x, s.fieldFound? (TX9 2).1 (TX9 2).2.1 (TX9 2).2.2.1 = some x → s.fieldFound? ref (TX9 2).2.1 (TX9 2).2.2.1 = some x := fun x9 h9 => hsm.elim (fun z => by rw [z]; exact h9) (fun z => u_same (hts _ z) x9 h9)
  have h3 : (Cond.fieldLinkNest own idx ref (TX9 2).2.1 (TX9 2).2.2.1 host).before args s = true := va_Nw.use h31 h30
  have h4 : ∀ w ∈ u_ws RX9 TX9 3, w ∈ GA := inlX9
  have h5 := (hΦ H locs cells slots hF).1
  have h6 := kk H locs cells slots ls hF hl
  exact va_getN (D := D) (ci := 9) (C := RX9) (T := TX9) (N := 3) hx hb hts h4 hown hK h5 k0 hk1 h1 2 (by decide) h3 h2 rfl hdg h6
theorem gt_Track_x {cc : ByteArray} {nL : Nat} {own : String} {rm : Room} {κ : KX} (hκ : Cx cc nL own rm κ) {Φ : HQ} {pc : Nat} {lv : List (Nat × Value)} {st : List Value} {S : wPS} (hΦ : Hd κ Φ S) {a idx : Nat} {ref : String} (hO : a ∈ sL S ∧ sK S a = 9) (hlink : Cond.fieldLink own idx ref "x" "I" ∈ GA) (hsm : ref = "Plotroom$Place" ∨ Cond.sameField ref "Plotroom$Place" "x" "I" ∈ GA) (hdg : decode cc pc = .ok (.getfield idx, 3)) (kk : Gj κ Φ (pc + 3) lv (.int (sI S 53 a) :: st)) : Gj κ Φ pc lv (.ref a :: st) := by
  obtain ⟨p, l, e, R, s, m, args, below, meth, c, Q, D, cO, e0, A, mc, ms⟩ := κ
  obtain ⟨hx, hb, hml, hown, hts, hK, hG, hR, hlk9⟩ := hκ
  intro H locs cells slots ls hF hl
  obtain ⟨k0, hk0, hk1⟩ := wG_Track cO S hO
  have h1 : vwCl[10]? = some (RX10, TX10, 10) := rfl
  have h2 : ∀ x, s.fieldFound? (TX10 0).1 (TX10 0).2.1 (TX10 0).2.2.1 = some x → s.fieldFound? ref (TX10 0).2.1 (TX10 0).2.2.1 = some x := fun x9 h9 => hsm.elim (fun z => by rw [z]; exact h9) (fun z => u_same (hts _ z) x9 h9)
  have h3 : (Cond.fieldLink own idx ref (TX10 0).2.1 (TX10 0).2.2.1).before args s = true := hts _ hlink
  have h4 : ∀ w ∈ u_ws RX10 TX10 10, w ∈ GA := inlX10
  have h5 := (hΦ H locs cells slots hF).1
  have h6 := kk H locs cells slots ls hF hl
  exact va_get (D := D) (ci := 10) (C := RX10) (T := TX10) (N := 10) hx hb hts h4 hown hK h5 k0 hk1 h1 0 (by decide) h3 h2 rfl hdg h6
theorem gt_Track_y {cc : ByteArray} {nL : Nat} {own : String} {rm : Room} {κ : KX} (hκ : Cx cc nL own rm κ) {Φ : HQ} {pc : Nat} {lv : List (Nat × Value)} {st : List Value} {S : wPS} (hΦ : Hd κ Φ S) {a idx : Nat} {ref : String} (hO : a ∈ sL S ∧ sK S a = 9) (hlink : Cond.fieldLink own idx ref "y" "I" ∈ GA) (hsm : ref = "Plotroom$Place" ∨ Cond.sameField ref "Plotroom$Place" "y" "I" ∈ GA) (hdg : decode cc pc = .ok (.getfield idx, 3)) (kk : Gj κ Φ (pc + 3) lv (.int (sI S 54 a) :: st)) : Gj κ Φ pc lv (.ref a :: st) := by
  obtain ⟨p, l, e, R, s, m, args, below, meth, c, Q, D, cO, e0, A, mc, ms⟩ := κ
  obtain ⟨hx, hb, hml, hown, hts, hK, hG, hR, hlk9⟩ := hκ
  intro H locs cells slots ls hF hl
  obtain ⟨k0, hk0, hk1⟩ := wG_Track cO S hO
  have h1 : vwCl[10]? = some (RX10, TX10, 10) := rfl
  have h2 : ∀ x, s.fieldFound? (TX10 1).1 (TX10 1).2.1 (TX10 1).2.2.1 = some x → s.fieldFound? ref (TX10 1).2.1 (TX10 1).2.2.1 = some x := fun x9 h9 => hsm.elim (fun z => by rw [z]; exact h9) (fun z => u_same (hts _ z) x9 h9)
  have h3 : (Cond.fieldLink own idx ref (TX10 1).2.1 (TX10 1).2.2.1).before args s = true := hts _ hlink
  have h4 : ∀ w ∈ u_ws RX10 TX10 10, w ∈ GA := inlX10
  have h5 := (hΦ H locs cells slots hF).1
  have h6 := kk H locs cells slots ls hF hl
  exact va_get (D := D) (ci := 10) (C := RX10) (T := TX10) (N := 10) hx hb hts h4 hown hK h5 k0 hk1 h1 1 (by decide) h3 h2 rfl hdg h6
theorem gt_Track_number {cc : ByteArray} {nL : Nat} {own : String} {rm : Room} {κ : KX} (hκ : Cx cc nL own rm κ) {Φ : HQ} {pc : Nat} {lv : List (Nat × Value)} {st : List Value} {S : wPS} (hΦ : Hd κ Φ S) {a idx : Nat} {ref : String} (hO : a ∈ sL S ∧ sK S a = 9) (hlink : Cond.fieldLink own idx ref "number" "I" ∈ GA) (hsm : ref = "Plotroom$Track" ∨ Cond.sameField ref "Plotroom$Track" "number" "I" ∈ GA) (hdg : decode cc pc = .ok (.getfield idx, 3)) (kk : Gj κ Φ (pc + 3) lv (.int (sI S 55 a) :: st)) : Gj κ Φ pc lv (.ref a :: st) := by
  obtain ⟨p, l, e, R, s, m, args, below, meth, c, Q, D, cO, e0, A, mc, ms⟩ := κ
  obtain ⟨hx, hb, hml, hown, hts, hK, hG, hR, hlk9⟩ := hκ
  intro H locs cells slots ls hF hl
  obtain ⟨k0, hk0, hk1⟩ := wG_Track cO S hO
  have h1 : vwCl[10]? = some (RX10, TX10, 10) := rfl
  have h2 : ∀ x, s.fieldFound? (TX10 2).1 (TX10 2).2.1 (TX10 2).2.2.1 = some x → s.fieldFound? ref (TX10 2).2.1 (TX10 2).2.2.1 = some x := fun x9 h9 => hsm.elim (fun z => by rw [z]; exact h9) (fun z => u_same (hts _ z) x9 h9)
  have h3 : (Cond.fieldLink own idx ref (TX10 2).2.1 (TX10 2).2.2.1).before args s = true := hts _ hlink
  have h4 : ∀ w ∈ u_ws RX10 TX10 10, w ∈ GA := inlX10
  have h5 := (hΦ H locs cells slots hF).1
  have h6 := kk H locs cells slots ls hF hl
  exact va_get (D := D) (ci := 10) (C := RX10) (T := TX10) (N := 10) hx hb hts h4 hown hK h5 k0 hk1 h1 2 (by decide) h3 h2 rfl hdg h6
theorem gtN_Track_number {cc : ByteArray} {nL : Nat} {own : String} {rm : Room} {κ : KX} (hκ : Cx cc nL own rm κ) {Φ : HQ} {pc : Nat} {lv : List (Nat × Value)} {st : List Value} {S : wPS} (hΦ : Hd κ Φ S) {a idx : Nat} {ref host : String} (hO : a ∈ sL S ∧ sK S a = 9) (hlink : (own, idx, ref, "number", "I", host) ∈ nestF) (hsm : ref = "Plotroom$Track" ∨ Cond.sameField ref "Plotroom$Track" "number" "I" ∈ GA) (hdg : decode cc pc = .ok (.getfield idx, 3)) (kk : Gj κ Φ (pc + 3) lv (.int (sI S 55 a) :: st)) : Gj κ Φ pc lv (.ref a :: st) := by
  obtain ⟨p, l, e, R, s, m, args, below, meth, c, Q, D, cO, e0, A, mc, ms⟩ := κ
  obtain ⟨hx, hb, hml, hown, hts, hK, hG, hR, hlk9⟩ := hκ
  intro H locs cells slots ls hF hl
  obtain ⟨k0, hk0, hk1⟩ := wG_Track cO S hO
  have h30 : va_Nw (Cond.fieldLinkNest own idx ref "number" "I" host) s := hG.nf hlink
  have h31 : (Cond.fieldLinkNest own idx ref "number" "I" host).onTables = true := rfl
  have h1 : vwCl[10]? = some (RX10, TX10, 10) := rfl
  have h2 : ∀ x, s.fieldFound? (TX10 2).1 (TX10 2).2.1 (TX10 2).2.2.1 = some x → s.fieldFound? ref (TX10 2).2.1 (TX10 2).2.2.1 = some x := fun x9 h9 => hsm.elim (fun z => by rw [z]; exact h9) (fun z => u_same (hts _ z) x9 h9)
  have h3 : (Cond.fieldLinkNest own idx ref (TX10 2).2.1 (TX10 2).2.2.1 host).before args s = true := va_Nw.use h31 h30
  have h4 : ∀ w ∈ u_ws RX10 TX10 10, w ∈ GA := inlX10
  have h5 := (hΦ H locs cells slots hF).1
  have h6 := kk H locs cells slots ls hF hl
  exact va_getN (D := D) (ci := 10) (C := RX10) (T := TX10) (N := 10) hx hb hts h4 hown hK h5 k0 hk1 h1 2 (by decide) h3 h2 rfl hdg h6
theorem gt_Track_minute {cc : ByteArray} {nL : Nat} {own : String} {rm : Room} {κ : KX} (hκ : Cx cc nL own rm κ) {Φ : HQ} {pc : Nat} {lv : List (Nat × Value)} {st : List Value} {S : wPS} (hΦ : Hd κ Φ S) {a idx : Nat} {ref : String} (hO : a ∈ sL S ∧ sK S a = 9) (hlink : Cond.fieldLink own idx ref "minute" "I" ∈ GA) (hsm : ref = "Plotroom$Track" ∨ Cond.sameField ref "Plotroom$Track" "minute" "I" ∈ GA) (hdg : decode cc pc = .ok (.getfield idx, 3)) (kk : Gj κ Φ (pc + 3) lv (.int (sI S 56 a) :: st)) : Gj κ Φ pc lv (.ref a :: st) := by
  obtain ⟨p, l, e, R, s, m, args, below, meth, c, Q, D, cO, e0, A, mc, ms⟩ := κ
  obtain ⟨hx, hb, hml, hown, hts, hK, hG, hR, hlk9⟩ := hκ
  intro H locs cells slots ls hF hl
  obtain ⟨k0, hk0, hk1⟩ := wG_Track cO S hO
  have h1 : vwCl[10]? = some (RX10, TX10, 10) := rfl
  have h2 : ∀ x, s.fieldFound? (TX10 3).1 (TX10 3).2.1 (TX10 3).2.2.1 = some x → s.fieldFound? ref (TX10 3).2.1 (TX10 3).2.2.1 = some x := fun x9 h9 => hsm.elim (fun z => by rw [z]; exact h9) (fun z => u_same (hts _ z) x9 h9)
  have h3 : (Cond.fieldLink own idx ref (TX10 3).2.1 (TX10 3).2.2.1).before args s = true := hts _ hlink
  have h4 : ∀ w ∈ u_ws RX10 TX10 10, w ∈ GA := inlX10
  have h5 := (hΦ H locs cells slots hF).1
  have h6 := kk H locs cells slots ls hF hl
  exact va_get (D := D) (ci := 10) (C := RX10) (T := TX10) (N := 10) hx hb hts h4 hown hK h5 k0 hk1 h1 3 (by decide) h3 h2 rfl hdg h6
theorem gtN_Track_minute {cc : ByteArray} {nL : Nat} {own : String} {rm : Room} {κ : KX} (hκ : Cx cc nL own rm κ) {Φ : HQ} {pc : Nat} {lv : List (Nat × Value)} {st : List Value} {S : wPS} (hΦ : Hd κ Φ S) {a idx : Nat} {ref host : String} (hO : a ∈ sL S ∧ sK S a = 9) (hlink : (own, idx, ref, "minute", "I", host) ∈ nestF) (hsm : ref = "Plotroom$Track" ∨ Cond.sameField ref "Plotroom$Track" "minute" "I" ∈ GA) (hdg : decode cc pc = .ok (.getfield idx, 3)) (kk : Gj κ Φ (pc + 3) lv (.int (sI S 56 a) :: st)) : Gj κ Φ pc lv (.ref a :: st) := by
  obtain ⟨p, l, e, R, s, m, args, below, meth, c, Q, D, cO, e0, A, mc, ms⟩ := κ
  obtain ⟨hx, hb, hml, hown, hts, hK, hG, hR, hlk9⟩ := hκ
  intro H locs cells slots ls hF hl
  obtain ⟨k0, hk0, hk1⟩ := wG_Track cO S hO
  have h30 : va_Nw (Cond.fieldLinkNest own idx ref "minute" "I" host) s := hG.nf hlink
  have h31 : (Cond.fieldLinkNest own idx ref "minute" "I" host).onTables = true := rfl
  have h1 : vwCl[10]? = some (RX10, TX10, 10) := rfl
  have h2 : ∀ x, s.fieldFound? (TX10 3).1 (TX10 3).2.1 (TX10 3).2.2.1 = some x → s.fieldFound? ref (TX10 3).2.1 (TX10 3).2.2.1 = some x := fun x9 h9 => hsm.elim (fun z => by rw [z]; exact h9) (fun z => u_same (hts _ z) x9 h9)
  have h3 : (Cond.fieldLinkNest own idx ref (TX10 3).2.1 (TX10 3).2.2.1 host).before args s = true := va_Nw.use h31 h30
  have h4 : ∀ w ∈ u_ws RX10 TX10 10, w ∈ GA := inlX10
  have h5 := (hΦ H locs cells slots hF).1
  have h6 := kk H locs cells slots ls hF hl
  exact va_getN (D := D) (ci := 10) (C := RX10) (T := TX10) (N := 10) hx hb hts h4 hown hK h5 k0 hk1 h1 3 (by decide) h3 h2 rfl hdg h6
theorem gt_Track_courseX {cc : ByteArray} {nL : Nat} {own : String} {rm : Room} {κ : KX} (hκ : Cx cc nL own rm κ) {Φ : HQ} {pc : Nat} {lv : List (Nat × Value)} {st : List Value} {S : wPS} (hΦ : Hd κ Φ S) {a idx : Nat} {ref : String} (hO : a ∈ sL S ∧ sK S a = 9) (hlink : Cond.fieldLink own idx ref "courseX" "I" ∈ GA) (hsm : ref = "Plotroom$Track" ∨ Cond.sameField ref "Plotroom$Track" "courseX" "I" ∈ GA) (hdg : decode cc pc = .ok (.getfield idx, 3)) (kk : Gj κ Φ (pc + 3) lv (.int (sI S 57 a) :: st)) : Gj κ Φ pc lv (.ref a :: st) := by
  obtain ⟨p, l, e, R, s, m, args, below, meth, c, Q, D, cO, e0, A, mc, ms⟩ := κ
  obtain ⟨hx, hb, hml, hown, hts, hK, hG, hR, hlk9⟩ := hκ
  intro H locs cells slots ls hF hl
  obtain ⟨k0, hk0, hk1⟩ := wG_Track cO S hO
  have h1 : vwCl[10]? = some (RX10, TX10, 10) := rfl
  have h2 : ∀ x, s.fieldFound? (TX10 4).1 (TX10 4).2.1 (TX10 4).2.2.1 = some x → s.fieldFound? ref (TX10 4).2.1 (TX10 4).2.2.1 = some x := fun x9 h9 => hsm.elim (fun z => by rw [z]; exact h9) (fun z => u_same (hts _ z) x9 h9)
  have h3 : (Cond.fieldLink own idx ref (TX10 4).2.1 (TX10 4).2.2.1).before args s = true := hts _ hlink
  have h4 : ∀ w ∈ u_ws RX10 TX10 10, w ∈ GA := inlX10
  have h5 := (hΦ H locs cells slots hF).1
  have h6 := kk H locs cells slots ls hF hl
  exact va_get (D := D) (ci := 10) (C := RX10) (T := TX10) (N := 10) hx hb hts h4 hown hK h5 k0 hk1 h1 4 (by decide) h3 h2 rfl hdg h6
theorem gt_Track_courseY {cc : ByteArray} {nL : Nat} {own : String} {rm : Room} {κ : KX} (hκ : Cx cc nL own rm κ) {Φ : HQ} {pc : Nat} {lv : List (Nat × Value)} {st : List Value} {S : wPS} (hΦ : Hd κ Φ S) {a idx : Nat} {ref : String} (hO : a ∈ sL S ∧ sK S a = 9) (hlink : Cond.fieldLink own idx ref "courseY" "I" ∈ GA) (hsm : ref = "Plotroom$Track" ∨ Cond.sameField ref "Plotroom$Track" "courseY" "I" ∈ GA) (hdg : decode cc pc = .ok (.getfield idx, 3)) (kk : Gj κ Φ (pc + 3) lv (.int (sI S 58 a) :: st)) : Gj κ Φ pc lv (.ref a :: st) := by
  obtain ⟨p, l, e, R, s, m, args, below, meth, c, Q, D, cO, e0, A, mc, ms⟩ := κ
  obtain ⟨hx, hb, hml, hown, hts, hK, hG, hR, hlk9⟩ := hκ
  intro H locs cells slots ls hF hl
  obtain ⟨k0, hk0, hk1⟩ := wG_Track cO S hO
  have h1 : vwCl[10]? = some (RX10, TX10, 10) := rfl
  have h2 : ∀ x, s.fieldFound? (TX10 5).1 (TX10 5).2.1 (TX10 5).2.2.1 = some x → s.fieldFound? ref (TX10 5).2.1 (TX10 5).2.2.1 = some x := fun x9 h9 => hsm.elim (fun z => by rw [z]; exact h9) (fun z => u_same (hts _ z) x9 h9)
  have h3 : (Cond.fieldLink own idx ref (TX10 5).2.1 (TX10 5).2.2.1).before args s = true := hts _ hlink
  have h4 : ∀ w ∈ u_ws RX10 TX10 10, w ∈ GA := inlX10
  have h5 := (hΦ H locs cells slots hF).1
  have h6 := kk H locs cells slots ls hF hl
  exact va_get (D := D) (ci := 10) (C := RX10) (T := TX10) (N := 10) hx hb hts h4 hown hK h5 k0 hk1 h1 5 (by decide) h3 h2 rfl hdg h6
theorem gt_Track_hasCourse {cc : ByteArray} {nL : Nat} {own : String} {rm : Room} {κ : KX} (hκ : Cx cc nL own rm κ) {Φ : HQ} {pc : Nat} {lv : List (Nat × Value)} {st : List Value} {S : wPS} (hΦ : Hd κ Φ S) {a idx : Nat} {ref : String} (hO : a ∈ sL S ∧ sK S a = 9) (hlink : Cond.fieldLink own idx ref "hasCourse" "Z" ∈ GA) (hsm : ref = "Plotroom$Track" ∨ Cond.sameField ref "Plotroom$Track" "hasCourse" "Z" ∈ GA) (hdg : decode cc pc = .ok (.getfield idx, 3)) (kk : Gj κ Φ (pc + 3) lv (.int (sI S 59 a) :: st)) : Gj κ Φ pc lv (.ref a :: st) := by
  obtain ⟨p, l, e, R, s, m, args, below, meth, c, Q, D, cO, e0, A, mc, ms⟩ := κ
  obtain ⟨hx, hb, hml, hown, hts, hK, hG, hR, hlk9⟩ := hκ
  intro H locs cells slots ls hF hl
  obtain ⟨k0, hk0, hk1⟩ := wG_Track cO S hO
  have h1 : vwCl[10]? = some (RX10, TX10, 10) := rfl
  have h2 : ∀ x, s.fieldFound? (TX10 6).1 (TX10 6).2.1 (TX10 6).2.2.1 = some x → s.fieldFound? ref (TX10 6).2.1 (TX10 6).2.2.1 = some x := fun x9 h9 => hsm.elim (fun z => by rw [z]; exact h9) (fun z => u_same (hts _ z) x9 h9)
  have h3 : (Cond.fieldLink own idx ref (TX10 6).2.1 (TX10 6).2.2.1).before args s = true := hts _ hlink
  have h4 : ∀ w ∈ u_ws RX10 TX10 10, w ∈ GA := inlX10
  have h5 := (hΦ H locs cells slots hF).1
  have h6 := kk H locs cells slots ls hF hl
  exact va_get (D := D) (ci := 10) (C := RX10) (T := TX10) (N := 10) hx hb hts h4 hown hK h5 k0 hk1 h1 6 (by decide) h3 h2 rfl hdg h6
theorem gt_Track_guess {cc : ByteArray} {nL : Nat} {own : String} {rm : Room} {κ : KX} (hκ : Cx cc nL own rm κ) {Φ : HQ} {pc : Nat} {lv : List (Nat × Value)} {st : List Value} {S : wPS} (hΦ : Hd κ Φ S) {a idx : Nat} {ref : String} (hO : a ∈ sL S ∧ sK S a = 9) (hlink : Cond.fieldLink own idx ref "guess" "I" ∈ GA) (hsm : ref = "Plotroom$Track" ∨ Cond.sameField ref "Plotroom$Track" "guess" "I" ∈ GA) (hdg : decode cc pc = .ok (.getfield idx, 3)) (kk : Gj κ Φ (pc + 3) lv (.int (sI S 60 a) :: st)) : Gj κ Φ pc lv (.ref a :: st) := by
  obtain ⟨p, l, e, R, s, m, args, below, meth, c, Q, D, cO, e0, A, mc, ms⟩ := κ
  obtain ⟨hx, hb, hml, hown, hts, hK, hG, hR, hlk9⟩ := hκ
  intro H locs cells slots ls hF hl
  obtain ⟨k0, hk0, hk1⟩ := wG_Track cO S hO
  have h1 : vwCl[10]? = some (RX10, TX10, 10) := rfl
  have h2 : ∀ x, s.fieldFound? (TX10 7).1 (TX10 7).2.1 (TX10 7).2.2.1 = some x → s.fieldFound? ref (TX10 7).2.1 (TX10 7).2.2.1 = some x := fun x9 h9 => hsm.elim (fun z => by rw [z]; exact h9) (fun z => u_same (hts _ z) x9 h9)
  have h3 : (Cond.fieldLink own idx ref (TX10 7).2.1 (TX10 7).2.2.1).before args s = true := hts _ hlink
  have h4 : ∀ w ∈ u_ws RX10 TX10 10, w ∈ GA := inlX10
  have h5 := (hΦ H locs cells slots hF).1
  have h6 := kk H locs cells slots ls hF hl
  exact va_get (D := D) (ci := 10) (C := RX10) (T := TX10) (N := 10) hx hb hts h4 hown hK h5 k0 hk1 h1 7 (by decide) h3 h2 rfl hdg h6
theorem gt_Track_hits {cc : ByteArray} {nL : Nat} {own : String} {rm : Room} {κ : KX} (hκ : Cx cc nL own rm κ) {Φ : HQ} {pc : Nat} {lv : List (Nat × Value)} {st : List Value} {S : wPS} (hΦ : Hd κ Φ S) {a idx : Nat} {ref : String} (hO : a ∈ sL S ∧ sK S a = 9) (hlink : Cond.fieldLink own idx ref "hits" "I" ∈ GA) (hsm : ref = "Plotroom$Track" ∨ Cond.sameField ref "Plotroom$Track" "hits" "I" ∈ GA) (hdg : decode cc pc = .ok (.getfield idx, 3)) (kk : Gj κ Φ (pc + 3) lv (.int (sI S 61 a) :: st)) : Gj κ Φ pc lv (.ref a :: st) := by
  obtain ⟨p, l, e, R, s, m, args, below, meth, c, Q, D, cO, e0, A, mc, ms⟩ := κ
  obtain ⟨hx, hb, hml, hown, hts, hK, hG, hR, hlk9⟩ := hκ
  intro H locs cells slots ls hF hl
  obtain ⟨k0, hk0, hk1⟩ := wG_Track cO S hO
  have h1 : vwCl[10]? = some (RX10, TX10, 10) := rfl
  have h2 : ∀ x, s.fieldFound? (TX10 8).1 (TX10 8).2.1 (TX10 8).2.2.1 = some x → s.fieldFound? ref (TX10 8).2.1 (TX10 8).2.2.1 = some x := fun x9 h9 => hsm.elim (fun z => by rw [z]; exact h9) (fun z => u_same (hts _ z) x9 h9)
  have h3 : (Cond.fieldLink own idx ref (TX10 8).2.1 (TX10 8).2.2.1).before args s = true := hts _ hlink
  have h4 : ∀ w ∈ u_ws RX10 TX10 10, w ∈ GA := inlX10
  have h5 := (hΦ H locs cells slots hF).1
  have h6 := kk H locs cells slots ls hF hl
  exact va_get (D := D) (ci := 10) (C := RX10) (T := TX10) (N := 10) hx hb hts h4 hown hK h5 k0 hk1 h1 8 (by decide) h3 h2 rfl hdg h6
theorem gtN_Track_hits {cc : ByteArray} {nL : Nat} {own : String} {rm : Room} {κ : KX} (hκ : Cx cc nL own rm κ) {Φ : HQ} {pc : Nat} {lv : List (Nat × Value)} {st : List Value} {S : wPS} (hΦ : Hd κ Φ S) {a idx : Nat} {ref host : String} (hO : a ∈ sL S ∧ sK S a = 9) (hlink : (own, idx, ref, "hits", "I", host) ∈ nestF) (hsm : ref = "Plotroom$Track" ∨ Cond.sameField ref "Plotroom$Track" "hits" "I" ∈ GA) (hdg : decode cc pc = .ok (.getfield idx, 3)) (kk : Gj κ Φ (pc + 3) lv (.int (sI S 61 a) :: st)) : Gj κ Φ pc lv (.ref a :: st) := by
  obtain ⟨p, l, e, R, s, m, args, below, meth, c, Q, D, cO, e0, A, mc, ms⟩ := κ
  obtain ⟨hx, hb, hml, hown, hts, hK, hG, hR, hlk9⟩ := hκ
  intro H locs cells slots ls hF hl
  obtain ⟨k0, hk0, hk1⟩ := wG_Track cO S hO
  have h30 : va_Nw (Cond.fieldLinkNest own idx ref "hits" "I" host) s := hG.nf hlink
  have h31 : (Cond.fieldLinkNest own idx ref "hits" "I" host).onTables = true := rfl
  have h1 : vwCl[10]? = some (RX10, TX10, 10) := rfl
  have h2 : ∀ x, s.fieldFound? (TX10 8).1 (TX10 8).2.1 (TX10 8).2.2.1 = some x → s.fieldFound? ref (TX10 8).2.1 (TX10 8).2.2.1 = some x := fun x9 h9 => hsm.elim (fun z => by rw [z]; exact h9) (fun z => u_same (hts _ z) x9 h9)
  have h3 : (Cond.fieldLinkNest own idx ref (TX10 8).2.1 (TX10 8).2.2.1 host).before args s = true := va_Nw.use h31 h30
  have h4 : ∀ w ∈ u_ws RX10 TX10 10, w ∈ GA := inlX10
  have h5 := (hΦ H locs cells slots hF).1
  have h6 := kk H locs cells slots ls hF hl
  exact va_getN (D := D) (ci := 10) (C := RX10) (T := TX10) (N := 10) hx hb hts h4 hown hK h5 k0 hk1 h1 8 (by decide) h3 h2 rfl hdg h6
theorem gt_Track_isLive {cc : ByteArray} {nL : Nat} {own : String} {rm : Room} {κ : KX} (hκ : Cx cc nL own rm κ) {Φ : HQ} {pc : Nat} {lv : List (Nat × Value)} {st : List Value} {S : wPS} (hΦ : Hd κ Φ S) {a idx : Nat} {ref : String} (hO : a ∈ sL S ∧ sK S a = 9) (hlink : Cond.fieldLink own idx ref "isLive" "Z" ∈ GA) (hsm : ref = "Plotroom$Track" ∨ Cond.sameField ref "Plotroom$Track" "isLive" "Z" ∈ GA) (hdg : decode cc pc = .ok (.getfield idx, 3)) (kk : Gj κ Φ (pc + 3) lv (.int (sI S 62 a) :: st)) : Gj κ Φ pc lv (.ref a :: st) := by
  obtain ⟨p, l, e, R, s, m, args, below, meth, c, Q, D, cO, e0, A, mc, ms⟩ := κ
  obtain ⟨hx, hb, hml, hown, hts, hK, hG, hR, hlk9⟩ := hκ
  intro H locs cells slots ls hF hl
  obtain ⟨k0, hk0, hk1⟩ := wG_Track cO S hO
  have h1 : vwCl[10]? = some (RX10, TX10, 10) := rfl
  have h2 : ∀ x, s.fieldFound? (TX10 9).1 (TX10 9).2.1 (TX10 9).2.2.1 = some x → s.fieldFound? ref (TX10 9).2.1 (TX10 9).2.2.1 = some x := fun x9 h9 => hsm.elim (fun z => by rw [z]; exact h9) (fun z => u_same (hts _ z) x9 h9)
  have h3 : (Cond.fieldLink own idx ref (TX10 9).2.1 (TX10 9).2.2.1).before args s = true := hts _ hlink
  have h4 : ∀ w ∈ u_ws RX10 TX10 10, w ∈ GA := inlX10
  have h5 := (hΦ H locs cells slots hF).1
  have h6 := kk H locs cells slots ls hF hl
  exact va_get (D := D) (ci := 10) (C := RX10) (T := TX10) (N := 10) hx hb hts h4 hown hK h5 k0 hk1 h1 9 (by decide) h3 h2 rfl hdg h6
theorem gtN_Track_isLive {cc : ByteArray} {nL : Nat} {own : String} {rm : Room} {κ : KX} (hκ : Cx cc nL own rm κ) {Φ : HQ} {pc : Nat} {lv : List (Nat × Value)} {st : List Value} {S : wPS} (hΦ : Hd κ Φ S) {a idx : Nat} {ref host : String} (hO : a ∈ sL S ∧ sK S a = 9) (hlink : (own, idx, ref, "isLive", "Z", host) ∈ nestF) (hsm : ref = "Plotroom$Track" ∨ Cond.sameField ref "Plotroom$Track" "isLive" "Z" ∈ GA) (hdg : decode cc pc = .ok (.getfield idx, 3)) (kk : Gj κ Φ (pc + 3) lv (.int (sI S 62 a) :: st)) : Gj κ Φ pc lv (.ref a :: st) := by
  obtain ⟨p, l, e, R, s, m, args, below, meth, c, Q, D, cO, e0, A, mc, ms⟩ := κ
  obtain ⟨hx, hb, hml, hown, hts, hK, hG, hR, hlk9⟩ := hκ
  intro H locs cells slots ls hF hl
  obtain ⟨k0, hk0, hk1⟩ := wG_Track cO S hO
  have h30 : va_Nw (Cond.fieldLinkNest own idx ref "isLive" "Z" host) s := hG.nf hlink
  have h31 : (Cond.fieldLinkNest own idx ref "isLive" "Z" host).onTables = true := rfl
  have h1 : vwCl[10]? = some (RX10, TX10, 10) := rfl
  have h2 : ∀ x, s.fieldFound? (TX10 9).1 (TX10 9).2.1 (TX10 9).2.2.1 = some x → s.fieldFound? ref (TX10 9).2.1 (TX10 9).2.2.1 = some x := fun x9 h9 => hsm.elim (fun z => by rw [z]; exact h9) (fun z => u_same (hts _ z) x9 h9)
  have h3 : (Cond.fieldLinkNest own idx ref (TX10 9).2.1 (TX10 9).2.2.1 host).before args s = true := va_Nw.use h31 h30
  have h4 : ∀ w ∈ u_ws RX10 TX10 10, w ∈ GA := inlX10
  have h5 := (hΦ H locs cells slots hF).1
  have h6 := kk H locs cells slots ls hF hl
  exact va_getN (D := D) (ci := 10) (C := RX10) (T := TX10) (N := 10) hx hb hts h4 hown hK h5 k0 hk1 h1 9 (by decide) h3 h2 rfl hdg h6
theorem gt_Room_masts {cc : ByteArray} {nL : Nat} {own : String} {rm : Room} {κ : KX} (hκ : Cx cc nL own rm κ) {Φ : HQ} {pc : Nat} {lv : List (Nat × Value)} {st : List Value} {S : wPS} (hΦ : Hd κ Φ S) {a idx : Nat} {ref : String} (hO : a ∈ sL S ∧ sK S a = 10) (hlink : Cond.fieldLink own idx ref "masts" "Ljava/util/ArrayList;" ∈ GA) (hsm : ref = "Plotroom" ∨ Cond.sameField ref "Plotroom" "masts" "Ljava/util/ArrayList;" ∈ GA) (hdg : decode cc pc = .ok (.getfield idx, 3)) (kk : Gj κ Φ (pc + 3) lv (va_rf (sR S 3 a) :: st)) : Gj κ Φ pc lv (.ref a :: st) := by
  obtain ⟨p, l, e, R, s, m, args, below, meth, c, Q, D, cO, e0, A, mc, ms⟩ := κ
  obtain ⟨hx, hb, hml, hown, hts, hK, hG, hR, hlk9⟩ := hκ
  intro H locs cells slots ls hF hl
  obtain ⟨k0, hk0, hk1⟩ := wG_Room cO S hO
  have h1 : vwCl[11]? = some (RX11, TX11, 14) := rfl
  have h2 : ∀ x, s.fieldFound? (TX11 0).1 (TX11 0).2.1 (TX11 0).2.2.1 = some x → s.fieldFound? ref (TX11 0).2.1 (TX11 0).2.2.1 = some x := fun x9 h9 => hsm.elim (fun z => by rw [z]; exact h9) (fun z => u_same (hts _ z) x9 h9)
  have h3 : (Cond.fieldLink own idx ref (TX11 0).2.1 (TX11 0).2.2.1).before args s = true := hts _ hlink
  have h4 : ∀ w ∈ u_ws RX11 TX11 14, w ∈ GA := inlX11
  have h5 := (hΦ H locs cells slots hF).1
  have h6 := kk H locs cells slots ls hF hl
  exact va_get (D := D) (ci := 11) (C := RX11) (T := TX11) (N := 14) hx hb hts h4 hown hK h5 k0 hk1 h1 0 (by decide) h3 h2 rfl hdg h6
theorem gt_Room_stations {cc : ByteArray} {nL : Nat} {own : String} {rm : Room} {κ : KX} (hκ : Cx cc nL own rm κ) {Φ : HQ} {pc : Nat} {lv : List (Nat × Value)} {st : List Value} {S : wPS} (hΦ : Hd κ Φ S) {a idx : Nat} {ref : String} (hO : a ∈ sL S ∧ sK S a = 10) (hlink : Cond.fieldLink own idx ref "stations" "Ljava/util/ArrayList;" ∈ GA) (hsm : ref = "Plotroom" ∨ Cond.sameField ref "Plotroom" "stations" "Ljava/util/ArrayList;" ∈ GA) (hdg : decode cc pc = .ok (.getfield idx, 3)) (kk : Gj κ Φ (pc + 3) lv (va_rf (sR S 4 a) :: st)) : Gj κ Φ pc lv (.ref a :: st) := by
  obtain ⟨p, l, e, R, s, m, args, below, meth, c, Q, D, cO, e0, A, mc, ms⟩ := κ
  obtain ⟨hx, hb, hml, hown, hts, hK, hG, hR, hlk9⟩ := hκ
  intro H locs cells slots ls hF hl
  obtain ⟨k0, hk0, hk1⟩ := wG_Room cO S hO
  have h1 : vwCl[11]? = some (RX11, TX11, 14) := rfl
  have h2 : ∀ x, s.fieldFound? (TX11 1).1 (TX11 1).2.1 (TX11 1).2.2.1 = some x → s.fieldFound? ref (TX11 1).2.1 (TX11 1).2.2.1 = some x := fun x9 h9 => hsm.elim (fun z => by rw [z]; exact h9) (fun z => u_same (hts _ z) x9 h9)
  have h3 : (Cond.fieldLink own idx ref (TX11 1).2.1 (TX11 1).2.2.1).before args s = true := hts _ hlink
  have h4 : ∀ w ∈ u_ws RX11 TX11 14, w ∈ GA := inlX11
  have h5 := (hΦ H locs cells slots hF).1
  have h6 := kk H locs cells slots ls hF hl
  exact va_get (D := D) (ci := 11) (C := RX11) (T := TX11) (N := 14) hx hb hts h4 hown hK h5 k0 hk1 h1 1 (by decide) h3 h2 rfl hdg h6
theorem gt_Room_squadrons {cc : ByteArray} {nL : Nat} {own : String} {rm : Room} {κ : KX} (hκ : Cx cc nL own rm κ) {Φ : HQ} {pc : Nat} {lv : List (Nat × Value)} {st : List Value} {S : wPS} (hΦ : Hd κ Φ S) {a idx : Nat} {ref : String} (hO : a ∈ sL S ∧ sK S a = 10) (hlink : Cond.fieldLink own idx ref "squadrons" "Ljava/util/ArrayList;" ∈ GA) (hsm : ref = "Plotroom" ∨ Cond.sameField ref "Plotroom" "squadrons" "Ljava/util/ArrayList;" ∈ GA) (hdg : decode cc pc = .ok (.getfield idx, 3)) (kk : Gj κ Φ (pc + 3) lv (va_rf (sR S 5 a) :: st)) : Gj κ Φ pc lv (.ref a :: st) := by
  obtain ⟨p, l, e, R, s, m, args, below, meth, c, Q, D, cO, e0, A, mc, ms⟩ := κ
  obtain ⟨hx, hb, hml, hown, hts, hK, hG, hR, hlk9⟩ := hκ
  intro H locs cells slots ls hF hl
  obtain ⟨k0, hk0, hk1⟩ := wG_Room cO S hO
  have h1 : vwCl[11]? = some (RX11, TX11, 14) := rfl
  have h2 : ∀ x, s.fieldFound? (TX11 2).1 (TX11 2).2.1 (TX11 2).2.2.1 = some x → s.fieldFound? ref (TX11 2).2.1 (TX11 2).2.2.1 = some x := fun x9 h9 => hsm.elim (fun z => by rw [z]; exact h9) (fun z => u_same (hts _ z) x9 h9)
  have h3 : (Cond.fieldLink own idx ref (TX11 2).2.1 (TX11 2).2.2.1).before args s = true := hts _ hlink
  have h4 : ∀ w ∈ u_ws RX11 TX11 14, w ∈ GA := inlX11
  have h5 := (hΦ H locs cells slots hF).1
  have h6 := kk H locs cells slots ls hF hl
  exact va_get (D := D) (ci := 11) (C := RX11) (T := TX11) (N := 14) hx hb hts h4 hown hK h5 k0 hk1 h1 2 (by decide) h3 h2 rfl hdg h6
theorem gt_Room_guns {cc : ByteArray} {nL : Nat} {own : String} {rm : Room} {κ : KX} (hκ : Cx cc nL own rm κ) {Φ : HQ} {pc : Nat} {lv : List (Nat × Value)} {st : List Value} {S : wPS} (hΦ : Hd κ Φ S) {a idx : Nat} {ref : String} (hO : a ∈ sL S ∧ sK S a = 10) (hlink : Cond.fieldLink own idx ref "guns" "Ljava/util/ArrayList;" ∈ GA) (hsm : ref = "Plotroom" ∨ Cond.sameField ref "Plotroom" "guns" "Ljava/util/ArrayList;" ∈ GA) (hdg : decode cc pc = .ok (.getfield idx, 3)) (kk : Gj κ Φ (pc + 3) lv (va_rf (sR S 6 a) :: st)) : Gj κ Φ pc lv (.ref a :: st) := by
  obtain ⟨p, l, e, R, s, m, args, below, meth, c, Q, D, cO, e0, A, mc, ms⟩ := κ
  obtain ⟨hx, hb, hml, hown, hts, hK, hG, hR, hlk9⟩ := hκ
  intro H locs cells slots ls hF hl
  obtain ⟨k0, hk0, hk1⟩ := wG_Room cO S hO
  have h1 : vwCl[11]? = some (RX11, TX11, 14) := rfl
  have h2 : ∀ x, s.fieldFound? (TX11 3).1 (TX11 3).2.1 (TX11 3).2.2.1 = some x → s.fieldFound? ref (TX11 3).2.1 (TX11 3).2.2.1 = some x := fun x9 h9 => hsm.elim (fun z => by rw [z]; exact h9) (fun z => u_same (hts _ z) x9 h9)
  have h3 : (Cond.fieldLink own idx ref (TX11 3).2.1 (TX11 3).2.2.1).before args s = true := hts _ hlink
  have h4 : ∀ w ∈ u_ws RX11 TX11 14, w ∈ GA := inlX11
  have h5 := (hΦ H locs cells slots hF).1
  have h6 := kk H locs cells slots ls hF hl
  exact va_get (D := D) (ci := 11) (C := RX11) (T := TX11) (N := 14) hx hb hts h4 hown hK h5 k0 hk1 h1 3 (by decide) h3 h2 rfl hdg h6
theorem gt_Room_towns {cc : ByteArray} {nL : Nat} {own : String} {rm : Room} {κ : KX} (hκ : Cx cc nL own rm κ) {Φ : HQ} {pc : Nat} {lv : List (Nat × Value)} {st : List Value} {S : wPS} (hΦ : Hd κ Φ S) {a idx : Nat} {ref : String} (hO : a ∈ sL S ∧ sK S a = 10) (hlink : Cond.fieldLink own idx ref "towns" "Ljava/util/ArrayList;" ∈ GA) (hsm : ref = "Plotroom" ∨ Cond.sameField ref "Plotroom" "towns" "Ljava/util/ArrayList;" ∈ GA) (hdg : decode cc pc = .ok (.getfield idx, 3)) (kk : Gj κ Φ (pc + 3) lv (va_rf (sR S 7 a) :: st)) : Gj κ Φ pc lv (.ref a :: st) := by
  obtain ⟨p, l, e, R, s, m, args, below, meth, c, Q, D, cO, e0, A, mc, ms⟩ := κ
  obtain ⟨hx, hb, hml, hown, hts, hK, hG, hR, hlk9⟩ := hκ
  intro H locs cells slots ls hF hl
  obtain ⟨k0, hk0, hk1⟩ := wG_Room cO S hO
  have h1 : vwCl[11]? = some (RX11, TX11, 14) := rfl
  have h2 : ∀ x, s.fieldFound? (TX11 4).1 (TX11 4).2.1 (TX11 4).2.2.1 = some x → s.fieldFound? ref (TX11 4).2.1 (TX11 4).2.2.1 = some x := fun x9 h9 => hsm.elim (fun z => by rw [z]; exact h9) (fun z => u_same (hts _ z) x9 h9)
  have h3 : (Cond.fieldLink own idx ref (TX11 4).2.1 (TX11 4).2.2.1).before args s = true := hts _ hlink
  have h4 : ∀ w ∈ u_ws RX11 TX11 14, w ∈ GA := inlX11
  have h5 := (hΦ H locs cells slots hF).1
  have h6 := kk H locs cells slots ls hF hl
  exact va_get (D := D) (ci := 11) (C := RX11) (T := TX11) (N := 14) hx hb hts h4 hown hK h5 k0 hk1 h1 4 (by decide) h3 h2 rfl hdg h6
theorem gt_Room_flights {cc : ByteArray} {nL : Nat} {own : String} {rm : Room} {κ : KX} (hκ : Cx cc nL own rm κ) {Φ : HQ} {pc : Nat} {lv : List (Nat × Value)} {st : List Value} {S : wPS} (hΦ : Hd κ Φ S) {a idx : Nat} {ref : String} (hO : a ∈ sL S ∧ sK S a = 10) (hlink : Cond.fieldLink own idx ref "flights" "Ljava/util/ArrayList;" ∈ GA) (hsm : ref = "Plotroom" ∨ Cond.sameField ref "Plotroom" "flights" "Ljava/util/ArrayList;" ∈ GA) (hdg : decode cc pc = .ok (.getfield idx, 3)) (kk : Gj κ Φ (pc + 3) lv (va_rf (sR S 8 a) :: st)) : Gj κ Φ pc lv (.ref a :: st) := by
  obtain ⟨p, l, e, R, s, m, args, below, meth, c, Q, D, cO, e0, A, mc, ms⟩ := κ
  obtain ⟨hx, hb, hml, hown, hts, hK, hG, hR, hlk9⟩ := hκ
  intro H locs cells slots ls hF hl
  obtain ⟨k0, hk0, hk1⟩ := wG_Room cO S hO
  have h1 : vwCl[11]? = some (RX11, TX11, 14) := rfl
  have h2 : ∀ x, s.fieldFound? (TX11 5).1 (TX11 5).2.1 (TX11 5).2.2.1 = some x → s.fieldFound? ref (TX11 5).2.1 (TX11 5).2.2.1 = some x := fun x9 h9 => hsm.elim (fun z => by rw [z]; exact h9) (fun z => u_same (hts _ z) x9 h9)
  have h3 : (Cond.fieldLink own idx ref (TX11 5).2.1 (TX11 5).2.2.1).before args s = true := hts _ hlink
  have h4 : ∀ w ∈ u_ws RX11 TX11 14, w ∈ GA := inlX11
  have h5 := (hΦ H locs cells slots hF).1
  have h6 := kk H locs cells slots ls hF hl
  exact va_get (D := D) (ci := 11) (C := RX11) (T := TX11) (N := 14) hx hb hts h4 hown hK h5 k0 hk1 h1 5 (by decide) h3 h2 rfl hdg h6
theorem gt_Room_plans {cc : ByteArray} {nL : Nat} {own : String} {rm : Room} {κ : KX} (hκ : Cx cc nL own rm κ) {Φ : HQ} {pc : Nat} {lv : List (Nat × Value)} {st : List Value} {S : wPS} (hΦ : Hd κ Φ S) {a idx : Nat} {ref : String} (hO : a ∈ sL S ∧ sK S a = 10) (hlink : Cond.fieldLink own idx ref "plans" "Ljava/util/ArrayList;" ∈ GA) (hsm : ref = "Plotroom" ∨ Cond.sameField ref "Plotroom" "plans" "Ljava/util/ArrayList;" ∈ GA) (hdg : decode cc pc = .ok (.getfield idx, 3)) (kk : Gj κ Φ (pc + 3) lv (va_rf (sR S 9 a) :: st)) : Gj κ Φ pc lv (.ref a :: st) := by
  obtain ⟨p, l, e, R, s, m, args, below, meth, c, Q, D, cO, e0, A, mc, ms⟩ := κ
  obtain ⟨hx, hb, hml, hown, hts, hK, hG, hR, hlk9⟩ := hκ
  intro H locs cells slots ls hF hl
  obtain ⟨k0, hk0, hk1⟩ := wG_Room cO S hO
  have h1 : vwCl[11]? = some (RX11, TX11, 14) := rfl
  have h2 : ∀ x, s.fieldFound? (TX11 6).1 (TX11 6).2.1 (TX11 6).2.2.1 = some x → s.fieldFound? ref (TX11 6).2.1 (TX11 6).2.2.1 = some x := fun x9 h9 => hsm.elim (fun z => by rw [z]; exact h9) (fun z => u_same (hts _ z) x9 h9)
  have h3 : (Cond.fieldLink own idx ref (TX11 6).2.1 (TX11 6).2.2.1).before args s = true := hts _ hlink
  have h4 : ∀ w ∈ u_ws RX11 TX11 14, w ∈ GA := inlX11
  have h5 := (hΦ H locs cells slots hF).1
  have h6 := kk H locs cells slots ls hF hl
  exact va_get (D := D) (ci := 11) (C := RX11) (T := TX11) (N := 14) hx hb hts h4 hown hK h5 k0 hk1 h1 6 (by decide) h3 h2 rfl hdg h6
theorem gt_Room_tracks {cc : ByteArray} {nL : Nat} {own : String} {rm : Room} {κ : KX} (hκ : Cx cc nL own rm κ) {Φ : HQ} {pc : Nat} {lv : List (Nat × Value)} {st : List Value} {S : wPS} (hΦ : Hd κ Φ S) {a idx : Nat} {ref : String} (hO : a ∈ sL S ∧ sK S a = 10) (hlink : Cond.fieldLink own idx ref "tracks" "Ljava/util/ArrayList;" ∈ GA) (hsm : ref = "Plotroom" ∨ Cond.sameField ref "Plotroom" "tracks" "Ljava/util/ArrayList;" ∈ GA) (hdg : decode cc pc = .ok (.getfield idx, 3)) (kk : Gj κ Φ (pc + 3) lv (va_rf (sR S 10 a) :: st)) : Gj κ Φ pc lv (.ref a :: st) := by
  obtain ⟨p, l, e, R, s, m, args, below, meth, c, Q, D, cO, e0, A, mc, ms⟩ := κ
  obtain ⟨hx, hb, hml, hown, hts, hK, hG, hR, hlk9⟩ := hκ
  intro H locs cells slots ls hF hl
  obtain ⟨k0, hk0, hk1⟩ := wG_Room cO S hO
  have h1 : vwCl[11]? = some (RX11, TX11, 14) := rfl
  have h2 : ∀ x, s.fieldFound? (TX11 7).1 (TX11 7).2.1 (TX11 7).2.2.1 = some x → s.fieldFound? ref (TX11 7).2.1 (TX11 7).2.2.1 = some x := fun x9 h9 => hsm.elim (fun z => by rw [z]; exact h9) (fun z => u_same (hts _ z) x9 h9)
  have h3 : (Cond.fieldLink own idx ref (TX11 7).2.1 (TX11 7).2.2.1).before args s = true := hts _ hlink
  have h4 : ∀ w ∈ u_ws RX11 TX11 14, w ∈ GA := inlX11
  have h5 := (hΦ H locs cells slots hF).1
  have h6 := kk H locs cells slots ls hF hl
  exact va_get (D := D) (ci := 11) (C := RX11) (T := TX11) (N := 14) hx hb hts h4 hown hK h5 k0 hk1 h1 7 (by decide) h3 h2 rfl hdg h6
theorem gt_Room_plots {cc : ByteArray} {nL : Nat} {own : String} {rm : Room} {κ : KX} (hκ : Cx cc nL own rm κ) {Φ : HQ} {pc : Nat} {lv : List (Nat × Value)} {st : List Value} {S : wPS} (hΦ : Hd κ Φ S) {a idx : Nat} {ref : String} (hO : a ∈ sL S ∧ sK S a = 10) (hlink : Cond.fieldLink own idx ref "plots" "Ljava/util/ArrayList;" ∈ GA) (hsm : ref = "Plotroom" ∨ Cond.sameField ref "Plotroom" "plots" "Ljava/util/ArrayList;" ∈ GA) (hdg : decode cc pc = .ok (.getfield idx, 3)) (kk : Gj κ Φ (pc + 3) lv (va_rf (sR S 11 a) :: st)) : Gj κ Φ pc lv (.ref a :: st) := by
  obtain ⟨p, l, e, R, s, m, args, below, meth, c, Q, D, cO, e0, A, mc, ms⟩ := κ
  obtain ⟨hx, hb, hml, hown, hts, hK, hG, hR, hlk9⟩ := hκ
  intro H locs cells slots ls hF hl
  obtain ⟨k0, hk0, hk1⟩ := wG_Room cO S hO
  have h1 : vwCl[11]? = some (RX11, TX11, 14) := rfl
  have h2 : ∀ x, s.fieldFound? (TX11 8).1 (TX11 8).2.1 (TX11 8).2.2.1 = some x → s.fieldFound? ref (TX11 8).2.1 (TX11 8).2.2.1 = some x := fun x9 h9 => hsm.elim (fun z => by rw [z]; exact h9) (fun z => u_same (hts _ z) x9 h9)
  have h3 : (Cond.fieldLink own idx ref (TX11 8).2.1 (TX11 8).2.2.1).before args s = true := hts _ hlink
  have h4 : ∀ w ∈ u_ws RX11 TX11 14, w ∈ GA := inlX11
  have h5 := (hΦ H locs cells slots hF).1
  have h6 := kk H locs cells slots ls hF hl
  exact va_get (D := D) (ci := 11) (C := RX11) (T := TX11) (N := 14) hx hb hts h4 hown hK h5 k0 hk1 h1 8 (by decide) h3 h2 rfl hdg h6
theorem gt_Room_plotsOnWay {cc : ByteArray} {nL : Nat} {own : String} {rm : Room} {κ : KX} (hκ : Cx cc nL own rm κ) {Φ : HQ} {pc : Nat} {lv : List (Nat × Value)} {st : List Value} {S : wPS} (hΦ : Hd κ Φ S) {a idx : Nat} {ref : String} (hO : a ∈ sL S ∧ sK S a = 10) (hlink : Cond.fieldLink own idx ref "plotsOnWay" "I" ∈ GA) (hsm : ref = "Plotroom" ∨ Cond.sameField ref "Plotroom" "plotsOnWay" "I" ∈ GA) (hdg : decode cc pc = .ok (.getfield idx, 3)) (kk : Gj κ Φ (pc + 3) lv (.int (sI S 63 a) :: st)) : Gj κ Φ pc lv (.ref a :: st) := by
  obtain ⟨p, l, e, R, s, m, args, below, meth, c, Q, D, cO, e0, A, mc, ms⟩ := κ
  obtain ⟨hx, hb, hml, hown, hts, hK, hG, hR, hlk9⟩ := hκ
  intro H locs cells slots ls hF hl
  obtain ⟨k0, hk0, hk1⟩ := wG_Room cO S hO
  have h1 : vwCl[11]? = some (RX11, TX11, 14) := rfl
  have h2 : ∀ x, s.fieldFound? (TX11 9).1 (TX11 9).2.1 (TX11 9).2.2.1 = some x → s.fieldFound? ref (TX11 9).2.1 (TX11 9).2.2.1 = some x := fun x9 h9 => hsm.elim (fun z => by rw [z]; exact h9) (fun z => u_same (hts _ z) x9 h9)
  have h3 : (Cond.fieldLink own idx ref (TX11 9).2.1 (TX11 9).2.2.1).before args s = true := hts _ hlink
  have h4 : ∀ w ∈ u_ws RX11 TX11 14, w ∈ GA := inlX11
  have h5 := (hΦ H locs cells slots hF).1
  have h6 := kk H locs cells slots ls hF hl
  exact va_get (D := D) (ci := 11) (C := RX11) (T := TX11) (N := 14) hx hb hts h4 hown hK h5 k0 hk1 h1 9 (by decide) h3 h2 rfl hdg h6
theorem gt_Room_lots {cc : ByteArray} {nL : Nat} {own : String} {rm : Room} {κ : KX} (hκ : Cx cc nL own rm κ) {Φ : HQ} {pc : Nat} {lv : List (Nat × Value)} {st : List Value} {S : wPS} (hΦ : Hd κ Φ S) {a idx : Nat} {ref : String} (hO : a ∈ sL S ∧ sK S a = 10) (hlink : Cond.fieldLink own idx ref "lots" "LPlotroom$Lots;" ∈ GA) (hsm : ref = "Plotroom" ∨ Cond.sameField ref "Plotroom" "lots" "LPlotroom$Lots;" ∈ GA) (hdg : decode cc pc = .ok (.getfield idx, 3)) (kk : Gj κ Φ (pc + 3) lv (va_rf (sR S 12 a) :: st)) : Gj κ Φ pc lv (.ref a :: st) := by
  obtain ⟨p, l, e, R, s, m, args, below, meth, c, Q, D, cO, e0, A, mc, ms⟩ := κ
  obtain ⟨hx, hb, hml, hown, hts, hK, hG, hR, hlk9⟩ := hκ
  intro H locs cells slots ls hF hl
  obtain ⟨k0, hk0, hk1⟩ := wG_Room cO S hO
  have h1 : vwCl[11]? = some (RX11, TX11, 14) := rfl
  have h2 : ∀ x, s.fieldFound? (TX11 10).1 (TX11 10).2.1 (TX11 10).2.2.1 = some x → s.fieldFound? ref (TX11 10).2.1 (TX11 10).2.2.1 = some x := fun x9 h9 => hsm.elim (fun z => by rw [z]; exact h9) (fun z => u_same (hts _ z) x9 h9)
  have h3 : (Cond.fieldLink own idx ref (TX11 10).2.1 (TX11 10).2.2.1).before args s = true := hts _ hlink
  have h4 : ∀ w ∈ u_ws RX11 TX11 14, w ∈ GA := inlX11
  have h5 := (hΦ H locs cells slots hF).1
  have h6 := kk H locs cells slots ls hF hl
  exact va_get (D := D) (ci := 11) (C := RX11) (T := TX11) (N := 14) hx hb hts h4 hown hK h5 k0 hk1 h1 10 (by decide) h3 h2 rfl hdg h6
theorem gt_Room_tally {cc : ByteArray} {nL : Nat} {own : String} {rm : Room} {κ : KX} (hκ : Cx cc nL own rm κ) {Φ : HQ} {pc : Nat} {lv : List (Nat × Value)} {st : List Value} {S : wPS} (hΦ : Hd κ Φ S) {a idx : Nat} {ref : String} (hO : a ∈ sL S ∧ sK S a = 10) (hlink : Cond.fieldLink own idx ref "tally" "LPlotroom$Tally;" ∈ GA) (hsm : ref = "Plotroom" ∨ Cond.sameField ref "Plotroom" "tally" "LPlotroom$Tally;" ∈ GA) (hdg : decode cc pc = .ok (.getfield idx, 3)) (kk : Gj κ Φ (pc + 3) lv (va_rf (sR S 13 a) :: st)) : Gj κ Φ pc lv (.ref a :: st) := by
  obtain ⟨p, l, e, R, s, m, args, below, meth, c, Q, D, cO, e0, A, mc, ms⟩ := κ
  obtain ⟨hx, hb, hml, hown, hts, hK, hG, hR, hlk9⟩ := hκ
  intro H locs cells slots ls hF hl
  obtain ⟨k0, hk0, hk1⟩ := wG_Room cO S hO
  have h1 : vwCl[11]? = some (RX11, TX11, 14) := rfl
  have h2 : ∀ x, s.fieldFound? (TX11 11).1 (TX11 11).2.1 (TX11 11).2.2.1 = some x → s.fieldFound? ref (TX11 11).2.1 (TX11 11).2.2.1 = some x := fun x9 h9 => hsm.elim (fun z => by rw [z]; exact h9) (fun z => u_same (hts _ z) x9 h9)
  have h3 : (Cond.fieldLink own idx ref (TX11 11).2.1 (TX11 11).2.2.1).before args s = true := hts _ hlink
  have h4 : ∀ w ∈ u_ws RX11 TX11 14, w ∈ GA := inlX11
  have h5 := (hΦ H locs cells slots hF).1
  have h6 := kk H locs cells slots ls hF hl
  exact va_get (D := D) (ci := 11) (C := RX11) (T := TX11) (N := 14) hx hb hts h4 hown hK h5 k0 hk1 h1 11 (by decide) h3 h2 rfl hdg h6
theorem gt_Room_minute {cc : ByteArray} {nL : Nat} {own : String} {rm : Room} {κ : KX} (hκ : Cx cc nL own rm κ) {Φ : HQ} {pc : Nat} {lv : List (Nat × Value)} {st : List Value} {S : wPS} (hΦ : Hd κ Φ S) {a idx : Nat} {ref : String} (hO : a ∈ sL S ∧ sK S a = 10) (hlink : Cond.fieldLink own idx ref "minute" "I" ∈ GA) (hsm : ref = "Plotroom" ∨ Cond.sameField ref "Plotroom" "minute" "I" ∈ GA) (hdg : decode cc pc = .ok (.getfield idx, 3)) (kk : Gj κ Φ (pc + 3) lv (.int (sI S 64 a) :: st)) : Gj κ Φ pc lv (.ref a :: st) := by
  obtain ⟨p, l, e, R, s, m, args, below, meth, c, Q, D, cO, e0, A, mc, ms⟩ := κ
  obtain ⟨hx, hb, hml, hown, hts, hK, hG, hR, hlk9⟩ := hκ
  intro H locs cells slots ls hF hl
  obtain ⟨k0, hk0, hk1⟩ := wG_Room cO S hO
  have h1 : vwCl[11]? = some (RX11, TX11, 14) := rfl
  have h2 : ∀ x, s.fieldFound? (TX11 12).1 (TX11 12).2.1 (TX11 12).2.2.1 = some x → s.fieldFound? ref (TX11 12).2.1 (TX11 12).2.2.1 = some x := fun x9 h9 => hsm.elim (fun z => by rw [z]; exact h9) (fun z => u_same (hts _ z) x9 h9)
  have h3 : (Cond.fieldLink own idx ref (TX11 12).2.1 (TX11 12).2.2.1).before args s = true := hts _ hlink
  have h4 : ∀ w ∈ u_ws RX11 TX11 14, w ∈ GA := inlX11
  have h5 := (hΦ H locs cells slots hF).1
  have h6 := kk H locs cells slots ls hF hl
  exact va_get (D := D) (ci := 11) (C := RX11) (T := TX11) (N := 14) hx hb hts h4 hown hK h5 k0 hk1 h1 12 (by decide) h3 h2 rfl hdg h6
theorem gt_Room_gateRadius {cc : ByteArray} {nL : Nat} {own : String} {rm : Room} {κ : KX} (hκ : Cx cc nL own rm κ) {Φ : HQ} {pc : Nat} {lv : List (Nat × Value)} {st : List Value} {S : wPS} (hΦ : Hd κ Φ S) {a idx : Nat} {ref : String} (hO : a ∈ sL S ∧ sK S a = 10) (hlink : Cond.fieldLink own idx ref "gateRadius" "I" ∈ GA) (hsm : ref = "Plotroom" ∨ Cond.sameField ref "Plotroom" "gateRadius" "I" ∈ GA) (hdg : decode cc pc = .ok (.getfield idx, 3)) (kk : Gj κ Φ (pc + 3) lv (.int (sI S 65 a) :: st)) : Gj κ Φ pc lv (.ref a :: st) := by
  obtain ⟨p, l, e, R, s, m, args, below, meth, c, Q, D, cO, e0, A, mc, ms⟩ := κ
  obtain ⟨hx, hb, hml, hown, hts, hK, hG, hR, hlk9⟩ := hκ
  intro H locs cells slots ls hF hl
  obtain ⟨k0, hk0, hk1⟩ := wG_Room cO S hO
  have h1 : vwCl[11]? = some (RX11, TX11, 14) := rfl
  have h2 : ∀ x, s.fieldFound? (TX11 13).1 (TX11 13).2.1 (TX11 13).2.2.1 = some x → s.fieldFound? ref (TX11 13).2.1 (TX11 13).2.2.1 = some x := fun x9 h9 => hsm.elim (fun z => by rw [z]; exact h9) (fun z => u_same (hts _ z) x9 h9)
  have h3 : (Cond.fieldLink own idx ref (TX11 13).2.1 (TX11 13).2.2.1).before args s = true := hts _ hlink
  have h4 : ∀ w ∈ u_ws RX11 TX11 14, w ∈ GA := inlX11
  have h5 := (hΦ H locs cells slots hF).1
  have h6 := kk H locs cells slots ls hF hl
  exact va_get (D := D) (ci := 11) (C := RX11) (T := TX11) (N := 14) hx hb hts h4 hown hK h5 k0 hk1 h1 13 (by decide) h3 h2 rfl hdg h6
theorem gt_List_modCount {cc : ByteArray} {nL : Nat} {own : String} {rm : Room} {κ : KX} (hκ : Cx cc nL own rm κ) {Φ : HQ} {pc : Nat} {lv : List (Nat × Value)} {st : List Value} {S : wPS} (hΦ : Hd κ Φ S) {a idx : Nat} {ref : String} (hO : a ∈ sL S ∧ sK S a = 11) (hlink : Cond.fieldLink own idx ref "modCount" "I" ∈ GA) (hsm : ref = "java/util/AbstractList" ∨ Cond.sameField ref "java/util/AbstractList" "modCount" "I" ∈ GA) (hdg : decode cc pc = .ok (.getfield idx, 3)) (kk : Gj κ Φ (pc + 3) lv (.int (sI S 66 a) :: st)) : Gj κ Φ pc lv (.ref a :: st) := by
  obtain ⟨p, l, e, R, s, m, args, below, meth, c, Q, D, cO, e0, A, mc, ms⟩ := κ
  obtain ⟨hx, hb, hml, hown, hts, hK, hG, hR, hlk9⟩ := hκ
  intro H locs cells slots ls hF hl
  obtain ⟨k0, hk0, hk1⟩ := wG_List cO S hO
  have h1 : vwCl[0]? = some (RJx4a65c, TJx4a65c, 3) := rfl
  have h2 : ∀ x, s.fieldFound? (TJx4a65c 0).1 (TJx4a65c 0).2.1 (TJx4a65c 0).2.2.1 = some x → s.fieldFound? ref (TJx4a65c 0).2.1 (TJx4a65c 0).2.2.1 = some x := fun x9 h9 => hsm.elim (fun z => by rw [z]; exact h9) (fun z => u_same (hts _ z) x9 h9)
  have h3 : (Cond.fieldLink own idx ref (TJx4a65c 0).2.1 (TJx4a65c 0).2.2.1).before args s = true := hts _ hlink
  have h4 : ∀ w ∈ u_ws RJx4a65c TJx4a65c 3, w ∈ GA := inlJx4a65c
  have h5 := (hΦ H locs cells slots hF).1
  have h6 := kk H locs cells slots ls hF hl
  exact va_get (D := D) (ci := 0) (C := RJx4a65c) (T := TJx4a65c) (N := 3) hx hb hts h4 hown hK h5 k0 hk1 h1 0 (by decide) h3 h2 rfl hdg h6
theorem gt_List_elementData {cc : ByteArray} {nL : Nat} {own : String} {rm : Room} {κ : KX} (hκ : Cx cc nL own rm κ) {Φ : HQ} {pc : Nat} {lv : List (Nat × Value)} {st : List Value} {S : wPS} (hΦ : Hd κ Φ S) {a idx : Nat} {ref : String} (hO : a ∈ sL S ∧ sK S a = 11) (hlink : Cond.fieldLink own idx ref "elementData" "[Ljava/lang/Object;" ∈ GA) (hsm : ref = "java/util/ArrayList" ∨ Cond.sameField ref "java/util/ArrayList" "elementData" "[Ljava/lang/Object;" ∈ GA) (hdg : decode cc pc = .ok (.getfield idx, 3)) (kk : Gj κ Φ (pc + 3) lv (va_rf (sR S 14 a) :: st)) : Gj κ Φ pc lv (.ref a :: st) := by
  obtain ⟨p, l, e, R, s, m, args, below, meth, c, Q, D, cO, e0, A, mc, ms⟩ := κ
  obtain ⟨hx, hb, hml, hown, hts, hK, hG, hR, hlk9⟩ := hκ
  intro H locs cells slots ls hF hl
  obtain ⟨k0, hk0, hk1⟩ := wG_List cO S hO
  have h1 : vwCl[0]? = some (RJx4a65c, TJx4a65c, 3) := rfl
  have h2 : ∀ x, s.fieldFound? (TJx4a65c 1).1 (TJx4a65c 1).2.1 (TJx4a65c 1).2.2.1 = some x → s.fieldFound? ref (TJx4a65c 1).2.1 (TJx4a65c 1).2.2.1 = some x := fun x9 h9 => hsm.elim (fun z => by rw [z]; exact h9) (fun z => u_same (hts _ z) x9 h9)
  have h3 : (Cond.fieldLink own idx ref (TJx4a65c 1).2.1 (TJx4a65c 1).2.2.1).before args s = true := hts _ hlink
  have h4 : ∀ w ∈ u_ws RJx4a65c TJx4a65c 3, w ∈ GA := inlJx4a65c
  have h5 := (hΦ H locs cells slots hF).1
  have h6 := kk H locs cells slots ls hF hl
  exact va_get (D := D) (ci := 0) (C := RJx4a65c) (T := TJx4a65c) (N := 3) hx hb hts h4 hown hK h5 k0 hk1 h1 1 (by decide) h3 h2 rfl hdg h6
theorem gt_List_size {cc : ByteArray} {nL : Nat} {own : String} {rm : Room} {κ : KX} (hκ : Cx cc nL own rm κ) {Φ : HQ} {pc : Nat} {lv : List (Nat × Value)} {st : List Value} {S : wPS} (hΦ : Hd κ Φ S) {a idx : Nat} {ref : String} (hO : a ∈ sL S ∧ sK S a = 11) (hlink : Cond.fieldLink own idx ref "size" "I" ∈ GA) (hsm : ref = "java/util/ArrayList" ∨ Cond.sameField ref "java/util/ArrayList" "size" "I" ∈ GA) (hdg : decode cc pc = .ok (.getfield idx, 3)) (kk : Gj κ Φ (pc + 3) lv (.int (sI S 67 a) :: st)) : Gj κ Φ pc lv (.ref a :: st) := by
  obtain ⟨p, l, e, R, s, m, args, below, meth, c, Q, D, cO, e0, A, mc, ms⟩ := κ
  obtain ⟨hx, hb, hml, hown, hts, hK, hG, hR, hlk9⟩ := hκ
  intro H locs cells slots ls hF hl
  obtain ⟨k0, hk0, hk1⟩ := wG_List cO S hO
  have h1 : vwCl[0]? = some (RJx4a65c, TJx4a65c, 3) := rfl
  have h2 : ∀ x, s.fieldFound? (TJx4a65c 2).1 (TJx4a65c 2).2.1 (TJx4a65c 2).2.2.1 = some x → s.fieldFound? ref (TJx4a65c 2).2.1 (TJx4a65c 2).2.2.1 = some x := fun x9 h9 => hsm.elim (fun z => by rw [z]; exact h9) (fun z => u_same (hts _ z) x9 h9)
  have h3 : (Cond.fieldLink own idx ref (TJx4a65c 2).2.1 (TJx4a65c 2).2.2.1).before args s = true := hts _ hlink
  have h4 : ∀ w ∈ u_ws RJx4a65c TJx4a65c 3, w ∈ GA := inlJx4a65c
  have h5 := (hΦ H locs cells slots hF).1
  have h6 := kk H locs cells slots ls hF hl
  exact va_get (D := D) (ci := 0) (C := RJx4a65c) (T := TJx4a65c) (N := 3) hx hb hts h4 hown hK h5 k0 hk1 h1 2 (by decide) h3 h2 rfl hdg h6
