theorem rc_Flight {D : va_G} {cO : ClassId} {S : wPS} {H : Heap} {s : State} (hK : va_K D vwCl [(cO, .object "java/lang/Object")] s) (hP : va_P D vwCl (pool cO S) H) {a : Nat} (hO : a ∈ sL S ∧ sK S a = 0) : ∃ cell : Cell, H[a]? = some cell ∧ cell.vm.isStatics = false ∧ s.vm.findClass RX0 = some cell.cls := by
  obtain ⟨k0, hk0, hk1⟩ := wG_Flight cO S hO
  exact va_recv (ci := 1) (q := (RX0, TX0, 8)) hK hP rfl hk1
theorem gc_Flight {cc : ByteArray} {nL : Nat} {own : String} {rm : Room} {κ : KX} (hκ : Cx cc nL own rm κ) {Φ : HQ} {pc : Nat} {lv : List (Nat × Value)} {st : List Value} {S : wPS} (hΦ : Hd κ Φ S) {a idx : Nat} (hO : a ∈ sL S ∧ sK S a = 0) (hlink : Cond.classLink own idx RX0 ∈ GA) (hdg : decode cc pc = .ok (.checkcast idx, 3)) (kk : Gj κ Φ (pc + 3) lv (.ref a :: st)) : Gj κ Φ pc lv (.ref a :: st) := by
  obtain ⟨p, l, e, R, s, m, args, below, meth, c, Q, D, cO, e0, A, mc, ms⟩ := κ
  obtain ⟨hx, hb, hml, hown, hts, hK, hG, hR, hlk9⟩ := hκ
  intro H locs cells slots ls hF hl
  exact va_castE hx hb hown (hts _ hlink) (rc_Flight hK (hΦ H locs cells slots hF).1 hO) hdg (kk H locs cells slots ls hF hl)
theorem gn_Flight {cc : ByteArray} {nL : Nat} {own : String} {rm : Room} {κ : KX} (hκ : Cx cc nL own rm κ) {pc : Nat} {lv : List (Nat × Value)} {st : List Value} {e9 : Nat × Nat} (hz : Vz e9 κ) {S : wPS} {k n : Nat} {idx : Nat} (hcl : Cond.classLink own idx RX0 ∈ GA) (hinst : Cond.instantiable RX0 8 ∈ GA) (hini : Cond.initialized RX0 ∈ GA) (hk : 1 ≤ k) (hn : 8 ≤ n) (hdg : decode cc pc = .ok (.new idx, 3)) (kk : ∀ a : Nat, a ∉ sL S → Gj κ (PV κ (newS S a 0 0) (k - 1) (n - 8)) (pc + 3) lv (.ref a :: st)) : Gj κ (PV κ S k n) pc lv st := by
  obtain ⟨p, l, e, R, s, m, args, below, meth, c, Q, D, cO, e0, A, mc, ms⟩ := κ
  obtain ⟨hx, hb, hml, hown, hts, hK, hG, hR, hlk9⟩ := hκ
  obtain ⟨rfl, hmi, hA, hH, hmc, hms⟩ := hz
  intro H locs cells slots ls hF hl
  obtain ⟨hP, hD, hS, hc, hs⟩ := hF
  have h1 : vwCl[1]? = some (RX0, TX0, 8) := rfl
  have h2 : (Cond.classLink own idx RX0).before args s = true := hts _ hcl
  have h3 : (Cond.instantiable RX0 8).before args s = true := hts _ hinst
  have h4 : (Cond.initialized RX0).before args s = true := hts _ hini
  have h5 : ∀ j, j < 8 → defaultValue (tyX0 j) = vp_V [.int 0, .int 0, .int 0, .int 0, .int 0, .int 0, .int 0, .int 0] j := fun j hj => by rcases (show j = 0 ∨ j = 1 ∨ j = 2 ∨ j = 3 ∨ j = 4 ∨ j = 5 ∨ j = 6 ∨ j = 7 by omega) with rfl | rfl | rfl | rfl | rfl | rfl | rfl | rfl <;> rfl
  have h6 : ∀ w ∈ u_ws RX0 TX0 8, w ∈ GA := inlX0
  have h7 : cells + 1 ≤ R.cells := by omega
  have h8 : slots + 8 ≤ R.slots := by omega
  refine va_new (ci := 1) (fs := [.int 0, .int 0, .int 0, .int 0, .int 0, .int 0, .int 0, .int 0]) (C := RX0) (T := TX0) (N := 8) hx hb hts h6 tyX0 tyX0_ok hown h2 h3 h4 hK hP hD hS hA h1 h5 h7 h8 hdg (fun a H1 hP1 hD1 hS1 => ?_)
  obtain ⟨eq9, hf⟩ := w_new cO S 0 0 hD1 rfl
  exact kk a hf H1 locs (cells + 1) (slots + 8) ls ⟨Eq.mp (congrArg (fun z => va_P D vwCl z H1) eq9) hP1, Eq.mp (congrArg (fun z => va_D A z) eq9) hD1, hS1, by omega, by omega⟩ hl
theorem rc_Gun {D : va_G} {cO : ClassId} {S : wPS} {H : Heap} {s : State} (hK : va_K D vwCl [(cO, .object "java/lang/Object")] s) (hP : va_P D vwCl (pool cO S) H) {a : Nat} (hO : a ∈ sL S ∧ sK S a = 1) : ∃ cell : Cell, H[a]? = some cell ∧ cell.vm.isStatics = false ∧ s.vm.findClass RX1 = some cell.cls := by
  obtain ⟨k0, hk0, hk1⟩ := wG_Gun cO S hO
  exact va_recv (ci := 2) (q := (RX1, TX1, 4)) hK hP rfl hk1
theorem gc_Gun {cc : ByteArray} {nL : Nat} {own : String} {rm : Room} {κ : KX} (hκ : Cx cc nL own rm κ) {Φ : HQ} {pc : Nat} {lv : List (Nat × Value)} {st : List Value} {S : wPS} (hΦ : Hd κ Φ S) {a idx : Nat} (hO : a ∈ sL S ∧ sK S a = 1) (hlink : Cond.classLink own idx RX1 ∈ GA) (hdg : decode cc pc = .ok (.checkcast idx, 3)) (kk : Gj κ Φ (pc + 3) lv (.ref a :: st)) : Gj κ Φ pc lv (.ref a :: st) := by
  obtain ⟨p, l, e, R, s, m, args, below, meth, c, Q, D, cO, e0, A, mc, ms⟩ := κ
  obtain ⟨hx, hb, hml, hown, hts, hK, hG, hR, hlk9⟩ := hκ
  intro H locs cells slots ls hF hl
  exact va_castE hx hb hown (hts _ hlink) (rc_Gun hK (hΦ H locs cells slots hF).1 hO) hdg (kk H locs cells slots ls hF hl)
theorem gn_Gun {cc : ByteArray} {nL : Nat} {own : String} {rm : Room} {κ : KX} (hκ : Cx cc nL own rm κ) {pc : Nat} {lv : List (Nat × Value)} {st : List Value} {e9 : Nat × Nat} (hz : Vz e9 κ) {S : wPS} {k n : Nat} {idx : Nat} (hcl : Cond.classLink own idx RX1 ∈ GA) (hinst : Cond.instantiable RX1 4 ∈ GA) (hini : Cond.initialized RX1 ∈ GA) (hk : 1 ≤ k) (hn : 4 ≤ n) (hdg : decode cc pc = .ok (.new idx, 3)) (kk : ∀ a : Nat, a ∉ sL S → Gj κ (PV κ (newS S a 1 0) (k - 1) (n - 4)) (pc + 3) lv (.ref a :: st)) : Gj κ (PV κ S k n) pc lv st := by
  obtain ⟨p, l, e, R, s, m, args, below, meth, c, Q, D, cO, e0, A, mc, ms⟩ := κ
  obtain ⟨hx, hb, hml, hown, hts, hK, hG, hR, hlk9⟩ := hκ
  obtain ⟨rfl, hmi, hA, hH, hmc, hms⟩ := hz
  intro H locs cells slots ls hF hl
  obtain ⟨hP, hD, hS, hc, hs⟩ := hF
  have h1 : vwCl[2]? = some (RX1, TX1, 4) := rfl
  have h2 : (Cond.classLink own idx RX1).before args s = true := hts _ hcl
  have h3 : (Cond.instantiable RX1 4).before args s = true := hts _ hinst
  have h4 : (Cond.initialized RX1).before args s = true := hts _ hini
  have h5 : ∀ j, j < 4 → defaultValue (tyX1 j) = vp_V [.int 0, .int 0, .int 0, .int 0] j := fun j hj => by rcases (show j = 0 ∨ j = 1 ∨ j = 2 ∨ j = 3 by omega) with rfl | rfl | rfl | rfl <;> rfl
  have h6 : ∀ w ∈ u_ws RX1 TX1 4, w ∈ GA := inlX1
  have h7 : cells + 1 ≤ R.cells := by omega
  have h8 : slots + 4 ≤ R.slots := by omega
  refine va_new (ci := 2) (fs := [.int 0, .int 0, .int 0, .int 0]) (C := RX1) (T := TX1) (N := 4) hx hb hts h6 tyX1 tyX1_ok hown h2 h3 h4 hK hP hD hS hA h1 h5 h7 h8 hdg (fun a H1 hP1 hD1 hS1 => ?_)
  obtain ⟨eq9, hf⟩ := w_new cO S 1 0 hD1 rfl
  exact kk a hf H1 locs (cells + 1) (slots + 4) ls ⟨Eq.mp (congrArg (fun z => va_P D vwCl z H1) eq9) hP1, Eq.mp (congrArg (fun z => va_D A z) eq9) hD1, hS1, by omega, by omega⟩ hl
theorem rc_Lots {D : va_G} {cO : ClassId} {S : wPS} {H : Heap} {s : State} (hK : va_K D vwCl [(cO, .object "java/lang/Object")] s) (hP : va_P D vwCl (pool cO S) H) {a : Nat} (hO : a ∈ sL S ∧ sK S a = 2) : ∃ cell : Cell, H[a]? = some cell ∧ cell.vm.isStatics = false ∧ s.vm.findClass RX2 = some cell.cls := by
  obtain ⟨k0, hk0, hk1⟩ := wG_Lots cO S hO
  exact va_recv (ci := 3) (q := (RX2, TX2, 2)) hK hP rfl hk1
theorem gc_Lots {cc : ByteArray} {nL : Nat} {own : String} {rm : Room} {κ : KX} (hκ : Cx cc nL own rm κ) {Φ : HQ} {pc : Nat} {lv : List (Nat × Value)} {st : List Value} {S : wPS} (hΦ : Hd κ Φ S) {a idx : Nat} (hO : a ∈ sL S ∧ sK S a = 2) (hlink : Cond.classLink own idx RX2 ∈ GA) (hdg : decode cc pc = .ok (.checkcast idx, 3)) (kk : Gj κ Φ (pc + 3) lv (.ref a :: st)) : Gj κ Φ pc lv (.ref a :: st) := by
  obtain ⟨p, l, e, R, s, m, args, below, meth, c, Q, D, cO, e0, A, mc, ms⟩ := κ
  obtain ⟨hx, hb, hml, hown, hts, hK, hG, hR, hlk9⟩ := hκ
  intro H locs cells slots ls hF hl
  exact va_castE hx hb hown (hts _ hlink) (rc_Lots hK (hΦ H locs cells slots hF).1 hO) hdg (kk H locs cells slots ls hF hl)
theorem gn_Lots {cc : ByteArray} {nL : Nat} {own : String} {rm : Room} {κ : KX} (hκ : Cx cc nL own rm κ) {pc : Nat} {lv : List (Nat × Value)} {st : List Value} {e9 : Nat × Nat} (hz : Vz e9 κ) {S : wPS} {k n : Nat} {idx : Nat} (hcl : Cond.classLink own idx RX2 ∈ GA) (hinst : Cond.instantiable RX2 2 ∈ GA) (hini : Cond.initialized RX2 ∈ GA) (hk : 1 ≤ k) (hn : 2 ≤ n) (hdg : decode cc pc = .ok (.new idx, 3)) (kk : ∀ a : Nat, a ∉ sL S → Gj κ (PV κ (newS S a 2 0) (k - 1) (n - 2)) (pc + 3) lv (.ref a :: st)) : Gj κ (PV κ S k n) pc lv st := by
  obtain ⟨p, l, e, R, s, m, args, below, meth, c, Q, D, cO, e0, A, mc, ms⟩ := κ
  obtain ⟨hx, hb, hml, hown, hts, hK, hG, hR, hlk9⟩ := hκ
  obtain ⟨rfl, hmi, hA, hH, hmc, hms⟩ := hz
  intro H locs cells slots ls hF hl
  obtain ⟨hP, hD, hS, hc, hs⟩ := hF
  have h1 : vwCl[3]? = some (RX2, TX2, 2) := rfl
  have h2 : (Cond.classLink own idx RX2).before args s = true := hts _ hcl
  have h3 : (Cond.instantiable RX2 2).before args s = true := hts _ hinst
  have h4 : (Cond.initialized RX2).before args s = true := hts _ hini
  have h5 : ∀ j, j < 2 → defaultValue (tyX2 j) = vp_V [.int 0, .int 0] j := fun j hj => by rcases (show j = 0 ∨ j = 1 by omega) with rfl | rfl <;> rfl
  have h6 : ∀ w ∈ u_ws RX2 TX2 2, w ∈ GA := inlX2
  have h7 : cells + 1 ≤ R.cells := by omega
  have h8 : slots + 2 ≤ R.slots := by omega
  refine va_new (ci := 3) (fs := [.int 0, .int 0]) (C := RX2) (T := TX2) (N := 2) hx hb hts h6 tyX2 tyX2_ok hown h2 h3 h4 hK hP hD hS hA h1 h5 h7 h8 hdg (fun a H1 hP1 hD1 hS1 => ?_)
  obtain ⟨eq9, hf⟩ := w_new cO S 2 0 hD1 rfl
  exact kk a hf H1 locs (cells + 1) (slots + 2) ls ⟨Eq.mp (congrArg (fun z => va_P D vwCl z H1) eq9) hP1, Eq.mp (congrArg (fun z => va_D A z) eq9) hD1, hS1, by omega, by omega⟩ hl
theorem rc_Mast {D : va_G} {cO : ClassId} {S : wPS} {H : Heap} {s : State} (hK : va_K D vwCl [(cO, .object "java/lang/Object")] s) (hP : va_P D vwCl (pool cO S) H) {a : Nat} (hO : a ∈ sL S ∧ sK S a = 3) : ∃ cell : Cell, H[a]? = some cell ∧ cell.vm.isStatics = false ∧ s.vm.findClass RX3 = some cell.cls := by
  obtain ⟨k0, hk0, hk1⟩ := wG_Mast cO S hO
  exact va_recv (ci := 4) (q := (RX3, TX3, 10)) hK hP rfl hk1
theorem gc_Mast {cc : ByteArray} {nL : Nat} {own : String} {rm : Room} {κ : KX} (hκ : Cx cc nL own rm κ) {Φ : HQ} {pc : Nat} {lv : List (Nat × Value)} {st : List Value} {S : wPS} (hΦ : Hd κ Φ S) {a idx : Nat} (hO : a ∈ sL S ∧ sK S a = 3) (hlink : Cond.classLink own idx RX3 ∈ GA) (hdg : decode cc pc = .ok (.checkcast idx, 3)) (kk : Gj κ Φ (pc + 3) lv (.ref a :: st)) : Gj κ Φ pc lv (.ref a :: st) := by
  obtain ⟨p, l, e, R, s, m, args, below, meth, c, Q, D, cO, e0, A, mc, ms⟩ := κ
  obtain ⟨hx, hb, hml, hown, hts, hK, hG, hR, hlk9⟩ := hκ
  intro H locs cells slots ls hF hl
  exact va_castE hx hb hown (hts _ hlink) (rc_Mast hK (hΦ H locs cells slots hF).1 hO) hdg (kk H locs cells slots ls hF hl)
theorem gn_Mast {cc : ByteArray} {nL : Nat} {own : String} {rm : Room} {κ : KX} (hκ : Cx cc nL own rm κ) {pc : Nat} {lv : List (Nat × Value)} {st : List Value} {e9 : Nat × Nat} (hz : Vz e9 κ) {S : wPS} {k n : Nat} {idx : Nat} (hcl : Cond.classLink own idx RX3 ∈ GA) (hinst : Cond.instantiable RX3 10 ∈ GA) (hini : Cond.initialized RX3 ∈ GA) (hk : 1 ≤ k) (hn : 10 ≤ n) (hdg : decode cc pc = .ok (.new idx, 3)) (kk : ∀ a : Nat, a ∉ sL S → Gj κ (PV κ (newS S a 3 0) (k - 1) (n - 10)) (pc + 3) lv (.ref a :: st)) : Gj κ (PV κ S k n) pc lv st := by
  obtain ⟨p, l, e, R, s, m, args, below, meth, c, Q, D, cO, e0, A, mc, ms⟩ := κ
  obtain ⟨hx, hb, hml, hown, hts, hK, hG, hR, hlk9⟩ := hκ
  obtain ⟨rfl, hmi, hA, hH, hmc, hms⟩ := hz
  intro H locs cells slots ls hF hl
  obtain ⟨hP, hD, hS, hc, hs⟩ := hF
  have h1 : vwCl[4]? = some (RX3, TX3, 10) := rfl
  have h2 : (Cond.classLink own idx RX3).before args s = true := hts _ hcl
  have h3 : (Cond.instantiable RX3 10).before args s = true := hts _ hinst
  have h4 : (Cond.initialized RX3).before args s = true := hts _ hini
  have h5 : ∀ j, j < 10 → defaultValue (tyX3 j) = vp_V [.int 0, .int 0, .int 0, .int 0, .int 0, .int 0, .int 0, .int 0, .int 0, .int 0] j := fun j hj => by rcases (show j = 0 ∨ j = 1 ∨ j = 2 ∨ j = 3 ∨ j = 4 ∨ j = 5 ∨ j = 6 ∨ j = 7 ∨ j = 8 ∨ j = 9 by omega) with rfl | rfl | rfl | rfl | rfl | rfl | rfl | rfl | rfl | rfl <;> rfl
  have h6 : ∀ w ∈ u_ws RX3 TX3 10, w ∈ GA := inlX3
  have h7 : cells + 1 ≤ R.cells := by omega
  have h8 : slots + 10 ≤ R.slots := by omega
  refine va_new (ci := 4) (fs := [.int 0, .int 0, .int 0, .int 0, .int 0, .int 0, .int 0, .int 0, .int 0, .int 0]) (C := RX3) (T := TX3) (N := 10) hx hb hts h6 tyX3 tyX3_ok hown h2 h3 h4 hK hP hD hS hA h1 h5 h7 h8 hdg (fun a H1 hP1 hD1 hS1 => ?_)
  obtain ⟨eq9, hf⟩ := w_new cO S 3 0 hD1 rfl
  exact kk a hf H1 locs (cells + 1) (slots + 10) ls ⟨Eq.mp (congrArg (fun z => va_P D vwCl z H1) eq9) hP1, Eq.mp (congrArg (fun z => va_D A z) eq9) hD1, hS1, by omega, by omega⟩ hl
theorem rc_Place {D : va_G} {cO : ClassId} {S : wPS} {H : Heap} {s : State} (hK : va_K D vwCl [(cO, .object "java/lang/Object")] s) (hP : va_P D vwCl (pool cO S) H) {a : Nat} (hO : a ∈ sL S ∧ sK S a = 4) : ∃ cell : Cell, H[a]? = some cell ∧ cell.vm.isStatics = false ∧ s.vm.findClass RX4 = some cell.cls := by
  obtain ⟨k0, hk0, hk1⟩ := wG_Place cO S hO
  exact va_recv (ci := 5) (q := (RX4, TX4, 2)) hK hP rfl hk1
theorem gc_Place {cc : ByteArray} {nL : Nat} {own : String} {rm : Room} {κ : KX} (hκ : Cx cc nL own rm κ) {Φ : HQ} {pc : Nat} {lv : List (Nat × Value)} {st : List Value} {S : wPS} (hΦ : Hd κ Φ S) {a idx : Nat} (hO : a ∈ sL S ∧ sK S a = 4) (hlink : Cond.classLink own idx RX4 ∈ GA) (hdg : decode cc pc = .ok (.checkcast idx, 3)) (kk : Gj κ Φ (pc + 3) lv (.ref a :: st)) : Gj κ Φ pc lv (.ref a :: st) := by
  obtain ⟨p, l, e, R, s, m, args, below, meth, c, Q, D, cO, e0, A, mc, ms⟩ := κ
  obtain ⟨hx, hb, hml, hown, hts, hK, hG, hR, hlk9⟩ := hκ
  intro H locs cells slots ls hF hl
  exact va_castE hx hb hown (hts _ hlink) (rc_Place hK (hΦ H locs cells slots hF).1 hO) hdg (kk H locs cells slots ls hF hl)
theorem gn_Place {cc : ByteArray} {nL : Nat} {own : String} {rm : Room} {κ : KX} (hκ : Cx cc nL own rm κ) {pc : Nat} {lv : List (Nat × Value)} {st : List Value} {e9 : Nat × Nat} (hz : Vz e9 κ) {S : wPS} {k n : Nat} {idx : Nat} (hcl : Cond.classLink own idx RX4 ∈ GA) (hinst : Cond.instantiable RX4 2 ∈ GA) (hini : Cond.initialized RX4 ∈ GA) (hk : 1 ≤ k) (hn : 2 ≤ n) (hdg : decode cc pc = .ok (.new idx, 3)) (kk : ∀ a : Nat, a ∉ sL S → Gj κ (PV κ (newS S a 4 0) (k - 1) (n - 2)) (pc + 3) lv (.ref a :: st)) : Gj κ (PV κ S k n) pc lv st := by
  obtain ⟨p, l, e, R, s, m, args, below, meth, c, Q, D, cO, e0, A, mc, ms⟩ := κ
  obtain ⟨hx, hb, hml, hown, hts, hK, hG, hR, hlk9⟩ := hκ
  obtain ⟨rfl, hmi, hA, hH, hmc, hms⟩ := hz
  intro H locs cells slots ls hF hl
  obtain ⟨hP, hD, hS, hc, hs⟩ := hF
  have h1 : vwCl[5]? = some (RX4, TX4, 2) := rfl
  have h2 : (Cond.classLink own idx RX4).before args s = true := hts _ hcl
  have h3 : (Cond.instantiable RX4 2).before args s = true := hts _ hinst
  have h4 : (Cond.initialized RX4).before args s = true := hts _ hini
  have h5 : ∀ j, j < 2 → defaultValue (tyX4 j) = vp_V [.int 0, .int 0] j := fun j hj => by rcases (show j = 0 ∨ j = 1 by omega) with rfl | rfl <;> rfl
  have h6 : ∀ w ∈ u_ws RX4 TX4 2, w ∈ GA := inlX4
  have h7 : cells + 1 ≤ R.cells := by omega
  have h8 : slots + 2 ≤ R.slots := by omega
  refine va_new (ci := 5) (fs := [.int 0, .int 0]) (C := RX4) (T := TX4) (N := 2) hx hb hts h6 tyX4 tyX4_ok hown h2 h3 h4 hK hP hD hS hA h1 h5 h7 h8 hdg (fun a H1 hP1 hD1 hS1 => ?_)
  obtain ⟨eq9, hf⟩ := w_new cO S 4 0 hD1 rfl
  exact kk a hf H1 locs (cells + 1) (slots + 2) ls ⟨Eq.mp (congrArg (fun z => va_P D vwCl z H1) eq9) hP1, Eq.mp (congrArg (fun z => va_D A z) eq9) hD1, hS1, by omega, by omega⟩ hl
theorem rc_Plot {D : va_G} {cO : ClassId} {S : wPS} {H : Heap} {s : State} (hK : va_K D vwCl [(cO, .object "java/lang/Object")] s) (hP : va_P D vwCl (pool cO S) H) {a : Nat} (hO : a ∈ sL S ∧ sK S a = 5) : ∃ cell : Cell, H[a]? = some cell ∧ cell.vm.isStatics = false ∧ s.vm.findClass RX6 = some cell.cls := by
  obtain ⟨k0, hk0, hk1⟩ := wG_Plot cO S hO
  exact va_recv (ci := 6) (q := (RX6, TX6, 6)) hK hP rfl hk1
theorem gc_Plot {cc : ByteArray} {nL : Nat} {own : String} {rm : Room} {κ : KX} (hκ : Cx cc nL own rm κ) {Φ : HQ} {pc : Nat} {lv : List (Nat × Value)} {st : List Value} {S : wPS} (hΦ : Hd κ Φ S) {a idx : Nat} (hO : a ∈ sL S ∧ sK S a = 5) (hlink : Cond.classLink own idx RX6 ∈ GA) (hdg : decode cc pc = .ok (.checkcast idx, 3)) (kk : Gj κ Φ (pc + 3) lv (.ref a :: st)) : Gj κ Φ pc lv (.ref a :: st) := by
  obtain ⟨p, l, e, R, s, m, args, below, meth, c, Q, D, cO, e0, A, mc, ms⟩ := κ
  obtain ⟨hx, hb, hml, hown, hts, hK, hG, hR, hlk9⟩ := hκ
  intro H locs cells slots ls hF hl
  exact va_castE hx hb hown (hts _ hlink) (rc_Plot hK (hΦ H locs cells slots hF).1 hO) hdg (kk H locs cells slots ls hF hl)
theorem gn_Plot {cc : ByteArray} {nL : Nat} {own : String} {rm : Room} {κ : KX} (hκ : Cx cc nL own rm κ) {pc : Nat} {lv : List (Nat × Value)} {st : List Value} {e9 : Nat × Nat} (hz : Vz e9 κ) {S : wPS} {k n : Nat} {idx : Nat} (hcl : Cond.classLink own idx RX6 ∈ GA) (hinst : Cond.instantiable RX6 6 ∈ GA) (hini : Cond.initialized RX6 ∈ GA) (hk : 1 ≤ k) (hn : 6 ≤ n) (hdg : decode cc pc = .ok (.new idx, 3)) (kk : ∀ a : Nat, a ∉ sL S → Gj κ (PV κ (newS S a 5 0) (k - 1) (n - 6)) (pc + 3) lv (.ref a :: st)) : Gj κ (PV κ S k n) pc lv st := by
  obtain ⟨p, l, e, R, s, m, args, below, meth, c, Q, D, cO, e0, A, mc, ms⟩ := κ
  obtain ⟨hx, hb, hml, hown, hts, hK, hG, hR, hlk9⟩ := hκ
  obtain ⟨rfl, hmi, hA, hH, hmc, hms⟩ := hz
  intro H locs cells slots ls hF hl
  obtain ⟨hP, hD, hS, hc, hs⟩ := hF
  have h1 : vwCl[6]? = some (RX6, TX6, 6) := rfl
  have h2 : (Cond.classLink own idx RX6).before args s = true := hts _ hcl
  have h3 : (Cond.instantiable RX6 6).before args s = true := hts _ hinst
  have h4 : (Cond.initialized RX6).before args s = true := hts _ hini
  have h5 : ∀ j, j < 6 → defaultValue (tyX6 j) = vp_V [.int 0, .int 0, .null, .int 0, .int 0, .int 0] j := fun j hj => by rcases (show j = 0 ∨ j = 1 ∨ j = 2 ∨ j = 3 ∨ j = 4 ∨ j = 5 by omega) with rfl | rfl | rfl | rfl | rfl | rfl <;> rfl
  have h6 : ∀ w ∈ u_ws RX6 TX6 6, w ∈ GA := inlX6
  have h7 : cells + 1 ≤ R.cells := by omega
  have h8 : slots + 6 ≤ R.slots := by omega
  refine va_new (ci := 6) (fs := [.int 0, .int 0, .null, .int 0, .int 0, .int 0]) (C := RX6) (T := TX6) (N := 6) hx hb hts h6 tyX6 tyX6_ok hown h2 h3 h4 hK hP hD hS hA h1 h5 h7 h8 hdg (fun a H1 hP1 hD1 hS1 => ?_)
  obtain ⟨eq9, hf⟩ := w_new cO S 5 0 hD1 rfl
  exact kk a hf H1 locs (cells + 1) (slots + 6) ls ⟨Eq.mp (congrArg (fun z => va_P D vwCl z H1) eq9) hP1, Eq.mp (congrArg (fun z => va_D A z) eq9) hD1, hS1, by omega, by omega⟩ hl
theorem rc_Squadron {D : va_G} {cO : ClassId} {S : wPS} {H : Heap} {s : State} (hK : va_K D vwCl [(cO, .object "java/lang/Object")] s) (hP : va_P D vwCl (pool cO S) H) {a : Nat} (hO : a ∈ sL S ∧ sK S a = 6) : ∃ cell : Cell, H[a]? = some cell ∧ cell.vm.isStatics = false ∧ s.vm.findClass RX7 = some cell.cls := by
  obtain ⟨k0, hk0, hk1⟩ := wG_Squadron cO S hO
  exact va_recv (ci := 7) (q := (RX7, TX7, 13)) hK hP rfl hk1
theorem gc_Squadron {cc : ByteArray} {nL : Nat} {own : String} {rm : Room} {κ : KX} (hκ : Cx cc nL own rm κ) {Φ : HQ} {pc : Nat} {lv : List (Nat × Value)} {st : List Value} {S : wPS} (hΦ : Hd κ Φ S) {a idx : Nat} (hO : a ∈ sL S ∧ sK S a = 6) (hlink : Cond.classLink own idx RX7 ∈ GA) (hdg : decode cc pc = .ok (.checkcast idx, 3)) (kk : Gj κ Φ (pc + 3) lv (.ref a :: st)) : Gj κ Φ pc lv (.ref a :: st) := by
  obtain ⟨p, l, e, R, s, m, args, below, meth, c, Q, D, cO, e0, A, mc, ms⟩ := κ
  obtain ⟨hx, hb, hml, hown, hts, hK, hG, hR, hlk9⟩ := hκ
  intro H locs cells slots ls hF hl
  exact va_castE hx hb hown (hts _ hlink) (rc_Squadron hK (hΦ H locs cells slots hF).1 hO) hdg (kk H locs cells slots ls hF hl)
theorem gn_Squadron {cc : ByteArray} {nL : Nat} {own : String} {rm : Room} {κ : KX} (hκ : Cx cc nL own rm κ) {pc : Nat} {lv : List (Nat × Value)} {st : List Value} {e9 : Nat × Nat} (hz : Vz e9 κ) {S : wPS} {k n : Nat} {idx : Nat} (hcl : Cond.classLink own idx RX7 ∈ GA) (hinst : Cond.instantiable RX7 13 ∈ GA) (hini : Cond.initialized RX7 ∈ GA) (hk : 1 ≤ k) (hn : 13 ≤ n) (hdg : decode cc pc = .ok (.new idx, 3)) (kk : ∀ a : Nat, a ∉ sL S → Gj κ (PV κ (newS S a 6 0) (k - 1) (n - 13)) (pc + 3) lv (.ref a :: st)) : Gj κ (PV κ S k n) pc lv st := by
  obtain ⟨p, l, e, R, s, m, args, below, meth, c, Q, D, cO, e0, A, mc, ms⟩ := κ
  obtain ⟨hx, hb, hml, hown, hts, hK, hG, hR, hlk9⟩ := hκ
  obtain ⟨rfl, hmi, hA, hH, hmc, hms⟩ := hz
  intro H locs cells slots ls hF hl
  obtain ⟨hP, hD, hS, hc, hs⟩ := hF
  have h1 : vwCl[7]? = some (RX7, TX7, 13) := rfl
  have h2 : (Cond.classLink own idx RX7).before args s = true := hts _ hcl
  have h3 : (Cond.instantiable RX7 13).before args s = true := hts _ hinst
  have h4 : (Cond.initialized RX7).before args s = true := hts _ hini
  have h5 : ∀ j, j < 13 → defaultValue (tyX7 j) = vp_V [.int 0, .int 0, .int 0, .null, .int 0, .int 0, .int 0, .int 0, .int 0, .int 0, .null, .int 0, .int 0] j := fun j hj => by rcases (show j = 0 ∨ j = 1 ∨ j = 2 ∨ j = 3 ∨ j = 4 ∨ j = 5 ∨ j = 6 ∨ j = 7 ∨ j = 8 ∨ j = 9 ∨ j = 10 ∨ j = 11 ∨ j = 12 by omega) with rfl | rfl | rfl | rfl | rfl | rfl | rfl | rfl | rfl | rfl | rfl | rfl | rfl <;> rfl
  have h6 : ∀ w ∈ u_ws RX7 TX7 13, w ∈ GA := inlX7
  have h7 : cells + 1 ≤ R.cells := by omega
  have h8 : slots + 13 ≤ R.slots := by omega
  refine va_new (ci := 7) (fs := [.int 0, .int 0, .int 0, .null, .int 0, .int 0, .int 0, .int 0, .int 0, .int 0, .null, .int 0, .int 0]) (C := RX7) (T := TX7) (N := 13) hx hb hts h6 tyX7 tyX7_ok hown h2 h3 h4 hK hP hD hS hA h1 h5 h7 h8 hdg (fun a H1 hP1 hD1 hS1 => ?_)
  obtain ⟨eq9, hf⟩ := w_new cO S 6 0 hD1 rfl
  exact kk a hf H1 locs (cells + 1) (slots + 13) ls ⟨Eq.mp (congrArg (fun z => va_P D vwCl z H1) eq9) hP1, Eq.mp (congrArg (fun z => va_D A z) eq9) hD1, hS1, by omega, by omega⟩ hl
theorem rc_Tally {D : va_G} {cO : ClassId} {S : wPS} {H : Heap} {s : State} (hK : va_K D vwCl [(cO, .object "java/lang/Object")] s) (hP : va_P D vwCl (pool cO S) H) {a : Nat} (hO : a ∈ sL S ∧ sK S a = 7) : ∃ cell : Cell, H[a]? = some cell ∧ cell.vm.isStatics = false ∧ s.vm.findClass RX8 = some cell.cls := by
  obtain ⟨k0, hk0, hk1⟩ := wG_Tally cO S hO
  exact va_recv (ci := 8) (q := (RX8, TX8, 8)) hK hP rfl hk1
theorem gc_Tally {cc : ByteArray} {nL : Nat} {own : String} {rm : Room} {κ : KX} (hκ : Cx cc nL own rm κ) {Φ : HQ} {pc : Nat} {lv : List (Nat × Value)} {st : List Value} {S : wPS} (hΦ : Hd κ Φ S) {a idx : Nat} (hO : a ∈ sL S ∧ sK S a = 7) (hlink : Cond.classLink own idx RX8 ∈ GA) (hdg : decode cc pc = .ok (.checkcast idx, 3)) (kk : Gj κ Φ (pc + 3) lv (.ref a :: st)) : Gj κ Φ pc lv (.ref a :: st) := by
  obtain ⟨p, l, e, R, s, m, args, below, meth, c, Q, D, cO, e0, A, mc, ms⟩ := κ
  obtain ⟨hx, hb, hml, hown, hts, hK, hG, hR, hlk9⟩ := hκ
  intro H locs cells slots ls hF hl
  exact va_castE hx hb hown (hts _ hlink) (rc_Tally hK (hΦ H locs cells slots hF).1 hO) hdg (kk H locs cells slots ls hF hl)
theorem gn_Tally {cc : ByteArray} {nL : Nat} {own : String} {rm : Room} {κ : KX} (hκ : Cx cc nL own rm κ) {pc : Nat} {lv : List (Nat × Value)} {st : List Value} {e9 : Nat × Nat} (hz : Vz e9 κ) {S : wPS} {k n : Nat} {idx : Nat} (hcl : Cond.classLink own idx RX8 ∈ GA) (hinst : Cond.instantiable RX8 8 ∈ GA) (hini : Cond.initialized RX8 ∈ GA) (hk : 1 ≤ k) (hn : 8 ≤ n) (hdg : decode cc pc = .ok (.new idx, 3)) (kk : ∀ a : Nat, a ∉ sL S → Gj κ (PV κ (newS S a 7 0) (k - 1) (n - 8)) (pc + 3) lv (.ref a :: st)) : Gj κ (PV κ S k n) pc lv st := by
  obtain ⟨p, l, e, R, s, m, args, below, meth, c, Q, D, cO, e0, A, mc, ms⟩ := κ
  obtain ⟨hx, hb, hml, hown, hts, hK, hG, hR, hlk9⟩ := hκ
  obtain ⟨rfl, hmi, hA, hH, hmc, hms⟩ := hz
  intro H locs cells slots ls hF hl
  obtain ⟨hP, hD, hS, hc, hs⟩ := hF
  have h1 : vwCl[8]? = some (RX8, TX8, 8) := rfl
  have h2 : (Cond.classLink own idx RX8).before args s = true := hts _ hcl
  have h3 : (Cond.instantiable RX8 8).before args s = true := hts _ hinst
  have h4 : (Cond.initialized RX8).before args s = true := hts _ hini
  have h5 : ∀ j, j < 8 → defaultValue (tyX8 j) = vp_V [.int 0, .int 0, .int 0, .int 0, .int 0, .int 0, .int 0, .int 0] j := fun j hj => by rcases (show j = 0 ∨ j = 1 ∨ j = 2 ∨ j = 3 ∨ j = 4 ∨ j = 5 ∨ j = 6 ∨ j = 7 by omega) with rfl | rfl | rfl | rfl | rfl | rfl | rfl | rfl <;> rfl
  have h6 : ∀ w ∈ u_ws RX8 TX8 8, w ∈ GA := inlX8
  have h7 : cells + 1 ≤ R.cells := by omega
  have h8 : slots + 8 ≤ R.slots := by omega
  refine va_new (ci := 8) (fs := [.int 0, .int 0, .int 0, .int 0, .int 0, .int 0, .int 0, .int 0]) (C := RX8) (T := TX8) (N := 8) hx hb hts h6 tyX8 tyX8_ok hown h2 h3 h4 hK hP hD hS hA h1 h5 h7 h8 hdg (fun a H1 hP1 hD1 hS1 => ?_)
  obtain ⟨eq9, hf⟩ := w_new cO S 7 0 hD1 rfl
  exact kk a hf H1 locs (cells + 1) (slots + 8) ls ⟨Eq.mp (congrArg (fun z => va_P D vwCl z H1) eq9) hP1, Eq.mp (congrArg (fun z => va_D A z) eq9) hD1, hS1, by omega, by omega⟩ hl
theorem rc_Town {D : va_G} {cO : ClassId} {S : wPS} {H : Heap} {s : State} (hK : va_K D vwCl [(cO, .object "java/lang/Object")] s) (hP : va_P D vwCl (pool cO S) H) {a : Nat} (hO : a ∈ sL S ∧ sK S a = 8) : ∃ cell : Cell, H[a]? = some cell ∧ cell.vm.isStatics = false ∧ s.vm.findClass RX9 = some cell.cls := by
  obtain ⟨k0, hk0, hk1⟩ := wG_Town cO S hO
  exact va_recv (ci := 9) (q := (RX9, TX9, 3)) hK hP rfl hk1
theorem gc_Town {cc : ByteArray} {nL : Nat} {own : String} {rm : Room} {κ : KX} (hκ : Cx cc nL own rm κ) {Φ : HQ} {pc : Nat} {lv : List (Nat × Value)} {st : List Value} {S : wPS} (hΦ : Hd κ Φ S) {a idx : Nat} (hO : a ∈ sL S ∧ sK S a = 8) (hlink : Cond.classLink own idx RX9 ∈ GA) (hdg : decode cc pc = .ok (.checkcast idx, 3)) (kk : Gj κ Φ (pc + 3) lv (.ref a :: st)) : Gj κ Φ pc lv (.ref a :: st) := by
  obtain ⟨p, l, e, R, s, m, args, below, meth, c, Q, D, cO, e0, A, mc, ms⟩ := κ
  obtain ⟨hx, hb, hml, hown, hts, hK, hG, hR, hlk9⟩ := hκ
  intro H locs cells slots ls hF hl
  exact va_castE hx hb hown (hts _ hlink) (rc_Town hK (hΦ H locs cells slots hF).1 hO) hdg (kk H locs cells slots ls hF hl)
theorem gn_Town {cc : ByteArray} {nL : Nat} {own : String} {rm : Room} {κ : KX} (hκ : Cx cc nL own rm κ) {pc : Nat} {lv : List (Nat × Value)} {st : List Value} {e9 : Nat × Nat} (hz : Vz e9 κ) {S : wPS} {k n : Nat} {idx : Nat} (hcl : Cond.classLink own idx RX9 ∈ GA) (hinst : Cond.instantiable RX9 3 ∈ GA) (hini : Cond.initialized RX9 ∈ GA) (hk : 1 ≤ k) (hn : 3 ≤ n) (hdg : decode cc pc = .ok (.new idx, 3)) (kk : ∀ a : Nat, a ∉ sL S → Gj κ (PV κ (newS S a 8 0) (k - 1) (n - 3)) (pc + 3) lv (.ref a :: st)) : Gj κ (PV κ S k n) pc lv st := by
  obtain ⟨p, l, e, R, s, m, args, below, meth, c, Q, D, cO, e0, A, mc, ms⟩ := κ
  obtain ⟨hx, hb, hml, hown, hts, hK, hG, hR, hlk9⟩ := hκ
  obtain ⟨rfl, hmi, hA, hH, hmc, hms⟩ := hz
  intro H locs cells slots ls hF hl
  obtain ⟨hP, hD, hS, hc, hs⟩ := hF
  have h1 : vwCl[9]? = some (RX9, TX9, 3) := rfl
  have h2 : (Cond.classLink own idx RX9).before args s = true := hts _ hcl
  have h3 : (Cond.instantiable RX9 3).before args s = true := hts _ hinst
  have h4 : (Cond.initialized RX9).before args s = true := hts _ hini
  have h5 : ∀ j, j < 3 → defaultValue (tyX9 j) = vp_V [.int 0, .int 0, .int 0] j := fun j hj => by rcases (show j = 0 ∨ j = 1 ∨ j = 2 by omega) with rfl | rfl | rfl <;> rfl
  have h6 : ∀ w ∈ u_ws RX9 TX9 3, w ∈ GA := inlX9
  have h7 : cells + 1 ≤ R.cells := by omega
  have h8 : slots + 3 ≤ R.slots := by omega
  refine va_new (ci := 9) (fs := [.int 0, .int 0, .int 0]) (C := RX9) (T := TX9) (N := 3) hx hb hts h6 tyX9 tyX9_ok hown h2 h3 h4 hK hP hD hS hA h1 h5 h7 h8 hdg (fun a H1 hP1 hD1 hS1 => ?_)
  obtain ⟨eq9, hf⟩ := w_new cO S 8 0 hD1 rfl
  exact kk a hf H1 locs (cells + 1) (slots + 3) ls ⟨Eq.mp (congrArg (fun z => va_P D vwCl z H1) eq9) hP1, Eq.mp (congrArg (fun z => va_D A z) eq9) hD1, hS1, by omega, by omega⟩ hl
theorem rc_Track {D : va_G} {cO : ClassId} {S : wPS} {H : Heap} {s : State} (hK : va_K D vwCl [(cO, .object "java/lang/Object")] s) (hP : va_P D vwCl (pool cO S) H) {a : Nat} (hO : a ∈ sL S ∧ sK S a = 9) : ∃ cell : Cell, H[a]? = some cell ∧ cell.vm.isStatics = false ∧ s.vm.findClass RX10 = some cell.cls := by
  obtain ⟨k0, hk0, hk1⟩ := wG_Track cO S hO
  exact va_recv (ci := 10) (q := (RX10, TX10, 10)) hK hP rfl hk1
theorem gc_Track {cc : ByteArray} {nL : Nat} {own : String} {rm : Room} {κ : KX} (hκ : Cx cc nL own rm κ) {Φ : HQ} {pc : Nat} {lv : List (Nat × Value)} {st : List Value} {S : wPS} (hΦ : Hd κ Φ S) {a idx : Nat} (hO : a ∈ sL S ∧ sK S a = 9) (hlink : Cond.classLink own idx RX10 ∈ GA) (hdg : decode cc pc = .ok (.checkcast idx, 3)) (kk : Gj κ Φ (pc + 3) lv (.ref a :: st)) : Gj κ Φ pc lv (.ref a :: st) := by
  obtain ⟨p, l, e, R, s, m, args, below, meth, c, Q, D, cO, e0, A, mc, ms⟩ := κ
  obtain ⟨hx, hb, hml, hown, hts, hK, hG, hR, hlk9⟩ := hκ
  intro H locs cells slots ls hF hl
  exact va_castE hx hb hown (hts _ hlink) (rc_Track hK (hΦ H locs cells slots hF).1 hO) hdg (kk H locs cells slots ls hF hl)
theorem gn_Track {cc : ByteArray} {nL : Nat} {own : String} {rm : Room} {κ : KX} (hκ : Cx cc nL own rm κ) {pc : Nat} {lv : List (Nat × Value)} {st : List Value} {e9 : Nat × Nat} (hz : Vz e9 κ) {S : wPS} {k n : Nat} {idx : Nat} (hcl : Cond.classLink own idx RX10 ∈ GA) (hinst : Cond.instantiable RX10 10 ∈ GA) (hini : Cond.initialized RX10 ∈ GA) (hk : 1 ≤ k) (hn : 10 ≤ n) (hdg : decode cc pc = .ok (.new idx, 3)) (kk : ∀ a : Nat, a ∉ sL S → Gj κ (PV κ (newS S a 9 0) (k - 1) (n - 10)) (pc + 3) lv (.ref a :: st)) : Gj κ (PV κ S k n) pc lv st := by
  obtain ⟨p, l, e, R, s, m, args, below, meth, c, Q, D, cO, e0, A, mc, ms⟩ := κ
  obtain ⟨hx, hb, hml, hown, hts, hK, hG, hR, hlk9⟩ := hκ
  obtain ⟨rfl, hmi, hA, hH, hmc, hms⟩ := hz
  intro H locs cells slots ls hF hl
  obtain ⟨hP, hD, hS, hc, hs⟩ := hF
  have h1 : vwCl[10]? = some (RX10, TX10, 10) := rfl
  have h2 : (Cond.classLink own idx RX10).before args s = true := hts _ hcl
  have h3 : (Cond.instantiable RX10 10).before args s = true := hts _ hinst
  have h4 : (Cond.initialized RX10).before args s = true := hts _ hini
  have h5 : ∀ j, j < 10 → defaultValue (tyX10 j) = vp_V [.int 0, .int 0, .int 0, .int 0, .int 0, .int 0, .int 0, .int 0, .int 0, .int 0] j := fun j hj => by rcases (show j = 0 ∨ j = 1 ∨ j = 2 ∨ j = 3 ∨ j = 4 ∨ j = 5 ∨ j = 6 ∨ j = 7 ∨ j = 8 ∨ j = 9 by omega) with rfl | rfl | rfl | rfl | rfl | rfl | rfl | rfl | rfl | rfl <;> rfl
  have h6 : ∀ w ∈ u_ws RX10 TX10 10, w ∈ GA := inlX10
  have h7 : cells + 1 ≤ R.cells := by omega
  have h8 : slots + 10 ≤ R.slots := by omega
  refine va_new (ci := 10) (fs := [.int 0, .int 0, .int 0, .int 0, .int 0, .int 0, .int 0, .int 0, .int 0, .int 0]) (C := RX10) (T := TX10) (N := 10) hx hb hts h6 tyX10 tyX10_ok hown h2 h3 h4 hK hP hD hS hA h1 h5 h7 h8 hdg (fun a H1 hP1 hD1 hS1 => ?_)
  obtain ⟨eq9, hf⟩ := w_new cO S 9 0 hD1 rfl
  exact kk a hf H1 locs (cells + 1) (slots + 10) ls ⟨Eq.mp (congrArg (fun z => va_P D vwCl z H1) eq9) hP1, Eq.mp (congrArg (fun z => va_D A z) eq9) hD1, hS1, by omega, by omega⟩ hl
theorem rc_Room {D : va_G} {cO : ClassId} {S : wPS} {H : Heap} {s : State} (hK : va_K D vwCl [(cO, .object "java/lang/Object")] s) (hP : va_P D vwCl (pool cO S) H) {a : Nat} (hO : a ∈ sL S ∧ sK S a = 10) : ∃ cell : Cell, H[a]? = some cell ∧ cell.vm.isStatics = false ∧ s.vm.findClass RX11 = some cell.cls := by
  obtain ⟨k0, hk0, hk1⟩ := wG_Room cO S hO
  exact va_recv (ci := 11) (q := (RX11, TX11, 14)) hK hP rfl hk1
theorem gc_Room {cc : ByteArray} {nL : Nat} {own : String} {rm : Room} {κ : KX} (hκ : Cx cc nL own rm κ) {Φ : HQ} {pc : Nat} {lv : List (Nat × Value)} {st : List Value} {S : wPS} (hΦ : Hd κ Φ S) {a idx : Nat} (hO : a ∈ sL S ∧ sK S a = 10) (hlink : Cond.classLink own idx RX11 ∈ GA) (hdg : decode cc pc = .ok (.checkcast idx, 3)) (kk : Gj κ Φ (pc + 3) lv (.ref a :: st)) : Gj κ Φ pc lv (.ref a :: st) := by
  obtain ⟨p, l, e, R, s, m, args, below, meth, c, Q, D, cO, e0, A, mc, ms⟩ := κ
  obtain ⟨hx, hb, hml, hown, hts, hK, hG, hR, hlk9⟩ := hκ
  intro H locs cells slots ls hF hl
  exact va_castE hx hb hown (hts _ hlink) (rc_Room hK (hΦ H locs cells slots hF).1 hO) hdg (kk H locs cells slots ls hF hl)
theorem gn_Room {cc : ByteArray} {nL : Nat} {own : String} {rm : Room} {κ : KX} (hκ : Cx cc nL own rm κ) {pc : Nat} {lv : List (Nat × Value)} {st : List Value} {e9 : Nat × Nat} (hz : Vz e9 κ) {S : wPS} {k n : Nat} {idx : Nat} (hcl : Cond.classLink own idx RX11 ∈ GA) (hinst : Cond.instantiable RX11 14 ∈ GA) (hini : Cond.initialized RX11 ∈ GA) (hk : 1 ≤ k) (hn : 14 ≤ n) (hdg : decode cc pc = .ok (.new idx, 3)) (kk : ∀ a : Nat, a ∉ sL S → Gj κ (PV κ (newS S a 10 0) (k - 1) (n - 14)) (pc + 3) lv (.ref a :: st)) : Gj κ (PV κ S k n) pc lv st := by
  obtain ⟨p, l, e, R, s, m, args, below, meth, c, Q, D, cO, e0, A, mc, ms⟩ := κ
  obtain ⟨hx, hb, hml, hown, hts, hK, hG, hR, hlk9⟩ := hκ
  obtain ⟨rfl, hmi, hA, hH, hmc, hms⟩ := hz
  intro H locs cells slots ls hF hl
  obtain ⟨hP, hD, hS, hc, hs⟩ := hF
  have h1 : vwCl[11]? = some (RX11, TX11, 14) := rfl
  have h2 : (Cond.classLink own idx RX11).before args s = true := hts _ hcl
  have h3 : (Cond.instantiable RX11 14).before args s = true := hts _ hinst
  have h4 : (Cond.initialized RX11).before args s = true := hts _ hini
  have h5 : ∀ j, j < 14 → defaultValue (tyX11 j) = vp_V [.null, .null, .null, .null, .null, .null, .null, .null, .null, .int 0, .null, .null, .int 0, .int 0] j := fun j hj => by rcases (show j = 0 ∨ j = 1 ∨ j = 2 ∨ j = 3 ∨ j = 4 ∨ j = 5 ∨ j = 6 ∨ j = 7 ∨ j = 8 ∨ j = 9 ∨ j = 10 ∨ j = 11 ∨ j = 12 ∨ j = 13 by omega) with rfl | rfl | rfl | rfl | rfl | rfl | rfl | rfl | rfl | rfl | rfl | rfl | rfl | rfl <;> rfl
  have h6 : ∀ w ∈ u_ws RX11 TX11 14, w ∈ GA := inlX11
  have h7 : cells + 1 ≤ R.cells := by omega
  have h8 : slots + 14 ≤ R.slots := by omega
  refine va_new (ci := 11) (fs := [.null, .null, .null, .null, .null, .null, .null, .null, .null, .int 0, .null, .null, .int 0, .int 0]) (C := RX11) (T := TX11) (N := 14) hx hb hts h6 tyX11 tyX11_ok hown h2 h3 h4 hK hP hD hS hA h1 h5 h7 h8 hdg (fun a H1 hP1 hD1 hS1 => ?_)
  obtain ⟨eq9, hf⟩ := w_new cO S 10 0 hD1 rfl
  exact kk a hf H1 locs (cells + 1) (slots + 14) ls ⟨Eq.mp (congrArg (fun z => va_P D vwCl z H1) eq9) hP1, Eq.mp (congrArg (fun z => va_D A z) eq9) hD1, hS1, by omega, by omega⟩ hl
theorem rc_List {D : va_G} {cO : ClassId} {S : wPS} {H : Heap} {s : State} (hK : va_K D vwCl [(cO, .object "java/lang/Object")] s) (hP : va_P D vwCl (pool cO S) H) {a : Nat} (hO : a ∈ sL S ∧ sK S a = 11) : ∃ cell : Cell, H[a]? = some cell ∧ cell.vm.isStatics = false ∧ s.vm.findClass RJx4a65c = some cell.cls := by
  obtain ⟨k0, hk0, hk1⟩ := wG_List cO S hO
  exact va_recv (ci := 0) (q := (RJx4a65c, TJx4a65c, 3)) hK hP rfl hk1
theorem gc_List {cc : ByteArray} {nL : Nat} {own : String} {rm : Room} {κ : KX} (hκ : Cx cc nL own rm κ) {Φ : HQ} {pc : Nat} {lv : List (Nat × Value)} {st : List Value} {S : wPS} (hΦ : Hd κ Φ S) {a idx : Nat} (hO : a ∈ sL S ∧ sK S a = 11) (hlink : Cond.classLink own idx RJx4a65c ∈ GA) (hdg : decode cc pc = .ok (.checkcast idx, 3)) (kk : Gj κ Φ (pc + 3) lv (.ref a :: st)) : Gj κ Φ pc lv (.ref a :: st) := by
  obtain ⟨p, l, e, R, s, m, args, below, meth, c, Q, D, cO, e0, A, mc, ms⟩ := κ
  obtain ⟨hx, hb, hml, hown, hts, hK, hG, hR, hlk9⟩ := hκ
  intro H locs cells slots ls hF hl
  exact va_castE hx hb hown (hts _ hlink) (rc_List hK (hΦ H locs cells slots hF).1 hO) hdg (kk H locs cells slots ls hF hl)
theorem gn_List {cc : ByteArray} {nL : Nat} {own : String} {rm : Room} {κ : KX} (hκ : Cx cc nL own rm κ) {pc : Nat} {lv : List (Nat × Value)} {st : List Value} {e9 : Nat × Nat} (hz : Vz e9 κ) {S : wPS} {k n : Nat} {idx : Nat} (hcl : Cond.classLink own idx RJx4a65c ∈ GA) (hinst : Cond.instantiable RJx4a65c 3 ∈ GA) (hini : Cond.initialized RJx4a65c ∈ GA) (hk : 1 ≤ k) (hn : 3 ≤ n) (hdg : decode cc pc = .ok (.new idx, 3)) (kk : ∀ a : Nat, a ∉ sL S → Gj κ (PV κ (newS S a 11 0) (k - 1) (n - 3)) (pc + 3) lv (.ref a :: st)) : Gj κ (PV κ S k n) pc lv st := by
  obtain ⟨p, l, e, R, s, m, args, below, meth, c, Q, D, cO, e0, A, mc, ms⟩ := κ
  obtain ⟨hx, hb, hml, hown, hts, hK, hG, hR, hlk9⟩ := hκ
  obtain ⟨rfl, hmi, hA, hH, hmc, hms⟩ := hz
  intro H locs cells slots ls hF hl
  obtain ⟨hP, hD, hS, hc, hs⟩ := hF
  have h1 : vwCl[0]? = some (RJx4a65c, TJx4a65c, 3) := rfl
  have h2 : (Cond.classLink own idx RJx4a65c).before args s = true := hts _ hcl
  have h3 : (Cond.instantiable RJx4a65c 3).before args s = true := hts _ hinst
  have h4 : (Cond.initialized RJx4a65c).before args s = true := hts _ hini
  have h5 : ∀ j, j < 3 → defaultValue (tyJx4a65c j) = vp_V [.int 0, .null, .int 0] j := fun j hj => by rcases (show j = 0 ∨ j = 1 ∨ j = 2 by omega) with rfl | rfl | rfl <;> rfl
  have h6 : ∀ w ∈ u_ws RJx4a65c TJx4a65c 3, w ∈ GA := inlJx4a65c
  have h7 : cells + 1 ≤ R.cells := by omega
  have h8 : slots + 3 ≤ R.slots := by omega
  refine va_new (ci := 0) (fs := [.int 0, .null, .int 0]) (C := RJx4a65c) (T := TJx4a65c) (N := 3) hx hb hts h6 tyJx4a65c tyJx4a65c_ok hown h2 h3 h4 hK hP hD hS hA h1 h5 h7 h8 hdg (fun a H1 hP1 hD1 hS1 => ?_)
  obtain ⟨eq9, hf⟩ := w_new cO S 11 0 hD1 rfl
  exact kk a hf H1 locs (cells + 1) (slots + 3) ls ⟨Eq.mp (congrArg (fun z => va_P D vwCl z H1) eq9) hP1, Eq.mp (congrArg (fun z => va_D A z) eq9) hD1, hS1, by omega, by omega⟩ hl
