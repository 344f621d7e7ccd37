abbrev lw_gv : Cond := Jvm.Cond.and given_1 narrow_1
theorem st_K {s : State} {args : Array Value} (hts : ∀ w ∈ GA, w.before args s = true) (hAO : va_AO "java/lang/Object" s) : ∃ (D : va_G) (cO : ClassId), va_K D vwCl [(cO, .object "java/lang/Object")] s := by
  obtain ⟨c0, i0, h0⟩ := u_known (C := RJx4a65c) (T := TJx4a65c) (N := 3) (n := 3) hts inlJx4a65c (hts _ qw_36)
  obtain ⟨c1, i1, h1⟩ := u_known (C := RX0) (T := TX0) (N := 8) (n := 8) hts inlX0 (hts _ qw_554)
  obtain ⟨c2, i2, h2⟩ := u_known (C := RX1) (T := TX1) (N := 4) (n := 4) hts inlX1 (hts _ qw_510)
  obtain ⟨c3, i3, h3⟩ := u_known (C := RX2) (T := TX2) (N := 2) (n := 2) hts inlX2 (hts _ qw_62)
  obtain ⟨c4, i4, h4⟩ := u_known (C := RX3) (T := TX3) (N := 10) (n := 10) hts inlX3 (hts _ qw_248)
  obtain ⟨c5, i5, h5⟩ := u_known (C := RX4) (T := TX4) (N := 2) (n := 2) hts inlX4 (hts _ qw_408)
  obtain ⟨c6, i6, h6⟩ := u_known (C := RX6) (T := TX6) (N := 6) (n := 6) hts inlX6 (hts _ qw_630)
  obtain ⟨c7, i7, h7⟩ := u_known (C := RX7) (T := TX7) (N := 13) (n := 13) hts inlX7 (hts _ qw_439)
  obtain ⟨c8, i8, h8⟩ := u_known (C := RX8) (T := TX8) (N := 8) (n := 8) hts inlX8 (hts _ qw_76)
  obtain ⟨c9, i9, h9⟩ := u_known (C := RX9) (T := TX9) (N := 3) (n := 3) hts inlX9 (hts _ qw_532)
  obtain ⟨c10, i10, h10⟩ := u_known (C := RX10) (T := TX10) (N := 10) (n := 10) hts inlX10 (hts _ qw_698)
  obtain ⟨c11, i11, h11⟩ := u_known (C := RX11) (T := TX11) (N := 14) (n := 14) hts inlX11 (hts _ qw_28)
  obtain ⟨comp, cO, k9, f1, f2, f3, f4, f5⟩ := Cond.arrayOver_spec (va_AO.use (A := args) hAO)
  refine ⟨(fun k => [c0, c1, c2, c3, c4, c5, c6, c7, c8, c9, c10, c11].getD k c0, fun k => [i0, i1, i2, i3, i4, i5, i6, i7, i8, i9, i10, i11].getD k i0), cO, ?_, ?_⟩
  · intro k q hq
    match k, hq with
    | 0, hq => cases hq; exact h0
    | 1, hq => cases hq; exact h1
    | 2, hq => cases hq; exact h2
    | 3, hq => cases hq; exact h3
    | 4, hq => cases hq; exact h4
    | 5, hq => cases hq; exact h5
    | 6, hq => cases hq; exact h6
    | 7, hq => cases hq; exact h7
    | 8, hq => cases hq; exact h8
    | 9, hq => cases hq; exact h9
    | 10, hq => cases hq; exact h10
    | 11, hq => cases hq; exact h11
    | k + 12, hq => simp [vwCl] at hq
  · intro k q hq
    match k, hq with
    | 0, hq => cases hq; exact ⟨fun N z => ⟨(fun k h => by cases h), k9, f3, comp, f4⟩, k9, comp, f3, f4, f1, f5⟩
    | k + 1, hq => simp at hq
set_option maxRecDepth 100000 in
theorem sx_nf : nestF.all (fun q => decide (Cond.fieldLinkNest q.1 q.2.1 q.2.2.1 q.2.2.2.1 q.2.2.2.2.1 q.2.2.2.2.2 ∈ lw_tbl)) = true := by decide +kernel
set_option maxRecDepth 100000 in
theorem sx_nm : nestM.all (fun q => decide (Cond.methodLinkNest q.1 q.2.1 q.2.2.1 q.2.2.2 ∈ lw_tbl)) = true := by decide +kernel
set_option maxRecDepth 100000 in
theorem sx_st : strsR.all (fun q => decide (Cond.stringRef q.1 q.2.1 q.2.2 ∈ lw_tbl) && decide (Cond.exactly (.string q.1 q.2.1) "java/lang/String" ∈ flatC lw_gv)) = true := by decide +kernel
set_option maxRecDepth 100000 in
theorem sx_co : castO.all (fun q => decide (Cond.castable q "java/lang/Object" ∈ lw_tbl)) = true := by decide +kernel
set_option maxRecDepth 100000 in
theorem sx_dn : declN.all (fun q => decide (Cond.declares q ∈ lw_tbl)) = true := by decide +kernel
set_option maxRecDepth 100000 in
theorem sx_ao : Cond.arrayOver (.object "java/lang/Object") ∈ lw_tbl := by decide +kernel
set_option maxRecDepth 100000 in
theorem sx_ct : Cond.castable tISE tISE ∈ lw_tbl := by decide +kernel
theorem st_G {s : State} {args : Array Value} (hts : ∀ w ∈ lw_tbl, w.before args s = true) (hgv : ∀ w ∈ flatC lw_gv, w.before args s = true) {mi : Nat} (hmi : va_Mi "[Ljava/lang/Object;" mi s) : GK s := by
  refine ⟨fun q hq => va_Nw.of rfl (hts _ (of_decide_eq_true (List.all_eq_true.mp sx_nf q hq))), fun q hq => va_Nw.of rfl (hts _ (of_decide_eq_true (List.all_eq_true.mp sx_nm q hq))), fun q hq => ?_, fun q hq => va_Nw.of rfl (hts _ (of_decide_eq_true (List.all_eq_true.mp sx_co q hq))), fun q hq => va_Nw.of rfl (hts _ (of_decide_eq_true (List.all_eq_true.mp sx_dn q hq))), va_AO.of (hts _ sx_ao), mi, hmi⟩
  have h := Bool.and_eq_true_iff.mp (List.all_eq_true.mp sx_st q hq)
  obtain ⟨a, c, cell, k, he, -⟩ := Cond.exactly_spec (hgv _ (of_decide_eq_true h.2))
  exact ⟨a, vk_R.of (hts _ (of_decide_eq_true h.1)) he⟩
set_option maxRecDepth 100000 in
theorem st_H {s : State} {args : Array Value} (hts : ∀ w ∈ lw_tbl, w.before args s = true) (hgv : ∀ w ∈ flatC lw_gv, w.before args s = true) : ∃ e0 : Nat, GH e0 (fun q => s.heap.size ≤ q) s s.heap := by
  have hA : ∀ a : Nat, a < s.heap.size → ¬ (fun q : Nat => s.heap.size ≤ q) a := fun a h z => Nat.not_le_of_lt h z
  obtain ⟨e0, he, hT⟩ := va_Tof (args := args) (s := s) (tm := .static "java/util/ArrayList" "DEFAULTCAPACITY_EMPTY_ELEMENTDATA" "[Ljava/lang/Object;") (ty := .object "java/lang/Object") (N := 0) (f := fun _ => .null) (by decide) (hgv _ (by decide +kernel)) (va_eqt (hgv _ (by decide +kernel))) (fun j hj => absurd hj (Nat.not_lt_zero j)) hA
  exact ⟨e0, va_Zof (args := args) (hts _ (by decide +kernel)) (hts _ (by decide +kernel)) he hA, hT, vx_Zqof (args := args) (hts _ (by decide +kernel)) (hts _ (by decide +kernel)) (hgv _ (by decide +kernel)) hA, vx_Zqof (args := args) (hts _ (by decide +kernel)) (hts _ (by decide +kernel)) (hgv _ (by decide +kernel)) hA⟩
set_option maxRecDepth 100000 in
theorem st_M {s : State} {args : Array Value} (hgv : ∀ w ∈ flatC lw_gv, w.before args s = true) : ∃ mi : Nat, va_Mi "[Ljava/lang/Object;" mi s := va_Mi.of (args := args) (hgv _ (by decide +kernel))
theorem st_l {l : Launch} (h : l.flags = flags0) : l.stackTraces = false := by
  unfold Launch.stackTraces
  rw [h]
  decide +kernel
/-- the law's walk: its end is 1, with the pool grown by what the claim allows -/
def LE (cc : ByteArray) (κ : KX) : Prop := ∀ (pc : Nat) (lv : List (Nat × Value)) (S1 : wPS) (k n : Nat), decode cc pc = .ok (.ireturn, 1) → Gj κ (PV κ S1 k n) pc lv [.int 1]
theorem law_start {p : Program} {e : Env} {s : State} {m : MethodId} {below : List Frame} {meth : Method} {c : Code} (l : Launch) (hflags : l.flags = flags0) {b L : Nat} {xs : Nat → Int32} (hL : L ≤ 260) (C0 : lw_At p s m meth c b L xs)
    (body : ∀ (κ : KX) (e9 : Nat × Nat), Cx cL_law 11 RL room_1 κ → Vz e9 κ → XZ κ → Scr b L xs κ → LE cL_law κ → Gj κ (PV κ ([], fun _ => 0, fun _ _ => 0, fun _ _ => none, fun _ => 0, fun _ _ => none) 600064 7301640) 0 [(0, .ref b)] []) : W p l e room_1 s m #[Value.ref b] below meth c s.heap [] 0 0 (lw_Z below #[Value.ref b] s) (entryFrame m ([Value.ref b] : List Value).toArray 11) := by
  obtain ⟨hx, hb, hr, hml, hown, hts, hX, hbl, hlocks, hgv0⟩ := id C0
  have hgv := flat_of_before _ hgv0
  have hd0 := Drawn.sameBut.refl s.drawn lw_cs
  have hts9 : ∀ w ∈ GA, w.before #[Value.ref b] s = true := fun w hw => hts w (List.mem_filter.mp hw).1
  obtain ⟨mi, hmi⟩ := st_M hgv
  have hG := st_G hts hgv hmi
  obtain ⟨e0, hH⟩ := st_H hts hgv
  obtain ⟨D, cO, hK⟩ := st_K hts9 (va_AO.of (hts _ sx_ao))
  have hl := lv_entry ([.ref b]) (n := 11) (Nat.le_of_ble_eq_true rfl)
  rw [lg_entry_eq]
  have h := body (p, l, e, room_1, s, m, #[Value.ref b], below, meth, c, lw_Z below #[Value.ref b] s, D, cO, e0, (fun q => s.heap.size ≤ q), 600064, 7301640) (e0, mi)
    ⟨hx, hb, hml, hown, hts9, hK, hG, rfl, hlocks⟩ ⟨rfl, hmi, fun _ h => h, hH, Nat.le_refl _, Nat.le_refl _⟩ ⟨st_l hflags, va_Nw.of rfl (hts _ sx_ct)⟩ ⟨hX, hbl, fun z => Nat.not_le_of_lt hbl z⟩
    (fun pc lv S1 k n hd H locs cells slots ls hF hl => by
      obtain ⟨-, -, hS, hc, hs⟩ := hF
      refine W.widen (k := 600064) (n := 7301640) (by omega) (by omega) ?_
      refine va_forget hS.2.2 ?_
      exact lw_ret hd0 hx hb hr hlocks hd)
    s.heap [] 0 0 _ ⟨fun k q hk => absurd (show ([] : va_W)[k]? = some q from hk) (by simp), ⟨fun i j p q h => absurd (show ([] : va_W)[i]? = some p from h) (by simp), fun k q h => absurd (show ([] : va_W)[k]? = some q from h) (by simp)⟩, va_S.rf, Nat.le_refl _, Nat.le_refl _⟩ (hml.symm ▸ hl)
  rw [← hml]
  exact h

