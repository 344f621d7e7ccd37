theorem g_aload_nO {cc : ByteArray} {nL : Nat} {own : String} {rm : Room} {κ : KX} (hκ : Cx cc nL own rm κ) {Φ : HQ} {pc : Nat} {lv : List (Nat × Value)} {st : List Value} {k : Fin 4} {i : Nat} {r : Option Nat} (j : Nat) (hdg : decode cc pc = .ok (.aload_n k, 1)) (hi : (k : Nat) = i) (hj : lv[j]? = some (i, va_rf r)) (kk : Gj κ Φ (pc + 1) lv (va_rf r :: st)) : Gj κ Φ pc lv st := by
  cases r with
  | none => exact g_aload_nN hκ j hdg hi hj kk
  | some z => exact g_aload_n hκ j hdg hi hj kk
theorem g_aloadO {cc : ByteArray} {nL : Nat} {own : String} {rm : Room} {κ : KX} (hκ : Cx cc nL own rm κ) {Φ : HQ} {pc : Nat} {lv : List (Nat × Value)} {st : List Value} {i : Nat} {r : Option Nat} (j : Nat) (hdg : decode cc pc = .ok (.aload i, 2)) (hj : lv[j]? = some (i, va_rf r)) (kk : Gj κ Φ (pc + 2) lv (va_rf r :: st)) : Gj κ Φ pc lv st := by
  cases r with
  | none => exact g_aloadN hκ j hdg hj kk
  | some z => exact g_aload hκ j hdg hj kk
theorem g_astore_nO {cc : ByteArray} {nL : Nat} {own : String} {rm : Room} {κ : KX} (hκ : Cx cc nL own rm κ) {Φ : HQ} {pc : Nat} {lv : List (Nat × Value)} {st : List Value} {k : Fin 4} {i : Nat} {r : Option Nat} (lv' : List (Nat × Value)) (hdg : decode cc pc = .ok (.astore_n k, 1)) (hi : (k : Nat) = i) (hn : i < nL) (hlv : (i, va_rf r) :: lv.filter (fun q => !(q.1 == i) && !(q.1 + 1 == i && q.2.category == 2)) = lv') (kk : Gj κ Φ (pc + 1) lv' st) : Gj κ Φ pc lv (va_rf r :: st) := by
  cases r with
  | none => exact g_astore_nN hκ lv' hdg hi hn hlv kk
  | some z => exact g_astore_n hκ lv' hdg hi hn hlv kk
theorem g_astoreO {cc : ByteArray} {nL : Nat} {own : String} {rm : Room} {κ : KX} (hκ : Cx cc nL own rm κ) {Φ : HQ} {pc : Nat} {lv : List (Nat × Value)} {st : List Value} {i : Nat} {r : Option Nat} (lv' : List (Nat × Value)) (hdg : decode cc pc = .ok (.astore i, 2)) (hn : i < nL) (hlv : (i, va_rf r) :: lv.filter (fun q => !(q.1 == i) && !(q.1 + 1 == i && q.2.category == 2)) = lv') (kk : Gj κ Φ (pc + 2) lv' st) : Gj κ Φ pc lv (va_rf r :: st) := by
  cases r with
  | none => exact g_astoreN hκ lv' hdg hn hlv kk
  | some z => exact g_astore hκ lv' hdg hn hlv kk
def tfR (ok : Nat → Bool) (far : Nat → Int32) (ad : Nat → Nat) : Nat → Nat → Option Nat → Int32 → Option Nat × Int32
  | 0, _, r, a => (r, a)
  | d + 1, i, r, a => if ok i && (r.isNone || decide (far i < a)) then tfR ok far ad d (i + 1) (some (ad i)) (far i) else tfR ok far ad d (i + 1) r a
theorem tfR_in {ok : Nat → Bool} {far : Nat → Int32} {ad : Nat → Nat} : ∀ (d i : Nat) (r : Option Nat) (a : Int32), (tfR ok far ad d i r a).1 = r ∨ ∃ k : Nat, i ≤ k ∧ k < i + d ∧ ok k = true ∧ (tfR ok far ad d i r a).1 = some (ad k)
  | 0, _, _, _ => Or.inl rfl
  | d + 1, i, r, a => by
    by_cases h : (ok i && (r.isNone || decide (far i < a))) = true
    · have e : tfR ok far ad (d + 1) i r a = tfR ok far ad d (i + 1) (some (ad i)) (far i) := if_pos h
      rw [e]
      rcases tfR_in (ok := ok) (far := far) (ad := ad) d (i + 1) (some (ad i)) (far i) with h1 | ⟨k, h1, h2, h3, h4⟩
      · exact Or.inr ⟨i, Nat.le_refl i, by omega, (Bool.and_eq_true_iff.mp h).1, h1⟩
      · exact Or.inr ⟨k, by omega, by omega, h3, h4⟩
    · have e : tfR ok far ad (d + 1) i r a = tfR ok far ad d (i + 1) r a := if_neg h
      rw [e]
      rcases tfR_in (ok := ok) (far := far) (ad := ad) d (i + 1) r a with h1 | ⟨k, h1, h2, h3, h4⟩
      · exact Or.inl h1
      · exact Or.inr ⟨k, by omega, by omega, h3, h4⟩
def foP (S : wPS) (el : Nat → Nat → Nat) (sz : Nat → Nat) (q : Nat) : Option Nat × Int32 := tfR (fun i => !decide (sI S q_Flight_isUp (el 5 i) = 0) && !decide (sI S q_Flight_isFoe (el 5 i) = 0)) (fun i => farF (sI S q_Flight_x (el 5 i)) (sI S q_Flight_y (el 5 i)) (sI S q_Squadron_x q) (sI S q_Squadron_y q)) (el 5) (sz 5) 0 none 0
def foF (S : wPS) (el : Nat → Nat → Nat) (sz : Nat → Nat) (q : Nat) : Option Nat := if 36 < (foP S el sz q).2 then none else (foP S el sz q).1
theorem foF_in {S : wPS} {el : Nat → Nat → Nat} {sz : Nat → Nat} {q : Nat} : foF S el sz q = none ∨ ∃ k : Nat, k < sz 5 ∧ ¬ sI S q_Flight_isUp (el 5 k) = 0 ∧ foF S el sz q = some (el 5 k) := by
  unfold foF
  by_cases h : 36 < (foP S el sz q).2
  · rw [if_pos h]; exact Or.inl rfl
  · rw [if_neg h]
    rcases tfR_in (sz 5) 0 none 0 (ok := fun i => !decide (sI S q_Flight_isUp (el 5 i) = 0) && !decide (sI S q_Flight_isFoe (el 5 i) = 0)) (far := fun i => farF (sI S q_Flight_x (el 5 i)) (sI S q_Flight_y (el 5 i)) (sI S q_Squadron_x q) (sI S q_Squadron_y q)) (ad := el 5) with h1 | ⟨k, h1, h2, h3, h4⟩
    · exact Or.inl h1
    · exact Or.inr ⟨k, by omega, by simpa using (Bool.and_eq_true_iff.mp h3).1, h4⟩
def trP (S : wPS) (el : Nat → Nat → Nat) (sz : Nat → Nat) (p : Nat) : Option Nat × Int32 := tfR (fun i => liveB S (el 7 i) && !decide (sI S q_Plot_seenAt p < sI S q_Track_minute (el 7 i))) (fun i => farF (sI S q_Plot_x p) (sI S q_Plot_y p) (xAtF S (el 7 i) (sI S q_Plot_seenAt p)) (yAtF S (el 7 i) (sI S q_Plot_seenAt p))) (el 7) (sz 7) 0 none 0
def trF (S : wPS) (x : Nat) (el : Nat → Nat → Nat) (sz : Nat → Nat) (p : Nat) : Option Nat := if sI S q_Room_gateRadius x * sI S q_Room_gateRadius x < (trP S el sz p).2 then none else (trP S el sz p).1
theorem trF_in {S : wPS} {x : Nat} {el : Nat → Nat → Nat} {sz : Nat → Nat} {p : Nat} : trF S x el sz p = none ∨ ∃ k : Nat, k < sz 7 ∧ trF S x el sz p = some (el 7 k) := by
  unfold trF
  by_cases h : sI S q_Room_gateRadius x * sI S q_Room_gateRadius x < (trP S el sz p).2
  · rw [if_pos h]; exact Or.inl rfl
  · rw [if_neg h]
    rcases tfR_in (sz 7) 0 none 0 (ok := fun i => liveB S (el 7 i) && !decide (sI S q_Plot_seenAt p < sI S q_Track_minute (el 7 i))) (far := fun i => farF (sI S q_Plot_x p) (sI S q_Plot_y p) (xAtF S (el 7 i) (sI S q_Plot_seenAt p)) (yAtF S (el 7 i) (sI S q_Plot_seenAt p))) (ad := el 7) with h1 | ⟨k, h1, h2, h3, h4⟩
    · exact Or.inl h1
    · exact Or.inr ⟨k, by omega, h4⟩
