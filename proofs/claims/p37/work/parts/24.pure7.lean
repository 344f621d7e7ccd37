theorem mx_nI {a b : Nat} (ha : a < 2 ^ 31) (hb : b < 2 ^ 31) : (if nI a < nI b then nI b else nI a) = nI (max a b) := by
  by_cases h : a < b
  · rw [if_pos (nI_lt h hb), Nat.max_eq_right (Nat.le_of_lt h)]
  · rw [if_neg (nI_nlt (by omega) ha), Nat.max_eq_left (by omega)]
theorem mn_nI {a b : Nat} (h : a ≤ b) (hb : b < 2 ^ 31) : (if nI b < nI a then nI b else nI a) = nI a := if_neg (nI_nlt h hb)
theorem smax {p : Nat} (h : p ≤ 200000) : ¬ (2147483639 : Int32) < nI p := by
  rw [show (2147483639 : Int32) = nI 2147483639 by decide +kernel]
  exact nI_nlt (by omega) (by decide)
theorem sub_nI {a b : Nat} (h : b ≤ a) : nI a - nI b = nI (a - b) := by
  have h1 : nI (a - b) + nI b = nI a := by rw [nI_add]; congr 1; omega
  rw [← h1]; exact Int32.add_sub_cancel _ _
theorem shr_nI {a : Nat} (h : a < 2 ^ 31) : nI a >>> ((1 : Int32) &&& 31) = nI (a / 2) := pk_shrN h _ 1 (by decide +kernel)
theorem nw_N {S : wPS} {a kd n : Nat} : sN (newS S a kd n) a = n := if_pos rfl
theorem nw_Nb {S : wPS} {a kd n b : Nat} (h : a ∉ sL S) (hb : b ∈ sL S) : sN (newS S a kd n) b = sN S b := if_neg (fun z : b = a => h (z ▸ hb))
theorem nw_W {S : wPS} {a kd n : Nat} : sW (newS S a kd n) a = fun _ => none := if_pos rfl
theorem nw_Wb {S : wPS} {a kd n b : Nat} (h : a ∉ sL S) (hb : b ∈ sL S) : sW (newS S a kd n) b = sW S b := if_neg (fun z : b = a => h (z ▸ hb))
theorem nw_ne {S : wPS} {a kd n z : Nat} (h : z ∉ sL (newS S a kd n)) : a ≠ z := fun e => h (e ▸ List.mem_append_right _ (List.mem_singleton.mpr rfl))
def gN (c : Nat) : Nat := c + max 1 (c / 2)
def AddA (S : wPS) (l r0 v n : Nat) : wPS := putI (putW (putI S q_List_modCount l (sI S q_List_modCount l + 1)) r0 (va_up (sW S r0) (nI n).toNatClampNeg (some v))) q_List_size l (nI n + 1)
def GrS (S : wPS) (l a N : Nat) (f : Nat → Option Nat) : wPS := putR (putW (newS S a 12 N) a f) q_List_elementData l (some a)
def AddB (S : wPS) (l a N : Nat) (f : Nat → Option Nat) (v n : Nat) : wPS := putI (putW (GrS S l a N f) a (va_up f (nI n).toNatClampNeg (some v))) q_List_size l (nI n + 1)
theorem gr_old {S : wPS} {l a N b kb : Nat} {f : Nat → Option Nat} (h : a ∉ sL S) (hb : b ∈ sL S ∧ sK S b = kb) : b ∈ sL (GrS S l a N f) ∧ sK (GrS S l a N f) b = kb := nw_old (n := N) h hb
theorem gr_at {S : wPS} {l a N : Nat} {f : Nat → Option Nat} (h : a ∉ sL S) : a ∈ sL (GrS S l a N f) ∧ sK (GrS S l a N f) a = 12 := nw_at (n := N) h
theorem GrS_W {S : wPS} {l a N : Nat} {f : Nat → Option Nat} : sW (GrS S l a N f) a = f := if_pos rfl
theorem GrS_N {S : wPS} {l a N : Nat} {f : Nat → Option Nat} : sN (GrS S l a N f) a = N := if_pos rfl
theorem GrS_0 {S : wPS} {l a N : Nat} : putR (newS S a 12 N) q_List_elementData l (some a) = GrS S l a N (fun _ => none) := by
  unfold GrS
  congr 1
  show newS S a 12 N = (sL (newS S a 12 N), sK (newS S a 12 N), sI (newS S a 12 N), sR (newS S a 12 N), sN (newS S a 12 N), va_up (sW (newS S a 12 N)) a (fun _ => none))
  have h : va_up (sW (newS S a 12 N)) a (fun _ => none) = sW (newS S a 12 N) := by
    funext j
    by_cases hj : j = a
    · subst hj; exact (if_pos rfl).trans nw_W.symm
    · exact if_neg hj
  rw [h]
