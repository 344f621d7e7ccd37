theorem mask31 (x : Int32) : ∃ k : Nat, k < 2 ^ 31 ∧ x &&& 2147483647 = nI k := by
  refine ⟨(x &&& 2147483647).toBitVec.toNat, ?_, ?_⟩
  · rw [Int32.toBitVec_and, BitVec.toNat_and]
    exact Nat.lt_of_le_of_lt Nat.and_le_right (by decide)
  · apply Int32.toBitVec_inj.mp
    show _ = BitVec.ofNat 32 _
    exact (BitVec.ofNat_toNat _ _).symm ▸ (by simp)
theorem below_t (v : Int32) {N : Nat} (h0 : 0 < N) (hN : N < 2 ^ 31) : ∃ t : Nat, t < N ∧ (v &&& 2147483647) - (v &&& 2147483647) / nI N * nI N = nI t := by
  obtain ⟨k, hk, e⟩ := mask31 v
  rw [e, pk_rem hk h0 hN]
  exact ⟨k % N, Nat.mod_lt _ h0, rfl⟩
theorem pos_of {n : Nat} (h : ¬ nI n ≤ 0) : 0 < n := by
  rcases Nat.eq_zero_or_pos n with hz | hz
  · rw [hz, nI_0] at h; exact absurd (Int32.le_refl 0) h
  · exact hz
theorem sub_dd {a b d : Int32} (h : a = b + d) : a - b = d := by rw [h]; grind

