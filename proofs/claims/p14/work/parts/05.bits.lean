/-! ===== bits of small numbers ===== -/
theorem pb_iN (n : Nat) : ph_i (n : Int) = nI n := Int32.ofInt_eq_ofNat
theorem pb_lN (n : Nat) : ph_l (n : Int) = lN n := Int64.ofInt_eq_ofNat
theorem pb_s31 : ∀ n, n < 32 → ((nI n &&& 31).toBitVec.smod 32).toNat = n := by decide +kernel
theorem pb_s63 : ∀ n, n < 64 → (((nI n).toInt64 &&& 63).toBitVec.smod 64).toNat = n := by decide +kernel
theorem pb_ishr {n s : Nat} (hn : n < 2147483648) (hs : s < 32) : ph_i (n : Int) >>> (ph_i (s : Int) &&& 31) = ph_i ((n / 2 ^ s : Nat) : Int) := by
  rw [pb_iN, pb_iN, pb_iN]
  exact pk_shrN (by omega) _ s (pb_s31 s hs)
theorem pb_iand1 {n : Nat} (hn : n < 2147483648) : ph_i (n : Int) &&& ph_i 1 = ph_i ((n % 2 : Nat) : Int) := by
  rw [pb_iN, pb_iN]
  exact pk_andN (by omega) 1 (by decide)
theorem pb_tb (n s : Nat) : n / 2 ^ s % 2 = (n.testBit s).toNat := by
  rw [Nat.testBit_eq_decide_div_mod_eq]
  rcases Nat.mod_two_eq_zero_or_one (n / 2 ^ s) with h | h <;> simp [h]
