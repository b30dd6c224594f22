/-! ===== bits of small numbers ===== -/
theorem pb_iN (n : Nat) : ph_i (n : Int) = nI n := Int32.ofInt_eq_ofNat
theorem pb_lN (n : Nat) : ph_l (n : Int) = lN n := Int64.ofInt_eq_ofNat
theorem pb_s31 : ∀ n, n < 32 → ((nI n &&& 31).toBitVec.smod 32).toNat = n := by decide +kernel
theorem pb_s63 : ∀ n, n < 64 → (((nI n).toInt64 &&& 63).toBitVec.smod 64).toNat = n := by decide +kernel
theorem pb_ishr {n s : Nat} (hn : n < 2147483648) (hs : s < 32) : ph_i (n : Int) >>> (ph_i (s : Int) &&& 31) = ph_i ((n / 2 ^ s : Nat) : Int) := by
  rw [pb_iN, pb_iN, pb_iN]
  exact pk_shrN (by omega) _ s (pb_s31 s hs)
theorem pb_iand1 {n : Nat} (hn : n < 2147483648) : ph_i (n : Int) &&& ph_i 1 = ph_i ((n % 2 : Nat) : Int) := by
  rw [pb_iN, pb_iN]
  exact pk_andN (by omega) 1 (by decide)
theorem pb_tb (n s : Nat) : n / 2 ^ s % 2 = (n.testBit s).toNat := by
  rw [Nat.testBit_eq_decide_div_mod_eq]
  rcases Nat.mod_two_eq_zero_or_one (n / 2 ^ s) with h | h <;> simp [h]
theorem pb_r2 (m : Nat) : ph_ri ((m % 2 : Nat) : Int) := by have := Nat.mod_lt m (show 0 < 2 by decide); omega
theorem pb_rl2 (m : Nat) : ph_rl ((m % 2 : Nat) : Int) := by have := Nat.mod_lt m (show 0 < 2 by decide); omega
theorem pb_dv {n s B : Nat} (h : n < B) : n / 2 ^ s < B := Nat.lt_of_le_of_lt (Nat.div_le_self _ _) h
theorem pb_t0 {n s : Nat} (h : ((n / 2 ^ s % 2 : Nat) : Int) = 0) : ¬ n.testBit s = true := by
  rw [pb_tb] at h
  intro q
  rw [q] at h
  cases h
theorem pb_t1 {n s : Nat} (h : ¬ ((n / 2 ^ s % 2 : Nat) : Int) = 0) : n.testBit s = true := by
  rw [pb_tb] at h
  cases q : n.testBit s with
  | true => rfl
  | false => rw [q] at h; exact absurd rfl h
theorem pb_ishl1 {s : Nat} (hs : s < 31) : ph_i 1 <<< (ph_i (s : Int) &&& 31) = ph_i ((2 ^ s : Nat) : Int) := by
  have h31 : 2 ^ s < 2 ^ 31 := Nat.pow_lt_pow_right (by decide) hs
  rw [pb_iN, pb_iN]
  have h := pk_shlN (n := 1) (nI s &&& 31) s (pb_s31 s (by omega)) (by omega)
  rw [Nat.one_mul] at h
  exact h
theorem pb_ior (a b : Nat) : ph_i (a : Int) ||| ph_i (b : Int) = ph_i ((a ||| b : Nat) : Int) := by
  rw [pb_iN, pb_iN, pb_iN]
  apply Int32.toBitVec_inj.1
  show BitVec.ofNat 32 a ||| BitVec.ofNat 32 b = BitVec.ofNat 32 (a ||| b)
  rw [BitVec.ofNat_or]
theorem pb_lshr {n s : Nat} (hn : n < 4611686018427387904) (hs : s < 64) : ph_l (n : Int) >>> ((ph_i (s : Int)).toInt64 &&& 63) = ph_l ((n / 2 ^ s : Nat) : Int) := by
  have hd : n / 2 ^ s ≤ n := Nat.div_le_self _ _
  apply Int64.toInt_inj.mp
  have e : (ph_l (n : Int) >>> ((ph_i (s : Int)).toInt64 &&& 63)).toInt = (ph_l (n : Int)).toInt >>> s := by
    have h := pb_s63 s hs
    rw [pb_iN]
    conv => rhs; rw [← h]
    exact BitVec.toInt_sshiftRight ..
  have e2 : (ph_l ((n / 2 ^ s : Nat) : Int)).toInt = ((n / 2 ^ s : Nat) : Int) := by
    generalize n / 2 ^ s = q at hd ⊢
    exact ph_lT (by omega)
  rw [e, Int.shiftRight_eq_div_pow, ph_lT (by omega), e2]
  rfl
theorem pb_land1 {n : Nat} (hn : n < 4611686018427387904) : ph_l (n : Int) &&& ph_l 1 = ph_l ((n % 2 : Nat) : Int) := by
  rw [pb_lN, pb_lN]
  apply Int64.toBitVec_inj.mp
  show BitVec.ofNat 64 n &&& BitVec.ofNat 64 1 = BitVec.ofNat 64 (n % 2)
  rw [← BitVec.ofNat_and, Nat.and_one_is_mod]
theorem pb_lshl1 {s : Nat} (hs : s < 63) : ph_l 1 <<< ((ph_i (s : Int)).toInt64 &&& 63) = ph_l ((2 ^ s : Nat) : Int) := by
  rw [pb_iN, pb_lN]
  exact (by decide +kernel : ∀ k, k < 63 → ph_l 1 <<< ((nI k).toInt64 &&& 63) = lN (2 ^ k)) s hs
theorem pb_lor (a b : Nat) : ph_l (a : Int) ||| ph_l (b : Int) = ph_l ((a ||| b : Nat) : Int) := by
  rw [pb_lN, pb_lN, pb_lN]
  apply Int64.toBitVec_inj.1
  show BitVec.ofNat 64 a ||| BitVec.ofNat 64 b = BitVec.ofNat 64 (a ||| b)
  rw [BitVec.ofNat_or]
