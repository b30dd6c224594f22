/-! ===== words for what the reads answer ===== -/
def seenb (S : ph_T) (i s : Nat) : Prop := (S 2 i 6).toNat.testBit s = true
def aw (S : ph_T) (i s : Nat) : Prop := S 2 i 5 = 0 ∧ ¬ seenb S i s
noncomputable def luF (S : ph_T) (s : Nat) : Nat → Nat → Nat
  | 0, _ => 0
  | n + 1, i => @ite Nat (aw S i s) (Classical.propDecidable _) i (luF S s n (i + 1))
noncomputable def lu (S : ph_T) (s : Nat) : Nat := luF S s (S 0 0 3).toNat 1
theorem luF_t {S : ph_T} {s n i : Nat} (h : aw S i s) : luF S s (n + 1) i = i := if_pos h
theorem luF_f {S : ph_T} {s n i : Nat} (h : ¬ aw S i s) : luF S s (n + 1) i = luF S s n (i + 1) := if_neg h
def due (S : ph_T) (i s : Nat) : Int := S 2 i 1 + S 1 s 0
def coming (S : ph_T) (x : Int) (s : Nat) : Prop := (1 ≤ x ∧ x ≤ S 0 0 3) ∧ due S x.toNat s ≤ S 0 0 11 + 15
noncomputable def lenAt (S : ph_T) (s : Nat) : Int := @ite Int (1 ≤ S 1 s 3 ∧ S 1 s 3 ≤ S 0 0 3) (Classical.propDecidable _) (S 2 (S 1 s 3).toNat 0) 0
def earliest (S : ph_T) : Int := if S 0 0 3 = 0 then 0 else S 2 (S 0 0 3).toNat 1 + S 2 (S 0 0 3).toNat 0 + 30
def runs (S : ph_T) : Prop := S 0 0 5 - S 0 0 6 ≤ 5 ∧ ∀ f : Nat, S 0 0 6 < (f : Int) → (f : Int) ≤ S 0 0 5 → S 3 f 4 = 0
def nextv (S : ph_T) (f : Nat) : Int := if 3 ≤ S 3 f 6 then 0 else stT ((S 3 f 0 - 1) * 3 + S 3 f 6).toNat
def sameT (S : ph_T) (e f : Nat) : Prop := (S 3 f 0 = 6 ∧ S 3 e 0 = 6) ∨ (S 3 f 0 ≠ 6 ∧ S 3 e 1 = S 3 f 1)
def inD (S : ph_T) (i s : Nat) : Prop := S 2 i 5 = 0 ∧ ((seenb S i s ∧ S 1 s 2 ≠ 0 ∧ S 1 s 3 = (i : Int)) ∨ (¬ seenb S i s ∧ ((s = 0 ∧ S 2 i 1 ≤ S 0 0 11) ∨ (s ≠ 0 ∧ seenb S i (s - 1)))))
theorem ph_bq {P Q : Prop} (h : P ↔ Q) : (some (.int (ph_i (ph_b P))) : Option Value) = some (.int (ph_i (ph_b Q))) := by rw [propext h]
