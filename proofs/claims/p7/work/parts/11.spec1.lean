/-! ===== words for what the reads answer ===== -/
def seenb (S : ph_T) (i s : Nat) : Prop := (S 2 i 6).toNat.testBit s = true
def aw (S : ph_T) (i s : Nat) : Prop := S 2 i 5 = 0 ∧ ¬ seenb S i s
noncomputable def luF (S : ph_T) (s : Nat) : Nat → Nat → Nat
  | 0, _ => 0
  | n + 1, i => @ite Nat (aw S i s) (Classical.propDecidable _) i (luF S s n (i + 1))
noncomputable def lu (S : ph_T) (s : Nat) : Nat := luF S s (S 0 0 3).toNat 1
theorem luF_t {S : ph_T} {s n i : Nat} (h : aw S i s) : luF S s (n + 1) i = i := if_pos h
theorem luF_f {S : ph_T} {s n i : Nat} (h : ¬ aw S i s) : luF S s (n + 1) i = luF S s n (i + 1) := if_neg h
def due (S : ph_T) (i s : Nat) : Int := S 2 i 1 + S 1 s 0
def coming (S : ph_T) (x : Int) (s : Nat) : Prop := (1 ≤ x ∧ x ≤ S 0 0 3) ∧ due S x.toNat s ≤ S 0 0 11 + 15
noncomputable def lenAt (S : ph_T) (s : Nat) : Int := @ite Int (1 ≤ S 1 s 3 ∧ S 1 s 3 ≤ S 0 0 3) (Classical.propDecidable _) (S 2 (S 1 s 3).toNat 0) 0
def earliest (S : ph_T) : Int := if S 0 0 3 = 0 then 0 else S 2 (S 0 0 3).toNat 1 + S 2 (S 0 0 3).toNat 0 + 30
def runs (S : ph_T) : Prop := S 0 0 5 - S 0 0 6 ≤ 5 ∧ ∀ f : Nat, S 0 0 6 < (f : Int) → (f : Int) ≤ S 0 0 5 → S 3 f 4 = 0
def nextv (S : ph_T) (f : Nat) : Int := if 3 ≤ S 3 f 6 then 0 else stT ((S 3 f 0 - 1) * 3 + S 3 f 6).toNat
def sameT (S : ph_T) (e f : Nat) : Prop := (S 3 f 0 = 6 ∧ S 3 e 0 = 6) ∨ (S 3 f 0 ≠ 6 ∧ S 3 e 1 = S 3 f 1)
def inD (S : ph_T) (i s : Nat) : Prop := S 2 i 5 = 0 ∧ ((seenb S i s ∧ S 1 s 2 ≠ 0 ∧ S 1 s 3 = (i : Int)) ∨ (¬ seenb S i s ∧ ((s = 0 ∧ S 2 i 1 ≤ S 0 0 11) ∨ (s ≠ 0 ∧ seenb S i (s - 1)))))
theorem ph_bq {P Q : Prop} (h : P ↔ Q) : (some (.int (ph_i (ph_b P))) : Option Value) = some (.int (ph_i (ph_b Q))) := by rw [propext h]
def again (S : ph_T) (f : Nat) : Prop := ∃ e : Nat, 1 ≤ e ∧ e < f ∧ S 3 f 2 - S 3 e 2 ≤ 10000 ∧ sameT S e f
noncomputable def dbF (S : ph_T) (s : Nat) : Nat → Nat → Nat → Nat
  | 0, _, acc => acc
  | n + 1, i, acc => dbF S s n (i + 1) (@ite Nat (inD S i s) (Classical.propDecidable _) (acc ||| 2 ^ i) acc)
theorem dbF_t {S : ph_T} {s n i acc : Nat} (h : inD S i s) : dbF S s (n + 1) i acc = dbF S s n (i + 1) (acc ||| 2 ^ i) := by
  show dbF S s n (i + 1) _ = _
  rw [if_pos h]
theorem dbF_f {S : ph_T} {s n i acc : Nat} (h : ¬ inD S i s) : dbF S s (n + 1) i acc = dbF S s n (i + 1) acc := by
  show dbF S s n (i + 1) _ = _
  rw [if_neg h]
noncomputable def dbm (S : ph_T) (s : Nat) : Nat := dbF S s (S 0 0 3).toNat 1 0
theorem dbF_lt {S : ph_T} {s : Nat} : ∀ (n i acc : Nat), i + n ≤ 61 → acc < 2 ^ 61 → dbF S s n i acc < 2 ^ 61
  | 0, i, acc, _, h => h
  | n + 1, i, acc, h1, h2 => by
    rcases Classical.em (inD S i s) with h | h
    · rw [dbF_t h]
      exact dbF_lt n (i + 1) _ (by omega) (Nat.or_lt_two_pow h2 (Nat.pow_lt_pow_right (by decide) (by omega)))
    · rw [dbF_f h]
      exact dbF_lt n (i + 1) _ (by omega) h2
def dbit (S : ph_T) (f i : Nat) : Prop := (S 3 f 5).toNat.testBit i = true
noncomputable def dqF (S : ph_T) (f : Nat) : Nat → Nat → Int → Int
  | 0, _, _ => -1
  | n + 1, i, t => @ite Int (dbit S f i) (Classical.propDecidable _) (if t = 0 then (i : Int) else dqF S f n (i + 1) (t + -1)) (dqF S f n (i + 1) t)
theorem dqF_f {S : ph_T} {f n i : Nat} {t : Int} (h : ¬ dbit S f i) : dqF S f (n + 1) i t = dqF S f n (i + 1) t := if_neg h
theorem dqF_t {S : ph_T} {f n i : Nat} {t : Int} (h : dbit S f i) (ht : ¬ t = 0) : dqF S f (n + 1) i t = dqF S f n (i + 1) (t + -1) := (if_pos h).trans (if_neg ht)
theorem dqF_0 {S : ph_T} {f n i : Nat} {t : Int} (h : dbit S f i) (ht : t = 0) : dqF S f (n + 1) i t = (i : Int) := (if_pos h).trans (if_pos ht)
noncomputable def doubtv (S : ph_T) (x y : Int) : Int := if ¬ (1 ≤ x ∧ x ≤ S 0 0 5) then -11 else if y < 0 then -1 else dqF S x.toNat (S 0 0 3).toNat 1 y
noncomputable def causev (S : ph_T) (x : Int) : Int := if ¬ (1 ≤ x ∧ x ≤ S 0 0 5) then -11 else if S 3 x.toNat 1 = -1 ∧ ¬ S 3 x.toNat 0 = 6 then 90 + S 3 x.toNat 0 else if ¬ S 3 x.toNat 3 = 0 then 10 * S 3 x.toNat 0 + 2 else 10 * S 3 x.toNat 0 + ph_b (again S x.toNat)
def countv (S : ph_T) (x : Int) : Int := if 0 ≤ x ∧ x < S 0 0 1 then S 1 x.toNat 1 else -11
def listv (S : ph_T) (x : Int) : Int := if 0 ≤ x ∧ x < S 0 0 10 then S 9 0 x.toNat else -1
