/-! ===== rule, feed, step ===== -/
def ruleOk (x y : Int) : Prop := (1 ≤ x ∧ x ≤ 6) ∧ 0 ≤ y ∧ y ≤ 1
noncomputable def rulev (S : ph_T) (x y : Int) : Int := @ite Int (ruleOk x y) (Classical.propDecidable _) (if S 7 0 x.toNat = 0 then 0 else 1) (-12)
noncomputable def ruleS (S : ph_T) (x y t : Int) : ph_T := @ite ph_T (ruleOk x y) (Classical.propDecidable _) (ph_up (ph_up S 7 0 x.toNat (if y = 1 then 1 else 0)) 8 0 x.toNat t) S
theorem ruleS_t {S : ph_T} {x y t : Int} (h : ruleOk x y) : ruleS S x y t = ph_up (ph_up S 7 0 x.toNat (if y = 1 then 1 else 0)) 8 0 x.toNat t := if_pos h
theorem ruleS_f {S : ph_T} {x y t : Int} (h : ¬ ruleOk x y) : ruleS S x y t = S := if_neg h
theorem IV.ruleS {S : ph_T} (h : IV S) {x y t : Int} (ht : t = 0 ∨ t = 1) : IV (ruleS S x y t) := by
  rcases Classical.em (ruleOk x y) with q | q
  · rw [ruleS_t q]
    exact (h.upR (Or.inl rfl) (by split <;> omega)).upR (Or.inr rfl) ht
  · rw [ruleS_f q]
    exact h
/-- an item goes off the list: those behind it move up -/
def tlF (x : Int) : Nat → Nat → Nat → ph_T → ph_T
  | 0, _, kp, S => ph_up S 0 0 10 (kp : Int)
  | n + 1, k, kp, S => if S 9 0 k = x then tlF x n (k + 1) kp S else tlF x n (k + 1) (kp + 1) (ph_up S 9 0 kp (S 9 0 k))
theorem tlF_t {x : Int} {n k kp : Nat} {S : ph_T} (h : S 9 0 k = x) : tlF x (n + 1) k kp S = tlF x n (k + 1) kp S := if_pos h
theorem tlF_f {x : Int} {n k kp : Nat} {S : ph_T} (h : ¬ S 9 0 k = x) : tlF x (n + 1) k kp S = tlF x n (k + 1) (kp + 1) (ph_up S 9 0 kp (S 9 0 k)) := if_neg h
def dropS (S : ph_T) (x : Int) : ph_T := tlF x (S 0 0 10).toNat 0 0 S
theorem tlF_V {x : Int} : ∀ (n k kp : Nat) (S : ph_T), IV S → kp ≤ k → S 0 0 10 = (k : Int) + n → IV (tlF x n k kp S)
  | 0, k, kp, S, h, h1, h2 => by
    have hc := h.c
    exact h.up0 (k := 10) (by omega) (by omega) (fun _ => ⟨by omega, by omega, fun j hj => h.l (by omega)⟩) (by omega)
  | n + 1, k, kp, S, h, h1, h2 => by
    by_cases q : S 9 0 k = x
    · rw [tlF_t q]
      exact tlF_V n (k + 1) kp S h (by omega) (by omega)
    · rw [tlF_f q]
      exact tlF_V n (k + 1) (kp + 1) _ (h.upL (h.l (by omega))) (by omega) (by rw [up_ne _ (by decide)]; omega)
theorem IV.dropS {S : ph_T} (h : IV S) {x : Int} : IV (dropS S x) := tlF_V _ _ _ _ h (by omega) (by have := h.c; omega)
theorem tlF_0 {x : Int} {g j q : Nat} (hg : g ≠ 9) (hq : g = 0 → q ≠ 10) : ∀ (n k kp : Nat) (S : ph_T), tlF x n k kp S g j q = S g j q
  | 0, k, kp, S => ph_up_no _ _ (by omega)
  | n + 1, k, kp, S => by
    by_cases h : S 9 0 k = x
    · rw [tlF_t h, tlF_0 hg hq n]
    · rw [tlF_f h, tlF_0 hg hq n, up_ne _ hg]
def feedv (S : ph_T) (x : Int) : Int := if ¬ (1 ≤ x ∧ x ≤ S 0 0 3) then -11 else if ¬ S 2 x.toNat 4 = 0 then 0 else if S 2 x.toNat 3 = 0 then -13 else 1
def feedS (S : ph_T) (x : Int) : ph_T := if (1 ≤ x ∧ x ≤ S 0 0 3) ∧ S 2 x.toNat 4 = 0 ∧ ¬ S 2 x.toNat 3 = 0 then dropS (ph_up S 2 x.toNat 4 1) x else S
theorem IV.feedS {S : ph_T} (h : IV S) {x : Int} : IV (feedS S x) := by
  show IV (if _ then _ else _)
  split
  · exact IV.dropS (h.upI (by omega) (by omega) (by omega) (by omega) (by omega) (by omega) (by omega))
  · exact h
theorem IV.clrA {S : ph_T} (h : IV S) {f : Nat} (hf : LC S 3 f) : IV (clrA S f) := by
  have hc := h.c
  simp only [LC] at hf
  have h1 : IV (ph_up S 0 0 6 (f : Int)) := h.up0 (by omega) (by omega) (by omega) (by omega)
  show IV (if _ then _ else _)
  split
  · exact h1
  · exact h1.emptyS (by omega)
theorem clrA_0 {S : ph_T} {f k : Nat} (hk : k ≠ 6) : clrA S f 0 0 k = S 0 0 k := by
  unfold clrA
  split
  · exact ph_up_no _ _ (by omega)
  · rw [emptyS_g (by decide)]; exact ph_up_no _ _ (by omega)
theorem IV.clrB {S : ph_T} (h : IV S) {f : Nat} (hf : LC S 3 f) : IV (clrB S f) := clF_V _ _ _ (h.clrA hf) (by omega) (by have := h.c; rw [clrA_0 (by decide)]; omega)
theorem IV.clearS {S : ph_T} (h : IV S) {f : Nat} (hf : LC S 3 f) : IV (clearS S f) := by
  show IV (if _ then _ else _)
  split
  · exact h.clrB hf
  · exact (h.clrB hf).listS
noncomputable def stA (S : ph_T) (f : Nat) (y : Int) : ph_T := if y = 5 then resetS (ph_up S 3 f 6 (S 3 f 6 + 1)) else ph_up S 3 f 6 (S 3 f 6 + 1)
noncomputable def stB (S : ph_T) (f : Nat) (y : Int) : ph_T := if nextv (stA S f y) f = 0 then clearS (stA S f y) f else stA S f y
def stOk (S : ph_T) (x y : Int) : Prop := (1 ≤ x ∧ x ≤ S 0 0 5) ∧ (1 ≤ y ∧ y ≤ 5) ∧ x = S 0 0 6 + 1 ∧ nextv S x.toNat = y
noncomputable def stepS (S : ph_T) (x y : Int) : ph_T := @ite ph_T (stOk S x y) (Classical.propDecidable _) (stB S x.toNat y) S
def stepv (S : ph_T) (x y : Int) : Int := if ¬ (1 ≤ x ∧ x ≤ S 0 0 5) then -11 else if y < 1 ∨ 5 < y then -12 else if ¬ x = S 0 0 6 + 1 then -13 else if nextv S x.toNat = y then 1 else 0
theorem resetS_g {S : ph_T} {g j k : Nat} (hg : g ≠ 1) : resetS S g j k = S g j k := rcF_g hg _ _ _
theorem stT_r (j : Nat) : 0 ≤ stT j ∧ stT j ≤ 5 := by
  unfold stT
  split <;> omega
theorem nextv_r (S : ph_T) (f : Nat) : 0 ≤ nextv S f ∧ nextv S f ≤ 5 := by
  unfold nextv
  split
  · omega
  · exact stT_r _
theorem nextv_l {S : ph_T} {f : Nat} (h : 1 ≤ nextv S f) : S 3 f 6 ≤ 2 := by
  unfold nextv at h
  split at h
  · omega
  · omega
