/-! ===== the class's state: S pool index field, without addresses ===== -/
def LC (S : ph_T) (g i : Nat) : Prop := match g with
  | 0 => i = 0
  | 1 => (i : Int) < S 0 0 1
  | 2 => 1 ≤ i ∧ (i : Int) ≤ S 0 0 3
  | 3 => 1 ≤ i ∧ (i : Int) ≤ S 0 0 5
  | 4 => i = 0
  | 5 => i = 0
  | 6 => i = 0
  | 7 => i = 0
  | 8 => i = 0
  | 9 => i = 0
  | _ => False
def dp (g k : Nat) : Bool := match g with
  | 0 => k == 1 || k == 3 || k == 5 || k == 6 || k == 10 || k == 11
  | 1 => Nat.blt k 6
  | 2 => Nat.blt k 7
  | 3 => Nat.blt k 7
  | 7 => true
  | 8 => true
  | 9 => true
  | _ => false
def JR (S : ph_T) (o : Nat) (L : Nat → Nat → Prop) (ad : Nat → Nat → Nat) (τ : ph_T) : Prop :=
  (∀ g i : Nat, LC S g i → L g i) ∧ ad 0 0 = o ∧ (∀ g i k : Nat, LC S g i → dp g k = true → τ g i k = S g i k) ∧
  (τ 0 0 0 = (ad 4 0 : Int) ∧ τ 0 0 2 = (ad 5 0 : Int) ∧ τ 0 0 4 = (ad 6 0 : Int) ∧ τ 0 0 7 = (ad 7 0 : Int) ∧ τ 0 0 8 = (ad 8 0 : Int) ∧ τ 0 0 9 = (ad 9 0 : Int)) ∧
  (∀ i : Nat, LC S 1 i → τ 4 0 i = (ad 1 i : Int)) ∧ (∀ i : Nat, LC S 2 i → τ 5 0 i = (ad 2 i : Int)) ∧ ∀ i : Nat, LC S 3 i → τ 6 0 i = (ad 3 i : Int)
section JRS
variable {S : ph_T} {o : Nat} {L : Nat → Nat → Prop} {ad : Nat → Nat → Nat} {τ : ph_T}
theorem JR.live (h : JR S o L ad τ) {g i : Nat} (hl : LC S g i) : L g i := h.1 g i hl
theorem JR.ob (h : JR S o L ad τ) : ad 0 0 = o := h.2.1
theorem JR.dat (h : JR S o L ad τ) {g i k : Nat} (hl : LC S g i) (hd : dp g k = true) : τ g i k = S g i k := h.2.2.1 g i k hl hd
theorem JR.r0 (h : JR S o L ad τ) : τ 0 0 0 = (ad 4 0 : Int) := h.2.2.2.1.1
theorem JR.r2 (h : JR S o L ad τ) : τ 0 0 2 = (ad 5 0 : Int) := h.2.2.2.1.2.1
theorem JR.r4 (h : JR S o L ad τ) : τ 0 0 4 = (ad 6 0 : Int) := h.2.2.2.1.2.2.1
theorem JR.r7 (h : JR S o L ad τ) : τ 0 0 7 = (ad 7 0 : Int) := h.2.2.2.1.2.2.2.1
theorem JR.r8 (h : JR S o L ad τ) : τ 0 0 8 = (ad 8 0 : Int) := h.2.2.2.1.2.2.2.2.1
theorem JR.r9 (h : JR S o L ad τ) : τ 0 0 9 = (ad 9 0 : Int) := h.2.2.2.1.2.2.2.2.2
theorem JR.e4 (h : JR S o L ad τ) {i : Nat} (hl : LC S 1 i) : τ 4 0 i = (ad 1 i : Int) := h.2.2.2.2.1 i hl
theorem JR.e5 (h : JR S o L ad τ) {i : Nat} (hl : LC S 2 i) : τ 5 0 i = (ad 2 i : Int) := h.2.2.2.2.2.1 i hl
theorem JR.e6 (h : JR S o L ad τ) {i : Nat} (hl : LC S 3 i) : τ 6 0 i = (ad 3 i : Int) := h.2.2.2.2.2.2 i hl
theorem LC_up {g i k : Nat} {z : Int} (hk : ¬ (g = 0 ∧ (k = 1 ∨ k = 3 ∨ k = 5))) (g' i' : Nat) : LC (ph_up S g i k z) g' i' ↔ LC S g' i' := by
  have e1 : ph_up S g i k z 0 0 1 = S 0 0 1 := by
    unfold ph_up; rw [if_neg]; rintro ⟨h1, h2, h3⟩; exact hk ⟨h1.symm, Or.inl h3.symm⟩
  have e3 : ph_up S g i k z 0 0 3 = S 0 0 3 := by
    unfold ph_up; rw [if_neg]; rintro ⟨h1, h2, h3⟩; exact hk ⟨h1.symm, Or.inr (Or.inl h3.symm)⟩
  have e5 : ph_up S g i k z 0 0 5 = S 0 0 5 := by
    unfold ph_up; rw [if_neg]; rintro ⟨h1, h2, h3⟩; exact hk ⟨h1.symm, Or.inr (Or.inr h3.symm)⟩
  unfold LC
  split <;> simp only [e1, e3, e5]
theorem ph_up_at (τ : ph_T) (g i k : Nat) (z : Int) : ph_up τ g i k z g i k = z := by simp [ph_up]
theorem ph_up_no (τ : ph_T) {g i k g' i' k' : Nat} (z : Int) (h : ¬ (g' = g ∧ i' = i ∧ k' = k)) : ph_up τ g i k z g' i' k' = τ g' i' k' := by
  unfold ph_up
  rw [if_neg h]
/-- a number is written: the same in both -/
theorem JR.put (h : JR S o L ad τ) {g i k : Nat} (z : Int) (hd : dp g k = true) (hk : ¬ (g = 0 ∧ (k = 1 ∨ k = 3 ∨ k = 5))) : JR (ph_up S g i k z) o L ad (ph_up τ g i k z) := by
  have n0 : ∀ k', dp 0 k' = false → ∀ i', ph_up τ g i k z 0 i' k' = τ 0 i' k' := fun k' hk' i' => ph_up_no τ z (by rintro ⟨rfl, -, rfl⟩; rw [hd] at hk'; cases hk')
  have nn : ∀ g', (∀ k', dp g' k' = false) → ∀ i' k', ph_up τ g i k z g' i' k' = τ g' i' k' := fun g' hg i' k' => ph_up_no τ z (by rintro ⟨rfl, -, rfl⟩; rw [hg] at hd; cases hd)
  refine ⟨fun g' i' hl => h.1 g' i' ((LC_up hk g' i').mp hl), h.2.1, fun g' i' k' hl hd' => ?_, ⟨?_, ?_, ?_, ?_, ?_, ?_⟩, fun i' hl => ?_, fun i' hl => ?_, fun i' hl => ?_⟩
  · by_cases e : g' = g ∧ i' = i ∧ k' = k
    · obtain ⟨rfl, rfl, rfl⟩ := e
      rw [ph_up_at, ph_up_at]
    · rw [ph_up_no _ _ e, ph_up_no _ _ e]
      exact h.dat ((LC_up hk g' i').mp hl) hd'
  · rw [n0 0 rfl]; exact h.r0
  · rw [n0 2 rfl]; exact h.r2
  · rw [n0 4 rfl]; exact h.r4
  · rw [n0 7 rfl]; exact h.r7
  · rw [n0 8 rfl]; exact h.r8
  · rw [n0 9 rfl]; exact h.r9
  · rw [nn 4 (fun _ => rfl)]; exact h.e4 ((LC_up hk 1 i').mp hl)
  · rw [nn 5 (fun _ => rfl)]; exact h.e5 ((LC_up hk 2 i').mp hl)
  · rw [nn 6 (fun _ => rfl)]; exact h.e6 ((LC_up hk 3 i').mp hl)
end JRS
/-- what the numbers keep to -/
def IV (S : ph_T) : Prop :=
  (0 ≤ S 0 0 1 ∧ S 0 0 1 ≤ 8 ∧ 0 ≤ S 0 0 3 ∧ S 0 0 3 ≤ 60 ∧ 0 ≤ S 0 0 5 ∧ S 0 0 5 ≤ 40 ∧ 0 ≤ S 0 0 6 ∧ S 0 0 6 ≤ S 0 0 5 ∧ 0 ≤ S 0 0 10 ∧ S 0 0 10 ≤ 60 ∧ 0 ≤ S 0 0 11 ∧ S 0 0 11 ≤ 1000000000) ∧
  (∀ i : Nat, LC S 1 i → 100 ≤ S 1 i 0 ∧ S 1 i 0 ≤ 100000 ∧ (S 1 i 2 = 0 ∨ S 1 i 2 = 1) ∧ 0 ≤ S 1 i 3 ∧ S 1 i 3 ≤ S 0 0 3 ∧ 0 ≤ S 1 i 4 ∧ S 1 i 4 ≤ S 0 0 11 ∧ (S 1 i 5 = 0 ∨ S 1 i 5 = 1)) ∧
  (∀ i : Nat, LC S 2 i → 50 ≤ S 2 i 0 ∧ S 2 i 0 ≤ 1000 ∧ 0 ≤ S 2 i 1 ∧ S 2 i 1 ≤ 1000000000 ∧ 0 ≤ S 2 i 2 ∧ S 2 i 2 ≤ 40 ∧ (S 2 i 3 = 0 ∨ S 2 i 3 = 1) ∧ (S 2 i 4 = 0 ∨ S 2 i 4 = 1) ∧ 0 ≤ S 2 i 5 ∧ S 2 i 5 ≤ 2 ∧ 0 ≤ S 2 i 6 ∧ S 2 i 6 < 256) ∧
  (∀ i : Nat, LC S 3 i → 1 ≤ S 3 i 0 ∧ S 3 i 0 ≤ 6 ∧ -1 ≤ S 3 i 1 ∧ S 3 i 1 ≤ 7 ∧ 0 ≤ S 3 i 2 ∧ S 3 i 2 ≤ S 0 0 11 ∧ (S 3 i 3 = 0 ∨ S 3 i 3 = 1) ∧ (S 3 i 4 = 0 ∨ S 3 i 4 = 1) ∧ 0 ≤ S 3 i 5 ∧ S 3 i 5 < 2305843009213693952 ∧ 0 ≤ S 3 i 6 ∧ S 3 i 6 ≤ 3) ∧
  (∀ k : Nat, k ≤ 6 → (S 7 0 k = 0 ∨ S 7 0 k = 1) ∧ (S 8 0 k = 0 ∨ S 8 0 k = 1)) ∧
  ∀ k : Nat, (k : Int) < S 0 0 10 → 1 ≤ S 9 0 k ∧ S 9 0 k ≤ 60
theorem IV.c {S : ph_T} (h : IV S) : 0 ≤ S 0 0 1 ∧ S 0 0 1 ≤ 8 ∧ 0 ≤ S 0 0 3 ∧ S 0 0 3 ≤ 60 ∧ 0 ≤ S 0 0 5 ∧ S 0 0 5 ≤ 40 ∧ 0 ≤ S 0 0 6 ∧ S 0 0 6 ≤ S 0 0 5 ∧ 0 ≤ S 0 0 10 ∧ S 0 0 10 ≤ 60 ∧ 0 ≤ S 0 0 11 ∧ S 0 0 11 ≤ 1000000000 := h.1
theorem IV.s {S : ph_T} (h : IV S) {i : Nat} (hl : LC S 1 i) : 100 ≤ S 1 i 0 ∧ S 1 i 0 ≤ 100000 ∧ (S 1 i 2 = 0 ∨ S 1 i 2 = 1) ∧ 0 ≤ S 1 i 3 ∧ S 1 i 3 ≤ S 0 0 3 ∧ 0 ≤ S 1 i 4 ∧ S 1 i 4 ≤ S 0 0 11 ∧ (S 1 i 5 = 0 ∨ S 1 i 5 = 1) := h.2.1 i hl
theorem IV.i {S : ph_T} (h : IV S) {i : Nat} (hl : LC S 2 i) : 50 ≤ S 2 i 0 ∧ S 2 i 0 ≤ 1000 ∧ 0 ≤ S 2 i 1 ∧ S 2 i 1 ≤ 1000000000 ∧ 0 ≤ S 2 i 2 ∧ S 2 i 2 ≤ 40 ∧ (S 2 i 3 = 0 ∨ S 2 i 3 = 1) ∧ (S 2 i 4 = 0 ∨ S 2 i 4 = 1) ∧ 0 ≤ S 2 i 5 ∧ S 2 i 5 ≤ 2 ∧ 0 ≤ S 2 i 6 ∧ S 2 i 6 < 256 := h.2.2.1 i hl
theorem IV.f {S : ph_T} (h : IV S) {i : Nat} (hl : LC S 3 i) : 1 ≤ S 3 i 0 ∧ S 3 i 0 ≤ 6 ∧ -1 ≤ S 3 i 1 ∧ S 3 i 1 ≤ 7 ∧ 0 ≤ S 3 i 2 ∧ S 3 i 2 ≤ S 0 0 11 ∧ (S 3 i 3 = 0 ∨ S 3 i 3 = 1) ∧ (S 3 i 4 = 0 ∨ S 3 i 4 = 1) ∧ 0 ≤ S 3 i 5 ∧ S 3 i 5 < 2305843009213693952 ∧ 0 ≤ S 3 i 6 ∧ S 3 i 6 ≤ 3 := h.2.2.2.1 i hl
theorem IV.r {S : ph_T} (h : IV S) {k : Nat} (hk : k ≤ 6) : (S 7 0 k = 0 ∨ S 7 0 k = 1) ∧ (S 8 0 k = 0 ∨ S 8 0 k = 1) := h.2.2.2.2.1 k hk
theorem IV.l {S : ph_T} (h : IV S) {k : Nat} (hk : (k : Int) < S 0 0 10) : 1 ≤ S 9 0 k ∧ S 9 0 k ≤ 60 := h.2.2.2.2.2 k hk
