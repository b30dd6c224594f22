/-! ===== what keeps the numbers' bounds ===== -/
theorem up_ne (S : ph_T) {g i k g' i' k' : Nat} {z : Int} (h : g' ≠ g) : ph_up S g i k z g' i' k' = S g' i' k' := ph_up_no S z (fun q => h q.1)
theorem LC_upn {S : ph_T} {g i k : Nat} {z : Int} (h : g ≠ 0) (g' i' : Nat) : LC (ph_up S g i k z) g' i' ↔ LC S g' i' := LC_up (fun q => h q.1) g' i'
theorem up_if (S : ph_T) (g i k : Nat) (z : Int) (i' k' : Nat) : ph_up S g i k z g i' k' = if i' = i ∧ k' = k then z else S g i' k' := by
  unfold ph_up
  simp
theorem IV.upS {S : ph_T} (h : IV S) {i k : Nat} {z : Int} (h0 : k = 0 → 100 ≤ z ∧ z ≤ 100000) (h2 : k = 2 → z = 0 ∨ z = 1) (h3 : k = 3 → 0 ≤ z ∧ z ≤ S 0 0 3) (h4 : k = 4 → 0 ≤ z ∧ z ≤ S 0 0 11) (h5 : k = 5 → z = 0 ∨ z = 1) : IV (ph_up S 1 i k z) := by
  have hl := fun g' i' => LC_upn (S := S) (g := 1) (i := i) (k := k) (z := z) (by decide) g' i'
  have n0 : ∀ i' k', ph_up S 1 i k z 0 i' k' = S 0 i' k' := fun i' k' => up_ne S (by decide)
  have n2 : ∀ i' k', ph_up S 1 i k z 2 i' k' = S 2 i' k' := fun i' k' => up_ne S (by decide)
  have n3 : ∀ i' k', ph_up S 1 i k z 3 i' k' = S 3 i' k' := fun i' k' => up_ne S (by decide)
  have n7 : ∀ i' k', ph_up S 1 i k z 7 i' k' = S 7 i' k' := fun i' k' => up_ne S (by decide)
  have n8 : ∀ i' k', ph_up S 1 i k z 8 i' k' = S 8 i' k' := fun i' k' => up_ne S (by decide)
  have n9 : ∀ i' k', ph_up S 1 i k z 9 i' k' = S 9 i' k' := fun i' k' => up_ne S (by decide)
  refine ⟨?_, fun j hj => ?_, fun j hj => ?_, fun j hj => ?_, fun j hj => ?_, fun j hj => ?_⟩
  · simp only [n0]; exact h.c
  · have hs := h.s ((hl 1 j).mp hj)
    simp only [n0, up_if]
    grind (splits := 40)
  · simp only [n2]; exact h.i ((hl 2 j).mp hj)
  · simp only [n0, n3]; exact h.f ((hl 3 j).mp hj)
  · simp only [n7, n8]; exact h.r hj
  · simp only [n9]; rw [n0] at hj; exact h.l hj
theorem IV.upI {S : ph_T} (h : IV S) {i k : Nat} {z : Int} (h0 : k = 0 → 50 ≤ z ∧ z ≤ 1000) (h1 : k = 1 → 0 ≤ z ∧ z ≤ 1000000000) (h2 : k = 2 → 0 ≤ z ∧ z ≤ 40) (h3 : k = 3 → z = 0 ∨ z = 1) (h4 : k = 4 → z = 0 ∨ z = 1) (h5 : k = 5 → 0 ≤ z ∧ z ≤ 2) (h6 : k = 6 → 0 ≤ z ∧ z < 256) : IV (ph_up S 2 i k z) := by
  have hl := fun g' i' => LC_upn (S := S) (g := 2) (i := i) (k := k) (z := z) (by decide) g' i'
  have n0 : ∀ i' k', ph_up S 2 i k z 0 i' k' = S 0 i' k' := fun i' k' => up_ne S (by decide)
  have n1 : ∀ i' k', ph_up S 2 i k z 1 i' k' = S 1 i' k' := fun i' k' => up_ne S (by decide)
  have n3 : ∀ i' k', ph_up S 2 i k z 3 i' k' = S 3 i' k' := fun i' k' => up_ne S (by decide)
  have n7 : ∀ i' k', ph_up S 2 i k z 7 i' k' = S 7 i' k' := fun i' k' => up_ne S (by decide)
  have n8 : ∀ i' k', ph_up S 2 i k z 8 i' k' = S 8 i' k' := fun i' k' => up_ne S (by decide)
  have n9 : ∀ i' k', ph_up S 2 i k z 9 i' k' = S 9 i' k' := fun i' k' => up_ne S (by decide)
  refine ⟨?_, fun j hj => ?_, fun j hj => ?_, fun j hj => ?_, fun j hj => ?_, fun j hj => ?_⟩
  · simp only [n0]; exact h.c
  · simp only [n0, n1]; exact h.s ((hl 1 j).mp hj)
  · have hs := h.i ((hl 2 j).mp hj)
    simp only [up_if]
    grind (splits := 40)
  · simp only [n0, n3]; exact h.f ((hl 3 j).mp hj)
  · simp only [n7, n8]; exact h.r hj
  · simp only [n9]; rw [n0] at hj; exact h.l hj
theorem IV.upF {S : ph_T} (h : IV S) {i k : Nat} {z : Int} (h0 : k = 0 → 1 ≤ z ∧ z ≤ 6) (h1 : k = 1 → -1 ≤ z ∧ z ≤ 7) (h2 : k = 2 → 0 ≤ z ∧ z ≤ S 0 0 11) (h3 : k = 3 → z = 0 ∨ z = 1) (h4 : k = 4 → z = 0 ∨ z = 1) (h5 : k = 5 → 0 ≤ z ∧ z < 2305843009213693952) (h6 : k = 6 → 0 ≤ z ∧ z ≤ 3) : IV (ph_up S 3 i k z) := by
  have hl := fun g' i' => LC_upn (S := S) (g := 3) (i := i) (k := k) (z := z) (by decide) g' i'
  have n0 : ∀ i' k', ph_up S 3 i k z 0 i' k' = S 0 i' k' := fun i' k' => up_ne S (by decide)
  have n1 : ∀ i' k', ph_up S 3 i k z 1 i' k' = S 1 i' k' := fun i' k' => up_ne S (by decide)
  have n2 : ∀ i' k', ph_up S 3 i k z 2 i' k' = S 2 i' k' := fun i' k' => up_ne S (by decide)
  have n7 : ∀ i' k', ph_up S 3 i k z 7 i' k' = S 7 i' k' := fun i' k' => up_ne S (by decide)
  have n8 : ∀ i' k', ph_up S 3 i k z 8 i' k' = S 8 i' k' := fun i' k' => up_ne S (by decide)
  have n9 : ∀ i' k', ph_up S 3 i k z 9 i' k' = S 9 i' k' := fun i' k' => up_ne S (by decide)
  refine ⟨?_, fun j hj => ?_, fun j hj => ?_, fun j hj => ?_, fun j hj => ?_, fun j hj => ?_⟩
  · simp only [n0]; exact h.c
  · simp only [n0, n1]; exact h.s ((hl 1 j).mp hj)
  · simp only [n2]; exact h.i ((hl 2 j).mp hj)
  · have hs := h.f ((hl 3 j).mp hj)
    simp only [n0, up_if]
    grind (splits := 40)
  · simp only [n7, n8]; exact h.r hj
  · simp only [n9]; rw [n0] at hj; exact h.l hj
theorem IV.upR {S : ph_T} (h : IV S) {g k : Nat} {z : Int} (hg : g = 7 ∨ g = 8) (hz : z = 0 ∨ z = 1) : IV (ph_up S g 0 k z) := by
  have hg0 : g ≠ 0 := by omega
  have hl := fun g' i' => LC_upn (S := S) (g := g) (i := 0) (k := k) (z := z) hg0 g' i'
  have n0 : ∀ i' k', ph_up S g 0 k z 0 i' k' = S 0 i' k' := fun i' k' => up_ne S (by omega)
  have n1 : ∀ i' k', ph_up S g 0 k z 1 i' k' = S 1 i' k' := fun i' k' => up_ne S (by omega)
  have n2 : ∀ i' k', ph_up S g 0 k z 2 i' k' = S 2 i' k' := fun i' k' => up_ne S (by omega)
  have n3 : ∀ i' k', ph_up S g 0 k z 3 i' k' = S 3 i' k' := fun i' k' => up_ne S (by omega)
  have n9 : ∀ i' k', ph_up S g 0 k z 9 i' k' = S 9 i' k' := fun i' k' => up_ne S (by omega)
  refine ⟨?_, fun j hj => ?_, fun j hj => ?_, fun j hj => ?_, fun j hj => ?_, fun j hj => ?_⟩
  · simp only [n0]; exact h.c
  · simp only [n0, n1]; exact h.s ((hl 1 j).mp hj)
  · simp only [n2]; exact h.i ((hl 2 j).mp hj)
  · simp only [n0, n3]; exact h.f ((hl 3 j).mp hj)
  · have := h.r hj
    unfold ph_up
    grind (splits := 40)
  · simp only [n9]; rw [n0] at hj; exact h.l hj
theorem IV.upL {S : ph_T} (h : IV S) {k : Nat} {z : Int} (hz : 1 ≤ z ∧ z ≤ 60) : IV (ph_up S 9 0 k z) := by
  have hl := fun g' i' => LC_upn (S := S) (g := 9) (i := 0) (k := k) (z := z) (by decide) g' i'
  have n0 : ∀ i' k', ph_up S 9 0 k z 0 i' k' = S 0 i' k' := fun i' k' => up_ne S (by decide)
  have n1 : ∀ i' k', ph_up S 9 0 k z 1 i' k' = S 1 i' k' := fun i' k' => up_ne S (by decide)
  have n2 : ∀ i' k', ph_up S 9 0 k z 2 i' k' = S 2 i' k' := fun i' k' => up_ne S (by decide)
  have n3 : ∀ i' k', ph_up S 9 0 k z 3 i' k' = S 3 i' k' := fun i' k' => up_ne S (by decide)
  have n7 : ∀ i' k', ph_up S 9 0 k z 7 i' k' = S 7 i' k' := fun i' k' => up_ne S (by decide)
  have n8 : ∀ i' k', ph_up S 9 0 k z 8 i' k' = S 8 i' k' := fun i' k' => up_ne S (by decide)
  refine ⟨?_, fun j hj => ?_, fun j hj => ?_, fun j hj => ?_, fun j hj => ?_, fun j hj => ?_⟩
  · simp only [n0]; exact h.c
  · simp only [n0, n1]; exact h.s ((hl 1 j).mp hj)
  · simp only [n2]; exact h.i ((hl 2 j).mp hj)
  · simp only [n0, n3]; exact h.f ((hl 3 j).mp hj)
  · simp only [n7, n8]; exact h.r hj
  · rw [n0] at hj
    have := h.l hj
    rw [up_if]
    grind (splits := 40)
/-- a number of the object itself: cleared (6), the list's size (10), the clock (11) -/
theorem IV.up0 {S : ph_T} (h : IV S) {k : Nat} {z : Int} (hk : k = 6 ∨ k = 10 ∨ k = 11) (h6 : k = 6 → 0 ≤ z ∧ z ≤ S 0 0 5) (h10 : k = 10 → 0 ≤ z ∧ z ≤ 60 ∧ ∀ j : Nat, (j : Int) < z → 1 ≤ S 9 0 j ∧ S 9 0 j ≤ 60) (h11 : k = 11 → S 0 0 11 ≤ z ∧ z ≤ 1000000000) : IV (ph_up S 0 0 k z) := by
  have hl := fun g' i' => LC_up (S := S) (g := 0) (i := 0) (k := k) (z := z) (by omega) g' i'
  have n1 : ∀ i' k', ph_up S 0 0 k z 1 i' k' = S 1 i' k' := fun i' k' => up_ne S (by decide)
  have n2 : ∀ i' k', ph_up S 0 0 k z 2 i' k' = S 2 i' k' := fun i' k' => up_ne S (by decide)
  have n3 : ∀ i' k', ph_up S 0 0 k z 3 i' k' = S 3 i' k' := fun i' k' => up_ne S (by decide)
  have n7 : ∀ i' k', ph_up S 0 0 k z 7 i' k' = S 7 i' k' := fun i' k' => up_ne S (by decide)
  have n8 : ∀ i' k', ph_up S 0 0 k z 8 i' k' = S 8 i' k' := fun i' k' => up_ne S (by decide)
  have n9 : ∀ i' k', ph_up S 0 0 k z 9 i' k' = S 9 i' k' := fun i' k' => up_ne S (by decide)
  have hc := h.c
  refine ⟨?_, fun j hj => ?_, fun j hj => ?_, fun j hj => ?_, fun j hj => ?_, fun j hj => ?_⟩
  · simp only [up_if]; grind (splits := 40)
  · have := h.s ((hl 1 j).mp hj)
    simp only [n1, up_if]; grind (splits := 40)
  · simp only [n2]; exact h.i ((hl 2 j).mp hj)
  · have := h.f ((hl 3 j).mp hj)
    simp only [n3, up_if]; grind (splits := 40)
  · simp only [n7, n8]; exact h.r hj
  · simp only [n9]
    rw [up_if] at hj
    rcases hk with rfl | rfl | rfl
    · rw [if_neg (by decide)] at hj; exact h.l hj
    · rw [if_pos (by decide)] at hj; exact (h10 rfl).2.2 j hj
    · rw [if_neg (by decide)] at hj; exact h.l hj
