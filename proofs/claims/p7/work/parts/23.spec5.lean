theorem stepS_t {S : ph_T} {x y : Int} (h : stOk S x y) : stepS S x y = stB S x.toNat y := if_pos h
theorem stepS_f {S : ph_T} {x y : Int} (h : ¬ stOk S x y) : stepS S x y = S := if_neg h
theorem IV.stepS {S : ph_T} (h : IV S) {x y : Int} : IV (stepS S x y) := by
  rcases Classical.em (stOk S x y) with q | q
  · rw [stepS_t q]
    obtain ⟨q1, q2, q3, q4⟩ := q
    have hf : LC S 3 x.toNat := by simp only [LC]; omega
    have hn := nextv_l (S := S) (f := x.toNat) (by omega)
    have h9 := h.f hf
    have h1 : IV (ph_up S 3 x.toNat 6 (S 3 x.toNat 6 + 1)) := h.upF (by omega) (by omega) (by omega) (by omega) (by omega) (by omega) (by omega)
    have h2 : IV (stA S x.toNat y) := by
      unfold stA
      split
      · exact h1.resetS
      · exact h1
    have hf2 : LC (stA S x.toNat y) 3 x.toNat := by
      have e : ∀ k, stA S x.toNat y 0 0 k = S 0 0 k := fun k => by
        unfold stA
        split
        · rw [resetS_g (by decide), up_ne _ (by decide)]
        · rw [up_ne _ (by decide)]
      exact (LC_eq (e 1) (e 3) (e 5) 3 x.toNat).mpr hf
    unfold stB
    split
    · exact h2.clearS hf2
    · exact h2
  · rw [stepS_f q]
    exact h
