/-! ===== two states whose faults and rules are alike: the answers that hang on these alone ===== -/
section FE2
variable {S S1 : ph_T}
theorem FE.sy (h : FE S S1) : FE S1 S := ⟨h.1.symm, h.2.1.symm, fun g i k hg => (h.2.2 g i k hg).symm⟩
theorem FE.f (h : FE S S1) (i k : Nat) : S1 3 i k = S 3 i k := h.2.2 3 i k (by omega)
theorem fe_same (h : FE S S1) (e f : Nat) : sameT S1 e f ↔ sameT S e f := by
  unfold sameT
  rw [h.f, h.f, h.f, h.f]
theorem fe_again (h : FE S S1) (f : Nat) : again S1 f ↔ again S f := by
  unfold again
  constructor
  · rintro ⟨e, h1, h2, h3, h4⟩
    exact ⟨e, h1, h2, by rw [h.f, h.f] at h3; exact h3, (fe_same h e f).mp h4⟩
  · rintro ⟨e, h1, h2, h3, h4⟩
    exact ⟨e, h1, h2, by rw [h.f, h.f]; exact h3, (fe_same h e f).mpr h4⟩
theorem fe_cause (h : FE S S1) (x : Int) : causev S1 x = causev S x := by
  unfold causev
  rw [h.1, h.f, h.f, h.f, propext (fe_again h x.toNat)]
theorem fe_rnk (h : FE S S1) (f : Nat) : rnk S1 f = rnk S f := by
  unfold rnk
  rw [h.f, h.f]
theorem fe_fi (h : FE S S1) (r : Int) : ∀ (n f : Nat) (t : Int), fiF S1 r n f t = fiF S r n f t
  | 0, _, _ => rfl
  | n + 1, f, t => by
    show (if rnk S1 f = r then _ else _) = (if rnk S f = r then _ else _)
    rw [fe_rnk h f, fe_fi h r n, fe_fi h r n]
theorem fe_fo (h : FE S S1) : ∀ (r : Nat) (t : Int), foF S1 r t = foF S r t
  | 0, _ => rfl
  | r + 1, t => by
    rw [foF_s, foF_s, h.1, h.2.1, fe_fi h, fe_fo h r]
theorem fe_fbr (h : FE S S1) (x : Int) : fbr S1 x = fbr S x := by
  unfold fbr
  split
  · rfl
  · exact fe_fo h 9 x
theorem fe_alarm (h : FE S S1) (x y : Int) : alarmv S1 x y = alarmv S x y := by
  unfold alarmv
  rw [fe_fbr h, fe_rnk h, h.f, h.f, h.f]
theorem fe_rulev (h : FE S S1) (x y : Int) : rulev S1 x y = rulev S x y := by
  unfold rulev
  rw [h.2.2 7 0 x.toNat (by omega)]
theorem fe_stepv (h : FE S S1) (x y : Int) : stepv S1 x y = stepv S x y := by
  unfold stepv
  rw [h.1, h.2.1, fe_next h]
theorem fe_stOk (h : FE S S1) (x y : Int) : stOk S1 x y ↔ stOk S x y := by
  unfold stOk
  rw [h.1, h.2.1, fe_next h]
theorem FE.up2 (h : FE S S1) (g i k : Nat) (z : Int) : FE (ph_up S g i k z) (ph_up S1 g i k z) := by
  refine ⟨?_, ?_, fun g' i' k' hg => ?_⟩
  · unfold ph_up; split
    · rfl
    · exact h.1
  · unfold ph_up; split
    · rfl
    · exact h.2.1
  · unfold ph_up; split
    · rfl
    · exact h.2.2 g' i' k' hg
theorem fe_rule (h : FE S S1) (x y t : Int) : FE (ruleS S x y t) (ruleS S1 x y t) := by
  rcases Classical.em (ruleOk x y) with q | q
  · rw [ruleS_t q, ruleS_t q]
    exact (h.up2 _ _ _ _).up2 _ _ _ _
  · rw [ruleS_f q, ruleS_f q]
    exact h
theorem fe_stF (h : FE S S1) (x y : Int) : FE (stF S x y) (stF S1 x y) := by
  have h1 : FE (ph_up S 3 x.toNat 6 (S 3 x.toNat 6 + 1)) (ph_up S1 3 x.toNat 6 (S1 3 x.toNat 6 + 1)) := by
    rw [h.f]
    exact h.up2 _ _ _ _
  rcases Classical.em (stOk S x y) with q | q
  · rw [show stF S x y = _ from if_pos q, show stF S1 x y = _ from if_pos ((fe_stOk h x y).mpr q), fe_next h1]
    split
    · exact h1.up2 _ _ _ _
    · exact h1
  · rw [show stF S x y = _ from if_neg q, show stF S1 x y = _ from if_neg (fun z => q ((fe_stOk h x y).mp z))]
    exact h
theorem fe_step (h : FE S S1) (x y : Int) : FE (stepS S x y) (stepS S1 x y) := (FE.step S x y).sy.tr ((fe_stF h x y).tr (FE.step S1 x y))
end FE2
