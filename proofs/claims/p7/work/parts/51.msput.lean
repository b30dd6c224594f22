/-! ===== a number of the other side is written, and the class's with it ===== -/
section MSPUT
variable {S τ : ph_T}
theorem up_k (τ : ph_T) {g k k' : Nat} (z : Int) (h : k' ≠ k) : ph_up τ g 0 k z g 0 k' = τ g 0 k' := ph_up_no _ _ (fun q => h q.2.2)
/-- a place beyond the sensors that there are -/
theorem MS.p22 (h : MS S τ) {s : Nat} (hn : ¬ LC S 1 s) (z : Int) : MS S (ph_up τ 22 0 s z) := by
  obtain ⟨h1, h2, h3, h4, h5, h6, h7⟩ := h
  refine ⟨h1.eq (fun _ _ => rfl) (fun k _ => up_ne _ (by omega)), ⟨fun q hq => ?_, fun q hq => ?_⟩, h3.eq rfl (fun _ _ _ => rfl) (fun g k _ _ => up_ne _ (by omega)), h4.eq rfl rfl (fun _ _ => rfl) (fun g k _ _ => up_ne _ (by omega)), h5.eq (fun _ _ _ => rfl) (fun g k _ _ => up_ne _ (by omega)), h6.eq (fun g k _ _ => up_ne _ (by omega)), h7.eq (fun g k _ => up_ne _ (by omega)) (fun k _ => up_ne _ (by omega))⟩
  · have hne : q ≠ s := fun e => hn (e ▸ hq)
    rw [up_k _ _ hne, up_ne _ (by decide), up_ne _ (by decide), up_ne _ (by decide), up_ne _ (by decide), up_ne _ (by decide)]
    exact h2.1 q hq
  · rw [up_ne _ (by decide), up_ne _ (by decide), up_ne _ (by decide), up_ne _ (by decide), up_ne _ (by decide)]
    exact h2.2 q hq
/-- which field of a sensor stands in which pool -/
def sfk (g : Nat) : Nat := match g with
  | 23 => 2
  | 24 => 1
  | 25 => 4
  | 26 => 3
  | 27 => 5
  | _ => 0
theorem MS.sput (h : MS S τ) {g s : Nat} (hg : 23 ≤ g ∧ g ≤ 27) (hs : LC S 1 s) (z : Int) : MS (ph_up S 1 s (sfk g) z) (ph_up τ g 0 s z) := by
  obtain ⟨h1, h2, h3, h4, h5, h6, h7⟩ := h
  have e0 : ∀ k, ph_up S 1 s (sfk g) z 0 0 k = S 0 0 k := fun k => up_ne _ (by decide)
  refine ⟨h1.eq (fun k _ => e0 k) (fun k _ => up_ne _ (by omega)), ⟨fun q hq => ?_, fun q hq => ?_⟩, h3.eq (e0 3) (fun _ _ _ => up_ne _ (by decide)) (fun g k _ _ => up_ne _ (by omega)), h4.eq (e0 5) (e0 6) (fun _ _ => up_ne _ (by decide)) (fun g k _ _ => up_ne _ (by omega)), h5.eq (fun _ _ _ => up_ne _ (by omega)) (fun g k _ _ => up_ne _ (by omega)), h6.eq (fun g k _ _ => up_ne _ (by omega)), h7.eq (fun g k _ => up_ne _ (by omega)) (fun k _ => up_ne _ (by omega))⟩
  · have hq' : LC S 1 q := by simp only [LC] at hq ⊢; rw [e0] at hq; exact hq
    obtain ⟨a1, a2, a3, a4, a5, a6⟩ := h2.1 q hq'
    rcases (show g = 23 ∨ g = 24 ∨ g = 25 ∨ g = 26 ∨ g = 27 by omega) with rfl | rfl | rfl | rfl | rfl <;> (by_cases e : q = s <;> simp [ph_up, sfk, e] <;> subst_vars <;> simp_all)
  · have hq' : ¬ LC S 1 q := by simp only [LC] at hq ⊢; rw [e0] at hq; exact hq
    have e : q ≠ s := fun e => hq' (e ▸ hs)
    have t : ∀ g', ph_up τ g 0 s z g' 0 q = τ g' 0 q := fun g' => ph_up_no _ _ (fun w => e w.2.2)
    rw [t, t, t, t, t]
    exact h2.2 q hq'
theorem MS.clk (h : MS S τ) (z : Int) : MS (ph_up S 0 0 11 z) (ph_up τ 20 0 30 z) := by
  obtain ⟨h1, h2, h3, h4, h5, h6, h7⟩ := h
  have e0 : ∀ k, k ≠ 11 → ph_up S 0 0 11 z 0 0 k = S 0 0 k := fun k hk => ph_up_no _ _ (by omega)
  refine ⟨?_, h2.eq (e0 1 (by decide)) (fun _ _ => up_ne _ (by decide)) (fun g k _ _ => up_ne _ (by omega)), h3.eq (e0 3 (by decide)) (fun _ _ _ => up_ne _ (by decide)) (fun g k _ _ => up_ne _ (by omega)), h4.eq (e0 5 (by decide)) (e0 6 (by decide)) (fun _ _ => up_ne _ (by decide)) (fun g k _ _ => up_ne _ (by omega)), h5.eq (fun _ _ _ => up_ne _ (by omega)) (fun g k _ _ => up_ne _ (by omega)), h6.eq (fun g k _ _ => up_ne _ (by omega)), h7.eq (fun g k _ => up_ne _ (by omega)) (fun k _ => ph_up_no _ _ (by omega))⟩
  obtain ⟨a1, a2, a3, a4⟩ := h1
  refine ⟨?_, ?_, ?_, ?_⟩
  · rw [ph_up_no _ _ (by omega), ph_up_no _ _ (by omega)]; exact a1
  · rw [ph_up_no _ _ (by omega), ph_up_no _ _ (by omega)]; exact a2
  · rw [ph_up_no _ _ (by omega), ph_up_no _ _ (by omega)]; exact a3
  · rw [ph_up_at, ph_up_at]
theorem MS.fst (h : MS S τ) {z : Int} (hz : 0 ≤ z ∧ z ≤ 40) : MS S (ph_up τ 20 0 31 z) := by
  obtain ⟨h1, h2, h3, h4, h5, h6, h7⟩ := h
  refine ⟨h1.eq (fun _ _ => rfl) (fun k _ => ph_up_no _ _ (by omega)), h2.eq rfl (fun _ _ => rfl) (fun g k _ _ => up_ne _ (by omega)), h3.eq rfl (fun _ _ _ => rfl) (fun g k _ _ => up_ne _ (by omega)), h4.eq rfl rfl (fun _ _ => rfl) (fun g k _ _ => up_ne _ (by omega)), h5.eq (fun _ _ _ => rfl) (fun g k _ _ => up_ne _ (by omega)), h6.eq (fun g k _ _ => up_ne _ (by omega)), ?_⟩
  obtain ⟨a1, a2, a3, a4, a5⟩ := h7
  refine ⟨by rw [ph_up_no _ _ (by omega)]; exact a1, by rw [ph_up_no _ _ (by omega), eN_eq (τ := τ) (fun g k _ _ => up_ne _ (by omega))]; exact a2, fun i => by rw [up_ne _ (by decide), up_ne _ (by decide), up_ne _ (by decide)]; exact a3 i, fun k => by rw [up_ne _ (by decide)]; exact a4 k, by rw [ph_up_at]; exact hz⟩
theorem MS.r47p (h : MS S τ) {k : Nat} (z : Int) : MS (ph_up S 7 0 k z) (ph_up τ 47 0 k z) := by
  obtain ⟨h1, h2, h3, h4, h5, h6, h7⟩ := h
  have e0 : ∀ q, ph_up S 7 0 k z 0 0 q = S 0 0 q := fun q => up_ne _ (by decide)
  refine ⟨h1.eq (fun k _ => e0 k) (fun k _ => up_ne _ (by omega)), h2.eq (e0 1) (fun _ _ => up_ne _ (by decide)) (fun g k _ _ => up_ne _ (by omega)), h3.eq (e0 3) (fun _ _ _ => up_ne _ (by decide)) (fun g k _ _ => up_ne _ (by omega)), h4.eq (e0 5) (e0 6) (fun _ _ => up_ne _ (by decide)) (fun g k _ _ => up_ne _ (by omega)), fun q hq => ?_, h6.eq (fun g k _ _ => up_ne _ (by omega)), h7.eq (fun g k _ => up_ne _ (by omega)) (fun k _ => up_ne _ (by omega))⟩
  obtain ⟨a1, a2⟩ := h5 q hq
  refine ⟨?_, by rw [up_ne _ (by decide), up_ne _ (by decide)]; exact a2⟩
  by_cases e : q = k
  · subst e; rw [ph_up_at, ph_up_at]
  · rw [up_k _ _ e, up_k _ _ e]; exact a1
theorem MS.r48p (h : MS S τ) {k : Nat} (z : Int) : MS (ph_up S 8 0 k z) (ph_up τ 48 0 k z) := by
  obtain ⟨h1, h2, h3, h4, h5, h6, h7⟩ := h
  have e0 : ∀ q, ph_up S 8 0 k z 0 0 q = S 0 0 q := fun q => up_ne _ (by decide)
  refine ⟨h1.eq (fun k _ => e0 k) (fun k _ => up_ne _ (by omega)), h2.eq (e0 1) (fun _ _ => up_ne _ (by decide)) (fun g k _ _ => up_ne _ (by omega)), h3.eq (e0 3) (fun _ _ _ => up_ne _ (by decide)) (fun g k _ _ => up_ne _ (by omega)), h4.eq (e0 5) (e0 6) (fun _ _ => up_ne _ (by decide)) (fun g k _ _ => up_ne _ (by omega)), fun q hq => ?_, h6.eq (fun g k _ _ => up_ne _ (by omega)), h7.eq (fun g k _ => up_ne _ (by omega)) (fun k _ => up_ne _ (by omega))⟩
  obtain ⟨a1, a2⟩ := h5 q hq
  refine ⟨by rw [up_ne _ (by decide), up_ne _ (by decide)]; exact a1, ?_⟩
  by_cases e : q = k
  · subst e; rw [ph_up_at, ph_up_at]
  · rw [up_k _ _ e, up_k _ _ e]; exact a2
/-- a sensor more -/
theorem ms_addS (h : MS S τ) (h0 : 0 ≤ S 0 0 1) {x : Int} (e : τ 22 0 (S 0 0 1).toNat = x) : MS (addS S (svl x)) (ph_up τ 20 0 0 (S 0 0 1 + 1)) := by
  obtain ⟨h1, h2, h3, h4, h5, h6, h7⟩ := h
  have e0 : ∀ k, k ≠ 1 → addS S (svl x) 0 0 k = S 0 0 k := fun k hk => addS_0 S _ hk
  refine ⟨?_, ⟨fun q hq => ?_, fun q hq => ?_⟩, h3.eq (e0 3 (by decide)) (fun _ _ _ => addS_g _ _ (by decide)) (fun g k _ _ => up_ne _ (by omega)), h4.eq (e0 5 (by decide)) (e0 6 (by decide)) (fun _ _ => addS_g _ _ (by decide)) (fun g k _ _ => up_ne _ (by omega)), h5.eq (fun _ _ _ => addS_g _ _ (by omega)) (fun g k _ _ => up_ne _ (by omega)), h6.eq (fun g k _ _ => up_ne _ (by omega)), h7.eq (fun g k _ => up_ne _ (by omega)) (fun k _ => ph_up_no _ _ (by omega))⟩
  · obtain ⟨a1, a2, a3, a4⟩ := h1
    refine ⟨by rw [ph_up_at, addS_c], ?_, ?_, ?_⟩
    · rw [ph_up_no _ _ (by omega), e0 3 (by decide)]; exact a2
    · rw [ph_up_no _ _ (by omega), e0 5 (by decide)]; exact a3
    · rw [ph_up_no _ _ (by omega), e0 11 (by decide)]; exact a4
  · simp only [addS_s]
    rw [up_ne _ (by decide), up_ne _ (by decide), up_ne _ (by decide), up_ne _ (by decide), up_ne _ (by decide), up_ne _ (by decide)]
    rcases (addS_L h0 1 q).mp hq with w | ⟨-, w⟩
    · have hne : ¬ q = (S 0 0 1).toNat := by simp only [LC] at w; omega
      simp only [if_neg hne]
      exact h2.1 q w
    · subst w
      obtain ⟨b1, b2, b3, b4, b5⟩ := h2.2 (S 0 0 1).toNat (by simp only [LC]; omega)
      simp only [if_true]
      exact ⟨e, b1, b2, b3, b4, b5⟩
  · rw [up_ne _ (by decide), up_ne _ (by decide), up_ne _ (by decide), up_ne _ (by decide), up_ne _ (by decide)]
    exact h2.2 q (fun w => hq ((addS_L h0 1 q).mpr (Or.inl w)))
/-- an item more -/
theorem ms_addI (h : MS S τ) (h0 : 0 ≤ S 0 0 3) {x t : Int} {n : Nat} (hn : (n : Int) = S 0 0 3 + 1) : MS (addI S (ivl x t)) (ph_up (ph_up (ph_up τ 20 0 7 (S 0 0 3 + 1)) 29 0 n x) 30 0 n t) := by
  obtain ⟨h1, h2, h3, h4, h5, h6, h7⟩ := h
  have e0 : ∀ k, k ≠ 3 → addI S (ivl x t) 0 0 k = S 0 0 k := fun k hk => addI_0 S _ hk
  have u : ∀ g k, g ≠ 20 → g ≠ 29 → g ≠ 30 → ph_up (ph_up (ph_up τ 20 0 7 (S 0 0 3 + 1)) 29 0 n x) 30 0 n t g 0 k = τ g 0 k := fun g k a b c => by rw [up_ne _ c, up_ne _ b, up_ne _ a]
  have u0 : ∀ k, k ≠ 7 → ph_up (ph_up (ph_up τ 20 0 7 (S 0 0 3 + 1)) 29 0 n x) 30 0 n t 20 0 k = τ 20 0 k := fun k a => by rw [up_ne _ (by decide), up_ne _ (by decide), ph_up_no _ _ (by omega)]
  refine ⟨?_, h2.eq (e0 1 (by decide)) (fun _ _ => addI_g _ _ (by decide)) (fun g k _ _ => u g k (by omega) (by omega) (by omega)), ⟨fun q hq => ?_, fun q hq => ?_⟩, h4.eq (e0 5 (by decide)) (e0 6 (by decide)) (fun _ _ => addI_g _ _ (by decide)) (fun g k _ _ => u g k (by omega) (by omega) (by omega)), h5.eq (fun _ _ _ => addI_g _ _ (by omega)) (fun g k _ _ => u g k (by omega) (by omega) (by omega)), h6.eq (fun g k _ _ => u g k (by omega) (by omega) (by omega)), h7.eq (fun g k _ => u g k (by omega) (by omega) (by omega)) (fun k _ => u0 k (by omega))⟩
  · obtain ⟨a1, a2, a3, a4⟩ := h1
    refine ⟨?_, ?_, ?_, ?_⟩
    · rw [u0 0 (by decide), e0 1 (by decide)]; exact a1
    · rw [up_ne _ (by decide), up_ne _ (by decide), ph_up_at, addI_c]
    · rw [u0 16 (by decide), e0 5 (by decide)]; exact a3
    · rw [u0 30 (by decide), e0 11 (by decide)]; exact a4
  · have hsb : ∀ s, seenb (addI S (ivl x t)) q s ↔ (if q = (S 0 0 3 + 1).toNat then False else seenb S q s) := fun s => by
      unfold seenb
      rw [addI_s]
      by_cases w : q = (S 0 0 3 + 1).toNat
      · rw [if_pos w, if_pos w]; simp [ivl]
      · rw [if_neg w, if_neg w]
    simp only [propext (hsb _)]
    rw [addI_s, addI_s, addI_s, u 31 _ (by decide) (by decide) (by decide)]
    simp only [u 32 _ (by decide) (by decide) (by decide)]
    rcases (addI_L h0 2 q).mp hq with w | ⟨-, w⟩
    · have hne : ¬ q = (S 0 0 3 + 1).toNat := by simp only [LC] at w; omega
      obtain ⟨b1, b2, b3, b4⟩ := h3.1 q w
      rw [if_neg hne, if_neg hne, if_neg hne]
      simp only [if_neg hne]
      refine ⟨?_, ?_, b3, b4⟩
      · rw [up_ne _ (by decide), up_k _ _ (by omega), up_ne _ (by decide)]; exact b1
      · rw [up_k _ _ (by omega), up_ne _ (by decide), up_ne _ (by decide)]; exact b2
    · have hqn : q = n := by omega
      rw [if_pos w, if_pos w, if_pos w]
      simp only [if_pos w]
      obtain ⟨b1, b2⟩ := h3.2 q (by omega)
      refine ⟨?_, ?_, ?_, fun s hs => ?_⟩
      · rw [up_ne _ (by decide), hqn, ph_up_at]; rfl
      · rw [hqn, ph_up_at]; rfl
      · rw [b1]; rfl
      · rw [b2 s hs, ph_b0 (fun z => z)]
  · rw [addI_c] at hq
    rw [u 31 _ (by decide) (by decide) (by decide)]
    simp only [u 32 _ (by decide) (by decide) (by decide)]
    exact h3.2 q (by omega)
end MSPUT
