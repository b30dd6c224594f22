/-! ===== the other side's picture while it is made, and as it is written ===== -/
theorem mrf_lt {k : Nat} (h : mrf k = true) : k < 33 := by
  unfold mrf at h
  simp only [Bool.or_eq_true, Bool.and_eq_true, Nat.ble_eq, Nat.beq_eq] at h
  omega
def MP (P : Nat → Bool) (M : ph_T) (o : Nat) (L : Nat → Nat → Prop) (ad : Nat → Nat → Nat) (τ : ph_T) : Prop :=
  L 20 0 ∧ ad 20 0 = o ∧ (∀ k : Nat, mrf k = true → P k = true → L (21 + k) 0 ∧ τ 20 0 k = (ad (21 + k) 0 : Int) ∧ ∀ j : Nat, τ (21 + k) 0 j = M (21 + k) 0 j) ∧ (∀ k : Nat, mrf k = false → τ 20 0 k = M 20 0 k) ∧ ∀ g i : Nat, 20 < g → (∀ k : Nat, P k = true → g ≠ 21 + k) → ¬ L g i
def pad (P : Nat → Bool) (k : Nat) : Nat → Bool := fun q => Nat.beq q k || P q
theorem tn_up (τ : ph_T) (g i : Nat) (f : Nat → Int) (j : Nat) (z : Int) : ph_up (ph_tn τ g i f) g i j z = ph_tn τ g i (ph_u1 f j z) := by
  funext g' i' j'
  unfold ph_up ph_tn ph_u1
  by_cases h1 : g' = g ∧ i' = i
  · rw [if_pos h1]
    by_cases h2 : j' = j
    · rw [if_pos ⟨h1.1, h1.2, h2⟩]
      simp [h1, h2]
    · rw [if_neg (fun q => h2 q.2.2)]
      simp [h1, h2]
  · rw [if_neg (fun q => h1 ⟨q.1, q.2.1⟩)]
    simp [h1]
section MPS
variable {P : Nat → Bool} {M : ph_T} {o : Nat} {L : Nat → Nat → Prop} {ad : Nat → Nat → Nat} {τ : ph_T}
theorem MP.fr (h : MP P M o L ad τ) {k : Nat} (hk : mrf k = true) (hP : P k = false) (i : Nat) : ¬ L (21 + k) i := h.2.2.2.2 (21 + k) i (by omega) (fun k' h1 h2 => by
  have e : k = k' := by omega
  subst e
  rw [hP] at h1
  cases h1)
theorem MP.blk (h : MP P M o L ad τ) {k : Nat} (a : Nat) (f : Nat → Int) (hk : mrf k = true) (hP : P k = false) : MP (pad P k) (ph_tn M (21 + k) 0 f) o (ph_Ln L (21 + k) 0) (ph_an ad (21 + k) 0 a) (ph_up (ph_tn τ (21 + k) 0 f) 20 0 k (a : Int)) := by
  obtain ⟨h1, h2, h3, h4, h5⟩ := h
  refine ⟨Or.inl h1, by rw [an_ne _ _ (by omega)]; exact h2, fun k' hk' hP' => ?_, fun k' hk' => ?_, fun g i hg hq => ?_⟩
  · by_cases e : k' = k
    · subst e
      refine ⟨Or.inr ⟨rfl, rfl⟩, by rw [ph_up_at, an_at], fun j => ?_⟩
      rw [up_ne _ (by omega), tn_at, tn_at]
    · have hP2 : P k' = true := by
        have := hP'
        unfold pad at this
        rw [Bool.or_eq_true] at this
        exact this.resolve_left (fun q => e (Nat.eq_of_beq_eq_true q))
      obtain ⟨g1, g2, g3⟩ := h3 k' hk' hP2
      refine ⟨Or.inl g1, ?_, fun j => ?_⟩
      · rw [ph_up_no _ _ (by omega), tn_ne _ _ (by omega), an_ne _ _ (by omega)]
        exact g2
      · rw [up_ne _ (by omega), tn_ne _ _ (by omega), tn_ne _ _ (by omega)]
        exact g3 j
  · have e : k' ≠ k := fun q => by
      subst q
      rw [hk] at hk'
      cases hk'
    rw [ph_up_no _ _ (by omega), tn_ne _ _ (by omega), tn_ne _ _ (by omega)]
    exact h4 k' hk'
  · intro q
    rcases q with q | q
    · exact h5 g i hg (fun k' hk' => hq k' (by unfold pad; rw [hk', Bool.or_true])) q
    · exact hq k (by unfold pad; rw [Nat.beq_refl, Bool.true_or]) q.1
theorem MP.same {M1 : ph_T} (h : MP P M o L ad τ) (e : ∀ g i j, M g i j = M1 g i j) : MP P M1 o L ad τ := by
  have : M = M1 := by
    funext g i j
    exact e g i j
  rw [← this]
  exact h
/-- an array as new holds what M has there -/
theorem MP.blk0 (h : MP P M o L ad τ) {k : Nat} (a : Nat) (hk : mrf k = true) (hP : P k = false) (h0 : ∀ j, M (21 + k) 0 j = 0) : MP (pad P k) M o (ph_Ln L (21 + k) 0) (ph_an ad (21 + k) 0 a) (ph_up (ph_tn τ (21 + k) 0 (fun _ => 0)) 20 0 k (a : Int)) :=
  (h.blk a (fun _ => 0) hk hP).same (fun g i j => by
    by_cases e : g = 21 + k ∧ i = 0
    · obtain ⟨rfl, rfl⟩ := e
      rw [tn_at, h0]
    · rw [tn_ne _ _ e])
theorem MP.puta (h : MP P M o L ad τ) {k j : Nat} {z : Int} (hk : mrf k = true) : MP P (ph_up M (21 + k) 0 j z) o L ad (ph_up τ (21 + k) 0 j z) := by
  obtain ⟨h1, h2, h3, h4, h5⟩ := h
  refine ⟨h1, h2, fun k' hk' hP' => ⟨(h3 k' hk' hP').1, by rw [up_ne _ (by omega)]; exact (h3 k' hk' hP').2.1, fun j' => ?_⟩, fun k' hk' => by rw [up_ne _ (by omega), up_ne _ (by omega)]; exact h4 k' hk', h5⟩
  by_cases e : 21 + k' = 21 + k ∧ j' = j
  · obtain ⟨e1, rfl⟩ := e
    rw [e1, ph_up_at, ph_up_at]
  · rw [ph_up_no _ _ (by omega), ph_up_no _ _ (by omega)]
    exact (h3 k' hk' hP').2.2 j'
theorem MP.rf (h : MP P M o L ad τ) {k : Nat} (hk : mrf k = true) (hP : P k = true) : τ 20 0 k = (ad (21 + k) 0 : Int) := (h.2.2.1 k hk hP).2.1
theorem MP.ar (h : MP P M o L ad τ) {k : Nat} (hk : mrf k = true) (hP : P k = true) : L (21 + k) 0 := (h.2.2.1 k hk hP).1
theorem MP.mr (h : MP P M o L ad τ) (hP : ∀ k, k < 33 → mrf k = true → P k = true) : MR M o L ad τ := ⟨h.1, h.2.1, fun k hk => h.2.2.1 k hk (hP k (mrf_lt hk) hk), h.2.2.2.1⟩
/-- a number of an array is written -/
theorem MR.puta (h : MR M o L ad τ) {k j : Nat} (z : Int) (hk : mrf k = true) : MR (ph_up M (21 + k) 0 j z) o L ad (ph_up τ (21 + k) 0 j z) := by
  obtain ⟨h1, h2, h3, h4⟩ := h
  refine ⟨h1, h2, fun k' hk' => ⟨(h3 k' hk').1, by rw [up_ne _ (by omega)]; exact (h3 k' hk').2.1, fun j' => ?_⟩, fun k' hk' => by rw [up_ne _ (by omega), up_ne _ (by omega)]; exact h4 k' hk'⟩
  by_cases e : 21 + k' = 21 + k ∧ j' = j
  · obtain ⟨e1, rfl⟩ := e
    rw [e1, ph_up_at, ph_up_at]
  · rw [ph_up_no _ _ (by omega), ph_up_no _ _ (by omega)]
    exact (h3 k' hk').2.2 j'
/-- a number of the object is written -/
theorem MR.putf (h : MR M o L ad τ) {k : Nat} (z : Int) (hk : mrf k = false) : MR (ph_up M 20 0 k z) o L ad (ph_up τ 20 0 k z) := by
  obtain ⟨h1, h2, h3, h4⟩ := h
  have ne : ∀ k', mrf k' = true → k' ≠ k := fun k' hk' e => by
    subst e
    rw [hk] at hk'
    cases hk'
  refine ⟨h1, h2, fun k' hk' => ⟨(h3 k' hk').1, by rw [ph_up_no _ _ (fun q => ne k' hk' q.2.2)]; exact (h3 k' hk').2.1, fun j' => by rw [up_ne _ (by omega), up_ne _ (by omega)]; exact (h3 k' hk').2.2 j'⟩, fun k' hk' => ?_⟩
  by_cases e : k' = k
  · subst e
    rw [ph_up_at, ph_up_at]
  · rw [ph_up_no _ _ (fun q => e q.2.2), ph_up_no _ _ (fun q => e q.2.2)]
    exact h4 k' hk'
end MPS
