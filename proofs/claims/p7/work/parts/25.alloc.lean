/-! ===== new objects ===== -/
def JF (S : ph_T) (L : Nat → Nat → Prop) : Prop := ∀ g i : Nat, (g = 1 ∨ g = 2 ∨ g = 3) → L g i → LC S g i
section ALC
variable {S : ph_T} {o : Nat} {L : Nat → Nat → Prop} {ad : Nat → Nat → Nat} {τ : ph_T}
theorem tn_ne (τ : ph_T) {g i g' i' : Nat} (v : Nat → Int) (h : ¬ (g' = g ∧ i' = i)) : ph_tn τ g i v g' i' = τ g' i' := by
  unfold ph_tn
  rw [if_neg h]
theorem an_ne (ad : Nat → Nat → Nat) {g i g' i' : Nat} (a : Nat) (h : ¬ (g' = g ∧ i' = i)) : ph_an ad g i a g' i' = ad g' i' := by
  unfold ph_an
  rw [if_neg h]
theorem tn_at (τ : ph_T) (g i : Nat) (v : Nat → Int) : ph_tn τ g i v g i = v := by
  unfold ph_tn
  rw [if_pos ⟨rfl, rfl⟩]
theorem an_at (ad : Nat → Nat → Nat) (g i a : Nat) : ph_an ad g i a g i = a := by
  unfold ph_an
  rw [if_pos ⟨rfl, rfl⟩]
theorem JR.new (h : JR S o L ad τ) {g i : Nat} (a : Nat) (v : Nat → Int) (hg : g = 1 ∨ g = 2 ∨ g = 3) (hn : ¬ LC S g i) : JR S o (ph_Ln L g i) (ph_an ad g i a) (ph_tn τ g i v) := by
  have hne : ∀ {g' i'}, LC S g' i' → ¬ (g' = g ∧ i' = i) := fun hl e => hn (by obtain ⟨rfl, rfl⟩ := e; exact hl)
  have hz : ∀ g' i', g' ≠ 1 → g' ≠ 2 → g' ≠ 3 → ¬ (g' = g ∧ i' = i) := fun g' i' h1 h2 h3 e => by omega
  refine ⟨fun g' i' hl => Or.inl (h.1 g' i' hl), by rw [an_ne _ _ (hz 0 0 (by decide) (by decide) (by decide))]; exact h.ob, fun g' i' k' hl hd => by rw [tn_ne _ _ (hne hl)]; exact h.dat hl hd, ⟨?_, ?_, ?_, ?_, ?_, ?_⟩, fun i' hl => ?_, fun i' hl => ?_, fun i' hl => ?_⟩
  · rw [tn_ne _ _ (hz 0 0 (by decide) (by decide) (by decide)), an_ne _ _ (hz 4 0 (by decide) (by decide) (by decide))]; exact h.r0
  · rw [tn_ne _ _ (hz 0 0 (by decide) (by decide) (by decide)), an_ne _ _ (hz 5 0 (by decide) (by decide) (by decide))]; exact h.r2
  · rw [tn_ne _ _ (hz 0 0 (by decide) (by decide) (by decide)), an_ne _ _ (hz 6 0 (by decide) (by decide) (by decide))]; exact h.r4
  · rw [tn_ne _ _ (hz 0 0 (by decide) (by decide) (by decide)), an_ne _ _ (hz 7 0 (by decide) (by decide) (by decide))]; exact h.r7
  · rw [tn_ne _ _ (hz 0 0 (by decide) (by decide) (by decide)), an_ne _ _ (hz 8 0 (by decide) (by decide) (by decide))]; exact h.r8
  · rw [tn_ne _ _ (hz 0 0 (by decide) (by decide) (by decide)), an_ne _ _ (hz 9 0 (by decide) (by decide) (by decide))]; exact h.r9
  · rw [tn_ne _ _ (hz 4 0 (by decide) (by decide) (by decide)), an_ne _ _ (hne hl)]; exact h.e4 hl
  · rw [tn_ne _ _ (hz 5 0 (by decide) (by decide) (by decide)), an_ne _ _ (hne hl)]; exact h.e5 hl
  · rw [tn_ne _ _ (hz 6 0 (by decide) (by decide) (by decide)), an_ne _ _ (hne hl)]; exact h.e6 hl
/-- a write into an object that doesn't count yet -/
theorem JR.dead (h : JR S o L ad τ) {g i k : Nat} (z : Int) (hg : g = 1 ∨ g = 2 ∨ g = 3) (hn : ¬ LC S g i) : JR S o L ad (ph_up τ g i k z) := by
  have hz : ∀ g' i' k', g' ≠ 1 → g' ≠ 2 → g' ≠ 3 → ph_up τ g i k z g' i' k' = τ g' i' k' := fun g' i' k' h1 h2 h3 => up_ne τ (by omega)
  refine ⟨h.1, h.2.1, fun g' i' k' hl hd => ?_, ⟨?_, ?_, ?_, ?_, ?_, ?_⟩, fun i' hl => ?_, fun i' hl => ?_, fun i' hl => ?_⟩
  · rw [ph_up_no _ _ (fun e => hn (by obtain ⟨rfl, rfl, -⟩ := e; exact hl))]; exact h.dat hl hd
  · rw [hz _ _ _ (by decide) (by decide) (by decide)]; exact h.r0
  · rw [hz _ _ _ (by decide) (by decide) (by decide)]; exact h.r2
  · rw [hz _ _ _ (by decide) (by decide) (by decide)]; exact h.r4
  · rw [hz _ _ _ (by decide) (by decide) (by decide)]; exact h.r7
  · rw [hz _ _ _ (by decide) (by decide) (by decide)]; exact h.r8
  · rw [hz _ _ _ (by decide) (by decide) (by decide)]; exact h.r9
  · rw [hz _ _ _ (by decide) (by decide) (by decide)]; exact h.e4 hl
  · rw [hz _ _ _ (by decide) (by decide) (by decide)]; exact h.e5 hl
  · rw [hz _ _ _ (by decide) (by decide) (by decide)]; exact h.e6 hl
def addF (S : ph_T) (v : Nat → Int) : ph_T := ph_up (ph_tn S 3 (S 0 0 5 + 1).toNat v) 0 0 5 (S 0 0 5 + 1)
theorem addF_0 (S : ph_T) (v : Nat → Int) {k : Nat} (hk : k ≠ 5) : addF S v 0 0 k = S 0 0 k := by
  unfold addF
  rw [ph_up_no _ _ (by omega), tn_ne _ _ (by omega)]
theorem addF_5 (S : ph_T) (v : Nat → Int) : addF S v 0 0 5 = S 0 0 5 + 1 := ph_up_at _ _ _ _ _
theorem addF_g (S : ph_T) (v : Nat → Int) {g i k : Nat} (hg : g ≠ 0 ∧ g ≠ 3) : addF S v g i k = S g i k := by
  unfold addF
  rw [up_ne _ hg.1, tn_ne _ _ (by omega)]
theorem addF_3 (S : ph_T) (v : Nat → Int) {i k : Nat} : addF S v 3 i k = if i = (S 0 0 5 + 1).toNat then v k else S 3 i k := by
  unfold addF
  rw [up_ne _ (by decide)]
  unfold ph_tn
  by_cases h : i = (S 0 0 5 + 1).toNat
  · rw [if_pos ⟨rfl, h⟩, if_pos h]
  · rw [if_neg (fun q => h q.2), if_neg h]
theorem addF_L {S : ph_T} {v : Nat → Int} (h5 : 0 ≤ S 0 0 5) (g i : Nat) : LC (addF S v) g i ↔ (LC S g i ∨ (g = 3 ∧ i = (S 0 0 5 + 1).toNat)) := by
  by_cases hg : g = 3
  · subst hg
    show (1 ≤ i ∧ (i : Int) ≤ addF S v 0 0 5) ↔ ((1 ≤ i ∧ (i : Int) ≤ S 0 0 5) ∨ (3 = 3 ∧ i = (S 0 0 5 + 1).toNat))
    rw [addF_5]
    generalize S 0 0 5 = q at h5 ⊢
    constructor
    · intro h
      by_cases e : (i : Int) ≤ q
      · exact Or.inl ⟨h.1, e⟩
      · exact Or.inr ⟨rfl, by omega⟩
    · rintro (h | ⟨-, h⟩) <;> omega
  · have e1 : addF S v 0 0 1 = S 0 0 1 := addF_0 S v (by decide)
    have e3 : addF S v 0 0 3 = S 0 0 3 := addF_0 S v (by decide)
    have e : LC (addF S v) g i ↔ LC S g i := by
      unfold LC
      split
      · exact Iff.rfl
      · rw [e1]
      · rw [e3]
      · exact absurd rfl hg
      all_goals exact Iff.rfl
    rw [e]
    exact ⟨Or.inl, fun q => q.elim id (fun q => absurd q.1 hg)⟩
theorem JR.addF (h : JR S o L ad τ) (h5 : 0 ≤ S 0 0 5) {v : Nat → Int} {f : Nat} (hf : (f : Int) = S 0 0 5 + 1) (hL : L 3 f) (hv : ∀ k, k < 7 → τ 3 f k = v k) : JR (addF S v) o L ad (ph_up (ph_up τ 0 0 5 (S 0 0 5 + 1)) 6 0 f (ad 3 f : Int)) := by
  have hfn : f = (S 0 0 5 + 1).toNat := by omega
  have n0 : ∀ k, k ≠ 5 → ph_up (ph_up τ 0 0 5 (S 0 0 5 + 1)) 6 0 f (ad 3 f : Int) 0 0 k = τ 0 0 k := fun k hk => by rw [up_ne _ (by decide), ph_up_no _ _ (by omega)]
  have nn : ∀ g i k, g ≠ 0 → g ≠ 6 → ph_up (ph_up τ 0 0 5 (S 0 0 5 + 1)) 6 0 f (ad 3 f : Int) g i k = τ g i k := fun g i k h1 h2 => by rw [up_ne _ h2, up_ne _ h1]
  refine ⟨fun g i hl => ?_, h.ob, fun g i k hl hd => ?_, ⟨?_, ?_, ?_, ?_, ?_, ?_⟩, fun i hl => ?_, fun i hl => ?_, fun i hl => ?_⟩
  · rcases (addF_L h5 g i).mp hl with q | ⟨rfl, rfl⟩
    · exact h.1 g i q
    · rw [← hfn]; exact hL
  · rcases (addF_L h5 g i).mp hl with q | ⟨rfl, rfl⟩
    · by_cases g0 : g = 0
      · subst g0
        have i0 : i = 0 := q
        subst i0
        by_cases k5 : k = 5
        · subst k5
          rw [addF_5, up_ne _ (by decide), ph_up_at]
        · rw [addF_0 _ _ k5, n0 k k5]; exact h.dat q hd
      · have g6 : g ≠ 6 := fun e => by subst e; cases hd
        rw [nn g i k g0 g6]
        by_cases g3 : g = 3
        · subst g3
          rw [addF_3, if_neg (by simp only [LC] at q; omega)]; exact h.dat q hd
        · rw [addF_g _ _ ⟨g0, g3⟩]; exact h.dat q hd
    · rw [nn 3 _ k (by decide) (by decide), addF_3, if_pos rfl, ← hfn]
      exact hv k (Nat.blt_eq.mp hd)
  · rw [n0 _ (by decide)]; exact h.r0
  · rw [n0 _ (by decide)]; exact h.r2
  · rw [n0 _ (by decide)]; exact h.r4
  · rw [n0 _ (by decide)]; exact h.r7
  · rw [n0 _ (by decide)]; exact h.r8
  · rw [n0 _ (by decide)]; exact h.r9
  · rw [nn 4 0 i (by decide) (by decide)]
    rcases (addF_L h5 1 i).mp hl with q | ⟨q, -⟩
    · exact h.e4 q
    · cases q
  · rw [nn 5 0 i (by decide) (by decide)]
    rcases (addF_L h5 2 i).mp hl with q | ⟨q, -⟩
    · exact h.e5 q
    · cases q
  · rcases (addF_L h5 3 i).mp hl with q | ⟨-, q⟩
    · have hne : ¬ i = f := by simp only [LC] at q; omega
      rw [ph_up_no _ _ (fun e => hne e.2.2), up_ne _ (by decide)]
      exact h.e6 q
    · have e : i = f := by omega
      subst e
      exact ph_up_at _ _ _ _ _
theorem JF.addF (hF : JF S L) (h5 : 0 ≤ S 0 0 5) (v : Nat → Int) {f : Nat} (hf : (f : Int) = S 0 0 5 + 1) : JF (addF S v) (ph_Ln L 3 f) := fun g i hg hl => by
  refine (addF_L h5 g i).mpr ?_
  rcases hl with q | ⟨rfl, rfl⟩
  · exact Or.inl (hF g i hg q)
  · exact Or.inr ⟨rfl, by omega⟩
theorem IV.addF (h : IV S) (h4 : S 0 0 5 < 40) {v : Nat → Int} (hv : 1 ≤ v 0 ∧ v 0 ≤ 6 ∧ -1 ≤ v 1 ∧ v 1 ≤ 7 ∧ 0 ≤ v 2 ∧ v 2 ≤ S 0 0 11 ∧ (v 3 = 0 ∨ v 3 = 1) ∧ (v 4 = 0 ∨ v 4 = 1) ∧ 0 ≤ v 5 ∧ v 5 < 2305843009213693952 ∧ 0 ≤ v 6 ∧ v 6 ≤ 3) : IV (addF S v) := by
  have hc := h.c
  have hL := fun g i => addF_L (S := S) (v := v) (by omega) g i
  refine ⟨?_, fun j hj => ?_, fun j hj => ?_, fun j hj => ?_, fun j hj => ?_, fun j hj => ?_⟩
  · rw [addF_0 _ _ (by decide), addF_0 _ _ (by decide), addF_5, addF_0 _ _ (by decide), addF_0 _ _ (by decide), addF_0 _ _ (by decide)]
    omega
  · rcases (hL 1 j).mp hj with q | ⟨q, -⟩
    · simp only [addF_g _ _ (show (1 : Nat) ≠ 0 ∧ (1 : Nat) ≠ 3 by decide)]
      rw [addF_0 _ _ (by decide), addF_0 _ _ (by decide)]
      exact h.s q
    · cases q
  · rcases (hL 2 j).mp hj with q | ⟨q, -⟩
    · simp only [addF_g _ _ (show (2 : Nat) ≠ 0 ∧ (2 : Nat) ≠ 3 by decide)]
      exact h.i q
    · cases q
  · simp only [addF_3]
    rw [addF_0 _ _ (by decide)]
    by_cases e : j = (S 0 0 5 + 1).toNat
    · simp only [if_pos e]
      exact hv
    · simp only [if_neg e]
      rcases (hL 3 j).mp hj with q | ⟨-, q⟩
      · exact h.f q
      · exact absurd q e
  · simp only [addF_g _ _ (show (7 : Nat) ≠ 0 ∧ (7 : Nat) ≠ 3 by decide), addF_g _ _ (show (8 : Nat) ≠ 0 ∧ (8 : Nat) ≠ 3 by decide)]
    exact h.r hj
  · simp only [addF_g _ _ (show (9 : Nat) ≠ 0 ∧ (9 : Nat) ≠ 3 by decide)]
    rw [addF_0 _ _ (by decide)] at hj
    exact h.l hj
end ALC
