/-! ===== sensor, item ===== -/
def addS (S : ph_T) (v : Nat → Int) : ph_T := ph_up (ph_tn S 1 (S 0 0 1).toNat v) 0 0 1 (S 0 0 1 + 1)
theorem addS_0 (S : ph_T) (v : Nat → Int) {k : Nat} (hk : k ≠ 1) : addS S v 0 0 k = S 0 0 k := by
  unfold addS
  rw [ph_up_no _ _ (by omega), tn_ne _ _ (by omega)]
theorem addS_c (S : ph_T) (v : Nat → Int) : addS S v 0 0 1 = S 0 0 1 + 1 := ph_up_at _ _ _ _ _
theorem addS_g (S : ph_T) (v : Nat → Int) {g i k : Nat} (hg : g ≠ 0 ∧ g ≠ 1) : addS S v g i k = S g i k := by
  unfold addS
  rw [up_ne _ hg.1, tn_ne _ _ (by omega)]
theorem addS_s (S : ph_T) (v : Nat → Int) {i k : Nat} : addS S v 1 i k = if i = (S 0 0 1).toNat then v k else S 1 i k := by
  unfold addS
  rw [up_ne _ (by decide)]
  unfold ph_tn
  by_cases h : i = (S 0 0 1).toNat
  · rw [if_pos ⟨rfl, h⟩, if_pos h]
  · rw [if_neg (fun q => h q.2), if_neg h]
theorem addS_L {S : ph_T} {v : Nat → Int} (h0 : 0 ≤ S 0 0 1) (g i : Nat) : LC (addS S v) g i ↔ (LC S g i ∨ (g = 1 ∧ i = (S 0 0 1).toNat)) := by
  by_cases hg : g = 1
  · subst hg
    show ((i : Int) < addS S v 0 0 1) ↔ (((i : Int) < S 0 0 1) ∨ (1 = 1 ∧ i = (S 0 0 1).toNat))
    rw [addS_c]
    generalize S 0 0 1 = q at h0 ⊢
    constructor
    · intro h
      by_cases e : (i : Int) < q
      · exact Or.inl e
      · exact Or.inr ⟨rfl, by omega⟩
    · rintro (h | ⟨-, h⟩) <;> omega
  · have e1 : addS S v 0 0 3 = S 0 0 3 := addS_0 S v (by decide)
    have e2 : addS S v 0 0 5 = S 0 0 5 := addS_0 S v (by decide)
    have e : LC (addS S v) g i ↔ LC S g i := by
      unfold LC
      split
      · exact Iff.rfl
      · exact absurd rfl hg
      · rw [e1]
      · rw [e2]
      all_goals exact Iff.rfl
    rw [e]
    exact ⟨Or.inl, fun q => q.elim id (fun q => absurd q.1 hg)⟩
theorem JR.addS {S : ph_T} {o : Nat} {L L' : Nat → Nat → Prop} {ad ad' : Nat → Nat → Nat} {τ τ' : ph_T} (h : JR S o L ad τ) (h0 : 0 ≤ S 0 0 1) {v : Nat → Int} {f : Nat} (hf : (f : Int) = S 0 0 1) (hL : ∀ g i, L g i → L' g i) (hA : ∀ g i, LC S g i → ad' g i = ad g i) (hLf : L' 1 f)
    (e : ∀ g i k, ¬ (g = 0 ∧ i = 0 ∧ k = 1) → ¬ (g = 4 ∧ i = 0 ∧ k = f) → ¬ (g = 1 ∧ i = f) → τ' g i k = τ g i k) (e1 : τ' 0 0 1 = S 0 0 1 + 1) (e2 : τ' 4 0 f = (ad' 1 f : Int)) (e3 : ∀ k, k < 6 → τ' 1 f k = v k) : JR (addS S v) o L' ad' τ' := by
  have hfn : f = (S 0 0 1).toNat := by omega
  have r : ∀ k, k ≠ 1 → τ' 0 0 k = τ 0 0 k := fun k hk => e 0 0 k (by omega) (by omega) (by omega)
  refine ⟨fun g i hl => ?_, by rw [hA 0 0 rfl]; exact h.ob, fun g i k hl hd => ?_, ⟨?_, ?_, ?_, ?_, ?_, ?_⟩, fun i hl => ?_, fun i hl => ?_, fun i hl => ?_⟩
  · rcases (addS_L h0 g i).mp hl with q | ⟨rfl, rfl⟩
    · exact hL g i (h.1 g i q)
    · rw [← hfn]; exact hLf
  · rcases (addS_L h0 g i).mp hl with q | ⟨rfl, rfl⟩
    · by_cases g0 : g = 0
      · subst g0
        have i0 : i = 0 := q
        subst i0
        by_cases k5 : k = 1
        · subst k5
          rw [addS_c, e1]
        · rw [addS_0 _ _ k5, r k k5]; exact h.dat q hd
      · have ga : g ≠ 4 := fun z => by subst z; cases hd
        by_cases g3 : g = 1
        · subst g3
          have hne : ¬ i = f := by simp only [LC] at q; omega
          rw [addS_s, if_neg (by omega), e _ _ _ (by omega) (by omega) (by omega)]; exact h.dat q hd
        · rw [addS_g _ _ ⟨g0, g3⟩, e _ _ _ (by omega) (by omega) (by omega)]; exact h.dat q hd
    · rw [addS_s, if_pos rfl, ← hfn]
      exact e3 k (Nat.blt_eq.mp hd)
  · rw [r 0 (by decide), hA 4 0 rfl]; exact h.r0
  · rw [r 2 (by decide), hA 5 0 rfl]; exact h.r2
  · rw [r 4 (by decide), hA 6 0 rfl]; exact h.r4
  · rw [r 7 (by decide), hA 7 0 rfl]; exact h.r7
  · rw [r 8 (by decide), hA 8 0 rfl]; exact h.r8
  · rw [r 9 (by decide), hA 9 0 rfl]; exact h.r9
  · rcases (addS_L h0 1 i).mp hl with q | ⟨-, q⟩
    · have hne : ¬ i = f := by simp only [LC] at q; omega
      rw [e _ _ _ (by omega) (by omega) (by omega), hA 1 i q]
      exact h.e4 q
    · have z : i = f := by omega
      subst z
      exact e2
  · rcases (addS_L h0 2 i).mp hl with q | ⟨q, -⟩
    · rw [e _ _ _ (by omega) (by omega) (by omega), hA 2 i q]
      exact h.e5 q
    · cases q
  · rcases (addS_L h0 3 i).mp hl with q | ⟨q, -⟩
    · rw [e _ _ _ (by omega) (by omega) (by omega), hA 3 i q]
      exact h.e6 q
    · cases q
theorem JF.addS {S : ph_T} {L : Nat → Nat → Prop} (hF : JF S L) (h0 : 0 ≤ S 0 0 1) (v : Nat → Int) {f : Nat} (hf : (f : Int) = S 0 0 1) : JF (addS S v) (ph_Ln L 1 f) := fun g i hg hl => by
  refine (addS_L h0 g i).mpr ?_
  rcases hl with q | ⟨rfl, rfl⟩
  · exact Or.inl (hF g i hg q)
  · exact Or.inr ⟨rfl, by omega⟩
def addI (S : ph_T) (v : Nat → Int) : ph_T := ph_up (ph_tn S 2 (S 0 0 3 + 1).toNat v) 0 0 3 (S 0 0 3 + 1)
theorem addI_0 (S : ph_T) (v : Nat → Int) {k : Nat} (hk : k ≠ 3) : addI S v 0 0 k = S 0 0 k := by
  unfold addI
  rw [ph_up_no _ _ (by omega), tn_ne _ _ (by omega)]
theorem addI_c (S : ph_T) (v : Nat → Int) : addI S v 0 0 3 = S 0 0 3 + 1 := ph_up_at _ _ _ _ _
theorem addI_g (S : ph_T) (v : Nat → Int) {g i k : Nat} (hg : g ≠ 0 ∧ g ≠ 2) : addI S v g i k = S g i k := by
  unfold addI
  rw [up_ne _ hg.1, tn_ne _ _ (by omega)]
theorem addI_s (S : ph_T) (v : Nat → Int) {i k : Nat} : addI S v 2 i k = if i = (S 0 0 3 + 1).toNat then v k else S 2 i k := by
  unfold addI
  rw [up_ne _ (by decide)]
  unfold ph_tn
  by_cases h : i = (S 0 0 3 + 1).toNat
  · rw [if_pos ⟨rfl, h⟩, if_pos h]
  · rw [if_neg (fun q => h q.2), if_neg h]
theorem addI_L {S : ph_T} {v : Nat → Int} (h0 : 0 ≤ S 0 0 3) (g i : Nat) : LC (addI S v) g i ↔ (LC S g i ∨ (g = 2 ∧ i = (S 0 0 3 + 1).toNat)) := by
  by_cases hg : g = 2
  · subst hg
    show (1 ≤ i ∧ (i : Int) ≤ addI S v 0 0 3) ↔ ((1 ≤ i ∧ (i : Int) ≤ S 0 0 3) ∨ (2 = 2 ∧ i = (S 0 0 3 + 1).toNat))
    rw [addI_c]
    generalize S 0 0 3 = q at h0 ⊢
    constructor
    · intro h
      by_cases e : (i : Int) ≤ q
      · exact Or.inl ⟨h.1, e⟩
      · exact Or.inr ⟨rfl, by omega⟩
    · rintro (h | ⟨-, h⟩) <;> omega
  · have e1 : addI S v 0 0 1 = S 0 0 1 := addI_0 S v (by decide)
    have e2 : addI S v 0 0 5 = S 0 0 5 := addI_0 S v (by decide)
    have e : LC (addI S v) g i ↔ LC S g i := by
      unfold LC
      split
      · exact Iff.rfl
      · rw [e1]
      · exact absurd rfl hg
      · rw [e2]
      all_goals exact Iff.rfl
    rw [e]
    exact ⟨Or.inl, fun q => q.elim id (fun q => absurd q.1 hg)⟩
theorem JR.addI {S : ph_T} {o : Nat} {L L' : Nat → Nat → Prop} {ad ad' : Nat → Nat → Nat} {τ τ' : ph_T} (h : JR S o L ad τ) (h0 : 0 ≤ S 0 0 3) {v : Nat → Int} {f : Nat} (hf : (f : Int) = S 0 0 3 + 1) (hL : ∀ g i, L g i → L' g i) (hA : ∀ g i, LC S g i → ad' g i = ad g i) (hLf : L' 2 f)
    (e : ∀ g i k, ¬ (g = 0 ∧ i = 0 ∧ k = 3) → ¬ (g = 5 ∧ i = 0 ∧ k = f) → ¬ (g = 2 ∧ i = f) → τ' g i k = τ g i k) (e1 : τ' 0 0 3 = S 0 0 3 + 1) (e2 : τ' 5 0 f = (ad' 2 f : Int)) (e3 : ∀ k, k < 7 → τ' 2 f k = v k) : JR (addI S v) o L' ad' τ' := by
  have hfn : f = (S 0 0 3 + 1).toNat := by omega
  have r : ∀ k, k ≠ 3 → τ' 0 0 k = τ 0 0 k := fun k hk => e 0 0 k (by omega) (by omega) (by omega)
  refine ⟨fun g i hl => ?_, by rw [hA 0 0 rfl]; exact h.ob, fun g i k hl hd => ?_, ⟨?_, ?_, ?_, ?_, ?_, ?_⟩, fun i hl => ?_, fun i hl => ?_, fun i hl => ?_⟩
  · rcases (addI_L h0 g i).mp hl with q | ⟨rfl, rfl⟩
    · exact hL g i (h.1 g i q)
    · rw [← hfn]; exact hLf
  · rcases (addI_L h0 g i).mp hl with q | ⟨rfl, rfl⟩
    · by_cases g0 : g = 0
      · subst g0
        have i0 : i = 0 := q
        subst i0
        by_cases k5 : k = 3
        · subst k5
          rw [addI_c, e1]
        · rw [addI_0 _ _ k5, r k k5]; exact h.dat q hd
      · have ga : g ≠ 5 := fun z => by subst z; cases hd
        by_cases g3 : g = 2
        · subst g3
          have hne : ¬ i = f := by simp only [LC] at q; omega
          rw [addI_s, if_neg (by omega), e _ _ _ (by omega) (by omega) (by omega)]; exact h.dat q hd
        · rw [addI_g _ _ ⟨g0, g3⟩, e _ _ _ (by omega) (by omega) (by omega)]; exact h.dat q hd
    · rw [addI_s, if_pos rfl, ← hfn]
      exact e3 k (Nat.blt_eq.mp hd)
  · rw [r 0 (by decide), hA 4 0 rfl]; exact h.r0
  · rw [r 2 (by decide), hA 5 0 rfl]; exact h.r2
  · rw [r 4 (by decide), hA 6 0 rfl]; exact h.r4
  · rw [r 7 (by decide), hA 7 0 rfl]; exact h.r7
  · rw [r 8 (by decide), hA 8 0 rfl]; exact h.r8
  · rw [r 9 (by decide), hA 9 0 rfl]; exact h.r9
  · rcases (addI_L h0 1 i).mp hl with q | ⟨q, -⟩
    · rw [e _ _ _ (by omega) (by omega) (by omega), hA 1 i q]
      exact h.e4 q
    · cases q
  · rcases (addI_L h0 2 i).mp hl with q | ⟨-, q⟩
    · have hne : ¬ i = f := by simp only [LC] at q; omega
      rw [e _ _ _ (by omega) (by omega) (by omega), hA 2 i q]
      exact h.e5 q
    · have z : i = f := by omega
      subst z
      exact e2
  · rcases (addI_L h0 3 i).mp hl with q | ⟨q, -⟩
    · rw [e _ _ _ (by omega) (by omega) (by omega), hA 3 i q]
      exact h.e6 q
    · cases q
theorem JF.addI {S : ph_T} {L : Nat → Nat → Prop} (hF : JF S L) (h0 : 0 ≤ S 0 0 3) (v : Nat → Int) {f : Nat} (hf : (f : Int) = S 0 0 3 + 1) : JF (addI S v) (ph_Ln L 2 f) := fun g i hg hl => by
  refine (addI_L h0 g i).mpr ?_
  rcases hl with q | ⟨rfl, rfl⟩
  · exact Or.inl (hF g i hg q)
  · exact Or.inr ⟨rfl, by omega⟩
theorem iv_addS {S : ph_T} (h : IV S) (h8 : S 0 0 1 < 8) {v : Nat → Int} (hv : 100 ≤ v 0 ∧ v 0 ≤ 100000 ∧ (v 2 = 0 ∨ v 2 = 1) ∧ 0 ≤ v 3 ∧ v 3 ≤ S 0 0 3 ∧ 0 ≤ v 4 ∧ v 4 ≤ S 0 0 11 ∧ (v 5 = 0 ∨ v 5 = 1)) : IV (addS S v) := by
  have hc := h.c
  have hL := fun g i => addS_L (S := S) (v := v) (by omega) g i
  refine ⟨?_, fun j hj => ?_, fun j hj => ?_, fun j hj => ?_, fun j hj => ?_, fun j hj => ?_⟩
  · rw [addS_c, addS_0 _ _ (by decide), addS_0 _ _ (by decide), addS_0 _ _ (by decide), addS_0 _ _ (by decide), addS_0 _ _ (by decide)]
    omega
  · simp only [addS_s]
    rw [addS_0 _ _ (by decide), addS_0 _ _ (by decide)]
    by_cases e : j = (S 0 0 1).toNat
    · simp only [if_pos e]
      exact hv
    · simp only [if_neg e]
      rcases (hL 1 j).mp hj with q | ⟨-, q⟩
      · exact h.s q
      · exact absurd q e
  · rcases (hL 2 j).mp hj with q | ⟨q, -⟩
    · simp only [addS_g _ _ (show (2 : Nat) ≠ 0 ∧ (2 : Nat) ≠ 1 by decide)]
      exact h.i q
    · cases q
  · rcases (hL 3 j).mp hj with q | ⟨q, -⟩
    · simp only [addS_g _ _ (show (3 : Nat) ≠ 0 ∧ (3 : Nat) ≠ 1 by decide)]
      rw [addS_0 _ _ (by decide)]
      exact h.f q
    · cases q
  · simp only [addS_g _ _ (show (7 : Nat) ≠ 0 ∧ (7 : Nat) ≠ 1 by decide), addS_g _ _ (show (8 : Nat) ≠ 0 ∧ (8 : Nat) ≠ 1 by decide)]
    exact h.r hj
  · simp only [addS_g _ _ (show (9 : Nat) ≠ 0 ∧ (9 : Nat) ≠ 1 by decide)]
    rw [addS_0 _ _ (by decide)] at hj
    exact h.l hj
theorem iv_addI {S : ph_T} (h : IV S) (h8 : S 0 0 3 < 60) {v : Nat → Int} (hv : 50 ≤ v 0 ∧ v 0 ≤ 1000 ∧ 0 ≤ v 1 ∧ v 1 ≤ 1000000000 ∧ 0 ≤ v 2 ∧ v 2 ≤ 40 ∧ (v 3 = 0 ∨ v 3 = 1) ∧ (v 4 = 0 ∨ v 4 = 1) ∧ 0 ≤ v 5 ∧ v 5 ≤ 2 ∧ 0 ≤ v 6 ∧ v 6 < 256) : IV (addI S v) := by
  have hc := h.c
  have hL := fun g i => addI_L (S := S) (v := v) (by omega) g i
  refine ⟨?_, fun j hj => ?_, fun j hj => ?_, fun j hj => ?_, fun j hj => ?_, fun j hj => ?_⟩
  · rw [addI_c, addI_0 _ _ (by decide), addI_0 _ _ (by decide), addI_0 _ _ (by decide), addI_0 _ _ (by decide), addI_0 _ _ (by decide)]
    omega
  · rcases (hL 1 j).mp hj with q | ⟨q, -⟩
    · simp only [addI_g _ _ (show (1 : Nat) ≠ 0 ∧ (1 : Nat) ≠ 2 by decide)]
      rw [addI_c, addI_0 _ _ (by decide)]
      have := h.s q
      omega
    · cases q
  · simp only [addI_s]
    by_cases e : j = (S 0 0 3 + 1).toNat
    · simp only [if_pos e]
      exact hv
    · simp only [if_neg e]
      rcases (hL 2 j).mp hj with q | ⟨-, q⟩
      · exact h.i q
      · exact absurd q e
  · rcases (hL 3 j).mp hj with q | ⟨q, -⟩
    · simp only [addI_g _ _ (show (3 : Nat) ≠ 0 ∧ (3 : Nat) ≠ 2 by decide)]
      rw [addI_0 _ _ (by decide)]
      exact h.f q
    · cases q
  · simp only [addI_g _ _ (show (7 : Nat) ≠ 0 ∧ (7 : Nat) ≠ 2 by decide), addI_g _ _ (show (8 : Nat) ≠ 0 ∧ (8 : Nat) ≠ 2 by decide)]
    exact h.r hj
  · simp only [addI_g _ _ (show (9 : Nat) ≠ 0 ∧ (9 : Nat) ≠ 2 by decide)]
    rw [addI_0 _ _ (by decide)] at hj
    exact h.l hj
def svl (x : Int) : Nat → Int := fun k => if k = 0 then x else 0
def ivl (x t : Int) : Nat → Int := fun k => if k = 0 then x else if k = 1 then t else 0
def bef (S : ph_T) : Int := if S 0 0 1 = 0 then 0 else S 1 (S 0 0 1 - 1).toNat 0
def senOk (S : ph_T) (x : Int) : Prop := bef S + 100 ≤ x ∧ x ≤ 100000 ∧ S 0 0 3 = 0 ∧ S 0 0 1 < 8
noncomputable def senS (S : ph_T) (x : Int) : ph_T := @ite ph_T (senOk S x) (Classical.propDecidable _) (addS S (svl x)) S
theorem senS_t {S : ph_T} {x : Int} (h : senOk S x) : senS S x = addS S (svl x) := if_pos h
theorem senS_f {S : ph_T} {x : Int} (h : ¬ senOk S x) : senS S x = S := if_neg h
def senv (S : ph_T) (x : Int) : Int := if x < bef S + 100 ∨ 100000 < x then -12 else if ¬ S 0 0 3 = 0 then -13 else if 8 ≤ S 0 0 1 then -14 else S 0 0 1
theorem bef_r {S : ph_T} (h : IV S) : 0 ≤ bef S ∧ bef S ≤ 100000 := by
  have hc := h.c
  unfold bef
  split
  · omega
  · have := h.s (show LC S 1 (S 0 0 1 - 1).toNat by simp only [LC]; omega)
    omega
theorem iv_sen {S : ph_T} (h : IV S) {x : Int} : IV (senS S x) := by
  have hc := h.c
  have hb := bef_r h
  rcases Classical.em (senOk S x) with q | q
  · rw [senS_t q]
    obtain ⟨q1, q2, q3, q4⟩ := q
    exact iv_addS h q4 ⟨by show 100 ≤ x; omega, by show x ≤ 100000; omega, Or.inl rfl, Int.le_refl 0, by show (0 : Int) ≤ _; omega, Int.le_refl 0, by show (0 : Int) ≤ _; omega, Or.inl rfl⟩
  · rw [senS_f q]
    exact h
def itOk (S : ph_T) (x t : Int) : Prop := (50 ≤ x ∧ x ≤ 1000 ∧ (S 0 0 11 ≤ t ∧ t ≤ 1000000000) ∧ earliest S ≤ t) ∧ (runs S ∧ ¬ S 0 0 1 = 0) ∧ S 0 0 3 < 60
noncomputable def itS (S : ph_T) (x t : Int) : ph_T := @ite ph_T (itOk S x t) (Classical.propDecidable _) (addI S (ivl x t)) S
theorem itS_t {S : ph_T} {x t : Int} (h : itOk S x t) : itS S x t = addI S (ivl x t) := if_pos h
theorem itS_f {S : ph_T} {x t : Int} (h : ¬ itOk S x t) : itS S x t = S := if_neg h
noncomputable def itv (S : ph_T) (x t : Int) : Int := if ¬ (50 ≤ x ∧ x ≤ 1000 ∧ (S 0 0 11 ≤ t ∧ t ≤ 1000000000) ∧ earliest S ≤ t) then -12 else @ite Int (runs S ∧ ¬ S 0 0 1 = 0) (Classical.propDecidable _) (if 60 ≤ S 0 0 3 then -14 else S 0 0 3 + 1) (-13)
theorem earliest_r {S : ph_T} (h : IV S) : 0 ≤ earliest S ∧ earliest S ≤ 1000001030 := by
  have hc := h.c
  unfold earliest
  split
  · omega
  · have := h.i (show LC S 2 (S 0 0 3).toNat by simp only [LC]; omega)
    omega
theorem iv_it {S : ph_T} (h : IV S) {x t : Int} : IV (itS S x t) := by
  have hc := h.c
  rcases Classical.em (itOk S x t) with q | q
  · rw [itS_t q]
    obtain ⟨⟨q1, q2, q3, q4⟩, q5, q6⟩ := q
    exact iv_addI h q6 ⟨q1, q2, by show 0 ≤ t; omega, by show t ≤ 1000000000; omega, Int.le_refl 0, by show (0 : Int) ≤ 40; omega, Or.inl rfl, Or.inl rfl, Int.le_refl 0, by show (0 : Int) ≤ 2; omega, Int.le_refl 0, by show (0 : Int) < 256; omega⟩
  · rw [itS_f q]
    exact h
