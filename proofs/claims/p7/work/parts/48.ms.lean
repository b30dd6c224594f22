/-! ===== the other side's numbers against the class's ===== -/
def stm (z : Int) : Int := if z = 1 then 2 else if z = 2 then 1 else z
def MC (S τ : ph_T) : Prop := τ 20 0 0 = S 0 0 1 ∧ τ 20 0 7 = S 0 0 3 ∧ τ 20 0 16 = S 0 0 5 ∧ τ 20 0 30 = S 0 0 11
def MSS (S τ : ph_T) : Prop := (∀ s : Nat, LC S 1 s → τ 22 0 s = S 1 s 0 ∧ τ 23 0 s = S 1 s 2 ∧ τ 24 0 s = S 1 s 1 ∧ τ 25 0 s = S 1 s 4 ∧ τ 26 0 s = S 1 s 3 ∧ τ 27 0 s = S 1 s 5) ∧
  ∀ s : Nat, ¬ LC S 1 s → τ 23 0 s = 0 ∧ τ 24 0 s = 0 ∧ τ 25 0 s = 0 ∧ τ 26 0 s = 0 ∧ τ 27 0 s = 0
def MSI (S τ : ph_T) : Prop := (∀ i : Nat, LC S 2 i → τ 29 0 i = S 2 i 0 ∧ τ 30 0 i = S 2 i 1 ∧ τ 31 0 i = stm (S 2 i 5) ∧ ∀ s : Nat, s < 8 → τ 32 0 (8 * i + s) = ph_b (seenb S i s)) ∧
  ∀ i : Nat, S 0 0 3 < (i : Int) → τ 31 0 i = 0 ∧ ∀ s : Nat, s < 8 → τ 32 0 (8 * i + s) = 0
def MSF (S τ : ph_T) : Prop := (∀ f : Nat, LC S 3 f → (τ 38 0 f = S 3 f 0 ∧ τ 39 0 f = S 3 f 1 ∧ τ 40 0 f = S 3 f 2 ∧ τ 41 0 f = S 3 f 4 ∧ τ 42 0 f = S 3 f 3 ∧ τ 43 0 f = ph_b (S 3 f 1 = -1) ∧ τ 44 0 f = S 3 f 6 ∧ τ 45 0 f = ph_b ((f : Int) ≤ S 0 0 6)) ∧ ∀ i : Nat, 1 ≤ i → i ≤ 60 → τ 46 0 (61 * f + i) = ph_b (dbit S f i)) ∧
  ∀ f : Nat, S 0 0 5 < (f : Int) → (τ 44 0 f = 0 ∧ τ 45 0 f = 0) ∧ ∀ i : Nat, 1 ≤ i → i ≤ 60 → τ 46 0 (61 * f + i) = 0
def MRu (S τ : ph_T) : Prop := ∀ k : Nat, k ≤ 6 → τ 47 0 k = S 7 0 k ∧ τ 48 0 k = S 8 0 k
def MT (τ : ph_T) : Prop := (∀ k : Nat, k < 7 → τ 49 0 k = rkT k) ∧ ∀ k : Nat, k < 21 → τ 50 0 k = if k < 3 then 0 else stT (k - 3)
def eN (τ : ph_T) : Nat → Int
  | 0 => 0
  | n + 1 => eN τ n + (if τ 33 0 (n + 1) = 0 ∧ τ 34 0 (n + 1) = 0 then 0 else 1)
def ML (τ : ph_T) : Prop := 0 ≤ τ 20 0 15 ∧ τ 20 0 15 ≤ eN τ 60 ∧ (∀ i : Nat, (τ 33 0 i = 0 ∨ τ 33 0 i = 1) ∧ (τ 34 0 i = 0 ∨ τ 34 0 i = 1) ∧ (τ 53 0 i = 0 ∨ τ 53 0 i = 1)) ∧ (∀ k : Nat, 0 ≤ τ 35 0 k ∧ τ 35 0 k ≤ 60) ∧ 0 ≤ τ 20 0 31 ∧ τ 20 0 31 ≤ 40
def MS (S τ : ph_T) : Prop := MC S τ ∧ MSS S τ ∧ MSI S τ ∧ MSF S τ ∧ MRu S τ ∧ MT τ ∧ ML τ
section MSQ
variable {S S1 τ τ1 : ph_T}
theorem MC.eq (h : MC S τ) (e : ∀ k, k = 1 ∨ k = 3 ∨ k = 5 ∨ k = 11 → S1 0 0 k = S 0 0 k) (t : ∀ k, k = 0 ∨ k = 7 ∨ k = 16 ∨ k = 30 → τ1 20 0 k = τ 20 0 k) : MC S1 τ1 := by
  unfold MC
  rw [e 1 (by omega), e 3 (by omega), e 5 (by omega), e 11 (by omega), t 0 (by omega), t 7 (by omega), t 16 (by omega), t 30 (by omega)]
  exact h
theorem MSS.eq (h : MSS S τ) (e1 : S1 0 0 1 = S 0 0 1) (e : ∀ i k, S1 1 i k = S 1 i k) (t : ∀ g k, 22 ≤ g → g ≤ 27 → τ1 g 0 k = τ g 0 k) : MSS S1 τ1 := by
  have hl : ∀ s, LC S1 1 s ↔ LC S 1 s := fun s => by simp only [LC, e1]
  refine ⟨fun s hs => ?_, fun s hs => ?_⟩
  · rw [t 22 s (by omega) (by omega), t 23 s (by omega) (by omega), t 24 s (by omega) (by omega), t 25 s (by omega) (by omega), t 26 s (by omega) (by omega), t 27 s (by omega) (by omega)]
    simp only [e]
    exact h.1 s ((hl s).mp hs)
  · rw [t 23 s (by omega) (by omega), t 24 s (by omega) (by omega), t 25 s (by omega) (by omega), t 26 s (by omega) (by omega), t 27 s (by omega) (by omega)]
    exact h.2 s (fun q => hs ((hl s).mpr q))
theorem MSI.eq (h : MSI S τ) (e3 : S1 0 0 3 = S 0 0 3) (e : ∀ i k, k = 0 ∨ k = 1 ∨ k = 5 ∨ k = 6 → S1 2 i k = S 2 i k) (t : ∀ g k, 29 ≤ g → g ≤ 32 → τ1 g 0 k = τ g 0 k) : MSI S1 τ1 := by
  have hl : ∀ s, LC S1 2 s ↔ LC S 2 s := fun s => by simp only [LC, e3]
  have hb : ∀ i s, seenb S1 i s ↔ seenb S i s := fun i s => by unfold seenb; rw [e i 6 (by omega)]
  refine ⟨fun i hi => ?_, fun i hi => ?_⟩
  · obtain ⟨h1, h2, h3, h4⟩ := h.1 i ((hl i).mp hi)
    refine ⟨?_, ?_, ?_, fun s hs => ?_⟩
    · rw [t 29 i (by omega) (by omega), e i 0 (by omega)]; exact h1
    · rw [t 30 i (by omega) (by omega), e i 1 (by omega)]; exact h2
    · rw [t 31 i (by omega) (by omega), e i 5 (by omega)]; exact h3
    · rw [t 32 _ (by omega) (by omega), propext (hb i s)]; exact h4 s hs
  · rw [e3] at hi
    obtain ⟨h1, h2⟩ := h.2 i hi
    refine ⟨?_, fun s hs => ?_⟩
    · rw [t 31 i (by omega) (by omega)]; exact h1
    · rw [t 32 _ (by omega) (by omega)]; exact h2 s hs
theorem MSF.eq (h : MSF S τ) (e5 : S1 0 0 5 = S 0 0 5) (e6 : S1 0 0 6 = S 0 0 6) (e : ∀ i k, S1 3 i k = S 3 i k) (t : ∀ g k, 38 ≤ g → g ≤ 46 → τ1 g 0 k = τ g 0 k) : MSF S1 τ1 := by
  have hl : ∀ s, LC S1 3 s ↔ LC S 3 s := fun s => by simp only [LC, e5]
  have hb : ∀ i s, dbit S1 i s ↔ dbit S i s := fun i s => by unfold dbit; rw [e i 5]
  refine ⟨fun f hf => ⟨?_, fun i h1 h2 => ?_⟩, fun f hf => ⟨?_, fun i h1 h2 => ?_⟩⟩
  · rw [t 38 f (by omega) (by omega), t 39 f (by omega) (by omega), t 40 f (by omega) (by omega), t 41 f (by omega) (by omega), t 42 f (by omega) (by omega), t 43 f (by omega) (by omega), t 44 f (by omega) (by omega), t 45 f (by omega) (by omega), e6]
    simp only [e]
    exact (h.1 f ((hl f).mp hf)).1
  · rw [t 46 _ (by omega) (by omega), propext (hb f i)]
    exact (h.1 f ((hl f).mp hf)).2 i h1 h2
  · rw [t 44 f (by omega) (by omega), t 45 f (by omega) (by omega)]
    rw [e5] at hf
    exact (h.2 f hf).1
  · rw [t 46 _ (by omega) (by omega)]
    rw [e5] at hf
    exact (h.2 f hf).2 i h1 h2
theorem MRu.eq (h : MRu S τ) (e : ∀ g k, g = 7 ∨ g = 8 → S1 g 0 k = S g 0 k) (t : ∀ g k, 47 ≤ g → g ≤ 48 → τ1 g 0 k = τ g 0 k) : MRu S1 τ1 := fun k hk => by
  rw [t 47 k (by omega) (by omega), t 48 k (by omega) (by omega), e 7 k (by omega), e 8 k (by omega)]
  exact h k hk
theorem MT.eq (h : MT τ) (t : ∀ g k, 49 ≤ g → g ≤ 50 → τ1 g 0 k = τ g 0 k) : MT τ1 :=
  ⟨fun k hk => by rw [t 49 k (by omega) (by omega)]; exact h.1 k hk, fun k hk => by rw [t 50 k (by omega) (by omega)]; exact h.2 k hk⟩
theorem eN_eq (t : ∀ g k, 33 ≤ g → g ≤ 34 → τ1 g 0 k = τ g 0 k) : ∀ n, eN τ1 n = eN τ n
  | 0 => rfl
  | n + 1 => by
    show eN τ1 n + _ = eN τ n + _
    rw [eN_eq t n, t 33 _ (by omega) (by omega), t 34 _ (by omega) (by omega)]
theorem eN_le : ∀ n : Nat, 0 ≤ eN τ n ∧ eN τ n ≤ n
  | 0 => ⟨Int.le_refl _, Int.le_refl _⟩
  | n + 1 => by
    have := eN_le n
    show 0 ≤ eN τ n + (if _ then _ else _) ∧ eN τ n + (if _ then _ else _) ≤ _
    split <;> omega
theorem ML.eq (h : ML τ) (t : ∀ g k, g = 33 ∨ g = 34 ∨ g = 35 ∨ g = 53 → τ1 g 0 k = τ g 0 k) (t0 : ∀ k, k = 15 ∨ k = 31 → τ1 20 0 k = τ 20 0 k) : ML τ1 := by
  obtain ⟨h1, h2, h3, h4, h5⟩ := h
  refine ⟨by rw [t0 15 (by omega)]; exact h1, ?_, fun i => ?_, fun k => ?_, ?_⟩
  · rw [t0 15 (by omega), eN_eq (fun g k a b => t g k (by omega))]; exact h2
  · rw [t 33 i (by omega), t 34 i (by omega), t 53 i (by omega)]; exact h3 i
  · rw [t 35 k (by omega)]; exact h4 k
  · rw [t0 31 (by omega)]; exact h5
theorem ML.r (h : ML τ) : 0 ≤ τ 20 0 15 ∧ τ 20 0 15 ≤ 60 ∧ 0 ≤ τ 20 0 31 ∧ τ 20 0 31 ≤ 40 := by
  have := (eN_le (τ := τ) 60).2
  have h2 := h.2.1
  exact ⟨h.1, by omega, h.2.2.2.2.1, h.2.2.2.2.2⟩
/-- the same numbers -/
theorem MS.of (h : MS S τ) {o : Nat} {L : Nat → Nat → Prop} {ad : Nat → Nat → Nat} {M : ph_T} (e : τ = M) (hM : MR M o L ad τ1) : MS S τ1 := by
  subst e
  have t : ∀ g k, 21 ≤ g → mrf (g - 21) = true → τ1 g 0 k = τ g 0 k := fun g k hg hk => by
    have := hM.el (k := g - 21) hk k
    rwa [show 21 + (g - 21) = g by omega] at this
  have b : ∀ k, mrf k = false → τ1 20 0 k = τ 20 0 k := fun k hk => hM.dat hk
  obtain ⟨h1, h2, h3, h4, h5, h6, h7⟩ := h
  refine ⟨h1.eq (fun _ _ => rfl) (fun k hk => b k ?_), h2.eq rfl (fun _ _ => rfl) (fun g k ha hb => t g k (by omega) ?_), h3.eq rfl (fun _ _ _ => rfl) (fun g k ha hb => t g k (by omega) ?_), h4.eq rfl rfl (fun _ _ => rfl) (fun g k ha hb => t g k (by omega) ?_), h5.eq (fun _ _ _ => rfl) (fun g k ha hb => t g k (by omega) ?_), h6.eq (fun g k ha hb => t g k (by omega) ?_), h7.eq (fun g k ha => t g k (by omega) ?_) (fun k hk => b k ?_)⟩
  · rcases hk with rfl | rfl | rfl | rfl <;> rfl
  · rcases (show g = 22 ∨ g = 23 ∨ g = 24 ∨ g = 25 ∨ g = 26 ∨ g = 27 by omega) with rfl | rfl | rfl | rfl | rfl | rfl <;> rfl
  · rcases (show g = 29 ∨ g = 30 ∨ g = 31 ∨ g = 32 by omega) with rfl | rfl | rfl | rfl <;> rfl
  · rcases (show g = 38 ∨ g = 39 ∨ g = 40 ∨ g = 41 ∨ g = 42 ∨ g = 43 ∨ g = 44 ∨ g = 45 ∨ g = 46 by omega) with rfl | rfl | rfl | rfl | rfl | rfl | rfl | rfl | rfl <;> rfl
  · rcases (show g = 47 ∨ g = 48 by omega) with rfl | rfl <;> rfl
  · rcases (show g = 49 ∨ g = 50 by omega) with rfl | rfl <;> rfl
  · rcases ha with rfl | rfl | rfl | rfl <;> rfl
  · rcases hk with rfl | rfl <;> rfl
theorem MS.c0 (h : MS S τ) : τ 20 0 0 = S 0 0 1 := h.1.1
theorem MS.c7 (h : MS S τ) : τ 20 0 7 = S 0 0 3 := h.1.2.1
theorem MS.c16 (h : MS S τ) : τ 20 0 16 = S 0 0 5 := h.1.2.2.1
theorem MS.c30 (h : MS S τ) : τ 20 0 30 = S 0 0 11 := h.1.2.2.2
theorem MS.ml (h : MS S τ) : ML τ := h.2.2.2.2.2.2
theorem MS.s22 (h : MS S τ) {s : Nat} (hs : LC S 1 s) : τ 22 0 s = S 1 s 0 := (h.2.1.1 s hs).1
theorem MS.s23 (h : MS S τ) {s : Nat} (hs : LC S 1 s) : τ 23 0 s = S 1 s 2 := (h.2.1.1 s hs).2.1
theorem MS.s24 (h : MS S τ) {s : Nat} (hs : LC S 1 s) : τ 24 0 s = S 1 s 1 := (h.2.1.1 s hs).2.2.1
theorem MS.s25 (h : MS S τ) {s : Nat} (hs : LC S 1 s) : τ 25 0 s = S 1 s 4 := (h.2.1.1 s hs).2.2.2.1
theorem MS.s26 (h : MS S τ) {s : Nat} (hs : LC S 1 s) : τ 26 0 s = S 1 s 3 := (h.2.1.1 s hs).2.2.2.2.1
theorem MS.s27 (h : MS S τ) {s : Nat} (hs : LC S 1 s) : τ 27 0 s = S 1 s 5 := (h.2.1.1 s hs).2.2.2.2.2
theorem MS.i29 (h : MS S τ) {i : Nat} (hi : LC S 2 i) : τ 29 0 i = S 2 i 0 := (h.2.2.1.1 i hi).1
theorem MS.i30 (h : MS S τ) {i : Nat} (hi : LC S 2 i) : τ 30 0 i = S 2 i 1 := (h.2.2.1.1 i hi).2.1
theorem MS.i31 (h : MS S τ) {i : Nat} (hi : LC S 2 i) : τ 31 0 i = stm (S 2 i 5) := (h.2.2.1.1 i hi).2.2.1
theorem MS.i32 (h : MS S τ) {i s : Nat} (hi : LC S 2 i) (hs : s < 8) : τ 32 0 (8 * i + s) = ph_b (seenb S i s) := (h.2.2.1.1 i hi).2.2.2 s hs
theorem MS.f38 (h : MS S τ) {f : Nat} (hf : LC S 3 f) : τ 38 0 f = S 3 f 0 := (h.2.2.2.1.1 f hf).1.1
theorem MS.f39 (h : MS S τ) {f : Nat} (hf : LC S 3 f) : τ 39 0 f = S 3 f 1 := (h.2.2.2.1.1 f hf).1.2.1
theorem MS.f40 (h : MS S τ) {f : Nat} (hf : LC S 3 f) : τ 40 0 f = S 3 f 2 := (h.2.2.2.1.1 f hf).1.2.2.1
theorem MS.f41 (h : MS S τ) {f : Nat} (hf : LC S 3 f) : τ 41 0 f = S 3 f 4 := (h.2.2.2.1.1 f hf).1.2.2.2.1
theorem MS.f42 (h : MS S τ) {f : Nat} (hf : LC S 3 f) : τ 42 0 f = S 3 f 3 := (h.2.2.2.1.1 f hf).1.2.2.2.2.1
theorem MS.f43 (h : MS S τ) {f : Nat} (hf : LC S 3 f) : τ 43 0 f = ph_b (S 3 f 1 = -1) := (h.2.2.2.1.1 f hf).1.2.2.2.2.2.1
theorem MS.f44 (h : MS S τ) {f : Nat} (hf : LC S 3 f) : τ 44 0 f = S 3 f 6 := (h.2.2.2.1.1 f hf).1.2.2.2.2.2.2.1
theorem MS.f45 (h : MS S τ) {f : Nat} (hf : LC S 3 f) : τ 45 0 f = ph_b ((f : Int) ≤ S 0 0 6) := (h.2.2.2.1.1 f hf).1.2.2.2.2.2.2.2
theorem MS.f46 (h : MS S τ) {f i : Nat} (hf : LC S 3 f) (h1 : 1 ≤ i) (h2 : i ≤ 60) : τ 46 0 (61 * f + i) = ph_b (dbit S f i) := (h.2.2.2.1.1 f hf).2 i h1 h2
theorem MS.r47 (h : MS S τ) {k : Nat} (hk : k ≤ 6) : τ 47 0 k = S 7 0 k := (h.2.2.2.2.1 k hk).1
theorem MS.r48 (h : MS S τ) {k : Nat} (hk : k ≤ 6) : τ 48 0 k = S 8 0 k := (h.2.2.2.2.1 k hk).2
theorem MS.t49 (h : MS S τ) {k : Nat} (hk : k < 7) : τ 49 0 k = rkT k := h.2.2.2.2.2.1.1 k hk
theorem MS.t50 (h : MS S τ) {k : Nat} (hk : k < 21) : τ 50 0 k = if k < 3 then 0 else stT (k - 3) := h.2.2.2.2.2.1.2 k hk
theorem stm_0 {z : Int} (hz : 0 ≤ z ∧ z ≤ 2) : stm z = 0 ↔ z = 0 := by
  unfold stm
  split
  · omega
  · split <;> omega
theorem stm_1 {z : Int} (hz : 0 ≤ z ∧ z ≤ 2) : stm z = 1 ↔ z = 2 := by
  unfold stm
  split
  · omega
  · split <;> omega
theorem stm_r {z : Int} (hz : 0 ≤ z ∧ z ≤ 2) : 0 ≤ stm z ∧ stm z ≤ 2 := by
  unfold stm
  split
  · omega
  · split <;> omega
end MSQ
