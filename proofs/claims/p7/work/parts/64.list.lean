/-! ===== the other side's list, and its clearing: words ===== -/
section LST
variable {S τ τ1 : ph_T}
theorem MS.mlq (h : MS S τ) (t : ∀ g k, g ≠ 33 → g ≠ 34 → g ≠ 35 → g ≠ 53 → g ≠ 20 → τ1 g 0 k = τ g 0 k) (t0 : ∀ k, k ≠ 15 → k ≠ 31 → τ1 20 0 k = τ 20 0 k) (hl : ML τ1) : MS S τ1 := by
  obtain ⟨h1, h2, h3, h4, h5, h6, h7⟩ := h
  exact ⟨h1.eq (fun _ _ => rfl) (fun k _ => t0 k (by omega) (by omega)), h2.eq rfl (fun _ _ => rfl) (fun g k _ _ => t g k (by omega) (by omega) (by omega) (by omega) (by omega)), h3.eq rfl (fun _ _ _ => rfl) (fun g k _ _ => t g k (by omega) (by omega) (by omega) (by omega) (by omega)), h4.eq rfl rfl (fun _ _ => rfl) (fun g k _ _ => t g k (by omega) (by omega) (by omega) (by omega) (by omega)), h5.eq (fun _ _ _ => rfl) (fun g k _ _ => t g k (by omega) (by omega) (by omega) (by omega) (by omega)), h6.eq (fun g k _ _ => t g k (by omega) (by omega) (by omega) (by omega) (by omega)), hl⟩
theorem eN_off {i : Nat} (t : ∀ g k, 33 ≤ g → g ≤ 34 → k ≠ i → τ1 g 0 k = τ g 0 k) : ∀ n, n < i → eN τ1 n = eN τ n
  | 0, _ => rfl
  | n + 1, h => by
    show eN τ1 n + _ = eN τ n + _
    rw [eN_off t n (by omega), t 33 _ (by omega) (by omega) (by omega), t 34 _ (by omega) (by omega) (by omega)]
theorem eN_on {i : Nat} {d : Int} (t : ∀ g k, 33 ≤ g → g ≤ 34 → k ≠ i → τ1 g 0 k = τ g 0 k) (hi : 1 ≤ i) (hd : (if τ1 33 0 i = 0 ∧ τ1 34 0 i = 0 then (0 : Int) else 1) = (if τ 33 0 i = 0 ∧ τ 34 0 i = 0 then 0 else 1) + d) : ∀ n, i ≤ n → eN τ1 n = eN τ n + d
  | 0, h => by omega
  | n + 1, h => by
    show eN τ1 n + _ = eN τ n + _ + d
    by_cases e : i = n + 1
    · rw [eN_off t n (by omega), ← e, hd]
      omega
    · rw [eN_on t hi hd n (by omega), t 33 _ (by omega) (by omega) (by omega), t 34 _ (by omega) (by omega) (by omega)]
      omega
theorem ms_enl (h : MS S τ) {i n : Nat} (hi : 1 ≤ i ∧ i ≤ 60) (h33 : τ 33 0 i = 0) (h34 : τ 34 0 i = 0) : MS S (ph_up (ph_up (ph_up τ 33 0 i 1) 35 0 n (i : Int)) 20 0 15 (τ 20 0 15 + 1)) := by
  refine h.mlq (fun g k a1 a2 a3 a4 a5 => by rw [up_ne _ a5, up_ne _ a3, up_ne _ a1]) (fun k a1 a2 => by rw [ph_up_no _ _ (by omega), up_ne _ (by decide), up_ne _ (by decide)]) ?_
  obtain ⟨b1, b2, b3, b4, b5⟩ := h.ml
  refine ⟨by rw [ph_up_at]; omega, ?_, fun q => ?_, fun q => ?_, ?_⟩
  · rw [ph_up_at, eN_on (τ := τ) (i := i) (d := 1) (fun g k a1 a2 a3 => by rw [up_ne _ (by omega), up_ne _ (by omega), ph_up_no _ _ (by omega)]) hi.1 ?_ 60 hi.2]
    · omega
    · rw [up_ne _ (by decide), up_ne _ (by decide), ph_up_at, up_ne _ (by decide), up_ne _ (by decide), up_ne _ (by decide), if_neg (by omega), if_pos ⟨h33, h34⟩]
      rfl
  · have u : ∀ g, g ≠ 33 → g ≠ 35 → g ≠ 20 → ph_up (ph_up (ph_up τ 33 0 i 1) 35 0 n (i : Int)) 20 0 15 (τ 20 0 15 + 1) g 0 q = τ g 0 q := fun g a1 a2 a3 => by rw [up_ne _ a3, up_ne _ a2, up_ne _ a1]
    rw [u 34 (by decide) (by decide) (by decide), u 53 (by decide) (by decide) (by decide)]
    refine ⟨?_, (b3 q).2⟩
    rw [up_ne _ (by decide), up_ne _ (by decide), up_if]
    split
    · exact Or.inr rfl
    · exact (b3 q).1
  · rw [up_ne _ (by decide), up_if, up_ne _ (by decide)]
    split
    · omega
    · exact b4 q
  · rw [ph_up_no _ _ (by omega), up_ne _ (by decide), up_ne _ (by decide)]; exact b5
theorem ms_swp (h : MS S τ) {i : Nat} {z : Int} (hz : z = 0 ∨ z = 1) : MS S (ph_up τ 53 0 i z) := by
  refine h.mlq (fun g k a1 a2 a3 a4 a5 => up_ne _ a4) (fun k a1 a2 => up_ne _ (by decide)) ?_
  obtain ⟨b1, b2, b3, b4, b5⟩ := h.ml
  refine ⟨by rw [up_ne _ (by decide)]; exact b1, by rw [up_ne _ (by decide), eN_eq (τ := τ) (fun g k _ _ => up_ne _ (by omega))]; exact b2, fun q => ?_, fun q => by rw [up_ne _ (by decide)]; exact b4 q, by rw [up_ne _ (by decide)]; exact b5⟩
  rw [up_ne _ (by decide), up_ne _ (by decide)]
  refine ⟨(b3 q).1, (b3 q).2.1, ?_⟩
  rw [up_if]
  split
  · exact hz
  · exact (b3 q).2.2
/-- a flag is set or taken, the other is set -/
theorem ms_flag (h : MS S τ) {g i : Nat} {z : Int} (hg : g = 33 ∨ g = 34) (hz : z = 0 ∨ z = 1) (hi : 1 ≤ i ∧ i ≤ 60) (h1 : ¬ (τ 33 0 i = 0 ∧ τ 34 0 i = 0)) (h2 : g = 33 → τ 34 0 i = 1) (h3 : g = 34 → z = 1) : MS S (ph_up τ g 0 i z) := by
  refine h.mlq (fun g' k a1 a2 a3 a4 a5 => up_ne _ (by omega)) (fun k a1 a2 => up_ne _ (by omega)) ?_
  obtain ⟨b1, b2, b3, b4, b5⟩ := h.ml
  refine ⟨by rw [up_ne _ (by omega)]; exact b1, ?_, fun q => ?_, fun q => by rw [up_ne _ (by omega)]; exact b4 q, by rw [up_ne _ (by omega)]; exact b5⟩
  · rw [up_ne _ (by omega), eN_on (τ := τ) (i := i) (d := 0) (fun g' k a1 a2 a3 => ph_up_no _ _ (by omega)) hi.1 ?_ 60 hi.2]
    · omega
    · rw [if_neg h1, if_neg]
      · rfl
      · rcases hg with rfl | rfl
        · rw [ph_up_at, up_ne _ (by decide), h2 rfl]
          omega
        · rw [ph_up_at, h3 rfl]
          omega
  · have hb := b3 q
    rcases hg with rfl | rfl
    · rw [up_ne τ (g := 33) (g' := 34) (by decide), up_ne τ (g := 33) (g' := 53) (by decide), up_if]
      refine ⟨?_, hb.2⟩
      split
      · exact hz
      · exact hb.1
    · rw [up_ne τ (g := 34) (g' := 33) (by decide), up_ne τ (g := 34) (g' := 53) (by decide), up_if]
      refine ⟨hb.1, ?_, hb.2.2⟩
      split
      · exact hz
      · exact hb.2.1
theorem ms_lst (h : MS S τ) {n : Nat} {z : Int} (hz : 0 ≤ z ∧ z ≤ 60) : MS S (ph_up τ 35 0 n z) := by
  refine h.mlq (fun g k a1 a2 a3 a4 a5 => up_ne _ a3) (fun k a1 a2 => up_ne _ (by decide)) ?_
  obtain ⟨b1, b2, b3, b4, b5⟩ := h.ml
  refine ⟨by rw [up_ne _ (by decide)]; exact b1, by rw [up_ne _ (by decide), eN_eq (τ := τ) (fun g k _ _ => up_ne _ (by omega))]; exact b2, fun q => by rw [up_ne _ (by decide), up_ne _ (by decide), up_ne _ (by decide)]; exact b3 q, fun q => ?_, by rw [up_ne _ (by decide)]; exact b5⟩
  rw [up_if]
  split
  · exact hz
  · exact b4 q
theorem ms_lsz (h : MS S τ) {z : Int} (hz : 0 ≤ z ∧ z ≤ τ 20 0 15) : MS S (ph_up τ 20 0 15 z) := by
  refine h.mlq (fun g k a1 a2 a3 a4 a5 => up_ne _ a5) (fun k a1 a2 => ph_up_no _ _ (by omega)) ?_
  obtain ⟨b1, b2, b3, b4, b5⟩ := h.ml
  refine ⟨by rw [ph_up_at]; exact hz.1, by rw [ph_up_at, eN_eq (τ := τ) (fun g k _ _ => up_ne _ (by omega))]; omega, fun q => by rw [up_ne _ (by decide), up_ne _ (by decide), up_ne _ (by decide)]; exact b3 q, fun q => by rw [up_ne _ (by decide)]; exact b4 q, by rw [ph_up_no _ _ (by omega)]; exact b5⟩
/-- a fault is cleared -/
theorem ms_clr (h : MS S τ) {f : Nat} (hf : LC S 3 f) (h6 : (f : Int) = S 0 0 6 + 1) : MS (ph_up S 0 0 6 (f : Int)) (ph_up τ 45 0 f 1) := by
  obtain ⟨h1, h2, h3, h4, h5, h6', h7⟩ := h
  have e0 : ∀ k, k ≠ 6 → ph_up S 0 0 6 (f : Int) 0 0 k = S 0 0 k := fun k hk => ph_up_no _ _ (by omega)
  refine ⟨h1.eq (fun k hk => e0 k (by omega)) (fun k _ => up_ne _ (by omega)), h2.eq (e0 1 (by decide)) (fun _ _ => up_ne _ (by decide)) (fun g k _ _ => up_ne _ (by omega)), h3.eq (e0 3 (by decide)) (fun _ _ _ => up_ne _ (by decide)) (fun g k _ _ => up_ne _ (by omega)), ⟨fun q hq => ?_, fun q hq => ?_⟩, h5.eq (fun _ _ _ => up_ne _ (by omega)) (fun g k _ _ => up_ne _ (by omega)), h6'.eq (fun g k _ _ => up_ne _ (by omega)), h7.eq (fun g k _ => up_ne _ (by omega)) (fun k _ => up_ne _ (by omega))⟩
  · have hq' : LC S 3 q := by simp only [LC] at hq ⊢; rw [e0 5 (by decide)] at hq; exact hq
    obtain ⟨⟨a1, a2, a3, a4, a5, a6, a7, a8⟩, a9⟩ := h4.1 q hq'
    have en : ∀ k, ph_up S 0 0 6 (f : Int) 3 q k = S 3 q k := fun k => up_ne _ (by decide)
    have hdb : ∀ i, dbit (ph_up S 0 0 6 (f : Int)) q i ↔ dbit S q i := fun i => by unfold dbit; rw [en]
    rw [en, en, en, en, en, en, ph_up_at, up_ne _ (by decide), up_ne _ (by decide), up_ne _ (by decide), up_ne _ (by decide), up_ne _ (by decide), up_ne _ (by decide), up_ne _ (by decide)]
    refine ⟨⟨a1, a2, a3, a4, a5, a6, a7, ?_⟩, fun i i1 i2 => ?_⟩
    · by_cases e : q = f
      · subst e; rw [ph_up_at, ph_b1 (by omega)]
      · rw [up_k _ _ e, a8, propext (show ((q : Int) ≤ S 0 0 6) ↔ ((q : Int) ≤ (f : Int)) by omega)]
    · rw [up_ne _ (by decide), propext (hdb i)]; exact a9 i i1 i2
  · rw [e0 5 (by decide)] at hq
    have hne : q ≠ f := by simp only [LC] at hf; omega
    obtain ⟨⟨a1, a2⟩, a3⟩ := h4.2 q hq
    exact ⟨⟨by rw [up_ne _ (by decide)]; exact a1, by rw [up_k _ _ hne]; exact a2⟩, fun i i1 i2 => by rw [up_ne _ (by decide)]; exact a3 i i1 i2⟩
/-- a step is done -/
theorem ms_done (h : MS S τ) {f : Nat} (hf : LC S 3 f) (z : Int) : MS (ph_up S 3 f 6 z) (ph_up τ 44 0 f z) := by
  obtain ⟨h1, h2, h3, h4, h5, h6', h7⟩ := h
  have e0 : ∀ k, ph_up S 3 f 6 z 0 0 k = S 0 0 k := fun k => up_ne _ (by decide)
  refine ⟨h1.eq (fun k hk => e0 k) (fun k _ => up_ne _ (by omega)), h2.eq (e0 1) (fun _ _ => up_ne _ (by decide)) (fun g k _ _ => up_ne _ (by omega)), h3.eq (e0 3) (fun _ _ _ => up_ne _ (by decide)) (fun g k _ _ => up_ne _ (by omega)), ⟨fun q hq => ?_, fun q hq => ?_⟩, h5.eq (fun _ _ _ => up_ne _ (by omega)) (fun g k _ _ => up_ne _ (by omega)), h6'.eq (fun g k _ _ => up_ne _ (by omega)), h7.eq (fun g k _ => up_ne _ (by omega)) (fun k _ => up_ne _ (by omega))⟩
  · have hq' : LC S 3 q := by simp only [LC] at hq ⊢; rw [e0] at hq; exact hq
    obtain ⟨⟨a1, a2, a3, a4, a5, a6, a7, a8⟩, a9⟩ := h4.1 q hq'
    have en : ∀ k, k ≠ 6 → ph_up S 3 f 6 z 3 q k = S 3 q k := fun k hk => ph_up_no _ _ (by omega)
    have hdb : ∀ i, dbit (ph_up S 3 f 6 z) q i ↔ dbit S q i := fun i => by unfold dbit; rw [en 5 (by decide)]
    have tn : ∀ g, g ≠ 44 → ph_up τ 44 0 f z g 0 q = τ g 0 q := fun g hg => up_ne _ hg
    rw [en 0 (by decide), en 1 (by decide), en 2 (by decide), en 3 (by decide), en 4 (by decide), e0, tn 38 (by decide), tn 39 (by decide), tn 40 (by decide), tn 41 (by decide), tn 42 (by decide), tn 43 (by decide), tn 45 (by decide)]
    refine ⟨⟨a1, a2, a3, a4, a5, a6, ?_, a8⟩, fun i i1 i2 => ?_⟩
    · by_cases e : q = f
      · subst e; rw [ph_up_at, ph_up_at]
      · rw [up_k _ _ e, ph_up_no _ _ (by omega)]; exact a7
    · rw [up_ne _ (by decide), propext (hdb i)]; exact a9 i i1 i2
  · rw [e0] at hq
    have hne : q ≠ f := by simp only [LC] at hf; omega
    obtain ⟨⟨a1, a2⟩, a3⟩ := h4.2 q hq
    exact ⟨⟨by rw [up_k _ _ hne]; exact a1, by rw [up_ne _ (by decide)]; exact a2⟩, fun i i1 i2 => by rw [up_ne _ (by decide)]; exact a3 i i1 i2⟩
theorem ms_clear {f0 f : Nat} (h : MS (clrA S f0) τ) (e : f0 = f) : MS (clearS S f) τ := by
  subst e
  have hb : ∀ g j k, g ≠ 0 ∧ g ≠ 9 → (g = 2 → k ≠ 3) → clearS S f0 g j k = clrA S f0 g j k := fun g j k hg hk => by
    have e1 : clrB S f0 g j k = clrA S f0 g j k := clF_g hg hk _ _ _
    unfold clearS
    split
    · exact e1
    · unfold listS
      rw [loF_g hg hk]
      exact e1
  have h0 : ∀ k, k ≠ 10 → clearS S f0 0 0 k = clrA S f0 0 0 k := fun k hk => by
    have e1 : clrB S f0 0 0 k = clrA S f0 0 0 k := clF_0 _ _ _ _ hk
    unfold clearS
    split
    · exact e1
    · unfold listS
      rw [loF_0 _ _ _ _ hk]
      exact e1
  exact h.sq (fun k hk => h0 k (by omega)) (fun i k => hb 1 i k (by omega) (by omega)) (fun i k hk => hb 2 i k (by omega) (by omega)) (fun i k => hb 3 i k (by omega) (by omega)) (fun g k hg => hb g 0 k (by omega) (by omega))
theorem ms_feed (h : MS S τ) (x : Int) : MS (feedS S x) τ := by
  unfold feedS
  split
  · refine h.sq (fun k hk => ?_) (fun i k => ?_) (fun i k hk => ?_) (fun i k => ?_) (fun g k hg => ?_)
    · unfold dropS; rw [tlF_0 (by decide) (by omega), up_ne _ (by decide)]
    · unfold dropS; rw [tlF_0 (by decide) (by omega), up_ne _ (by decide)]
    · unfold dropS; rw [tlF_0 (by decide) (by omega), ph_up_no _ _ (by omega)]
    · unfold dropS; rw [tlF_0 (by decide) (by omega), up_ne _ (by decide)]
    · unfold dropS; rw [tlF_0 (by omega) (by omega), up_ne _ (by omega)]
  · exact h
/-- the step that is next, of the other side's table -/
theorem st_v (h : MS S τ) (hV : IV S) {f j : Nat} (hf : LC S 3 f) (hd : S 3 f 6 ≤ 2) (hj : (j : Int) = 3 * S 3 f 0 + S 3 f 6) : τ 50 0 j = nextv S f := by
  have h9 := hV.f hf
  rw [h.t50 (by omega), if_neg (by omega)]
  unfold nextv
  rw [if_neg (by omega), show ((S 3 f 0 - 1) * 3 + S 3 f 6).toNat = j - 3 by omega]
end LST
/-! ===== the invariant beside the bounds: step ===== -/
section GST
variable {S : ph_T}
theorem GI.empty (h : GI S) (f : Int) : GI (emptyS S f) := by
  have he : ∀ (n i : Nat) (S : ph_T), GI S → GI (ebF f n i S) := by
    intro n
    induction n with
    | zero => intro i S h; exact h
    | succ n ih =>
      intro i S h
      by_cases q : S 2 i 5 = 0
      · rw [ebF_t q]; exact ih (i + 1) _ (h.take i f)
      · rw [ebF_f q]; exact ih (i + 1) _ h
  have hl : ∀ (n s : Nat) (S : ph_T), GI S → GI (liF n s S) := by
    intro n
    induction n with
    | zero => intro s S h; exact h
    | succ n ih => intro s S h; rw [liF_s]; exact ih (s + 1) _ (h.light s)
  exact hl _ _ _ (he _ _ _ h)
theorem GI.reset (h : GI S) : GI (resetS S) := by
  have hl : ∀ (n s : Nat) (S : ph_T), GI S → GI (rcF n s S) := by
    intro n
    induction n with
    | zero => intro s S h; exact h
    | succ n ih => intro s S h; rw [rcF_s]; exact ih (s + 1) _ (h.sup 0 (by decide))
  exact hl _ _ _ h
theorem GI.step (h : GI S) (hV : IV S) (x y : Int) : GI (stepS S x y) := by
  rcases Classical.em (stOk S x y) with q | q
  · have hs := FE.step S x y
    obtain ⟨q1, q2, q3, q4⟩ := id q
    rw [stepS_t q] at hs ⊢
    have hf : LC S 3 x.toNat := by simp only [LC]; omega
    -- the items and sensors
    have hp : GI S → HM (stB S x.toNat y) ∧ SB (stB S x.toNat y) := fun h => by
      have h1 : HM (stA S x.toNat y) ∧ SB (stA S x.toNat y) := by
        have h0 : HM (ph_up S 3 x.toNat 6 (S 3 x.toNat 6 + 1)) ∧ SB (ph_up S 3 x.toNat 6 (S 3 x.toNat 6 + 1)) := ⟨h.1.eq (up_ne _ (by decide)) (fun i => up_ne _ (by decide)), h.2.1.eq (up_ne _ (by decide)) (fun _ _ _ => up_ne _ (by decide)) (fun _ => up_ne _ (by decide))⟩
        unfold stA
        split
        · refine ⟨h0.1.eq (resetS_g (by decide)) (fun i => resetS_g (by decide)), h0.2.eq (resetS_g (by decide)) (fun i k hk => ?_) (fun i => resetS_g (by decide))⟩
          have hr : ∀ (n s : Nat) (S : ph_T), rcF n s S 1 i k = S 1 i k := by
            intro n
            induction n with
            | zero => intro s S; rfl
            | succ n ih => intro s S; rw [rcF_s, ih, ph_up_no _ _ (by omega)]
          exact hr _ _ _
        · exact h0
      unfold stB
      split
      · generalize stA S x.toNat y = S1 at h1
        have hA : HM (clrA S1 x.toNat) ∧ SB (clrA S1 x.toNat) := by
          have h0 : HM (ph_up S1 0 0 6 (x.toNat : Int)) ∧ SB (ph_up S1 0 0 6 (x.toNat : Int)) := ⟨h1.1.eq (ph_up_no _ _ (by omega)) (fun i => up_ne _ (by decide)), h1.2.eq (ph_up_no _ _ (by omega)) (fun _ _ _ => up_ne _ (by decide)) (fun _ => up_ne _ (by decide))⟩
          unfold clrA
          split
          · exact h0
          · have he : ∀ (n i : Nat) (S : ph_T), HM S ∧ SB S → HM (ebF (x.toNat : Int) n i S) ∧ SB (ebF (x.toNat : Int) n i S) := by
              intro n
              induction n with
              | zero => intro i S h; exact h
              | succ n ih =>
                intro i S h
                by_cases w : S 2 i 5 = 0
                · rw [ebF_t w]
                  exact ih (i + 1) _ ⟨h.1.eq (takeS_g (by decide)) (fun j => take_k (by decide)), h.2.eq (takeS_g (by decide)) (fun _ _ _ => takeS_g (by decide)) (fun _ => take_k (by decide))⟩
                · rw [ebF_f w]; exact ih (i + 1) _ h
            have hl : ∀ (n s : Nat) (S : ph_T), HM S ∧ SB S → HM (liF n s S) ∧ SB (liF n s S) := by
              intro n
              induction n with
              | zero => intro s S h; exact h
              | succ n ih =>
                intro s S h
                rw [liF_s]
                refine ih (s + 1) _ ⟨h.1.eq (lightS_g (by decide)) (fun i => lightS_g (by decide)), fun q hq => ?_⟩
                have hq' : LC S 1 q := by simp only [LC] at hq ⊢; rw [lightS_g (by decide)] at hq; exact hq
                have := h.2 q hq'
                unfold seenb at this ⊢
                rw [lightS_g (g := 2) (by decide)]
                by_cases e : q = s
                · subst e
                  have e3 : lightS S q 1 q 3 = 0 := by unfold lightS; rw [ph_up_at]
                  rw [e3]
                  exact ⟨fun _ => rfl, fun z => absurd z (by decide)⟩
                · have en : ∀ k, lightS S s 1 q k = S 1 q k := fun k => by unfold lightS; rw [ph_up_no _ _ (by omega), ph_up_no _ _ (by omega)]
                  rw [en, en]
                  exact this
            exact hl _ _ _ (he _ _ _ h0)
        have hb : ∀ g j k, g ≠ 0 ∧ g ≠ 9 → (g = 2 → k ≠ 3) → clearS S1 x.toNat g j k = clrA S1 x.toNat g j k := fun g j k hg hk => by
          have e1 : clrB S1 x.toNat g j k = clrA S1 x.toNat g j k := clF_g hg hk _ _ _
          unfold clearS
          split
          · exact e1
          · unfold listS
            rw [loF_g hg hk]
            exact e1
        have h0 : ∀ k, k ≠ 10 → clearS S1 x.toNat 0 0 k = clrA S1 x.toNat 0 0 k := fun k hk => by
          have e1 : clrB S1 x.toNat 0 0 k = clrA S1 x.toNat 0 0 k := clF_0 _ _ _ _ hk
          unfold clearS
          split
          · exact e1
          · unfold listS
            rw [loF_0 _ _ _ _ hk]
            exact e1
        exact ⟨hA.1.eq (h0 3 (by decide)) (fun i => hb 2 i 1 (by omega) (by omega)), hA.2.eq (h0 1 (by decide)) (fun i k hk => hb 1 i k (by omega) (by omega)) (fun i => hb 2 i 6 (by omega) (by omega))⟩
      · exact h1
    refine ⟨(hp h).1, (hp h).2, ?_⟩
    intro f g1 g2
    rw [fe_next hs]
    rw [hs.1] at g2
    rw [hs.2.1] at g1
    have e0 : stF S x y = if nextv (ph_up S 3 x.toNat 6 (S 3 x.toNat 6 + 1)) x.toNat = 0 then ph_up (ph_up S 3 x.toNat 6 (S 3 x.toNat 6 + 1)) 0 0 6 (x.toNat : Int) else ph_up S 3 x.toNat 6 (S 3 x.toNat 6 + 1) := if_pos q
    rw [e0] at g1 g2 ⊢
    split at g1
    · rename_i w
      rw [if_pos w] at g2 ⊢
      rw [ph_up_at] at g1
      rw [ph_up_no _ _ (by omega), up_ne _ (by decide)] at g2
      have en : ∀ k, ph_up (ph_up S 3 x.toNat 6 (S 3 x.toNat 6 + 1)) 0 0 6 (x.toNat : Int) 3 f k = S 3 f k := fun k => by rw [up_ne _ (by decide), ph_up_no _ _ (by omega)]
      unfold nextv
      rw [en, en]
      exact h.2.2 f (by omega) g2
    · rename_i w
      rw [if_neg w] at g2 ⊢
      rw [up_ne _ (by decide)] at g1 g2
      by_cases e : f = x.toNat
      · rw [e]; exact w
      · unfold nextv
        rw [ph_up_no _ _ (by omega), ph_up_no _ _ (by omega)]
        exact h.2.2 f g1 g2
  · rw [stepS_f q]; exact h
theorem gi_S00 : GI S00 := by
  refine ⟨fun i j h1 h2 h3 => Int.le_refl 0, fun s hs => ?_, fun f h1 h2 => ?_⟩
  · exact absurd hs (by show ¬ (s : Int) < 0; omega)
  · have a1 : S00 0 0 6 = 0 := rfl
    have a2 : S00 0 0 5 = 0 := rfl
    omega
end GST
