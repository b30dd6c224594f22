/-! ===== a fault more, on the other side ===== -/
def fstv (b : Int) (S : ph_T) : Int := if b < S 0 0 5 then b + 1 else 0
def tlS (S : ph_T) (k : Nat) (sv : Int) (acc : Nat) : ph_T := addF (thrS S k) (fvl (k : Int) sv (S 0 0 11) (S 8 0 k) (thrS S k 7 0 k) (acc : Int))
section TLS
variable {S τ : ph_T} {k acc F : Nat} {sv : Int}
theorem tlS_tell {db : Nat} (h : S 0 0 5 < 40) : tellS S k sv (db : Int) = tlS S k sv db := if_neg (by omega)
theorem tlS_0 {q : Nat} (hq : q ≠ 5) : tlS S k sv acc 0 0 q = S 0 0 q := by
  unfold tlS
  rw [addF_0 _ _ hq, thrS_g (by decide)]
theorem tlS_5 : tlS S k sv acc 0 0 5 = S 0 0 5 + 1 := by
  unfold tlS
  rw [addF_5, thrS_g (by decide)]
theorem tlS_g {g i q : Nat} (hg : g = 1 ∨ g = 2 ∨ g = 9) : tlS S k sv acc g i q = S g i q := by
  unfold tlS
  rw [addF_g _ _ (by omega), thrS_g (by omega)]
theorem tlS_3 {i q : Nat} : tlS S k sv acc 3 i q = if i = (S 0 0 5 + 1).toNat then fvl (k : Int) sv (S 0 0 11) (S 8 0 k) (thrS S k 7 0 k) (acc : Int) q else S 3 i q := by
  unfold tlS
  rw [addF_3, thrS_g (g := 0) (by decide), thrS_g (g := 3) (by decide)]
theorem tlS_r {g q : Nat} (hg : g = 7 ∨ g = 8) : tlS S k sv acc g 0 q = thrS S k g 0 q := by
  unfold tlS
  rw [addF_g _ _ (by omega)]
theorem thr_7 {q : Nat} : thrS S k 7 0 q = if q = k ∧ ¬ S 8 0 k = 0 then 1 else S 7 0 q := by
  unfold thrS
  split
  · rename_i h; rw [if_neg (fun z => z.2 h)]
  · rename_i h
    rw [up_ne _ (by decide), up_if]
    simp [h]
theorem thr_8 {q : Nat} : thrS S k 8 0 q = if q = k then 0 else S 8 0 q := by
  unfold thrS
  split
  · rename_i h
    split
    · rename_i e; rw [e, h]
    · rfl
  · rw [up_if]
    simp [up_ne]
theorem tlS_in {i s : Nat} : inD (tlS S k sv acc) i s ↔ inD S i s := by
  unfold inD seenb
  rw [tlS_g (by omega), tlS_g (by omega), tlS_g (by omega), tlS_g (by omega), tlS_g (by omega), tlS_0 (by decide)]
theorem tlS_L3 {f : Nat} (h5 : 0 ≤ S 0 0 5) : LC (tlS S k sv acc) 3 f ↔ (LC S 3 f ∨ f = (S 0 0 5 + 1).toNat) := by
  simp only [LC, tlS_5]
  omega
theorem iv_tl (h : IV S) (h40 : S 0 0 5 < 40) (hk : 1 ≤ k ∧ k ≤ 6) (hs : -1 ≤ sv ∧ sv ≤ 7) (ha : acc < 2305843009213693952) : IV (tlS S k sv acc) := by
  rw [← tlS_tell h40]
  exact IV.tellS h hk hs (by omega)
/-- all but the doubts -/
theorem ms_tell0 (h : MS S τ) (hV : IV S) (h40 : S 0 0 5 < 40) (hF : (F : Int) = S 0 0 5 + 1) (hk : k ≤ 6) {t pl z : Int} (ht : t = S 0 0 11) (hp : pl = ph_b (sv = -1)) (hz : z = thrS S k 7 0 k) :
    MS (tlS S k sv 0) (ph_up (ph_up (ph_up (ph_up (ph_up (ph_up (ph_up (ph_up (ph_up τ 20 0 16 (S 0 0 5 + 1)) 38 0 F (k : Int)) 39 0 F sv) 40 0 F t) 43 0 F pl) 42 0 F (S 8 0 k)) 47 0 k z) 48 0 k 0) 41 0 F z) := by
  have hc := hV.c
  obtain ⟨h1, h2, h3, h4, h5, h6, h7⟩ := h
  generalize hτ : (ph_up (ph_up (ph_up (ph_up (ph_up (ph_up (ph_up (ph_up (ph_up τ 20 0 16 (S 0 0 5 + 1)) 38 0 F (k : Int)) 39 0 F sv) 40 0 F t) 43 0 F pl) 42 0 F (S 8 0 k)) 47 0 k z) 48 0 k 0) 41 0 F z) = τ1
  have u : ∀ g q, g ≠ 20 → g ≠ 38 → g ≠ 39 → g ≠ 40 → g ≠ 41 → g ≠ 42 → g ≠ 43 → g ≠ 47 → g ≠ 48 → τ1 g 0 q = τ g 0 q := fun g q a1 a2 a3 a4 a5 a6 a7 a8 a9 => by
    rw [← hτ, up_ne _ a5, up_ne _ a9, up_ne _ a8, up_ne _ a6, up_ne _ a7, up_ne _ a4, up_ne _ a3, up_ne _ a2, up_ne _ a1]
  have u0 : ∀ q, q ≠ 16 → τ1 20 0 q = τ 20 0 q := fun q hq => by
    rw [← hτ, up_ne _ (by decide), up_ne _ (by decide), up_ne _ (by decide), up_ne _ (by decide), up_ne _ (by decide), up_ne _ (by decide), up_ne _ (by decide), up_ne _ (by decide), ph_up_no _ _ (by omega)]
  have uF : ∀ g q, g ≠ 20 → g ≠ 47 → g ≠ 48 → q ≠ F → τ1 g 0 q = τ g 0 q := fun g q a1 a2 a3 a4 => by
    rw [← hτ, ph_up_no _ _ (by omega), up_ne _ a3, up_ne _ a2, ph_up_no _ _ (by omega), ph_up_no _ _ (by omega), ph_up_no _ _ (by omega), ph_up_no _ _ (by omega), ph_up_no _ _ (by omega), up_ne _ a1]
  refine ⟨?_, h2.eq (tlS_0 (by decide)) (fun _ _ => tlS_g (by omega)) (fun g q _ _ => u g q (by omega) (by omega) (by omega) (by omega) (by omega) (by omega) (by omega) (by omega) (by omega)), h3.eq (tlS_0 (by decide)) (fun _ _ _ => tlS_g (by omega)) (fun g q _ _ => u g q (by omega) (by omega) (by omega) (by omega) (by omega) (by omega) (by omega) (by omega) (by omega)), ⟨fun f hf => ?_, fun f hf => ?_⟩, fun q hq => ?_, h6.eq (fun g q _ _ => u g q (by omega) (by omega) (by omega) (by omega) (by omega) (by omega) (by omega) (by omega) (by omega)), h7.eq (fun g q _ => u g q (by omega) (by omega) (by omega) (by omega) (by omega) (by omega) (by omega) (by omega) (by omega)) (fun q _ => u0 q (by omega))⟩
  · obtain ⟨a1, a2, a3, a4⟩ := h1
    refine ⟨?_, ?_, ?_, ?_⟩
    · rw [u0 0 (by decide), tlS_0 (by decide)]; exact a1
    · rw [u0 7 (by decide), tlS_0 (by decide)]; exact a2
    · rw [tlS_5, ← hτ]; simp [ph_up]
    · rw [u0 30 (by decide), tlS_0 (by decide)]; exact a4
  · have hdb : ∀ i, dbit (tlS S k sv 0) f i ↔ (if f = (S 0 0 5 + 1).toNat then False else dbit S f i) := fun i => by
      unfold dbit
      rw [tlS_3]
      by_cases w : f = (S 0 0 5 + 1).toNat
      · rw [if_pos w, if_pos w]; simp [fvl]
      · rw [if_neg w, if_neg w]
    simp only [propext (hdb _), tlS_3]
    rw [tlS_0 (by decide)]
    rcases (tlS_L3 (by omega)).mp hf with w | w
    · have hne : ¬ f = (S 0 0 5 + 1).toNat := by simp only [LC] at w; omega
      have hn2 : f ≠ F := by omega
      simp only [if_neg hne]
      rw [uF 38 f (by decide) (by decide) (by decide) hn2, uF 39 f (by decide) (by decide) (by decide) hn2, uF 40 f (by decide) (by decide) (by decide) hn2, uF 41 f (by decide) (by decide) (by decide) hn2, uF 42 f (by decide) (by decide) (by decide) hn2, uF 43 f (by decide) (by decide) (by decide) hn2, uF 44 f (by decide) (by decide) (by decide) hn2, uF 45 f (by decide) (by decide) (by decide) hn2]
      refine ⟨(h4.1 f w).1, fun i i1 i2 => ?_⟩
      rw [u 46 _ (by decide) (by decide) (by decide) (by decide) (by decide) (by decide) (by decide) (by decide) (by decide)]
      exact (h4.1 f w).2 i i1 i2
    · have hfF : f = F := by omega
      simp only [if_pos w]
      obtain ⟨⟨b1, b2⟩, b3⟩ := h4.2 f (by omega)
      refine ⟨⟨?_, ?_, ?_, ?_, ?_, ?_, ?_, ?_⟩, fun i i1 i2 => ?_⟩
      · rw [← hτ, hfF]; simp [ph_up, fvl]
      · rw [← hτ, hfF]; simp [ph_up, fvl]
      · rw [← hτ, hfF]; simp [ph_up, fvl, ht]
      · rw [← hτ, hfF]; simp [ph_up, fvl, hz]
      · rw [← hτ, hfF]; simp [ph_up, fvl]
      · rw [← hτ, hfF]; simp [ph_up, fvl, hp]
      · rw [u 44 _ (by decide) (by decide) (by decide) (by decide) (by decide) (by decide) (by decide) (by decide) (by decide), b1]; rfl
      · rw [u 45 _ (by decide) (by decide) (by decide) (by decide) (by decide) (by decide) (by decide) (by decide) (by decide), b2, ph_b0 (by omega)]
      · rw [u 46 _ (by decide) (by decide) (by decide) (by decide) (by decide) (by decide) (by decide) (by decide) (by decide), b3 i i1 i2, ph_b0 (fun z => z)]
  · rw [tlS_5] at hf
    obtain ⟨⟨b1, b2⟩, b3⟩ := h4.2 f (by omega)
    refine ⟨⟨?_, ?_⟩, fun i i1 i2 => ?_⟩
    · rw [u 44 _ (by decide) (by decide) (by decide) (by decide) (by decide) (by decide) (by decide) (by decide) (by decide)]; exact b1
    · rw [u 45 _ (by decide) (by decide) (by decide) (by decide) (by decide) (by decide) (by decide) (by decide) (by decide)]; exact b2
    · rw [u 46 _ (by decide) (by decide) (by decide) (by decide) (by decide) (by decide) (by decide) (by decide) (by decide)]; exact b3 i i1 i2
  · obtain ⟨a1, a2⟩ := h5 q hq
    rw [tlS_r (by omega), tlS_r (by omega)]
    by_cases e : q = k
    · subst e
      refine ⟨?_, ?_⟩
      · rw [← hz, ← hτ]; simp [ph_up]
      · rw [thr_8, if_pos rfl, ← hτ]; simp [ph_up]
    · refine ⟨?_, ?_⟩
      · rw [thr_7, if_neg (fun w => e w.1), ← a1, ← hτ]; simp [ph_up, e]
      · rw [thr_8, if_neg e, ← a2, ← hτ]; simp [ph_up, e]
/-- one doubt -/
theorem ms_db {acc2 i : Nat} {z : Int} (h : MS (tlS S k sv acc) τ) (h5 : 0 ≤ S 0 0 5) (hF : (F : Int) = S 0 0 5 + 1) (hi : 1 ≤ i ∧ i ≤ 60) (hz : z = ph_b (acc2.testBit i = true)) (ha : ∀ j, j ≠ i → acc2.testBit j = acc.testBit j) : MS (tlS S k sv acc2) (ph_up τ 46 0 (61 * F + i) z) := by
  obtain ⟨h1, h2, h3, h4, h5', h6, h7⟩ := h
  refine ⟨h1.eq (fun q hq => ?_) (fun q _ => up_ne _ (by omega)), h2.eq (by rw [tlS_0 (by decide), tlS_0 (by decide)]) (fun _ _ => by rw [tlS_g (by omega), tlS_g (by omega)]) (fun g q _ _ => up_ne _ (by omega)), h3.eq (by rw [tlS_0 (by decide), tlS_0 (by decide)]) (fun _ _ _ => by rw [tlS_g (by omega), tlS_g (by omega)]) (fun g q _ _ => up_ne _ (by omega)), ⟨fun f hf => ?_, fun f hf => ?_⟩, h5'.eq (fun g q hg => by rw [tlS_r hg, tlS_r hg]) (fun g q _ _ => up_ne _ (by omega)), h6.eq (fun g q _ _ => up_ne _ (by omega)), h7.eq (fun g q _ => up_ne _ (by omega)) (fun q _ => up_ne _ (by omega))⟩
  · rcases hq with rfl | rfl | rfl | rfl
    · rw [tlS_0 (by decide), tlS_0 (by decide)]
    · rw [tlS_0 (by decide), tlS_0 (by decide)]
    · rw [tlS_5, tlS_5]
    · rw [tlS_0 (by decide), tlS_0 (by decide)]
  · have hf' : LC (tlS S k sv acc) 3 f := by
      simp only [LC, tlS_5] at hf ⊢
      exact hf
    obtain ⟨b1, b2⟩ := h4.1 f hf'
    have e : ∀ q, q ≠ 5 → tlS S k sv acc2 3 f q = tlS S k sv acc 3 f q := fun q hq => by
      rw [tlS_3, tlS_3]
      split
      · rcases (show q = 0 ∨ q = 1 ∨ q = 2 ∨ q = 3 ∨ q = 4 ∨ 6 ≤ q by omega) with rfl | rfl | rfl | rfl | rfl | hq6
        · rfl
        · rfl
        · rfl
        · rfl
        · rfl
        · unfold fvl
          split <;> first | rfl | omega
      · rfl
    refine ⟨?_, fun j j1 j2 => ?_⟩
    · rw [up_ne _ (by decide), up_ne _ (by decide), up_ne _ (by decide), up_ne _ (by decide), up_ne _ (by decide), up_ne _ (by decide), up_ne _ (by decide), up_ne _ (by decide), e 0 (by decide), e 1 (by decide), e 2 (by decide), e 3 (by decide), e 4 (by decide), e 6 (by decide), tlS_0 (by decide)]
      rw [tlS_0 (by decide)] at b1
      exact b1
    · by_cases w : f = F ∧ j = i
      · obtain ⟨rfl, rfl⟩ := w
        rw [ph_up_at, hz]
        have : dbit (tlS S k sv acc2) f j ↔ acc2.testBit j = true := by
          unfold dbit
          rw [tlS_3, if_pos (by omega)]
          simp [fvl]
        rw [propext this]
      · rw [up_k _ _ (by omega), b2 j j1 j2]
        have : dbit (tlS S k sv acc2) f j ↔ dbit (tlS S k sv acc) f j := by
          unfold dbit
          rw [tlS_3, tlS_3]
          by_cases q : f = (S 0 0 5 + 1).toNat
          · rw [if_pos q, if_pos q]
            have hne : j ≠ i := by omega
            simp [fvl, ha j hne]
          · rw [if_neg q, if_neg q]
        rw [propext this]
  · have hf' : tlS S k sv acc 0 0 5 < (f : Int) := by rw [tlS_5] at hf ⊢; exact hf
    rw [tlS_5] at hf
    obtain ⟨b1, b2⟩ := h4.2 f hf'
    refine ⟨by rw [up_ne _ (by decide), up_ne _ (by decide)]; exact b1, fun j j1 j2 => ?_⟩
    rw [up_k _ _ (by omega)]
    exact b2 j j1 j2
theorem bit_or {acc i j : Nat} (h : j ≠ i) : (acc ||| 2 ^ i).testBit j = acc.testBit j := by
  rw [Nat.testBit_or, Nat.testBit_two_pow]
  simp [show ¬ i = j by omega]
theorem bit_at (acc i : Nat) : (acc ||| 2 ^ i).testBit i = true := by
  rw [Nat.testBit_or, Nat.testBit_two_pow]
  simp
theorem bit_hi {acc i : Nat} (h : acc < 2 ^ i) : acc.testBit i = false := Nat.testBit_lt_two_pow h
theorem bit_nx {acc i : Nat} (h : acc < 2 ^ i) : acc ||| 2 ^ i < 2 ^ (i + 1) := Nat.or_lt_two_pow (Nat.lt_of_lt_of_le h (Nat.pow_le_pow_right (by decide) (by omega))) (Nat.pow_lt_pow_right (by decide) (by omega))
theorem bit_61 {acc i : Nat} (h : acc < 2 ^ i) (hi : i ≤ 61) : acc < 2305843009213693952 := Nat.lt_of_lt_of_le h (Nat.pow_le_pow_right (by decide) hi)
end TLS
def plG (S : ph_T) (x t : Int) : Prop := (1 ≤ x ∧ x ≤ 6) ∧ (S 0 0 11 ≤ t ∧ t ≤ 1000000000) ∧ runs S ∧ 40 ≤ S 0 0 5
noncomputable def plantG (S : ph_T) (x t : Int) : ph_T := @ite ph_T (plG S x t) (Classical.propDecidable _) (ph_up S 0 0 11 t) (plantS S x t)
theorem plantG_t {S : ph_T} {x t : Int} (h : plG S x t) : plantG S x t = ph_up S 0 0 11 t := if_pos h
theorem plantG_f {S : ph_T} {x t : Int} (h : ¬ plG S x t) : plantG S x t = plantS S x t := if_neg h
