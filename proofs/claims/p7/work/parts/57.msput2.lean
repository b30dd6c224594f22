/-! ===== items' numbers of the other side are written ===== -/
theorem up_same {τ : ph_T} {g i k : Nat} {z : Int} (h : τ g i k = z) : ph_up τ g i k z = τ := by
  funext g' i' k'
  unfold ph_up
  split
  · rename_i q
    obtain ⟨rfl, rfl, rfl⟩ := q
    exact h.symm
  · rfl
section MSPUT2
variable {S S1 τ : ph_T}
/-- the numbers of the class that the other side doesn't have -/
theorem MS.sq (h : MS S τ) (e0 : ∀ k, k = 1 ∨ k = 3 ∨ k = 5 ∨ k = 6 ∨ k = 11 → S1 0 0 k = S 0 0 k) (e1 : ∀ i k, S1 1 i k = S 1 i k) (e2 : ∀ i k, k = 0 ∨ k = 1 ∨ k = 5 ∨ k = 6 → S1 2 i k = S 2 i k) (e3 : ∀ i k, S1 3 i k = S 3 i k) (e7 : ∀ g k, g = 7 ∨ g = 8 → S1 g 0 k = S g 0 k) : MS S1 τ := by
  obtain ⟨h1, h2, h3, h4, h5, h6, h7⟩ := h
  exact ⟨h1.eq (fun k hk => e0 k (by omega)) (fun _ _ => rfl), h2.eq (e0 1 (by omega)) e1 (fun _ _ _ _ => rfl), h3.eq (e0 3 (by omega)) e2 (fun _ _ _ _ => rfl), h4.eq (e0 5 (by omega)) (e0 6 (by omega)) e3 (fun _ _ _ _ => rfl), h5.eq e7 (fun _ _ _ _ => rfl), h6, h7⟩
theorem ms_st (h : MS S τ) {i : Nat} (hi : LC S 2 i) (z : Int) : MS (ph_up S 2 i 5 z) (ph_up τ 31 0 i (stm z)) := by
  obtain ⟨h1, h2, h3, h4, h5, h6, h7⟩ := h
  have e0 : ∀ k, ph_up S 2 i 5 z 0 0 k = S 0 0 k := fun k => up_ne _ (by decide)
  refine ⟨h1.eq (fun k _ => e0 k) (fun k _ => up_ne _ (by omega)), h2.eq (e0 1) (fun _ _ => up_ne _ (by decide)) (fun g k _ _ => up_ne _ (by omega)), ⟨fun q hq => ?_, fun q hq => ?_⟩, h4.eq (e0 5) (e0 6) (fun _ _ => up_ne _ (by decide)) (fun g k _ _ => up_ne _ (by omega)), h5.eq (fun _ _ _ => up_ne _ (by omega)) (fun g k _ _ => up_ne _ (by omega)), h6.eq (fun g k _ _ => up_ne _ (by omega)), h7.eq (fun g k _ => up_ne _ (by omega)) (fun k _ => up_ne _ (by omega))⟩
  · have hq' : LC S 2 q := by simp only [LC] at hq ⊢; rw [e0] at hq; exact hq
    obtain ⟨a1, a2, a3, a4⟩ := h3.1 q hq'
    refine ⟨?_, ?_, ?_, fun s hs => ?_⟩
    · rw [up_ne _ (by decide), ph_up_no _ _ (by omega)]; exact a1
    · rw [up_ne _ (by decide), ph_up_no _ _ (by omega)]; exact a2
    · by_cases e : q = i
      · subst e; rw [ph_up_at, ph_up_at]
      · rw [up_k _ _ e, ph_up_no _ _ (by omega)]; exact a3
    · rw [up_ne _ (by decide), a4 s hs]
      have : seenb (ph_up S 2 i 5 z) q s ↔ seenb S q s := by unfold seenb; rw [ph_up_no _ _ (by omega)]
      rw [propext this]
  · rw [e0] at hq
    have hne : q ≠ i := by simp only [LC] at hi; omega
    obtain ⟨a1, a2⟩ := h3.2 q hq
    refine ⟨by rw [up_k _ _ hne]; exact a1, fun s hs => by rw [up_ne _ (by decide)]; exact a2 s hs⟩
theorem ms_take (h : MS S τ) {i : Nat} (hi : LC S 2 i) (f : Int) : MS (takeS S i f) (ph_up τ 31 0 i 1) := by
  unfold takeS
  split
  · rename_i e
    rw [up_same (by rw [h.i31 hi, e]; rfl)]
    exact h
  · refine (ms_st h hi 2).sq (fun k _ => up_ne _ (by decide)) (fun _ _ => up_ne _ (by decide)) (fun j k hk => ph_up_no _ _ (by omega)) (fun _ _ => up_ne _ (by decide)) (fun g k hg => up_ne _ (by omega))
theorem ms_leave (h : MS S τ) {i : Nat} (hi : LC S 2 i) (h0 : S 2 i 5 = 0) : MS (leaveS S i) (ph_up τ 31 0 i 2) := by
  unfold leaveS
  rw [if_pos h0]
  exact ms_st h hi 1
theorem ms_see (h : MS S τ) {i s : Nat} (hi : LC S 2 i) (hs : s < 8) : MS (seeS S i s) (ph_up τ 32 0 (8 * i + s) 1) := by
  obtain ⟨h1, h2, h3, h4, h5, h6, h7⟩ := h
  have e0 : ∀ k, seeS S i s 0 0 k = S 0 0 k := fun k => seeS_g (by decide)
  refine ⟨h1.eq (fun k _ => e0 k) (fun k _ => up_ne _ (by omega)), h2.eq (e0 1) (fun _ _ => seeS_g (by decide)) (fun g k _ _ => up_ne _ (by omega)), ⟨fun q hq => ?_, fun q hq => ?_⟩, h4.eq (e0 5) (e0 6) (fun _ _ => seeS_g (by decide)) (fun g k _ _ => up_ne _ (by omega)), h5.eq (fun _ _ _ => seeS_g (by omega)) (fun g k _ _ => up_ne _ (by omega)), h6.eq (fun g k _ _ => up_ne _ (by omega)), h7.eq (fun g k _ => up_ne _ (by omega)) (fun k _ => up_ne _ (by omega))⟩
  · have hq' : LC S 2 q := by simp only [LC] at hq ⊢; rw [e0] at hq; exact hq
    obtain ⟨a1, a2, a3, a4⟩ := h3.1 q hq'
    refine ⟨?_, ?_, ?_, fun s' hs' => ?_⟩
    · unfold seeS; rw [up_ne _ (by decide), ph_up_no _ _ (by omega)]; exact a1
    · unfold seeS; rw [up_ne _ (by decide), ph_up_no _ _ (by omega)]; exact a2
    · unfold seeS; rw [up_ne _ (by decide), ph_up_no _ _ (by omega)]; exact a3
    · by_cases e : q = i
      · subst e
        by_cases e2 : s' = s
        · subst e2
          rw [ph_up_at, ph_b1]
          unfold seenb seeS
          rw [ph_up_at, Int.toNat_natCast]
          exact bit_at _ _
        · rw [up_k _ _ (by omega), a4 s' hs']
          have : seenb (seeS S q s) q s' ↔ seenb S q s' := by
            unfold seenb seeS
            rw [ph_up_at, Int.toNat_natCast, bit_or e2]
          rw [propext this]
      · rw [up_k _ _ (by omega), a4 s' hs']
        have : seenb (seeS S i s) q s' ↔ seenb S q s' := by
          unfold seenb seeS
          rw [ph_up_no _ _ (by omega)]
        rw [propext this]
  · rw [e0] at hq
    simp only [LC] at hi
    obtain ⟨a1, a2⟩ := h3.2 q hq
    refine ⟨by rw [up_ne _ (by decide)]; exact a1, fun s' hs' => by rw [up_k _ _ (by omega)]; exact a2 s' hs'⟩
end MSPUT2
/-! ===== what the class's states keep beside their bounds ===== -/
def HM (S : ph_T) : Prop := ∀ i j : Nat, 1 ≤ i → i ≤ j → (j : Int) ≤ S 0 0 3 → S 2 i 1 ≤ S 2 j 1
def SB (S : ph_T) : Prop := ∀ s : Nat, LC S 1 s → (S 1 s 2 = 0 → S 1 s 3 = 0) ∧ (1 ≤ S 1 s 3 → seenb S (S 1 s 3).toNat s)
def US (S : ph_T) : Prop := ∀ f : Nat, S 0 0 6 < (f : Int) → (f : Int) ≤ S 0 0 5 → ¬ nextv S f = 0
def GI (S : ph_T) : Prop := HM S ∧ SB S ∧ US S
section GIS
variable {S S1 : ph_T}
theorem HM.eq (h : HM S) (e3 : S1 0 0 3 = S 0 0 3) (e : ∀ i, S1 2 i 1 = S 2 i 1) : HM S1 := fun i j h1 h2 h3 => by rw [e, e]; exact h i j h1 h2 (by omega)
theorem SB.eq (h : SB S) (e1 : S1 0 0 1 = S 0 0 1) (e : ∀ i k, k = 2 ∨ k = 3 → S1 1 i k = S 1 i k) (e6 : ∀ i, S1 2 i 6 = S 2 i 6) : SB S1 := fun s hs => by
  have hs' : LC S 1 s := by simp only [LC] at hs ⊢; rw [← e1]; exact hs
  have := h s hs'
  unfold seenb at this ⊢
  rw [e s 2 (by omega), e s 3 (by omega), e6]
  exact this
theorem US.eq (h : US S) (e5 : S1 0 0 5 = S 0 0 5) (e6 : S1 0 0 6 = S 0 0 6) (e : ∀ i k, k = 0 ∨ k = 6 → S1 3 i k = S 3 i k) : US S1 := fun f h1 h2 => by
  unfold nextv
  rw [e f 0 (by omega), e f 6 (by omega)]
  exact h f (by omega) (by omega)
theorem GI.eq (h : GI S) (e0 : ∀ k, k = 1 ∨ k = 3 ∨ k = 5 ∨ k = 6 → S1 0 0 k = S 0 0 k) (e1 : ∀ i k, k = 2 ∨ k = 3 → S1 1 i k = S 1 i k) (e2 : ∀ i k, k = 1 ∨ k = 6 → S1 2 i k = S 2 i k) (e3 : ∀ i k, k = 0 ∨ k = 6 → S1 3 i k = S 3 i k) : GI S1 :=
  ⟨h.1.eq (e0 3 (by omega)) (fun i => e2 i 1 (by omega)), h.2.1.eq (e0 1 (by omega)) e1 (fun i => e2 i 6 (by omega)), h.2.2.eq (e0 5 (by omega)) (e0 6 (by omega)) e3⟩
theorem GI.clk (h : GI S) (z : Int) : GI (ph_up S 0 0 11 z) := h.eq (fun k hk => ph_up_no _ _ (by omega)) (fun _ _ _ => up_ne _ (by decide)) (fun _ _ _ => up_ne _ (by decide)) (fun _ _ _ => up_ne _ (by decide))
theorem GI.take (h : GI S) (i : Nat) (f : Int) : GI (takeS S i f) := by
  unfold takeS
  split
  · exact h
  · exact h.eq (fun k hk => by rw [up_ne _ (by decide), up_ne _ (by decide)]) (fun _ _ _ => by rw [up_ne _ (by decide), up_ne _ (by decide)]) (fun _ k hk => by rw [ph_up_no _ _ (by omega), ph_up_no _ _ (by omega)]) (fun _ _ _ => by rw [up_ne _ (by decide), up_ne _ (by decide)])
theorem GI.leave (h : GI S) (i : Nat) : GI (leaveS S i) := by
  unfold leaveS
  split
  · exact h.eq (fun k hk => up_ne _ (by decide)) (fun _ _ _ => up_ne _ (by decide)) (fun _ k hk => ph_up_no _ _ (by omega)) (fun _ _ _ => up_ne _ (by decide))
  · exact h
theorem GI.sup (h : GI S) {s k : Nat} (z : Int) (hk : k ≠ 2 ∧ k ≠ 3) : GI (ph_up S 1 s k z) := h.eq (fun k hk => up_ne _ (by decide)) (fun _ _ _ => ph_up_no _ _ (by omega)) (fun _ _ _ => up_ne _ (by decide)) (fun _ _ _ => up_ne _ (by decide))
theorem GI.light (h : GI S) (s : Nat) : GI (lightS S s) := by
  refine ⟨h.1.eq (lightS_g (by decide)) (fun i => lightS_g (by decide)), fun q hq => ?_, h.2.2.eq (lightS_g (by decide)) (lightS_g (by decide)) (fun i k _ => lightS_g (by decide))⟩
  have hq' : LC S 1 q := by simp only [LC] at hq ⊢; rw [lightS_g (by decide)] at hq; exact hq
  have := h.2.1 q hq'
  unfold seenb at this ⊢
  rw [lightS_g (g := 2) (by decide)]
  by_cases e : q = s
  · subst e
    have e3 : lightS S q 1 q 3 = 0 := by unfold lightS; rw [ph_up_at]
    rw [e3]
    exact ⟨fun _ => rfl, fun z => absurd z (by decide)⟩
  · have en : ∀ k, lightS S s 1 q k = S 1 q k := fun k => by unfold lightS; rw [ph_up_no _ _ (by omega), ph_up_no _ _ (by omega)]
    rw [en, en]
    exact this
theorem GI.tell (h : GI S) (hV : IV S) {kd : Nat} {s db : Int} (hk : 1 ≤ kd ∧ kd ≤ 6) : GI (tellS S kd s db) := by
  have hc := hV.c
  by_cases q : 40 ≤ S 0 0 5
  · rw [tell_full q]; exact h
  · refine ⟨h.1.eq (tellS_0 (by decide)) (fun i => tellS_g (by decide)), h.2.1.eq (tellS_0 (by decide)) (fun _ _ _ => tellS_g (by decide)) (fun _ => tellS_g (by decide)), fun f h1 h2 => ?_⟩
    rw [tellS_0 (by decide)] at h1
    rw [tellS_5, if_neg q] at h2
    have e : ∀ k, tellS S kd s db 3 f k = if f = (S 0 0 5 + 1).toNat then fvl (kd : Int) s (S 0 0 11) (S 8 0 kd) (thrS S kd 7 0 kd) db k else S 3 f k := fun k => by
      unfold tellS
      rw [if_neg q, addF_3, thrS_g (g := 0) (by decide), thrS_g (g := 3) (by decide)]
    unfold nextv
    rw [e 6, e 0]
    by_cases w : f = (S 0 0 5 + 1).toNat
    · rw [if_pos w, if_pos w]
      show ¬ (if (3 : Int) ≤ 0 then (0 : Int) else stT (((kd : Int) - 1) * 3 + 0).toNat) = 0
      rw [if_neg (by decide)]
      rcases (show kd = 1 ∨ kd = 2 ∨ kd = 3 ∨ kd = 4 ∨ kd = 5 ∨ kd = 6 by omega) with rfl | rfl | rfl | rfl | rfl | rfl <;> decide
    · rw [if_neg w, if_neg w]
      exact h.2.2 f h1 (by omega)
theorem GI.jam (h : GI S) (hV : IV S) (s : Nat) : GI (jamS S s) := by
  rcases Classical.em (jamC S s) with q | q
  · rw [jamS_t q]
    exact (h.sup 1 (by decide)).tell (hV.upS (by omega) (by omega) (by omega) (by omega) (by omega)) (by omega)
  · rw [jamS_f q]; exact h
theorem GI.tj : ∀ (n s : Nat) (S : ph_T), GI S → IV S → (s : Int) + n ≤ S 0 0 1 → GI (tjF n s S)
  | 0, _, _, h, _, _ => h
  | n + 1, s, S, h, hV, h1 => by
    rw [tjF_s]
    exact GI.tj n (s + 1) _ (h.jam hV s) (hV.jamS (show (s : Int) < S 0 0 1 by omega)) (by rw [jamS_0 (by decide)]; omega)
theorem GI.lost (h : GI S) (hV : IV S) (i s : Nat) : GI (lostS S i s) := by
  rcases Classical.em (lostC S i s) with q | q
  · rw [lostS_t q]; exact (h.tell hV (by omega)).take _ _
  · rw [lostS_f q]; exact h
theorem GI.ls {s : Nat} : ∀ (n i : Nat) (S : ph_T), GI S → IV S → LC S 1 s → GI (lsF s n i S)
  | 0, _, _, h, _, _ => h
  | n + 1, i, S, h, hV, h1 => by
    rw [lsF_s]
    exact GI.ls n (i + 1) _ (h.lost hV i s) (hV.lostS h1) (show (s : Int) < _ by rw [lostS_0 (by decide)]; exact h1)
theorem GI.dark (h : GI S) {s : Nat} {b t : Int} (hb : 1 ≤ b → seenb S b.toNat s) : GI (darkS S s b t) := by
  refine ⟨h.1.eq (darkS_g (by decide)) (fun i => darkS_g (by decide)), fun q hq => ?_, h.2.2.eq (darkS_g (by decide)) (darkS_g (by decide)) (fun i k _ => darkS_g (by decide))⟩
  have hq' : LC S 1 q := by simp only [LC] at hq ⊢; rw [darkS_g (by decide)] at hq; exact hq
  have := h.2.1 q hq'
  unfold seenb at this hb ⊢
  rw [darkS_g (g := 2) (by decide)]
  by_cases e : q = s
  · subst e
    have e3 : darkS S q b t 1 q 3 = b := by unfold darkS; simp [ph_up]
    have e2 : darkS S q b t 1 q 2 = 1 := by unfold darkS; simp [ph_up]
    rw [e3, e2]
    exact ⟨fun z => absurd z (by decide), hb⟩
  · have en : ∀ k, darkS S s b t 1 q k = S 1 q k := fun k => by unfold darkS; rw [ph_up_no _ _ (by omega), ph_up_no _ _ (by omega), ph_up_no _ _ (by omega), ph_up_no _ _ (by omega)]
    rw [en, en]
    exact this
theorem GI.see (h : GI S) {i s : Nat} : GI (seeS S i s) := by
  refine ⟨h.1.eq (seeS_g (by decide)) (fun j => by unfold seeS; exact ph_up_no _ _ (by omega)), fun q hq => ?_, h.2.2.eq (seeS_g (by decide)) (seeS_g (by decide)) (fun i k _ => seeS_g (by decide))⟩
  have hq' : LC S 1 q := by simp only [LC] at hq ⊢; rw [seeS_g (by decide)] at hq; exact hq
  have := h.2.1 q hq'
  rw [seeS_g (g := 1) (by decide), seeS_g (g := 1) (by decide)]
  refine ⟨this.1, fun z => ?_⟩
  have w := this.2 z
  unfold seenb at w ⊢
  unfold seeS
  rw [up_if]
  split
  · rename_i e
    rw [Int.toNat_natCast, Nat.testBit_or]
    rw [e.1] at w
    rw [w]; rfl
  · exact w
theorem GI.bd (h : GI S) (hV : IV S) {s : Nat} (hs : LC S 1 s) : GI (bdS S s) := by
  have hV0 : IV (ph_up S 1 s 1 (S 1 s 1 + 1)) := hV.upS (by omega) (by omega) (by omega) (by omega) (by omega)
  have h1 : GI (dkA S s) := GI.ls _ _ _ (h.sup _ (by decide)) hV0 (LC1 (up_ne _ (by decide)) hs)
  have hV1 := hV.dkA hs
  unfold bdS
  generalize dkA S s = S1 at h1 hV1
  rcases Classical.em (coming S1 ((lu S1 s : Nat) : Int) s) with q | q
  · rw [dkB_t q]
    refine h1.see.dark (fun _ => ?_)
    rw [Int.toNat_natCast]
    unfold seenb seeS
    rw [ph_up_at, Int.toNat_natCast]
    exact bit_at _ _
  · rw [dkB_f q]
    exact (h1.tell hV1 (by omega)).dark (fun z => absurd z (by decide))
theorem gi_judge (h : GI S) (hV : IV S) (s i : Nat) : GI (judgeS S s i) := by
  unfold judgeS
  split
  · have h1 : GI (jlA S s i) := (h.tell hV (by omega)).take _ _
    generalize jlA S s i = S1 at h1
    rcases Classical.em (coming S1 ((lu S1 s : Nat) : Int) s) with q | q
    · rw [jlB_t q]; exact h1.take _ _
    · rw [jlB_f q]; exact h1
  · split
    · exact h.tell hV (by omega)
    · exact h
theorem GI.bl (h : GI S) (hV : IV S) (s : Nat) : GI (blS S s) := by
  refine GI.light ?_ s
  unfold blA
  split
  · unfold blB
    split
    · exact (gi_judge h hV _ _).leave _
    · exact gi_judge h hV _ _
  · exact h
theorem gi_edJ (h : GI S) (hV : IV S) {t : Int} (ht : S 0 0 11 ≤ t ∧ t ≤ 1000000000) : GI (edJ S t) := by
  have hc := hV.c
  exact GI.tj _ _ _ (h.clk t) (hV.up0 (k := 11) (by omega) (by omega) (by omega) (by omega)) (by rw [ph_up_no _ _ (by decide)]; omega)
theorem GI.edge (h : GI S) (hV : IV S) (x d t : Int) : GI (edgeS S x d t) := by
  rcases Classical.em (edOk S x d t) with q | q
  · rw [edgeS_t q]
    obtain ⟨q1, q2, q3, q4⟩ := q
    have h1 := gi_edJ h hV q2
    have hV1 := hV.edJ q2
    have hs := LC1 (S := S) (s := x.toNat) (edJ_0 (S := S) (t := t) (k := 1) (by decide) (by decide)) (show (x.toNat : Int) < S 0 0 1 by omega)
    rcases Classical.em (runs (edJ S t)) with r | r
    · by_cases hd : d = 0
      · rw [edB_l r hd]; exact h1.bl hV1 _
      · rw [edB_d r hd]; exact h1.bd hV1 hs
    · rw [edB_n r]; exact h1
  · rw [edgeS_f q]; exact h
theorem GI.plant (h : GI S) (hV : IV S) (x t : Int) : GI (plantS S x t) := by
  rcases Classical.em (plantOk S x t) with q | q
  · rw [plantS_t q]
    obtain ⟨q1, q2, q3, q4⟩ := q
    exact (h.clk t).tell (hV.up0 (k := 11) (by omega) (by omega) (by omega) (by omega)) (by omega)
  · rw [plantS_f q]; exact h
theorem GI.sen (h : GI S) (hV : IV S) (x : Int) : GI (senS S x) := by
  have hc := hV.c
  rcases Classical.em (senOk S x) with q | q
  · rw [senS_t q]
    refine ⟨h.1.eq (addS_0 _ _ (by decide)) (fun i => addS_g _ _ (by decide)), fun s hs => ?_, h.2.2.eq (addS_0 _ _ (by decide)) (addS_0 _ _ (by decide)) (fun i k _ => addS_g _ _ (by decide))⟩
    unfold seenb
    rw [addS_s, addS_s, addS_g _ _ (by decide)]
    rcases (addS_L (by omega) 1 s).mp hs with w | ⟨-, w⟩
    · have hne : ¬ s = (S 0 0 1).toNat := by simp only [LC] at w; omega
      rw [if_neg hne, if_neg hne]
      exact h.2.1 s w
    · rw [if_pos w, if_pos w]
      exact ⟨fun _ => rfl, fun z => absurd z (by show ¬ (1 : Int) ≤ 0; decide)⟩
  · rw [senS_f q]; exact h
theorem GI.it (h : GI S) (hV : IV S) (x t : Int) : GI (itS S x t) := by
  have hc := hV.c
  rcases Classical.em (itOk S x t) with q | q
  · rw [itS_t q]
    obtain ⟨⟨q1, q2, q3, q4⟩, q5, q6⟩ := q
    refine ⟨fun i j h1 h2 h3 => ?_, ?_, h.2.2.eq (addI_0 _ _ (by decide)) (addI_0 _ _ (by decide)) (fun i k _ => addI_g _ _ (by decide))⟩
    · rw [addI_c] at h3
      rw [addI_s, addI_s]
      by_cases wj : j = (S 0 0 3 + 1).toNat
      · by_cases wi : i = (S 0 0 3 + 1).toNat
        · rw [if_pos wi, if_pos wj]; exact Int.le_refl _
        · rw [if_neg wi, if_pos wj]
          show S 2 i 1 ≤ t
          have := h.1 i (S 0 0 3).toNat h1 (by omega) (by omega)
          unfold earliest at q4
          rw [if_neg (by omega)] at q4
          have h9 := hV.i (show LC S 2 (S 0 0 3).toNat by simp only [LC]; omega)
          omega
      · rw [if_neg (by omega), if_neg wj]
        exact h.1 i j h1 h2 (by omega)
    · intro s hs
      have hs' : LC S 1 s := by simp only [LC] at hs ⊢; rw [addI_0 _ _ (by decide)] at hs; exact hs
      have w := h.2.1 s hs'
      have h9 := hV.s hs'
      rw [addI_g _ _ (by decide), addI_g _ _ (by decide)]
      refine ⟨w.1, fun z => ?_⟩
      have w2 := w.2 z
      unfold seenb at w2 ⊢
      rw [addI_s, if_neg (by omega)]
      exact w2
  · rw [itS_f q]; exact h
theorem GI.feed (h : GI S) (x : Int) : GI (feedS S x) := by
  unfold feedS
  split
  · refine h.eq (fun k hk => ?_) (fun i k hk => ?_) (fun i k hk => ?_) (fun i k hk => ?_)
    · unfold dropS; rw [tlF_0 (by decide) (by omega), up_ne _ (by decide)]
    · unfold dropS; rw [tlF_0 (by decide) (by omega), up_ne _ (by decide)]
    · unfold dropS; rw [tlF_0 (by decide) (by omega), ph_up_no _ _ (by omega)]
    · unfold dropS; rw [tlF_0 (by decide) (by omega), up_ne _ (by decide)]
  · exact h
theorem GI.rule (h : GI S) (x y t : Int) : GI (ruleS S x y t) := by
  rcases Classical.em (ruleOk x y) with q | q
  · rw [ruleS_t q]
    exact h.eq (fun k _ => by rw [up_ne _ (by decide), up_ne _ (by decide)]) (fun _ _ _ => by rw [up_ne _ (by decide), up_ne _ (by decide)]) (fun _ _ _ => by rw [up_ne _ (by decide), up_ne _ (by decide)]) (fun _ _ _ => by rw [up_ne _ (by decide), up_ne _ (by decide)])
  · rw [ruleS_f q]; exact h
end GIS
