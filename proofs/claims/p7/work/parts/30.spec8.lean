/-! ===== an edge ===== -/
theorem luF_le {S : ph_T} {s : Nat} : ∀ (n i : Nat), luF S s n i = 0 ∨ (i ≤ luF S s n i ∧ luF S s n i < i + n)
  | 0, _ => Or.inl rfl
  | n + 1, i => by
    rcases Classical.em (aw S i s) with q | q
    · rw [luF_t q]
      exact Or.inr ⟨Nat.le_refl i, by omega⟩
    · rw [luF_f q]
      have := luF_le (S := S) (s := s) n (i + 1)
      omega
theorem lu_le {S : ph_T} (h : IV S) (s : Nat) : (lu S s : Int) ≤ S 0 0 3 ∧ lu S s ≤ 60 := by
  have hc := h.c
  have := luF_le (S := S) (s := s) (S 0 0 3).toNat 1
  unfold lu
  omega
noncomputable def dkA (S : ph_T) (s : Nat) : ph_T := losesS (ph_up S 1 s 1 (S 1 s 1 + 1)) s
noncomputable def dkT (S : ph_T) (s : Nat) : ph_T := darkS (seeS S (lu S s) s) s ((lu S s : Nat) : Int) (seeS S (lu S s) s 0 0 11)
noncomputable def dkN (S : ph_T) (s : Nat) : ph_T := darkS (tellS S 1 (s : Int) ((dbm S s : Nat) : Int)) s 0 (tellS S 1 (s : Int) ((dbm S s : Nat) : Int) 0 0 11)
noncomputable def dkB (S : ph_T) (s : Nat) : ph_T := @ite ph_T (coming S ((lu S s : Nat) : Int) s) (Classical.propDecidable _) (dkT S s) (dkN S s)
theorem dkB_t {S : ph_T} {s : Nat} (h : coming S ((lu S s : Nat) : Int) s) : dkB S s = dkT S s := if_pos h
theorem dkB_f {S : ph_T} {s : Nat} (h : ¬ coming S ((lu S s : Nat) : Int) s) : dkB S s = dkN S s := if_neg h
noncomputable def bdS (S : ph_T) (s : Nat) : ph_T := dkB (dkA S s) s
theorem LC1 {S S1 : ph_T} {s : Nat} (e : S1 0 0 1 = S 0 0 1) (h : LC S 1 s) : LC S1 1 s := by
  simp only [LC] at h ⊢
  omega
theorem dkA_0 {S : ph_T} {s k : Nat} (hk : k ≠ 5) : dkA S s 0 0 k = S 0 0 k := by
  unfold dkA losesS
  rw [lsF_0 hk, up_ne _ (by decide)]
theorem IV.dkA {S : ph_T} (h : IV S) {s : Nat} (hs : LC S 1 s) : IV (dkA S s) := IV.losesS (h.upS (by omega) (by omega) (by omega) (by omega) (by omega)) (LC1 (up_ne _ (by decide)) hs)
theorem IV.dkB {S : ph_T} (h : IV S) {s : Nat} (hs : LC S 1 s) : IV (dkB S s) := by
  have hc := h.c
  have hs9 := id hs
  simp only [LC] at hs9
  have hl := lu_le h s
  rcases Classical.em (coming S ((lu S s : Nat) : Int) s) with q | q
  · rw [dkB_t q]
    have h1 := h.seeS (i := lu S s) (s := s) (show LC S 2 (lu S s) by have := q.1; simp only [LC]; omega) (by omega)
    exact h1.darkS ⟨by omega, by rw [seeS_g (by decide)]; omega⟩ ⟨by rw [seeS_g (by decide)]; omega, Int.le_refl _⟩
  · rw [dkB_f q]
    have hd := dbm_lt h s
    have h1 := h.tellS (kd := 1) (s := (s : Int)) (db := ((dbm S s : Nat) : Int)) (by omega) (by omega) (by omega)
    exact h1.darkS ⟨by omega, by rw [tellS_0 (by decide)]; omega⟩ ⟨by rw [tellS_0 (by decide)]; omega, Int.le_refl _⟩
theorem IV.bdS {S : ph_T} (h : IV S) {s : Nat} (hs : LC S 1 s) : IV (bdS S s) := (h.dkA hs).dkB (LC1 (dkA_0 (by decide)) hs)
def longer (S : ph_T) (s i : Nat) : Int := S 0 0 11 - S 1 s 4 - S 2 i 0
noncomputable def jlA (S : ph_T) (s i : Nat) : ph_T := takeS (tellS S 3 (s : Int) ((dbm S s : Nat) : Int)) i (tellv S)
noncomputable def jlB (S : ph_T) (s : Nat) (f : Int) : ph_T := @ite ph_T (coming S ((lu S s : Nat) : Int) s) (Classical.propDecidable _) (takeS S (lu S s) f) S
theorem jlB_t {S : ph_T} {s : Nat} {f : Int} (h : coming S ((lu S s : Nat) : Int) s) : jlB S s f = takeS S (lu S s) f := if_pos h
theorem jlB_f {S : ph_T} {s : Nat} {f : Int} (h : ¬ coming S ((lu S s : Nat) : Int) s) : jlB S s f = S := if_neg h
noncomputable def judgeS (S : ph_T) (s i : Nat) : ph_T := if 15 < longer S s i then jlB (jlA S s i) s (tellv S) else if longer S s i < -15 then tellS S 4 (s : Int) ((dbm S s : Nat) : Int) else S
theorem jlB_0 {S : ph_T} {s : Nat} {f : Int} {g j k : Nat} (hg : g ≠ 2) : jlB S s f g j k = S g j k := by
  rcases Classical.em (coming S ((lu S s : Nat) : Int) s) with q | q
  · rw [jlB_t q, takeS_g hg]
  · rw [jlB_f q]
theorem judgeS_0 {S : ph_T} {s i k : Nat} (hk : k ≠ 5) : judgeS S s i 0 0 k = S 0 0 k := by
  unfold judgeS
  split
  · rw [jlB_0 (by decide), jlA, takeS_g (by decide), tellS_0 hk]
  · split
    · exact tellS_0 hk
    · rfl
theorem iv_judge {S : ph_T} (h : IV S) {s i : Nat} (hs : LC S 1 s) : IV (judgeS S s i) := by
  have hc := h.c
  have hd := dbm_lt h s
  simp only [LC] at hs
  have h1 : ∀ kd : Nat, 1 ≤ kd ∧ kd ≤ 6 → IV (tellS S kd (s : Int) ((dbm S s : Nat) : Int)) := fun kd hk => h.tellS hk (by omega) (by omega)
  show IV (if _ then _ else _)
  split
  · have h2 : IV (jlA S s i) := (h1 3 (by omega)).takeS (tellv_r h)
    rcases Classical.em (coming (jlA S s i) ((lu (jlA S s i) s : Nat) : Int) s) with q | q
    · rw [jlB_t q]; exact h2.takeS (tellv_r h)
    · rw [jlB_f q]; exact h2
  · split
    · exact h1 4 (by omega)
    · exact h
theorem IV.judgeS {S : ph_T} (h : IV S) {s i : Nat} (hs : LC S 1 s) : IV (judgeS S s i) := iv_judge h hs
noncomputable def blB (S : ph_T) (s i : Nat) : ph_T := if (s : Int) = S 0 0 1 - 1 then leaveS S i else S
noncomputable def blA (S : ph_T) (s : Nat) : ph_T := if 1 ≤ S 1 s 3 ∧ S 1 s 3 ≤ S 0 0 3 then blB (judgeS S s (S 1 s 3).toNat) s (S 1 s 3).toNat else S
noncomputable def blS (S : ph_T) (s : Nat) : ph_T := lightS (blA S s) s
theorem blB_g {S : ph_T} {s i g j k : Nat} (hg : g ≠ 2) : blB S s i g j k = S g j k := by
  unfold blB
  split
  · exact leaveS_g hg
  · rfl
theorem IV.blS {S : ph_T} (h : IV S) {s : Nat} (hs : LC S 1 s) : IV (blS S s) := by
  refine IV.lightS ?_
  show IV (if _ then _ else _)
  split
  · show IV (if _ then _ else _)
    split
    · exact (h.judgeS hs).leaveS
    · exact h.judgeS hs
  · exact h
def edOk (S : ph_T) (x d t : Int) : Prop := (0 ≤ x ∧ x < S 0 0 1) ∧ (S 0 0 11 ≤ t ∧ t ≤ 1000000000) ∧ runs S ∧ ¬ S 1 x.toNat 2 = d
noncomputable def edJ (S : ph_T) (t : Int) : ph_T := jamsS (ph_up S 0 0 11 t)
noncomputable def edB (S : ph_T) (s : Nat) (d : Int) : ph_T := @ite ph_T (runs S) (Classical.propDecidable _) (if d = 0 then blS S s else bdS S s) S
noncomputable def edgeS (S : ph_T) (x d t : Int) : ph_T := @ite ph_T (edOk S x d t) (Classical.propDecidable _) (edB (edJ S t) x.toNat d) S
theorem edgeS_t {S : ph_T} {x d t : Int} (h : edOk S x d t) : edgeS S x d t = edB (edJ S t) x.toNat d := if_pos h
theorem edgeS_f {S : ph_T} {x d t : Int} (h : ¬ edOk S x d t) : edgeS S x d t = S := if_neg h
theorem edB_n {S : ph_T} {s : Nat} {d : Int} (h : ¬ runs S) : edB S s d = S := if_neg h
theorem edB_l {S : ph_T} {s : Nat} {d : Int} (h : runs S) (hd : d = 0) : edB S s d = blS S s := (if_pos h).trans (if_pos hd)
theorem edB_d {S : ph_T} {s : Nat} {d : Int} (h : runs S) (hd : ¬ d = 0) : edB S s d = bdS S s := (if_pos h).trans (if_neg hd)
noncomputable def edgev (S : ph_T) (x d t : Int) : Int := if ¬ (0 ≤ x ∧ x < S 0 0 1) then -11 else if ¬ (S 0 0 11 ≤ t ∧ t ≤ 1000000000) then -12 else @ite Int (runs S ∧ ¬ S 1 x.toNat 2 = d) (Classical.propDecidable _) (if S 0 0 5 < edB (edJ S t) x.toNat d 0 0 5 then S 0 0 5 + 1 else 0) (-13)
theorem IV.edJ {S : ph_T} (h : IV S) {t : Int} (ht : S 0 0 11 ≤ t ∧ t ≤ 1000000000) : IV (edJ S t) := IV.jamsS (h.up0 (k := 11) (by omega) (by omega) (by omega) (by omega))
theorem edJ_0 {S : ph_T} {t : Int} {k : Nat} (hk : k ≠ 5) (hk2 : k ≠ 11) : edJ S t 0 0 k = S 0 0 k := by
  unfold edJ
  rw [jamsS_0 hk, ph_up_no _ _ (by omega)]
theorem iv_edge {S : ph_T} (h : IV S) {x d t : Int} : IV (edgeS S x d t) := by
  rcases Classical.em (edOk S x d t) with q | q
  · rw [edgeS_t q]
    obtain ⟨q1, q2, q3, q4⟩ := q
    have h1 := h.edJ q2
    have hs := LC1 (S := S) (s := x.toNat) (edJ_0 (S := S) (t := t) (k := 1) (by decide) (by decide)) (show (x.toNat : Int) < S 0 0 1 by omega)
    rcases Classical.em (runs (edJ S t)) with r | r
    · by_cases hd : d = 0
      · rw [edB_l r hd]; exact h1.blS hs
      · rw [edB_d r hd]; exact h1.bdS hs
    · rw [edB_n r]; exact h1
  · rw [edgeS_f q]
    exact h
