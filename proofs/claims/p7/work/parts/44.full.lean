/-! ===== with 40 faults there are no more: what the faults and the rule show stays, but for step and rule ===== -/
def FE (S S1 : ph_T) : Prop := S1 0 0 5 = S 0 0 5 ∧ S1 0 0 6 = S 0 0 6 ∧ ∀ g i k : Nat, (g = 3 ∨ g = 7 ∨ g = 8) → S1 g i k = S g i k
theorem FE.rf (S : ph_T) : FE S S := ⟨rfl, rfl, fun _ _ _ _ => rfl⟩
theorem FE.tr {S S1 S2 : ph_T} (h : FE S S1) (h2 : FE S1 S2) : FE S S2 := ⟨h2.1.trans h.1, h2.2.1.trans h.2.1, fun g i k hg => (h2.2.2 g i k hg).trans (h.2.2 g i k hg)⟩
theorem FE.up (S : ph_T) {g i k : Nat} (z : Int) (hg : g = 1 ∨ g = 2 ∨ g = 9 ∨ (g = 0 ∧ k ≠ 5 ∧ k ≠ 6)) : FE S (ph_up S g i k z) :=
  ⟨ph_up_no _ _ (by omega), ph_up_no _ _ (by omega), fun g' i' k' h => ph_up_no _ _ (by omega)⟩
theorem FE.tn (S : ph_T) {g i : Nat} (f : Nat → Int) (hg : g = 1 ∨ g = 2) : FE S (ph_tn S g i f) :=
  ⟨congrFun (tn_ne S f (by omega)) 5, congrFun (tn_ne S f (by omega)) 6, fun g' i' k' h => congrFun (tn_ne S f (by omega)) k'⟩
theorem FE.full {S S1 : ph_T} (h : FE S S1) (hf : 40 ≤ S 0 0 5) : 40 ≤ S1 0 0 5 := by rw [h.1]; exact hf
theorem tell_full {S : ph_T} {kd : Nat} {s db : Int} (h : 40 ≤ S 0 0 5) : tellS S kd s db = S := if_pos h
theorem FE.tell {S : ph_T} {kd : Nat} {s db : Int} (h : 40 ≤ S 0 0 5) : FE S (tellS S kd s db) := by
  rw [tell_full h]
  exact FE.rf S
theorem FE.take (S : ph_T) (i : Nat) (f : Int) : FE S (takeS S i f) := by
  unfold takeS
  split
  · exact FE.rf S
  · exact (FE.up S 2 (by omega)).tr (FE.up _ f (by omega))
theorem FE.leave (S : ph_T) (i : Nat) : FE S (leaveS S i) := by
  unfold leaveS
  split
  · exact FE.up S 1 (by omega)
  · exact FE.rf S
theorem FE.see (S : ph_T) (i s : Nat) : FE S (seeS S i s) := FE.up S _ (by omega)
theorem FE.light (S : ph_T) (s : Nat) : FE S (lightS S s) := (FE.up S 0 (by omega)).tr (FE.up _ 0 (by omega))
theorem FE.dark (S : ph_T) (s : Nat) (b t : Int) : FE S (darkS S s b t) := (FE.up S 1 (by omega)).tr ((FE.up _ b (by omega)).tr ((FE.up _ t (by omega)).tr (FE.up _ 0 (by omega))))
theorem FE.jam {S : ph_T} (s : Nat) (h : 40 ≤ S 0 0 5) : FE S (jamS S s) := by
  rcases Classical.em (jamC S s) with q | q
  · rw [show jamS S s = _ from if_pos q]
    have h1 : FE S (ph_up S 1 s 5 1) := FE.up S 1 (by omega)
    exact h1.tr (FE.tell (h1.full h))
  · rw [show jamS S s = _ from if_neg q]
    exact FE.rf S
theorem FE.tj : ∀ (n s : Nat) (S : ph_T), 40 ≤ S 0 0 5 → FE S (tjF n s S)
  | 0, _, S, _ => FE.rf S
  | n + 1, s, S, h => (FE.jam s h).tr (FE.tj n (s + 1) _ ((FE.jam s h).full h))
theorem FE.lost {S : ph_T} (i s : Nat) (h : 40 ≤ S 0 0 5) : FE S (lostS S i s) := by
  rcases Classical.em (lostC S i s) with q | q
  · rw [lostS_t q]
    exact (FE.tell h).tr (FE.take _ i _)
  · rw [lostS_f q]
    exact FE.rf S
theorem FE.ls (s : Nat) : ∀ (n i : Nat) (S : ph_T), 40 ≤ S 0 0 5 → FE S (lsF s n i S)
  | 0, _, S, _ => FE.rf S
  | n + 1, i, S, h => (FE.lost i s h).tr (FE.ls s n (i + 1) _ ((FE.lost i s h).full h))
theorem FE.bd {S : ph_T} (s : Nat) (h : 40 ≤ S 0 0 5) : FE S (bdS S s) := by
  have h0 : FE S (ph_up S 1 s 1 (S 1 s 1 + 1)) := FE.up S _ (by omega)
  have h1 : FE S (dkA S s) := h0.tr (FE.ls s _ _ _ (h0.full h))
  unfold bdS
  generalize dkA S s = S1 at h1
  have h2 := h1.full h
  refine h1.tr ?_
  rcases Classical.em (coming S1 ((lu S1 s : Nat) : Int) s) with q | q
  · rw [dkB_t q]
    unfold dkT
    exact (FE.see _ _ _).tr (FE.dark _ _ _ _)
  · rw [dkB_f q]
    unfold dkN
    exact (FE.tell h2).tr (FE.dark _ _ _ _)
theorem FE.judge {S : ph_T} (s i : Nat) (h : 40 ≤ S 0 0 5) : FE S (judgeS S s i) := by
  unfold judgeS
  split
  · have h1 : FE S (jlA S s i) := (FE.tell h).tr (FE.take _ _ _)
    generalize jlA S s i = S1 at h1
    refine h1.tr ?_
    rcases Classical.em (coming S1 ((lu S1 s : Nat) : Int) s) with q | q
    · rw [show jlB S1 s (tellv S) = _ from if_pos q]
      exact FE.take _ _ _
    · rw [show jlB S1 s (tellv S) = _ from if_neg q]
      exact FE.rf _
  · split
    · exact FE.tell h
    · exact FE.rf S
theorem FE.bl {S : ph_T} (s : Nat) (h : 40 ≤ S 0 0 5) : FE S (blS S s) := by
  have h1 : FE S (blA S s) := by
    unfold blA
    split
    · refine (FE.judge s (S 1 s 3).toNat h).tr ?_
      unfold blB
      split
      · exact FE.leave _ _
      · exact FE.rf _
    · exact FE.rf S
  exact h1.tr (FE.light _ _)
theorem FE.edge {S : ph_T} (x d t : Int) (h : 40 ≤ S 0 0 5) : FE S (edgeS S x d t) := by
  rcases Classical.em (edOk S x d t) with q | q
  · rw [edgeS_t q]
    have h0 : FE S (ph_up S 0 0 11 t) := FE.up S _ (by omega)
    have h1 : FE S (edJ S t) := h0.tr (FE.tj _ _ _ (h0.full h))
    generalize edJ S t = S1 at h1
    refine h1.tr ?_
    have h2 := h1.full h
    rcases Classical.em (runs S1) with r | r
    · by_cases hd : d = 0
      · rw [edB_l r hd]
        exact FE.bl _ h2
      · rw [edB_d r hd]
        exact FE.bd _ h2
    · rw [edB_n r]
      exact FE.rf _
  · rw [edgeS_f q]
    exact FE.rf S
theorem FE.plant {S : ph_T} (x t : Int) (h : 40 ≤ S 0 0 5) : plantS S x t = S := plantS_f (fun q => by have := q.2.2.2; omega)
theorem FE.sen (S : ph_T) (x : Int) : FE S (senS S x) := by
  rcases Classical.em (senOk S x) with q | q
  · rw [senS_t q]
    exact (FE.tn S _ (by omega)).tr (FE.up _ _ (by omega))
  · rw [senS_f q]
    exact FE.rf S
theorem FE.it (S : ph_T) (x t : Int) : FE S (itS S x t) := by
  rcases Classical.em (itOk S x t) with q | q
  · rw [itS_t q]
    exact (FE.tn S _ (by omega)).tr (FE.up _ _ (by omega))
  · rw [itS_f q]
    exact FE.rf S
theorem FE.tl (x : Int) : ∀ (n k kp : Nat) (S : ph_T), FE S (tlF x n k kp S)
  | 0, _, kp, S => FE.up S (kp : Int) (by omega)
  | n + 1, k, kp, S => by
    by_cases h : S 9 0 k = x
    · rw [tlF_t h]
      exact FE.tl x n (k + 1) kp S
    · rw [tlF_f h]
      exact (FE.up S _ (by omega)).tr (FE.tl x n (k + 1) (kp + 1) _)
theorem FE.feed (S : ph_T) (x : Int) : FE S (feedS S x) := by
  unfold feedS
  split
  · exact (FE.up S 1 (by omega)).tr (FE.tl x _ _ _ _)
  · exact FE.rf S
/-- the answers that hang on the faults alone -/
theorem fe_runs {S S1 : ph_T} (h : FE S S1) : runs S1 ↔ runs S := by
  unfold runs
  rw [h.1, h.2.1]
  constructor
  · intro q
    exact ⟨q.1, fun f h1 h2 => by rw [← h.2.2 3 f 4 (by omega)]; exact q.2 f h1 h2⟩
  · intro q
    exact ⟨q.1, fun f h1 h2 => by rw [h.2.2 3 f 4 (by omega)]; exact q.2 f h1 h2⟩
theorem FE.put (S : ph_T) (i : Nat) : FE S (putS S i) := by
  unfold putS
  split
  · exact (FE.up S 1 (by omega)).tr ((FE.up _ _ (by omega)).tr (FE.up _ _ (by omega)))
  · exact FE.rf S
theorem FE.lo (f : Int) : ∀ (n i : Nat) (S : ph_T), FE S (loF f n i S)
  | 0, _, S => FE.rf S
  | n + 1, i, S => by
    by_cases h : S 2 i 5 = 2 ∧ S 2 i 2 = f
    · rw [loF_t h]
      exact (FE.put S i).tr (FE.lo f n (i + 1) _)
    · rw [loF_f h]
      exact FE.lo f n (i + 1) S
theorem FE.cl (f : Nat) : ∀ (n i : Nat) (S : ph_T), FE S (clF f n i S)
  | 0, _, S => FE.rf S
  | n + 1, i, S => by
    rcases Classical.em (dbit S f i ∧ S 2 i 5 = 2) with h | h
    · rw [clF_t h]
      exact (FE.put S i).tr (FE.cl f n (i + 1) _)
    · rw [clF_f h]
      exact FE.cl f n (i + 1) S
theorem FE.empty (S : ph_T) (f : Int) : FE S (emptyS S f) := ⟨emptyS_g (by decide), emptyS_g (by decide), fun g i k h => emptyS_g (by omega)⟩
theorem FE.reset (S : ph_T) : FE S (resetS S) := ⟨resetS_g (by decide), resetS_g (by decide), fun g i k h => resetS_g (by omega)⟩
theorem FE.clear (S : ph_T) (f : Nat) : FE (ph_up S 0 0 6 (f : Int)) (clearS S f) := by
  have h1 : FE (ph_up S 0 0 6 (f : Int)) (clrA S f) := by
    unfold clrA
    split
    · exact FE.rf _
    · exact FE.empty _ _
  have h2 : FE (ph_up S 0 0 6 (f : Int)) (clrB S f) := h1.tr (FE.cl f _ _ _)
  unfold clearS
  split
  · exact h2
  · exact h2.tr (FE.lo _ _ _ _)
/-- what step does to the faults -/
noncomputable def stF (S : ph_T) (x y : Int) : ph_T := @ite ph_T (stOk S x y) (Classical.propDecidable _) (if nextv (ph_up S 3 x.toNat 6 (S 3 x.toNat 6 + 1)) x.toNat = 0 then ph_up (ph_up S 3 x.toNat 6 (S 3 x.toNat 6 + 1)) 0 0 6 (x.toNat : Int) else ph_up S 3 x.toNat 6 (S 3 x.toNat 6 + 1)) S
theorem FE.up6 {S S1 : ph_T} (h : FE S S1) (z : Int) : FE (ph_up S 0 0 6 z) (ph_up S1 0 0 6 z) :=
  ⟨by rw [ph_up_no _ _ (by omega), ph_up_no _ _ (by omega)]; exact h.1, by rw [ph_up_at, ph_up_at], fun g i k hg => by rw [ph_up_no _ _ (by omega), ph_up_no _ _ (by omega)]; exact h.2.2 g i k hg⟩
theorem fe_next {S S1 : ph_T} (h : FE S S1) (f : Nat) : nextv S1 f = nextv S f := by
  unfold nextv
  rw [h.2.2 3 f 6 (by omega), h.2.2 3 f 0 (by omega)]
theorem FE.step (S : ph_T) (x y : Int) : FE (stF S x y) (stepS S x y) := by
  rcases Classical.em (stOk S x y) with q | q
  · rw [stepS_t q, show stF S x y = _ from if_pos q]
    have h1 : FE (ph_up S 3 x.toNat 6 (S 3 x.toNat 6 + 1)) (stA S x.toNat y) := by
      unfold stA
      split
      · exact FE.reset _
      · exact FE.rf _
    unfold stB
    rw [fe_next h1]
    split
    · exact (h1.up6 _).tr (FE.clear _ _)
    · exact h1
  · rw [stepS_f q, show stF S x y = _ from if_neg q]
    exact FE.rf S
