/-! ===== whom a fault doubts is an item ===== -/
def DB (S : ph_T) : Prop := ∀ f i : Nat, LC S 3 f → dbit S f i → 1 ≤ i ∧ (i : Int) ≤ S 0 0 3
section DBS
variable {S S1 : ph_T}
theorem DB.eq (h : DB S) (e5 : S1 0 0 5 = S 0 0 5) (e3 : S 0 0 3 ≤ S1 0 0 3) (e : ∀ f, S1 3 f 5 = S 3 f 5) : DB S1 := fun f i hl hb => by
  have h1 := h f i (by simp only [LC] at hl ⊢; rw [← e5]; exact hl) (by unfold dbit at hb ⊢; rw [← e]; exact hb)
  omega
theorem DB.fe (h : DB S) (q : FE S S1) (e3 : S1 0 0 3 = S 0 0 3) : DB S1 := h.eq q.1 (by omega) (fun f => q.f f 5)
theorem dbF_bit {s j : Nat} : ∀ (n i acc : Nat), (dbF S s n i acc).testBit j = true → acc.testBit j = true ∨ (i ≤ j ∧ j < i + n)
  | 0, _, _, h => Or.inl h
  | n + 1, i, acc, h => by
    rcases Classical.em (inD S i s) with q | q
    · rw [dbF_t q] at h
      rcases dbF_bit n (i + 1) _ h with h | h
      · rw [Nat.testBit_or, Nat.testBit_two_pow] at h
        simp only [Bool.or_eq_true, decide_eq_true_eq] at h
        rcases h with h | h
        · exact Or.inl h
        · exact Or.inr (by omega)
      · exact Or.inr (by omega)
    · rw [dbF_f q] at h
      rcases dbF_bit n (i + 1) _ h with h | h
      · exact Or.inl h
      · exact Or.inr (by omega)
theorem dbm_bit (hV : IV S) {s j : Nat} (h : (dbm S s).testBit j = true) : 1 ≤ j ∧ (j : Int) ≤ S 0 0 3 := by
  have hc := hV.c
  rcases dbF_bit (S := S) (s := s) (j := j) _ _ _ h with h | h
  · rw [Nat.zero_testBit] at h
    cases h
  · omega
theorem DB.tell (h : DB S) (hV : IV S) {kd : Nat} {s db : Int} (hd : ∀ j, db.toNat.testBit j = true → 1 ≤ j ∧ (j : Int) ≤ S 0 0 3) : DB (tellS S kd s db) := by
  have hc := hV.c
  unfold tellS
  split
  · exact h
  · intro f i hl hb
    rw [addF_0 _ _ (by decide), thrS_g (by decide)]
    have h5 : thrS S kd 0 0 5 = S 0 0 5 := thrS_g (by decide)
    unfold dbit at hb
    rw [addF_3] at hb
    split at hb
    · exact hd i hb
    · rename_i hne
      rcases (addF_L (by omega) 3 f).mp hl with q | ⟨-, q⟩
      · rw [thrS_g (by decide)] at hb
        exact h f i ((thrS_L 3 f).mp q) hb
      · exact absurd q hne
theorem DB.telld (h : DB S) (hV : IV S) {kd : Nat} {s : Int} {s2 : Nat} : DB (tellS S kd s ((dbm S s2 : Nat) : Int)) := h.tell hV (fun j hj => dbm_bit hV (by simpa using hj))
theorem DB.up (h : DB S) {g i k : Nat} (z : Int) (hg : g = 1 ∨ g = 2 ∨ g = 9 ∨ (g = 0 ∧ k ≠ 5 ∧ k ≠ 6 ∧ k ≠ 3)) : DB (ph_up S g i k z) := h.fe (FE.up S z (by omega)) (ph_up_no _ _ (by omega))
theorem DB.take (h : DB S) (i : Nat) (f : Int) : DB (takeS S i f) := h.fe (FE.take S i f) (takeS_g (by decide))
theorem DB.light (h : DB S) (s : Nat) : DB (lightS S s) := h.fe (FE.light S s) (lightS_g (by decide))
theorem DB.dark (h : DB S) (s : Nat) (b t : Int) : DB (darkS S s b t) := h.fe (FE.dark S s b t) (darkS_g (by decide))
theorem DB.see (h : DB S) (i s : Nat) : DB (seeS S i s) := h.fe (FE.see S i s) (seeS_g (by decide))
theorem DB.leave (h : DB S) (i : Nat) : DB (leaveS S i) := h.fe (FE.leave S i) (leaveS_g (by decide))
theorem DB.jam (h : DB S) (hV : IV S) (s : Nat) : DB (jamS S s) := by
  rcases Classical.em (jamC S s) with q | q
  · rw [jamS_t q]
    have h1 : IV (ph_up S 1 s 5 1) := hV.upS (by omega) (by omega) (by omega) (by omega) (by omega)
    exact (h.up 1 (by omega)).telld h1
  · rw [jamS_f q]
    exact h
theorem DB.tj : ∀ (n s : Nat) (S : ph_T), DB S → IV S → (s : Int) + n ≤ S 0 0 1 → DB (tjF n s S)
  | 0, _, _, h, _, _ => h
  | n + 1, s, S, h, hV, h1 => by
    rw [tjF_s]
    exact DB.tj n (s + 1) _ (h.jam hV s) (hV.jamS (show (s : Int) < S 0 0 1 by omega)) (by rw [jamS_0 (by decide)]; omega)
theorem DB.lost (h : DB S) (hV : IV S) (i s : Nat) : DB (lostS S i s) := by
  rcases Classical.em (lostC S i s) with q | q
  · rw [lostS_t q]
    exact (h.telld hV).take _ _
  · rw [lostS_f q]
    exact h
theorem DB.ls {s : Nat} : ∀ (n i : Nat) (S : ph_T), DB S → IV S → LC S 1 s → DB (lsF s n i S)
  | 0, _, _, h, _, _ => h
  | n + 1, i, S, h, hV, h1 => by
    rw [lsF_s]
    exact DB.ls n (i + 1) _ (h.lost hV i s) (hV.lostS h1) (show (s : Int) < _ by rw [lostS_0 (by decide)]; exact h1)
theorem DB.bd (h : DB S) (hV : IV S) {s : Nat} (hs : LC S 1 s) : DB (bdS S s) := by
  have hV0 : IV (ph_up S 1 s 1 (S 1 s 1 + 1)) := hV.upS (by omega) (by omega) (by omega) (by omega) (by omega)
  have h1 : DB (dkA S s) := DB.ls _ _ _ (h.up _ (by omega)) hV0 (LC1 (up_ne _ (by decide)) hs)
  have hV1 := hV.dkA hs
  unfold bdS
  generalize dkA S s = S1 at h1 hV1
  rcases Classical.em (coming S1 ((lu S1 s : Nat) : Int) s) with q | q
  · rw [dkB_t q]
    exact (h1.see _ _).dark _ _ _
  · rw [dkB_f q]
    exact (h1.telld hV1).dark _ _ _
theorem db_judge (h : DB S) (hV : IV S) (s i : Nat) : DB (judgeS S s i) := by
  unfold judgeS
  split
  · have h1 : DB (jlA S s i) := (h.telld hV).take _ _
    generalize jlA S s i = S1 at h1
    rcases Classical.em (coming S1 ((lu S1 s : Nat) : Int) s) with q | q
    · rw [jlB_t q]
      exact h1.take _ _
    · rw [jlB_f q]
      exact h1
  · split
    · exact h.telld hV
    · exact h
theorem DB.bl (h : DB S) (hV : IV S) (s : Nat) : DB (blS S s) := by
  refine DB.light ?_ s
  unfold blA
  split
  · unfold blB
    split
    · exact (db_judge h hV _ _).leave _
    · exact db_judge h hV _ _
  · exact h
theorem DB.edge (h : DB S) (hV : IV S) (x d t : Int) : DB (edgeS S x d t) := by
  rcases Classical.em (edOk S x d t) with q | q
  · rw [edgeS_t q]
    obtain ⟨q1, q2, q3, q4⟩ := q
    have hc := hV.c
    have hV0 : IV (ph_up S 0 0 11 t) := hV.up0 (k := 11) (by omega) (by omega) (by omega) (by omega)
    have h1 : DB (edJ S t) := DB.tj _ _ _ (h.up _ (by omega)) hV0 (by rw [ph_up_no _ _ (by decide)]; omega)
    have hV1 := hV.edJ q2
    have hs := LC1 (S := S) (s := x.toNat) (edJ_0 (S := S) (t := t) (k := 1) (by decide) (by decide)) (show (x.toNat : Int) < S 0 0 1 by omega)
    rcases Classical.em (runs (edJ S t)) with r | r
    · by_cases hd : d = 0
      · rw [edB_l r hd]; exact h1.bl hV1 _
      · rw [edB_d r hd]; exact h1.bd hV1 hs
    · rw [edB_n r]; exact h1
  · rw [edgeS_f q]
    exact h
theorem DB.plant (h : DB S) (hV : IV S) (x t : Int) : DB (plantS S x t) := by
  rcases Classical.em (plantOk S x t) with q | q
  · rw [plantS_t q]
    obtain ⟨q1, q2, q3, q4⟩ := q
    exact (h.up _ (by omega)).tell (hV.up0 (k := 11) (by omega) (by omega) (by omega) (by omega)) (fun j hj => by
      rw [show (0 : Int).toNat = 0 from rfl, Nat.zero_testBit] at hj
      cases hj)
  · rw [plantS_f q]
    exact h
theorem DB.sen (h : DB S) (x : Int) : DB (senS S x) := h.fe (FE.sen S x) (by
  rcases Classical.em (senOk S x) with q | q
  · rw [senS_t q]; exact addS_0 _ _ (by decide)
  · rw [senS_f q])
theorem DB.it (h : DB S) (x t : Int) : DB (itS S x t) := by
  rcases Classical.em (itOk S x t) with q | q
  · have hf := FE.it S x t
    rw [itS_t q] at hf ⊢
    exact h.eq hf.1 (by rw [addI_c]; omega) (fun f => hf.f f 5)
  · rw [itS_f q]
    exact h
theorem DB.feed (h : DB S) (x : Int) : DB (feedS S x) := h.fe (FE.feed S x) (feedS_0 (by decide))
theorem DB.step (h : DB S) (x y : Int) : DB (stepS S x y) := by
  have hf := FE.step S x y
  refine h.eq ?_ (by rw [stepS_0 (by decide) (by decide)]; omega) (fun f => ?_)
  · rw [stepS_0 (by decide) (by decide)]
  · rw [hf.f]
    unfold stF
    split
    · split
      · rw [up_ne _ (by decide), ph_up_no _ _ (by omega)]
      · rw [ph_up_no _ _ (by omega)]
    · rfl
theorem DB.rule (h : DB S) (x y t : Int) : DB (ruleS S x y t) := by
  rcases Classical.em (ruleOk x y) with q | q
  · rw [ruleS_t q]
    exact h.eq (by rw [up_ne _ (by decide), up_ne _ (by decide)]) (by rw [up_ne _ (by decide), up_ne _ (by decide)]; omega) (fun f => by rw [up_ne _ (by decide), up_ne _ (by decide)])
  · rw [ruleS_f q]
    exact h
/-- items that no fault doubts change nothing of whom it doubts -/
theorem dqF_more {f : Nat} : ∀ (n i : Nat) (t : Int), (∀ j, i ≤ j → j < i + n → ¬ dbit S f j) → dqF S f n i t = -1
  | 0, _, _, _ => rfl
  | n + 1, i, t, h => by
    rw [dqF_f (h i (by omega) (by omega))]
    exact dqF_more n (i + 1) t (fun j h1 h2 => h j (by omega) (by omega))
theorem dqF_app {f : Nat} : ∀ (n m i : Nat) (t : Int), (∀ j, i + n ≤ j → j < i + n + m → ¬ dbit S f j) → dqF S f (n + m) i t = dqF S f n i t
  | 0, m, i, t, h => by
    rw [Nat.zero_add]
    exact dqF_more m i t (fun j h1 h2 => h j (by omega) (by omega))
  | n + 1, m, i, t, h => by
    have ih := fun t' => dqF_app n m (i + 1) t' (fun j h1 h2 => h j (by omega) (by omega))
    rw [show n + 1 + m = (n + m) + 1 by omega]
    rcases Classical.em (dbit S f i) with q | q
    · by_cases ht : t = 0
      · rw [dqF_0 q ht, dqF_0 q ht]
      · rw [dqF_t q ht, dqF_t q ht, ih]
    · rw [dqF_f q, dqF_f q, ih]
theorem dqF_fe (h : FE S S1) {f : Nat} : ∀ (n i : Nat) (t : Int), dqF S1 f n i t = dqF S f n i t
  | 0, _, _ => rfl
  | n + 1, i, t => by
    have e : dbit S1 f i ↔ dbit S f i := by unfold dbit; rw [h.f]
    rcases Classical.em (dbit S f i) with q | q
    · by_cases ht : t = 0
      · rw [dqF_0 q ht, dqF_0 (e.mpr q) ht]
      · rw [dqF_t q ht, dqF_t (e.mpr q) ht, dqF_fe h n]
    · rw [dqF_f q, dqF_f (fun z => q (e.mp z)), dqF_fe h n]
theorem fe_doubt (h : FE S S1) (hD : DB S) (hD1 : DB S1) (x y : Int) : doubtv S1 x y = doubtv S x y := by
  unfold doubtv
  rw [h.1]
  split
  · rfl
  · rename_i hx
    split
    · rfl
    · rw [dqF_fe h]
      have hx := Classical.not_not.mp hx
      have hl : LC S 3 x.toNat := by simp only [LC]; omega
      have hl1 : LC S1 3 x.toNat := by simp only [LC]; rw [h.1]; omega
      have b0 : ∀ j : Nat, S 0 0 3 < (j : Int) → ¬ dbit S x.toNat j := fun j hj hb => by have := hD _ j hl hb; omega
      have b1 : ∀ j : Nat, S1 0 0 3 < (j : Int) → ¬ dbit S x.toNat j := fun j hj hb => by
        have := hD1 _ j hl1 (by unfold dbit at hb ⊢; rw [h.f]; exact hb)
        omega
      rcases Nat.le_total (S1 0 0 3).toNat (S 0 0 3).toNat with q | q
      · rw [show (S 0 0 3).toNat = (S1 0 0 3).toNat + ((S 0 0 3).toNat - (S1 0 0 3).toNat) by omega, dqF_app _ _ _ _ (fun j h1 h2 => b1 j (by omega))]
      · rw [show (S1 0 0 3).toNat = (S 0 0 3).toNat + ((S1 0 0 3).toNat - (S 0 0 3).toNat) by omega, dqF_app _ _ _ _ (fun j h1 h2 => b0 j (by omega))]
end DBS
theorem db_S00 : DB S00 := fun f i hl _ => by
  simp only [LC] at hl
  have : S00 0 0 5 = 0 := rfl
  omega
