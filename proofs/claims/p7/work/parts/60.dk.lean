/-! ===== an edge on the other side: words ===== -/
theorem up_comm {S : ph_T} {g i k g' i' k' : Nat} {z z' : Int} (h : ¬ (g = g' ∧ i = i' ∧ k = k')) : ph_up (ph_up S g i k z) g' i' k' z' = ph_up (ph_up S g' i' k' z') g i k z := by
  funext a b c
  unfold ph_up
  by_cases h1 : a = g' ∧ b = i' ∧ c = k'
  · by_cases h2 : a = g ∧ b = i ∧ c = k
    · exact absurd ⟨h2.1.symm.trans h1.1, h2.2.1.symm.trans h1.2.1, h2.2.2.symm.trans h1.2.2⟩ h
    · rw [if_pos h1, if_neg h2, if_pos h1]
  · rw [if_neg h1, if_neg h1]
theorem fst_up {b : Int} {S : ph_T} {g i k : Nat} {z : Int} (h : g ≠ 0) : fstv b (ph_up S g i k z) = fstv b S := by
  unfold fstv
  rw [up_ne _ (Ne.symm h)]
theorem fst_take {b : Int} {S : ph_T} {i : Nat} {f : Int} : fstv b (takeS S i f) = fstv b S := by
  unfold fstv
  rw [takeS_g (by decide)]
theorem fst_leave {b : Int} {S : ph_T} {i : Nat} : fstv b (leaveS S i) = fstv b S := by
  unfold fstv
  rw [leaveS_g (by decide)]
theorem iv_lz {S : ph_T} {s i : Nat} (h : IV S) (hs : LC S 1 s) : IV (lz S s i) := by
  have hc := h.c
  have hd := dbm_lt h s
  simp only [LC] at hs
  exact IV.takeS (h.tellS (by omega) (by omega) (by omega)) (tellv_r h)
theorem gi_lz {S : ph_T} {s i : Nat} (h : GI S) (hV : IV S) : GI (lz S s i) := (h.tell hV (by omega)).take _ _
theorem tell5_ge {S : ph_T} {k : Nat} {s db : Int} : S 0 0 5 ≤ tellS S k s db 0 0 5 := by
  rw [tellS_5]
  split <;> omega
theorem dk_T {S S1 : ph_T} {s : Nat} {t : Int} (hE : dkA S s = S1) (hc : coming S1 ((lu S1 s : Nat) : Int) s) (ht : t = S1 0 0 11) : bdS S s = ph_up (ph_up (ph_up (ph_up (seeS S1 (lu S1 s) s) 1 s 3 ((lu S1 s : Nat) : Int)) 1 s 2 1) 1 s 4 t) 1 s 5 0 := by
  unfold bdS
  rw [hE, dkB_t hc]
  unfold dkT darkS
  rw [seeS_g (by decide), ← ht, up_comm (g := 1) (i := s) (k := 2) (g' := 1) (i' := s) (k' := 3) (by omega)]
theorem dk_N {S S1 : ph_T} {s : Nat} {t : Int} (hE : dkA S s = S1) (hc : ¬ coming S1 ((lu S1 s : Nat) : Int) s) (ht : t = S1 0 0 11) (h3 : S1 1 s 3 = 0) : bdS S s = ph_up (ph_up (ph_up (tellS S1 1 (s : Int) ((dbm S1 s : Nat) : Int)) 1 s 2 1) 1 s 4 t) 1 s 5 0 := by
  unfold bdS
  rw [hE, dkB_f hc]
  unfold dkN darkS
  rw [tellS_0 (by decide), ← ht, up_same (g := 1) (i := s) (k := 3) (z := 0)]
  rw [ph_up_no _ _ (by omega), tellS_g (by decide), h3]
theorem due_r {S : ph_T} {i s : Nat} (hV : IV S) (hi : LC S 2 i) (hl : LC S 1 s) : 0 ≤ due S i s ∧ due S i s ≤ 1000100000 := by
  have h1 := hV.i hi
  have h2 := hV.s hl
  unfold due
  omega
theorem due_lu {S : ph_T} {s : Nat} (hV : IV S) (hl : LC S 1 s) (h : lu S s ≠ 0) : 0 ≤ due S (lu S s) s ∧ due S (lu S s) s ≤ 1000100000 := due_r hV (lu_in hV h) hl
