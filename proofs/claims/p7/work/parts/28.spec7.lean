/-! ===== plant, jams, lost ones ===== -/
def plantOk (S : ph_T) (x t : Int) : Prop := (1 ≤ x ∧ x ≤ 6) ∧ (S 0 0 11 ≤ t ∧ t ≤ 1000000000) ∧ runs S ∧ S 0 0 5 < 40
noncomputable def plantS (S : ph_T) (x t : Int) : ph_T := @ite ph_T (plantOk S x t) (Classical.propDecidable _) (tellS (ph_up S 0 0 11 t) x.toNat (-1) 0) S
theorem plantS_t {S : ph_T} {x t : Int} (h : plantOk S x t) : plantS S x t = tellS (ph_up S 0 0 11 t) x.toNat (-1) 0 := if_pos h
theorem plantS_f {S : ph_T} {x t : Int} (h : ¬ plantOk S x t) : plantS S x t = S := if_neg h
noncomputable def plantv (S : ph_T) (x t : Int) : Int := if ¬ ((1 ≤ x ∧ x ≤ 6) ∧ S 0 0 11 ≤ t ∧ t ≤ 1000000000) then -12 else @ite Int (runs S) (Classical.propDecidable _) (if 40 ≤ S 0 0 5 then 0 else S 0 0 5 + 1) (-13)
theorem IV.plantS {S : ph_T} (h : IV S) {x t : Int} : IV (plantS S x t) := by
  rcases Classical.em (plantOk S x t) with q | q
  · rw [plantS_t q]
    obtain ⟨q1, q2, q3, q4⟩ := q
    exact IV.tellS (h.up0 (k := 11) (by omega) (by omega) (by omega) (by omega)) (by omega) (by omega) (by omega)
  · rw [plantS_f q]
    exact h
theorem lenAt_r {S : ph_T} (h : IV S) (s : Nat) : 0 ≤ lenAt S s ∧ lenAt S s ≤ 1000 := by
  rcases Classical.em (1 ≤ S 1 s 3 ∧ S 1 s 3 ≤ S 0 0 3) with q | q
  · have := h.i (show LC S 2 (S 1 s 3).toNat by simp only [LC]; omega)
    rw [lenAt, if_pos q]
    omega
  · rw [lenAt, if_neg q]
    omega
theorem tellS_g {S : ph_T} {kd : Nat} {s db : Int} {g i k : Nat} (hg : g ≠ 0 ∧ g ≠ 3 ∧ g ≠ 7 ∧ g ≠ 8) : tellS S kd s db g i k = S g i k := by
  unfold tellS
  split
  · rfl
  · rw [addF_g _ _ ⟨hg.1, hg.2.1⟩, thrS_g ⟨hg.2.2.1, hg.2.2.2⟩]
theorem tellS_0 {S : ph_T} {kd : Nat} {s db : Int} {k : Nat} (hk : k ≠ 5) : tellS S kd s db 0 0 k = S 0 0 k := by
  unfold tellS
  split
  · rfl
  · rw [addF_0 _ _ hk, thrS_g (by decide)]
theorem tellS_5 {S : ph_T} {kd : Nat} {s db : Int} : tellS S kd s db 0 0 5 = if 40 ≤ S 0 0 5 then S 0 0 5 else S 0 0 5 + 1 := by
  unfold tellS
  split
  · rfl
  · rw [addF_5, thrS_g (by decide)]
theorem tellS_L {S : ph_T} {kd : Nat} {s db : Int} {g i : Nat} (hg : g ≠ 3) : LC (tellS S kd s db) g i ↔ LC S g i := by
  have e1 : tellS S kd s db 0 0 1 = S 0 0 1 := tellS_0 (by decide)
  have e3 : tellS S kd s db 0 0 3 = S 0 0 3 := tellS_0 (by decide)
  unfold LC
  split
  · exact Iff.rfl
  · rw [e1]
  · rw [e3]
  · exact absurd rfl hg
  all_goals exact Iff.rfl
theorem tellv_r {S : ph_T} (h : IV S) : 0 ≤ tellv S ∧ tellv S ≤ 40 := by
  have := h.c
  unfold tellv
  split <;> omega
def jamC (S : ph_T) (s : Nat) : Prop := (¬ S 1 s 2 = 0) ∧ S 1 s 5 = 0 ∧ 500 + lenAt S s < S 0 0 11 - S 1 s 4
noncomputable def jamS (S : ph_T) (s : Nat) : ph_T := @ite ph_T (jamC S s) (Classical.propDecidable _) (tellS (ph_up S 1 s 5 1) 5 (s : Int) ((dbm (ph_up S 1 s 5 1) s : Nat) : Int)) S
theorem jamS_t {S : ph_T} {s : Nat} (h : jamC S s) : jamS S s = tellS (ph_up S 1 s 5 1) 5 (s : Int) ((dbm (ph_up S 1 s 5 1) s : Nat) : Int) := if_pos h
theorem jamS_f {S : ph_T} {s : Nat} (h : ¬ jamC S s) : jamS S s = S := if_neg h
theorem IV.jamS {S : ph_T} (h : IV S) {s : Nat} (hs : LC S 1 s) : IV (jamS S s) := by
  rcases Classical.em (jamC S s) with q | q
  · rw [jamS_t q]
    have h1 := h.upS (i := s) (k := 5) (z := 1) (by omega) (by omega) (by omega) (by omega) (by omega)
    have hc := h.c
    simp only [LC] at hs
    have := dbm_lt h1 s
    exact h1.tellS (by omega) (by omega) (by omega)
  · rw [jamS_f q]
    exact h
noncomputable def tjF : Nat → Nat → ph_T → ph_T
  | 0, _, S => S
  | n + 1, s, S => tjF n (s + 1) (jamS S s)
theorem tjF_s {n s : Nat} {S : ph_T} : tjF (n + 1) s S = tjF n (s + 1) (jamS S s) := rfl
noncomputable def jamsS (S : ph_T) : ph_T := tjF (S 0 0 1).toNat 0 S
theorem jamS_0 {S : ph_T} {s k : Nat} (hk : k ≠ 5) : jamS S s 0 0 k = S 0 0 k := by
  rcases Classical.em (jamC S s) with q | q
  · rw [jamS_t q, tellS_0 hk, up_ne _ (by decide)]
  · rw [jamS_f q]
theorem tjF_0 {k : Nat} (hk : k ≠ 5) : ∀ (n s : Nat) (S : ph_T), tjF n s S 0 0 k = S 0 0 k
  | 0, _, _ => rfl
  | n + 1, s, S => by rw [tjF_s, tjF_0 hk n (s + 1), jamS_0 hk]
theorem tjF_V : ∀ (n s : Nat) (S : ph_T), IV S → (s : Int) + n ≤ S 0 0 1 → IV (tjF n s S)
  | 0, _, _, h, _ => h
  | n + 1, s, S, h, h1 => by
    rw [tjF_s]
    exact tjF_V n (s + 1) _ (h.jamS (show (s : Int) < S 0 0 1 by omega)) (by rw [jamS_0 (by decide)]; omega)
theorem IV.jamsS {S : ph_T} (h : IV S) : IV (jamsS S) := tjF_V _ _ _ h (by have := h.c; omega)
theorem jamsS_0 {S : ph_T} {k : Nat} (hk : k ≠ 5) : jamsS S 0 0 k = S 0 0 k := tjF_0 hk _ _ _
def lostC (S : ph_T) (i s : Nat) : Prop := aw S i s ∧ 15 < S 0 0 11 - due S i s
noncomputable def lostS (S : ph_T) (i s : Nat) : ph_T := @ite ph_T (lostC S i s) (Classical.propDecidable _) (takeS (tellS S 2 (s : Int) ((dbm S s : Nat) : Int)) i (tellv S)) S
theorem lostS_t {S : ph_T} {i s : Nat} (h : lostC S i s) : lostS S i s = takeS (tellS S 2 (s : Int) ((dbm S s : Nat) : Int)) i (tellv S) := if_pos h
theorem lostS_f {S : ph_T} {i s : Nat} (h : ¬ lostC S i s) : lostS S i s = S := if_neg h
theorem lostS_0 {S : ph_T} {i s k : Nat} (hk : k ≠ 5) : lostS S i s 0 0 k = S 0 0 k := by
  rcases Classical.em (lostC S i s) with q | q
  · rw [lostS_t q, takeS_g (by decide), tellS_0 hk]
  · rw [lostS_f q]
theorem lostS_1 {S : ph_T} {i s j k : Nat} : lostS S i s 1 j k = S 1 j k := by
  rcases Classical.em (lostC S i s) with q | q
  · rw [lostS_t q, takeS_g (by decide), tellS_g (by decide)]
  · rw [lostS_f q]
theorem IV.lostS {S : ph_T} (h : IV S) {i s : Nat} (hs : LC S 1 s) : IV (lostS S i s) := by
  rcases Classical.em (lostC S i s) with q | q
  · rw [lostS_t q]
    have hc := h.c
    simp only [LC] at hs
    have := dbm_lt h s
    exact IV.takeS (h.tellS (by omega) (by omega) (by omega)) (tellv_r h)
  · rw [lostS_f q]
    exact h
noncomputable def lsF (s : Nat) : Nat → Nat → ph_T → ph_T
  | 0, _, S => S
  | n + 1, i, S => lsF s n (i + 1) (lostS S i s)
theorem lsF_s {s n i : Nat} {S : ph_T} : lsF s (n + 1) i S = lsF s n (i + 1) (lostS S i s) := rfl
noncomputable def losesS (S : ph_T) (s : Nat) : ph_T := lsF s (S 0 0 3).toNat 1 S
theorem lsF_0 {s k : Nat} (hk : k ≠ 5) : ∀ (n i : Nat) (S : ph_T), lsF s n i S 0 0 k = S 0 0 k
  | 0, _, _ => rfl
  | n + 1, i, S => by rw [lsF_s, lsF_0 hk n (i + 1), lostS_0 hk]
theorem lsF_1 {s j k : Nat} : ∀ (n i : Nat) (S : ph_T), lsF s n i S 1 j k = S 1 j k
  | 0, _, _ => rfl
  | n + 1, i, S => by rw [lsF_s, lsF_1 n (i + 1), lostS_1]
theorem lsF_V {s : Nat} : ∀ (n i : Nat) (S : ph_T), IV S → LC S 1 s → IV (lsF s n i S)
  | 0, _, _, h, _ => h
  | n + 1, i, S, h, h1 => by
    rw [lsF_s]
    exact lsF_V n (i + 1) _ (h.lostS h1) (show (s : Int) < _ by rw [lostS_0 (by decide)]; exact h1)
theorem IV.losesS {S : ph_T} (h : IV S) {s : Nat} (hs : LC S 1 s) : IV (losesS S s) := lsF_V _ _ _ h hs
