/-! ===== the lost ones: in the other side's order ===== -/
section LOSE
variable {S S1 : ph_T} {s : Nat}
theorem lsF_skip : ∀ (n i : Nat) (S : ph_T), (∀ j, i ≤ j → j < i + n → ¬ lostC S j s) → lsF s n i S = S
  | 0, _, _, _ => rfl
  | n + 1, i, S, h => by
    rw [lsF_s, lostS_f (h i (by omega) (by omega))]
    exact lsF_skip n (i + 1) S (fun j h1 h2 => h j (by omega) (by omega))
theorem lsF_app : ∀ (n m i : Nat) (S : ph_T), lsF s (n + m) i S = lsF s m (i + n) (lsF s n i S)
  | 0, m, i, S => by rw [Nat.zero_add]; rfl
  | n + 1, m, i, S => by
    rw [show n + 1 + m = (n + m) + 1 by omega, lsF_s, lsF_app n m (i + 1), lsF_s, show i + 1 + n = i + (n + 1) by omega]
theorem luF_at : ∀ (n i : Nat), luF S s n i ≠ 0 → aw S (luF S s n i) s ∧ ∀ j, i ≤ j → j < luF S s n i → ¬ aw S j s
  | 0, _, h => absurd rfl h
  | n + 1, i, h => by
    rcases Classical.em (aw S i s) with q | q
    · rw [luF_t q]
      exact ⟨q, fun j h1 h2 => by omega⟩
    · rw [luF_f q] at h ⊢
      obtain ⟨a, b⟩ := luF_at n (i + 1) h
      refine ⟨a, fun j h1 h2 => ?_⟩
      by_cases e : j = i
      · rw [e]; exact q
      · exact b j (by omega) h2
theorem luF_no : ∀ (n i : Nat), 1 ≤ i → luF S s n i = 0 → ∀ j, i ≤ j → j < i + n → ¬ aw S j s
  | 0, _, _, _ => fun j h1 h2 => by omega
  | n + 1, i, hi, h => by
    rcases Classical.em (aw S i s) with q | q
    · rw [luF_t q] at h
      omega
    · rw [luF_f q] at h
      intro j h1 h2
      by_cases e : j = i
      · rw [e]; exact q
      · exact luF_no n (i + 1) (by omega) h j (by omega) (by omega)
theorem lu_at (h : lu S s ≠ 0) : aw S (lu S s) s ∧ ∀ j, 1 ≤ j → j < lu S s → ¬ aw S j s := luF_at _ _ h
theorem lu_no (h : lu S s = 0) : ∀ j : Nat, 1 ≤ j → (j : Int) ≤ S 0 0 3 → ¬ aw S j s := fun j h1 h2 => luF_no _ _ (by omega) h j h1 (by omega)
theorem lu_in (hV : IV S) (h : lu S s ≠ 0) : LC S 2 (lu S s) := by
  have := lu_le hV s
  simp only [LC]
  omega
theorem luF_eq : ∀ (n i : Nat), (∀ j, aw S1 j s ↔ aw S j s) → luF S1 s n i = luF S s n i
  | 0, _, _ => rfl
  | n + 1, i, h => by
    rcases Classical.em (aw S i s) with q | q
    · rw [luF_t q, luF_t ((h i).mpr q)]
    · rw [luF_f q, luF_f (fun z => q ((h i).mp z)), luF_eq n (i + 1) h]
theorem lu_eq (h3 : S1 0 0 3 = S 0 0 3) (h : ∀ j, aw S1 j s ↔ aw S j s) : lu S1 s = lu S s := by
  unfold lu
  rw [h3]
  exact luF_eq _ _ h
/-- an item that is lost -/
noncomputable def lz (S : ph_T) (s i : Nat) : ph_T := takeS (tellS S 2 (s : Int) ((dbm S s : Nat) : Int)) i (tellv S)
theorem take_5 {S : ph_T} {i j : Nat} {f : Int} : takeS S i f 2 j 5 = if j = i then 2 else S 2 j 5 := by
  unfold takeS
  split
  · split
    · rename_i h e; rw [e]; exact h
    · rfl
  · rw [ph_up_no _ _ (by omega), up_if]
    simp
theorem take_k {S : ph_T} {i j k : Nat} {f : Int} (hk : k ≠ 5 ∧ k ≠ 2) : takeS S i f 2 j k = S 2 j k := by
  unfold takeS
  split
  · rfl
  · rw [ph_up_no _ _ (by omega), ph_up_no _ _ (by omega)]
theorem lz_aw {i j : Nat} : aw (lz S s i) j s ↔ (aw S j s ∧ j ≠ i) := by
  unfold aw seenb lz
  rw [take_5, take_k (by decide), tellS_g (by decide), tellS_g (by decide)]
  by_cases e : j = i
  · simp [e]
  · simp [e]
theorem lz_0 {i k : Nat} (hk : k ≠ 5) : lz S s i 0 0 k = S 0 0 k := by
  unfold lz
  rw [takeS_g (by decide), tellS_0 hk]
theorem lz_1 {i j k : Nat} : lz S s i 1 j k = S 1 j k := by
  unfold lz
  rw [takeS_g (by decide), tellS_g (by decide)]
theorem lz_due {i j : Nat} : due (lz S s i) j s = due S j s := by
  unfold due
  rw [lz_1]
  unfold lz
  rw [take_k (by decide), tellS_g (by decide)]
theorem lz_lose {i : Nat} (hV : IV S) (h1 : lu S s = i) (h0 : i ≠ 0) (hl : lostC S i s) : lsF s (S 0 0 3).toNat 1 (lz S s i) = lsF s (S 0 0 3).toNat 1 S := by
  have hc := hV.c
  have hi := lu_le hV s
  subst h1
  obtain ⟨a, b⟩ := lu_at h0
  generalize hi2 : lu S s = i at *
  obtain ⟨m, hm⟩ : ∃ m, (S 0 0 3).toNat = (i - 1) + (1 + m) := ⟨(S 0 0 3).toNat - i, by omega⟩
  have G : ∀ T : ph_T, (∀ j, 1 ≤ j → j < i → ¬ lostC T j s) → lsF s ((i - 1) + (1 + m)) 1 T = lsF s m (i + 1) (lsF s 1 i T) := fun T hT => by
    rw [lsF_app, lsF_skip (i - 1) 1 T (fun j h1 h2 => hT j h1 (by omega)), show 1 + (i - 1) = i by omega, lsF_app]
  have e1 : lsF s 1 i S = lz S s i := by
    show lsF s 0 (i + 1) (lostS S i s) = _
    rw [lostS_t hl]
    rfl
  have e2 : lsF s 1 i (lz S s i) = lz S s i := by
    show lsF s 0 (i + 1) (lostS (lz S s i) i s) = _
    rw [lostS_f (fun z => (lz_aw.mp z.1).2 rfl)]
    rfl
  rw [hm, G S (fun j h1 h2 z => b j h1 h2 z.1), G (lz S s i) (fun j h1 h2 z => b j h1 h2 (lz_aw.mp z.1).1), e1, e2]
theorem lz_up (hV : IV S) {i : Nat} (h1 : lu S s = i) (h0 : i ≠ 0) : lu (lz S s i) s = 0 ∨ i < lu (lz S s i) s := by
  by_cases q : lu (lz S s i) s = 0
  · exact Or.inl q
  · right
    obtain ⟨a, -⟩ := lu_at q
    rw [lz_aw] at a
    obtain ⟨-, b⟩ := lu_at (S := S) (s := s) (by omega)
    have hb := fun j hj => b j hj
    rcases Nat.lt_trichotomy (lu (lz S s i) s) i with w | w | w
    · exact absurd a.1 (b _ (by omega) (by omega))
    · exact absurd w a.2
    · exact w
theorem lz_end (hM : HM S) (h : lu S s = 0 ∨ ¬ 15 < S 0 0 11 - due S (lu S s) s) : lsF s (S 0 0 3).toNat 1 S = S := by
  refine lsF_skip _ _ _ (fun j h1 h2 z => ?_)
  by_cases q : lu S s = 0
  · exact lu_no q j h1 (by omega) z.1
  · obtain ⟨a, b⟩ := lu_at q
    rcases h with h | h
    · exact q h
    · by_cases w : j < lu S s
      · exact b j h1 w z.1
      · have := hM (lu S s) j (by omega) (by omega) (by omega)
        have z2 := z.2
        unfold due at h z2
        omega
/-- what a double takes beside its own item -/
theorem jl_lu {i : Nat} {f : Int} (h : seenb S i s) : lu (takeS S i f) s = lu S s := lu_eq (takeS_g (by decide)) (fun j => by
  unfold aw seenb
  rw [take_5, take_k (by decide)]
  by_cases e : j = i
  · subst e
    unfold seenb at h
    simp [h]
  · simp [e])
end LOSE
