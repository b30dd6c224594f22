/-! ===== tell ===== -/
def thrS (S : ph_T) (k : Nat) : ph_T := if S 8 0 k = 0 then S else ph_up (ph_up S 7 0 k 1) 8 0 k 0
def fvl (kd s ck th st db : Int) : Nat → Int := fun k => match k with
  | 0 => kd
  | 1 => s
  | 2 => ck
  | 3 => th
  | 4 => st
  | 5 => db
  | _ => 0
def tellS (S : ph_T) (kd : Nat) (s db : Int) : ph_T := if 40 ≤ S 0 0 5 then S else addF (thrS S kd) (fvl (kd : Int) s (S 0 0 11) (S 8 0 kd) (thrS S kd 7 0 kd) db)
def tellv (S : ph_T) : Int := if 40 ≤ S 0 0 5 then 0 else S 0 0 5 + 1
theorem thrS_g {S : ph_T} {k g i j : Nat} (hg : g ≠ 7 ∧ g ≠ 8) : thrS S k g i j = S g i j := by
  unfold thrS
  split
  · rfl
  · rw [up_ne _ hg.2, up_ne _ hg.1]
theorem thrS_L {S : ph_T} {k : Nat} (g i : Nat) : LC (thrS S k) g i ↔ LC S g i := LC_eq (thrS_g (by decide)) (thrS_g (by decide)) (thrS_g (by decide)) g i
theorem IV.thrS {S : ph_T} (h : IV S) {k : Nat} : IV (thrS S k) := by
  show IV (if _ then _ else _)
  split
  · exact h
  · exact (h.upR (Or.inl rfl) (Or.inr rfl)).upR (Or.inr rfl) (Or.inl rfl)
theorem IV.tellS {S : ph_T} (h : IV S) {kd : Nat} {s db : Int} (hk : 1 ≤ kd ∧ kd ≤ 6) (hs : -1 ≤ s ∧ s ≤ 7) (hd : 0 ≤ db ∧ db < 2305843009213693952) : IV (tellS S kd s db) := by
  have hc := h.c
  have h1 := h.thrS (k := kd)
  have e := fun k : Nat => thrS_g (S := S) (k := kd) (g := 0) (i := 0) (j := k) (by decide)
  show IV (if _ then _ else _)
  split
  · exact h
  · refine h1.addF (by rw [e]; omega) ?_
    have r1 := (h.r (k := kd) (by omega)).2
    have r2 := (h1.r (k := kd) (by omega)).1
    rw [e]
    exact ⟨by show 1 ≤ (kd : Int); omega, by show (kd : Int) ≤ 6; omega, hs.1, hs.2, by show 0 ≤ S 0 0 11; omega, Int.le_refl _, r1, r2, hd.1, hd.2, by show (0 : Int) ≤ 0; omega, by show (0 : Int) ≤ 3; omega⟩
section FVL
variable {τ : ph_T} {f : Nat} {a b c d e g z : Int}
theorem fvl3 (h : ∀ k, k < 7 → τ 3 f k = fvl a b c d e g k) : ∀ k, k < 7 → ph_up τ 3 f 3 z 3 f k = fvl a b c z e g k := fun k hk => by
  rw [up_if]
  have h1 := h k hk
  rcases (show k = 0 ∨ k = 1 ∨ k = 2 ∨ k = 3 ∨ k = 4 ∨ k = 5 ∨ k = 6 by omega) with rfl | rfl | rfl | rfl | rfl | rfl | rfl <;> first | (rw [if_neg (by omega)]; exact h1) | (rw [if_pos ⟨rfl, rfl⟩]; rfl)
theorem fvl4 (h : ∀ k, k < 7 → τ 3 f k = fvl a b c d e g k) : ∀ k, k < 7 → ph_up τ 3 f 4 z 3 f k = fvl a b c d z g k := fun k hk => by
  rw [up_if]
  have h1 := h k hk
  rcases (show k = 0 ∨ k = 1 ∨ k = 2 ∨ k = 3 ∨ k = 4 ∨ k = 5 ∨ k = 6 by omega) with rfl | rfl | rfl | rfl | rfl | rfl | rfl <;> first | (rw [if_neg (by omega)]; exact h1) | (rw [if_pos ⟨rfl, rfl⟩]; rfl)
theorem fvl5 (h : ∀ k, k < 7 → τ 3 f k = fvl a b c d e g k) : ∀ k, k < 7 → ph_up τ 3 f 5 z 3 f k = fvl a b c d e z k := fun k hk => by
  rw [up_if]
  have h1 := h k hk
  rcases (show k = 0 ∨ k = 1 ∨ k = 2 ∨ k = 3 ∨ k = 4 ∨ k = 5 ∨ k = 6 by omega) with rfl | rfl | rfl | rfl | rfl | rfl | rfl <;> first | (rw [if_neg (by omega)]; exact h1) | (rw [if_pos ⟨rfl, rfl⟩]; rfl)
end FVL
theorem dbm_lt {S : ph_T} (h : IV S) (s : Nat) : dbm S s < 2305843009213693952 := by
  have hc := h.c
  have := dbF_lt (S := S) (s := s) (S 0 0 3).toNat 1 0 (by omega) (by decide)
  unfold dbm
  omega
theorem dbm_thr {S : ph_T} {k s : Nat} : dbm (thrS S k) s = dbm S s := by
  have hD : ∀ i, inD (thrS S k) i s ↔ inD S i s := fun i => by
    unfold inD seenb
    rw [thrS_g (by decide), thrS_g (by decide), thrS_g (by decide), thrS_g (by decide), thrS_g (by decide), thrS_g (by decide)]
  have hF : ∀ n i acc, dbF (thrS S k) s n i acc = dbF S s n i acc := by
    intro n
    induction n with
    | zero => intro i acc; rfl
    | succ n ih =>
      intro i acc
      rcases Classical.em (inD S i s) with q | q
      · rw [dbF_t q, dbF_t ((hD i).mpr q), ih]
      · rw [dbF_f q, dbF_f (fun z => q ((hD i).mp z)), ih]
  unfold dbm
  rw [hF, thrS_g (by decide)]
