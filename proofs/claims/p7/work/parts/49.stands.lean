/-! ===== words of the other side's reads ===== -/
def stE (S : ph_T) (f : Nat) : Prop := ∃ e : Nat, S 0 0 6 < (e : Int) ∧ e < f ∧ ¬ S 3 e 4 = 0
theorem stE_t {S : ph_T} {f : Nat} (h : stE S f) : stE S (f + 1) := by
  obtain ⟨e, h1, h2, h3⟩ := h
  exact ⟨e, h1, by omega, h3⟩
theorem stE_n {S : ph_T} {f : Nat} (h1 : S 0 0 6 < (f : Int)) (h2 : ¬ S 3 f 4 = 0) : stE S (f + 1) := ⟨f, h1, by omega, h2⟩
theorem stE_f {S : ph_T} {f : Nat} (h : ¬ stE S f) (h1 : (f : Int) ≤ S 0 0 6 ∨ S 3 f 4 = 0) : ¬ stE S (f + 1) := by
  rintro ⟨e, h2, h3, h4⟩
  by_cases q : e = f
  · subst q
    rcases h1 with h1 | h1
    · omega
    · exact h4 h1
  · exact h ⟨e, h2, by omega, h4⟩
theorem stE_1 {S : ph_T} : ¬ stE S 1 ∨ S 0 0 6 < 0 := by
  by_cases q : S 0 0 6 < 0
  · exact Or.inr q
  · left
    rintro ⟨e, h2, h3, h4⟩
    omega
theorem st_t {S : ph_T} {f : Nat} (h5 : S 0 0 5 = (f : Int) - 1) (q : stE S f) : ¬ runs S := by
  rintro ⟨-, h⟩
  obtain ⟨e, h2, h3, h4⟩ := q
  exact h4 (h e h2 (by omega))
theorem st_o {S : ph_T} (q : 5 < S 0 0 5 - S 0 0 6) : ¬ runs S := fun h => by have := h.1; omega
theorem st_f {S : ph_T} {f : Nat} (h5 : S 0 0 5 = (f : Int) - 1) (q : ¬ stE S f) (h : S 0 0 5 - S 0 0 6 ≤ 5) : ¬ ¬ runs S := fun z => z ⟨h, fun e h1 h2 => Classical.byContradiction fun h3 => q ⟨e, h1, by omega, h3⟩⟩
/-- a round of the alarms: n told so far against what is left to pass -/
theorem fiF_skip {S : ph_T} {r : Int} : ∀ (n f : Nat) (t : Int), t < 0 → (fiF S r n f t).1 = 0 ∧ (fiF S r n f t).2 < 0
  | 0, _, _, h => ⟨rfl, h⟩
  | n + 1, f, t, h => by
    by_cases q : rnk S f = r
    · rw [fiF_p q (by omega)]
      exact fiF_skip n (f + 1) _ (by omega)
    · rw [fiF_n q]
      exact fiF_skip n (f + 1) _ h
theorem foF_neg {S : ph_T} : ∀ (r : Nat) (t : Int), t < 0 → foF S r t = 0
  | 0, _, _ => rfl
  | r + 1, t, h => by
    have := fiF_skip (S := S) (r := ((r + 1 : Nat) : Int)) (S 0 0 5 - S 0 0 6).toNat ((S 0 0 6).toNat + 1) t h
    rw [foF_s, if_pos this.1]
    exact foF_neg r _ this.2
theorem fbr_fo {S : ph_T} {x : Int} : fbr S x = foF S 9 x := by
  unfold fbr
  split
  · rename_i h
    exact (foF_neg 9 x h).symm
  · rfl
/-- the faults that are cleared are passed -/
def fgF (S : ph_T) (r : Int) : Nat → Nat → Int → Int × Int
  | 0, _, t => (0, t)
  | n + 1, f, t => if (¬ (f : Int) ≤ S 0 0 6) ∧ rnk S f = r then (if t = 0 then ((f : Int), t) else fgF S r n (f + 1) (t - 1)) else fgF S r n (f + 1) t
theorem fgF_n {S : ph_T} {r : Int} {n f : Nat} {t : Int} (h : ¬ ((¬ (f : Int) ≤ S 0 0 6) ∧ rnk S f = r)) : fgF S r (n + 1) f t = fgF S r n (f + 1) t := if_neg h
theorem fgF_p {S : ph_T} {r : Int} {n f : Nat} {t : Int} (h : (¬ (f : Int) ≤ S 0 0 6) ∧ rnk S f = r) (ht : ¬ t = 0) : fgF S r (n + 1) f t = fgF S r n (f + 1) (t - 1) := (if_pos h).trans (if_neg ht)
theorem fgF_0 {S : ph_T} {r : Int} {n f : Nat} {t : Int} (h : (¬ (f : Int) ≤ S 0 0 6) ∧ rnk S f = r) (ht : t = 0) : fgF S r (n + 1) f t = ((f : Int), t) := (if_pos h).trans (if_pos ht)
theorem fg_in {S : ph_T} {r : Int} : ∀ (n f : Nat) (t : Int), S 0 0 6 < (f : Int) → fgF S r n f t = fiF S r n f t
  | 0, _, _, _ => rfl
  | n + 1, f, t, h => by
    by_cases q : rnk S f = r
    · by_cases ht : t = 0
      · rw [fgF_0 ⟨by omega, q⟩ ht, fiF_0 q ht]
      · rw [fgF_p ⟨by omega, q⟩ ht, fiF_p q ht, fg_in n (f + 1) _ (by omega)]
        rfl
    · rw [fgF_n (fun z => q z.2), fiF_n q, fg_in n (f + 1) _ (by omega)]
theorem fg_out {S : ph_T} {r : Int} : ∀ (c n f : Nat) (t : Int), (f : Int) + c - 1 ≤ S 0 0 6 → fgF S r (c + n) f t = fgF S r n (f + c) t
  | 0, n, f, t, _ => by rw [Nat.zero_add]; rfl
  | c + 1, n, f, t, h => by
    rw [show c + 1 + n = (c + n) + 1 by omega, fgF_n (fun z => z.1 (by omega)), fg_out c n (f + 1) t (by omega), show f + 1 + c = f + (c + 1) by omega]
theorem fg_all {S : ph_T} (hV : IV S) (r t : Int) : fgF S r (S 0 0 5).toNat 1 t = fiF S r (S 0 0 5 - S 0 0 6).toNat ((S 0 0 6).toNat + 1) t := by
  have hc := hV.c
  rw [show (S 0 0 5).toNat = (S 0 0 6).toNat + (S 0 0 5 - S 0 0 6).toNat by omega, fg_out _ _ _ _ (by omega), show 1 + (S 0 0 6).toNat = (S 0 0 6).toNat + 1 by omega]
  exact fg_in _ _ _ (by omega)
/-- what is told of a fault that is found -/
def alw (S : ph_T) (y f : Int) : Int := if y = 0 then f else if y = 1 then rnk S f.toNat else if y = 2 then S 3 f.toNat 0 else if y = 3 then S 3 f.toNat 1 else S 3 f.toNat 2
theorem alarm_v {S : ph_T} {x y : Int} (h : ¬ (y < 0 ∨ 4 < y)) : alarmv S x y = if foF S 9 x = 0 then -1 else alw S y (foF S 9 x) := by
  unfold alarmv alw
  rw [if_neg h, fbr_fo]
