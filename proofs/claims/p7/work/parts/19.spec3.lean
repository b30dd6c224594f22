/-! ===== the small writes in the class's own words ===== -/
section JRW
variable {S : ph_T} {o : Nat} {L : Nat → Nat → Prop} {ad : Nat → Nat → Nat} {τ : ph_T}
theorem JR.take (h : JR S o L ad τ) (i : Nat) (f : Int) : JR (takeS S i f) o L ad (if S 2 i 5 = 2 then τ else ph_up (ph_up τ 2 i 5 2) 2 i 2 f) := by
  unfold takeS
  split
  · exact h
  · exact (h.put _ rfl (by omega)).put _ rfl (by omega)
theorem JR.light (h : JR S o L ad τ) (s : Nat) : JR (lightS S s) o L ad (ph_up (ph_up τ 1 s 2 0) 1 s 3 0) := (h.put _ rfl (by omega)).put _ rfl (by omega)
def darkS (S : ph_T) (s : Nat) (b t : Int) : ph_T := ph_up (ph_up (ph_up (ph_up S 1 s 2 1) 1 s 3 b) 1 s 4 t) 1 s 5 0
theorem JR.dark (h : JR S o L ad τ) (s : Nat) (b t : Int) : JR (darkS S s b t) o L ad (ph_up (ph_up (ph_up (ph_up τ 1 s 2 1) 1 s 3 b) 1 s 4 t) 1 s 5 0) := (((h.put _ rfl (by omega)).put _ rfl (by omega)).put _ rfl (by omega)).put _ rfl (by omega)
def leaveS (S : ph_T) (i : Nat) : ph_T := if S 2 i 5 = 0 then ph_up S 2 i 5 1 else S
theorem JR.leave (h : JR S o L ad τ) (i : Nat) : JR (leaveS S i) o L ad (if S 2 i 5 = 0 then ph_up τ 2 i 5 1 else τ) := by
  unfold leaveS
  split
  · exact h.put _ rfl (by omega)
  · exact h
def seeS (S : ph_T) (i s : Nat) : ph_T := ph_up S 2 i 6 (((S 2 i 6).toNat ||| 2 ^ s : Nat) : Int)
theorem JR.see (h : JR S o L ad τ) (i s : Nat) : JR (seeS S i s) o L ad (ph_up τ 2 i 6 (((S 2 i 6).toNat ||| 2 ^ s : Nat) : Int)) := h.put _ rfl (by omega)
end JRW
theorem IV.darkS {S : ph_T} (h : IV S) {s : Nat} {b t : Int} (hb : 0 ≤ b ∧ b ≤ S 0 0 3) (ht : 0 ≤ t ∧ t ≤ S 0 0 11) : IV (darkS S s b t) := by
  have h1 := h.upS (i := s) (k := 2) (z := 1) (by omega) (by omega) (by omega) (by omega) (by omega)
  have h2 := h1.upS (i := s) (k := 3) (z := b) (by omega) (by omega) (fun _ => by rw [up_ne _ (by decide)]; exact hb) (by omega) (by omega)
  have h3 := h2.upS (i := s) (k := 4) (z := t) (by omega) (by omega) (by omega) (fun _ => by rw [up_ne _ (by decide), up_ne _ (by decide)]; exact ht) (by omega)
  exact h3.upS (i := s) (k := 5) (z := 0) (by omega) (by omega) (by omega) (by omega) (by omega)
theorem IV.leaveS {S : ph_T} (h : IV S) {i : Nat} : IV (leaveS S i) := by
  show IV (if _ then _ else _)
  split
  · exact h.upI (by omega) (by omega) (by omega) (by omega) (by omega) (by omega) (by omega)
  · exact h
theorem IV.seeS {S : ph_T} (h : IV S) {i s : Nat} (hi : LC S 2 i) (hs : s < 8) : IV (seeS S i s) := by
  have h9 := h.i hi
  have h1 : (S 2 i 6).toNat ||| 2 ^ s < 2 ^ 8 := Nat.or_lt_two_pow (by omega) (Nat.pow_lt_pow_right (by decide) hs)
  generalize hq : (S 2 i 6).toNat ||| 2 ^ s = q at h1
  show IV (ph_up S 2 i 6 _)
  rw [hq]
  exact h.upI (by omega) (by omega) (by omega) (by omega) (by omega) (by omega) (by omega)
theorem darkS_g {S : ph_T} {s g j k : Nat} {b t : Int} (hg : g ≠ 1) : darkS S s b t g j k = S g j k := by
  unfold darkS
  rw [up_ne _ hg, up_ne _ hg, up_ne _ hg, up_ne _ hg]
theorem leaveS_g {S : ph_T} {i g j k : Nat} (hg : g ≠ 2) : leaveS S i g j k = S g j k := by
  unfold leaveS
  split
  · rw [up_ne _ hg]
  · rfl
theorem seeS_g {S : ph_T} {i s g j k : Nat} (hg : g ≠ 2) : seeS S i s g j k = S g j k := up_ne _ hg
theorem IV.emptyS {S : ph_T} (h : IV S) {f : Int} (hf : 0 ≤ f ∧ f ≤ 40) : IV (emptyS S f) := liF_V _ _ _ (ebF_V hf _ _ _ h)
theorem IV.listS {S : ph_T} (h : IV S) {f : Int} : IV (listS S f) := loF_V _ _ _ h (by omega) (by have := h.c; omega)
theorem IV.resetS {S : ph_T} (h : IV S) : IV (resetS S) := rcF_V _ _ _ h
/-- what is in a fault's doubt and off comes on the list -/
noncomputable def clF (f : Nat) : Nat → Nat → ph_T → ph_T
  | 0, _, S => S
  | n + 1, i, S => clF f n (i + 1) (@ite ph_T (dbit S f i ∧ S 2 i 5 = 2) (Classical.propDecidable _) (putS S i) S)
theorem clF_t {f n i : Nat} {S : ph_T} (h : dbit S f i ∧ S 2 i 5 = 2) : clF f (n + 1) i S = clF f n (i + 1) (putS S i) := by
  show clF f n (i + 1) _ = _
  rw [if_pos h]
theorem clF_f {f n i : Nat} {S : ph_T} (h : ¬ (dbit S f i ∧ S 2 i 5 = 2)) : clF f (n + 1) i S = clF f n (i + 1) S := by
  show clF f n (i + 1) _ = _
  rw [if_neg h]
theorem clF_0 {f : Nat} : ∀ (n i : Nat) (S : ph_T) (k : Nat), k ≠ 10 → clF f n i S 0 0 k = S 0 0 k
  | 0, _, _, _, _ => rfl
  | n + 1, i, S, k, hk => by
    rcases Classical.em (dbit S f i ∧ S 2 i 5 = 2) with h | h
    · rw [clF_t h, clF_0 n (i + 1) _ k hk, putS_0 hk]
    · rw [clF_f h, clF_0 n (i + 1) _ k hk]
theorem clF_g {f g j k : Nat} (hg : g ≠ 0 ∧ g ≠ 9) (hk : g = 2 → k ≠ 3) : ∀ (n i : Nat) (S : ph_T), clF f n i S g j k = S g j k
  | 0, _, _ => rfl
  | n + 1, i, S => by
    rcases Classical.em (dbit S f i ∧ S 2 i 5 = 2) with h | h
    · rw [clF_t h, clF_g hg hk n (i + 1), putS_g hg hk]
    · rw [clF_f h, clF_g hg hk n (i + 1)]
theorem clF_V {f : Nat} : ∀ (n i : Nat) (S : ph_T), IV S → 1 ≤ i → (i : Int) + n - 1 ≤ S 0 0 3 → IV (clF f n i S)
  | 0, _, _, h, _, _ => h
  | n + 1, i, S, h, h1, h2 => by
    rcases Classical.em (dbit S f i ∧ S 2 i 5 = 2) with q | q
    · rw [clF_t q]
      exact clF_V n (i + 1) _ (h.putS (show LC S 2 i by simp only [LC]; omega)) (by omega) (by rw [putS_0 (by decide)]; omega)
    · rw [clF_f q]
      exact clF_V n (i + 1) _ h (by omega) (by omega)
noncomputable def clrA (S : ph_T) (f : Nat) : ph_T := if S 3 f 4 = 0 then ph_up S 0 0 6 (f : Int) else emptyS (ph_up S 0 0 6 (f : Int)) (f : Int)
noncomputable def clrB (S : ph_T) (f : Nat) : ph_T := clF f (S 0 0 3).toNat 1 (clrA S f)
noncomputable def clearS (S : ph_T) (f : Nat) : ph_T := if S 3 f 4 = 0 then clrB S f else listS (clrB S f) (f : Int)
