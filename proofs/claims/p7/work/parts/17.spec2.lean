/-! ===== what the writes do ===== -/
def putS (S : ph_T) (i : Nat) : ph_T := if S 2 i 3 = 0 ∧ S 0 0 10 < 60 then ph_up (ph_up (ph_up S 2 i 3 1) 9 0 (S 0 0 10).toNat (i : Int)) 0 0 10 (S 0 0 10 + 1) else S
theorem putS_0 {S : ph_T} {i k : Nat} (hk : k ≠ 10) : putS S i 0 0 k = S 0 0 k := by
  unfold putS
  split
  · rw [ph_up_no _ _ (by omega), up_ne _ (by decide), up_ne _ (by decide)]
  · rfl
theorem putS_g {S : ph_T} {i g j k : Nat} (hg : g ≠ 0 ∧ g ≠ 9) (hk : g = 2 → k ≠ 3) : putS S i g j k = S g j k := by
  unfold putS
  split
  · rw [up_ne _ hg.1, up_ne _ hg.2, ph_up_no _ _ (by omega)]
  · rfl
theorem LC_eq {S S1 : ph_T} (h1 : S1 0 0 1 = S 0 0 1) (h3 : S1 0 0 3 = S 0 0 3) (h5 : S1 0 0 5 = S 0 0 5) (g i : Nat) : LC S1 g i ↔ LC S g i := by
  unfold LC
  split <;> simp only [h1, h3, h5]
theorem putS_L {S : ph_T} {i : Nat} (g j : Nat) : LC (putS S i) g j ↔ LC S g j := LC_eq (putS_0 (by decide)) (putS_0 (by decide)) (putS_0 (by decide)) g j
theorem IV.putS {S : ph_T} (h : IV S) {i : Nat} (hi : LC S 2 i) : IV (putS S i) := by
  have hc := h.c
  simp only [LC] at hi
  show IV (if _ then _ else _)
  split
  · have h1 : IV (ph_up S 2 i 3 1) := h.upI (by omega) (by omega) (by omega) (by omega) (by omega) (by omega) (by omega)
    have h2 := h1.upL (k := (S 0 0 10).toNat) (z := (i : Int)) (by omega)
    refine h2.up0 (by omega) (by omega) (fun _ => ⟨by omega, by omega, fun j hj => ?_⟩) (by omega)
    rw [up_if]
    split
    · omega
    · rw [up_ne _ (by decide)]
      exact h.l (by omega)
  · exact h
/-- the items that are off by a fault come on the list -/
noncomputable def loF (f : Int) : Nat → Nat → ph_T → ph_T
  | 0, _, S => S
  | n + 1, i, S => loF f n (i + 1) (if S 2 i 5 = 2 ∧ S 2 i 2 = f then putS S i else S)
theorem loF_t {f : Int} {n i : Nat} {S : ph_T} (h : S 2 i 5 = 2 ∧ S 2 i 2 = f) : loF f (n + 1) i S = loF f n (i + 1) (putS S i) := by
  show loF f n (i + 1) _ = _
  rw [if_pos h]
theorem loF_f {f : Int} {n i : Nat} {S : ph_T} (h : ¬ (S 2 i 5 = 2 ∧ S 2 i 2 = f)) : loF f (n + 1) i S = loF f n (i + 1) S := by
  show loF f n (i + 1) _ = _
  rw [if_neg h]
noncomputable def listS (S : ph_T) (f : Int) : ph_T := loF f (S 0 0 3).toNat 1 S
theorem loF_0 {f : Int} : ∀ (n i : Nat) (S : ph_T) (k : Nat), k ≠ 10 → loF f n i S 0 0 k = S 0 0 k
  | 0, _, _, _, _ => rfl
  | n + 1, i, S, k, hk => by
    by_cases h : S 2 i 5 = 2 ∧ S 2 i 2 = f
    · rw [loF_t h, loF_0 n (i + 1) _ k hk, putS_0 hk]
    · rw [loF_f h, loF_0 n (i + 1) _ k hk]
theorem loF_g {f : Int} {g j k : Nat} (hg : g ≠ 0 ∧ g ≠ 9) (hk : g = 2 → k ≠ 3) : ∀ (n i : Nat) (S : ph_T), loF f n i S g j k = S g j k
  | 0, _, _ => rfl
  | n + 1, i, S => by
    by_cases h : S 2 i 5 = 2 ∧ S 2 i 2 = f
    · rw [loF_t h, loF_g hg hk n (i + 1), putS_g hg hk]
    · rw [loF_f h, loF_g hg hk n (i + 1)]
theorem loF_V {f : Int} : ∀ (n i : Nat) (S : ph_T), IV S → 1 ≤ i → (i : Int) + n - 1 ≤ S 0 0 3 → IV (loF f n i S)
  | 0, _, _, h, _, _ => h
  | n + 1, i, S, h, h1, h2 => by
    by_cases q : S 2 i 5 = 2 ∧ S 2 i 2 = f
    · rw [loF_t q]
      exact loF_V n (i + 1) _ (h.putS (show LC S 2 i by simp only [LC]; omega)) (by omega) (by rw [putS_0 (by decide)]; omega)
    · rw [loF_f q]
      exact loF_V n (i + 1) _ h (by omega) (by omega)
/-- all items on the belt are off by a fault -/
noncomputable def takeS (S : ph_T) (i : Nat) (f : Int) : ph_T := if S 2 i 5 = 2 then S else ph_up (ph_up S 2 i 5 2) 2 i 2 f
theorem takeS_g {S : ph_T} {i g j k : Nat} {f : Int} (hg : g ≠ 2) : takeS S i f g j k = S g j k := by
  unfold takeS
  split
  · rfl
  · rw [up_ne _ hg, up_ne _ hg]
theorem IV.takeS {S : ph_T} (h : IV S) {i : Nat} {f : Int} (hf : 0 ≤ f ∧ f ≤ 40) : IV (takeS S i f) := by
  show IV (if _ then _ else _)
  split
  · exact h
  · exact IV.upI (IV.upI h (by omega) (by omega) (by omega) (by omega) (by omega) (by omega) (by omega)) (by omega) (by omega) (by omega) (by omega) (by omega) (by omega) (by omega)
noncomputable def ebF (f : Int) : Nat → Nat → ph_T → ph_T
  | 0, _, S => S
  | n + 1, i, S => ebF f n (i + 1) (if S 2 i 5 = 0 then takeS S i f else S)
theorem ebF_t {f : Int} {n i : Nat} {S : ph_T} (h : S 2 i 5 = 0) : ebF f (n + 1) i S = ebF f n (i + 1) (takeS S i f) := by
  show ebF f n (i + 1) _ = _
  rw [if_pos h]
theorem ebF_f {f : Int} {n i : Nat} {S : ph_T} (h : ¬ S 2 i 5 = 0) : ebF f (n + 1) i S = ebF f n (i + 1) S := by
  show ebF f n (i + 1) _ = _
  rw [if_neg h]
theorem ebF_g {f : Int} {g j k : Nat} (hg : g ≠ 2) : ∀ (n i : Nat) (S : ph_T), ebF f n i S g j k = S g j k
  | 0, _, _ => rfl
  | n + 1, i, S => by
    by_cases h : S 2 i 5 = 0
    · rw [ebF_t h, ebF_g hg n (i + 1), takeS_g hg]
    · rw [ebF_f h, ebF_g hg n (i + 1)]
theorem ebF_V {f : Int} (hf : 0 ≤ f ∧ f ≤ 40) : ∀ (n i : Nat) (S : ph_T), IV S → IV (ebF f n i S)
  | 0, _, _, h => h
  | n + 1, i, S, h => by
    by_cases q : S 2 i 5 = 0
    · rw [ebF_t q]; exact ebF_V hf n (i + 1) _ (h.takeS hf)
    · rw [ebF_f q]; exact ebF_V hf n (i + 1) _ h
def lightS (S : ph_T) (s : Nat) : ph_T := ph_up (ph_up S 1 s 2 0) 1 s 3 0
theorem lightS_g {S : ph_T} {s g j k : Nat} (hg : g ≠ 1) : lightS S s g j k = S g j k := by
  unfold lightS
  rw [up_ne _ hg, up_ne _ hg]
theorem IV.lightS {S : ph_T} (h : IV S) {s : Nat} : IV (lightS S s) := by
  have hc := h.c
  exact IV.upS (IV.upS h (by omega) (by omega) (by omega) (by omega) (by omega)) (by omega) (by omega) (fun _ => ⟨by omega, by rw [up_ne _ (by decide)]; omega⟩) (by omega) (by omega)
def liF : Nat → Nat → ph_T → ph_T
  | 0, _, S => S
  | n + 1, s, S => liF n (s + 1) (lightS S s)
theorem liF_s {n s : Nat} {S : ph_T} : liF (n + 1) s S = liF n (s + 1) (lightS S s) := rfl
theorem liF_g {g j k : Nat} (hg : g ≠ 1) : ∀ (n s : Nat) (S : ph_T), liF n s S g j k = S g j k
  | 0, _, _ => rfl
  | n + 1, s, S => by rw [liF_s, liF_g hg n (s + 1), lightS_g hg]
theorem liF_V : ∀ (n s : Nat) (S : ph_T), IV S → IV (liF n s S)
  | 0, _, _, h => h
  | n + 1, s, S, h => by rw [liF_s]; exact liF_V n (s + 1) _ h.lightS
noncomputable def emptyS (S : ph_T) (f : Int) : ph_T := liF (S 0 0 1).toNat 0 (ebF f (S 0 0 3).toNat 1 S)
theorem emptyS_g {S : ph_T} {f : Int} {g j k : Nat} (hg : g ≠ 1 ∧ g ≠ 2) : emptyS S f g j k = S g j k := by
  unfold emptyS
  rw [liF_g hg.1, ebF_g hg.2]
/-- step 5: all counts are 0 -/
def rcF : Nat → Nat → ph_T → ph_T
  | 0, _, S => S
  | n + 1, s, S => rcF n (s + 1) (ph_up S 1 s 1 0)
theorem rcF_s {n s : Nat} {S : ph_T} : rcF (n + 1) s S = rcF n (s + 1) (ph_up S 1 s 1 0) := rfl
theorem rcF_g {g j k : Nat} (hg : g ≠ 1) : ∀ (n s : Nat) (S : ph_T), rcF n s S g j k = S g j k
  | 0, _, _ => rfl
  | n + 1, s, S => by rw [rcF_s, rcF_g hg n (s + 1), up_ne _ hg]
theorem rcF_V : ∀ (n s : Nat) (S : ph_T), IV S → IV (rcF n s S)
  | 0, _, _, h => h
  | n + 1, s, S, h => by rw [rcF_s]; exact rcF_V n (s + 1) _ (h.upS (by omega) (by omega) (by omega) (by omega) (by omega))
def resetS (S : ph_T) : ph_T := rcF (S 0 0 1).toNat 0 S
