/-! ===== lighten on the other side: words ===== -/
section LT
variable {S : ph_T} {s i : Nat}
theorem jd_1 (h1 : 15 < longer S s i) (hsn : seenb S i s) (hc : coming (jlA S s i) ((lu (tellS S 3 (s : Int) ((dbm S s : Nat) : Int)) s : Nat) : Int) s) : judgeS S s i = takeS (jlA S s i) (lu (tellS S 3 (s : Int) ((dbm S s : Nat) : Int)) s) (tellv S) := by
  have e : lu (jlA S s i) s = lu (tellS S 3 (s : Int) ((dbm S s : Nat) : Int)) s := by
    unfold jlA
    exact jl_lu (by unfold seenb at hsn ⊢; rw [tellS_g (by decide)]; exact hsn)
  unfold judgeS
  rw [if_pos h1, jlB_t (by rw [e]; exact hc), e]
theorem jd_2 (h1 : 15 < longer S s i) (hsn : seenb S i s) (hc : ¬ coming (jlA S s i) ((lu (tellS S 3 (s : Int) ((dbm S s : Nat) : Int)) s : Nat) : Int) s) : judgeS S s i = jlA S s i := by
  have e : lu (jlA S s i) s = lu (tellS S 3 (s : Int) ((dbm S s : Nat) : Int)) s := by
    unfold jlA
    exact jl_lu (by unfold seenb at hsn ⊢; rw [tellS_g (by decide)]; exact hsn)
  unfold judgeS
  rw [if_pos h1, jlB_f (by rw [e]; exact hc)]
theorem jd_3 (h1 : ¬ 15 < longer S s i) (h2 : longer S s i < -15) : judgeS S s i = tellS S 4 (s : Int) ((dbm S s : Nat) : Int) := by
  unfold judgeS
  rw [if_neg h1, if_pos h2]
theorem jd_4 (h1 : ¬ 15 < longer S s i) (h2 : ¬ longer S s i < -15) : judgeS S s i = S := by
  unfold judgeS
  rw [if_neg h1, if_neg h2]
theorem jlA_0 {k : Nat} (hk : k ≠ 5) : jlA S s i 0 0 k = S 0 0 k := by
  unfold jlA
  rw [takeS_g (by decide), tellS_0 hk]
theorem jlA_due {j : Nat} : due (jlA S s i) j s = due S j s := by
  unfold due jlA
  rw [take_k (by decide), takeS_g (by decide), tellS_g (by decide), tellS_g (by decide)]
theorem iv_tell {kd : Nat} (hV : IV S) (hs : LC S 1 s) (hk : 1 ≤ kd ∧ kd ≤ 6) : IV (tellS S kd (s : Int) ((dbm S s : Nat) : Int)) := by
  have hc := hV.c
  have hd := dbm_lt hV s
  simp only [LC] at hs
  exact hV.tellS hk (by omega) (by omega)
theorem iv_jlA (hV : IV S) (hs : LC S 1 s) : IV (jlA S s i) := (iv_tell hV hs (by omega)).takeS (tellv_r hV)
theorem blA_y (h : 1 ≤ S 1 s 3 ∧ S 1 s 3 ≤ S 0 0 3) (hl : (s : Int) = S 0 0 1 - 1) : blA S s = leaveS (judgeS S s (S 1 s 3).toNat) (S 1 s 3).toNat := by
  unfold blA blB
  rw [if_pos h, if_pos (by rw [judgeS_0 (by decide)]; exact hl)]
theorem blA_n (h : 1 ≤ S 1 s 3 ∧ S 1 s 3 ≤ S 0 0 3) (hl : ¬ (s : Int) = S 0 0 1 - 1) : blA S s = judgeS S s (S 1 s 3).toNat := by
  unfold blA blB
  rw [if_pos h, if_neg (by rw [judgeS_0 (by decide)]; exact hl)]
theorem blA_0 (h : ¬ 1 ≤ S 1 s 3) : blA S s = S := by
  unfold blA
  rw [if_neg (fun q => h q.1)]
theorem leave_no {j : Nat} (h : ¬ S 2 j 5 = 0) : leaveS S j = S := by
  unfold leaveS
  rw [if_neg h]
end LT
theorem jam_2 {S : ph_T} {s q : Nat} : jamS S s 1 q 2 = S 1 q 2 := by
  rcases Classical.em (jamC S s) with w | w
  · rw [jamS_t w, tellS_g (by decide), ph_up_no _ _ (by omega)]
  · rw [jamS_f w]
theorem jam_5 {S : ph_T} {s : Nat} : S 0 0 5 ≤ jamS S s 0 0 5 := by
  rcases Classical.em (jamC S s) with w | w
  · rw [jamS_t w]
    have := tell5_ge (S := ph_up S 1 s 5 1) (k := 5) (s := (s : Int)) (db := ((dbm (ph_up S 1 s 5 1) s : Nat) : Int))
    rw [up_ne _ (by decide)] at this
    exact this
  · rw [jamS_f w]; exact Int.le_refl _
theorem tj_2 {q : Nat} : ∀ (n s : Nat) (S : ph_T), tjF n s S 1 q 2 = S 1 q 2
  | 0, _, _ => rfl
  | n + 1, s, S => by rw [tjF_s, tj_2 n (s + 1), jam_2]
theorem tj_5 : ∀ (n s : Nat) (S : ph_T), S 0 0 5 ≤ tjF n s S 0 0 5
  | 0, _, _ => Int.le_refl _
  | n + 1, s, S => by
    rw [tjF_s]
    exact Int.le_trans jam_5 (tj_5 n (s + 1) _)
theorem ej_2 {S : ph_T} {t : Int} {q : Nat} : edJ S t 1 q 2 = S 1 q 2 := by
  unfold edJ jamsS
  rw [tj_2, up_ne _ (by decide)]
theorem ej_5 {S : ph_T} {t : Int} : S 0 0 5 ≤ edJ S t 0 0 5 := by
  unfold edJ jamsS
  have := tj_5 (ph_up S 0 0 11 t 0 0 1).toNat 0 (ph_up S 0 0 11 t)
  rw [ph_up_no (k' := 5) _ _ (by omega)] at this
  exact this
