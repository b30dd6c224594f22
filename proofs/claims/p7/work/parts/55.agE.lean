/-! ===== words for doubt and cause on the other side ===== -/
theorem dqF_neg {S : ph_T} {f : Nat} : ∀ (n i : Nat) (t : Int), t < 0 → dqF S f n i t = -1
  | 0, _, _, _ => rfl
  | n + 1, i, t, h => by
    rcases Classical.em (dbit S f i) with q | q
    · rw [dqF_t q (by omega)]
      exact dqF_neg n (i + 1) _ (by omega)
    · rw [dqF_f q]
      exact dqF_neg n (i + 1) _ h
theorem doubt_v {S : ph_T} {x y : Int} (h : 1 ≤ x ∧ x ≤ S 0 0 5) : doubtv S x y = dqF S x.toNat (S 0 0 3).toNat 1 y := by
  unfold doubtv
  rw [if_neg (not_not_intro h)]
  split
  · exact (dqF_neg _ _ _ (by assumption)).symm
  · rfl
def agE (S : ph_T) (f k : Nat) : Prop := ∃ e : Nat, 1 ≤ e ∧ e < k ∧ S 3 f 2 - S 3 e 2 ≤ 10000 ∧ sameT S e f
theorem agE_1 {S : ph_T} {f : Nat} : ¬ agE S f 1 := by
  rintro ⟨e, h1, h2, -⟩
  omega
theorem agE_t {S : ph_T} {f k : Nat} (h : agE S f k) : agE S f (k + 1) := by
  obtain ⟨e, h1, h2, h3⟩ := h
  exact ⟨e, h1, by omega, h3⟩
theorem agE_n {S : ph_T} {f k : Nat} (h1 : 1 ≤ k) (h2 : S 3 f 2 - S 3 k 2 ≤ 10000) (h3 : sameT S k f) : agE S f (k + 1) := ⟨k, h1, by omega, h2, h3⟩
theorem agE_f {S : ph_T} {f k : Nat} (h : ¬ agE S f k) (h1 : ¬ (S 3 f 2 - S 3 k 2 ≤ 10000 ∧ sameT S k f)) : ¬ agE S f (k + 1) := by
  rintro ⟨e, h2, h3, h4⟩
  by_cases q : e = k
  · subst q
    exact h1 h4
  · exact h ⟨e, h2, by omega, h4⟩
theorem ms_S00 : MS S00 mz_4 := by
  refine ⟨⟨rfl, rfl, rfl, rfl⟩, ⟨fun s hs => ?_, fun s hs => ⟨rfl, rfl, rfl, rfl, rfl⟩⟩, ⟨fun i hi => ?_, fun i hi => ⟨rfl, fun s hs => rfl⟩⟩, ⟨fun f hf => ?_, fun f hf => ⟨⟨rfl, rfl⟩, fun i h1 h2 => rfl⟩⟩, fun k hk => ?_, ⟨fun k hk => ?_, fun k hk => ?_⟩, ?_⟩
  · exact absurd hs (by show ¬ (s : Int) < 0; omega)
  · exact absurd hi (by show ¬ (1 ≤ i ∧ (i : Int) ≤ 0); omega)
  · exact absurd hf (by show ¬ (1 ≤ f ∧ (f : Int) ≤ 0); omega)
  · refine ⟨?_, rfl⟩
    rcases (show k = 0 ∨ k = 1 ∨ k = 2 ∨ k = 3 ∨ k = 4 ∨ k = 5 ∨ k = 6 by omega) with rfl | rfl | rfl | rfl | rfl | rfl | rfl <;> rfl
  · rcases (show k = 0 ∨ k = 1 ∨ k = 2 ∨ k = 3 ∨ k = 4 ∨ k = 5 ∨ k = 6 by omega) with rfl | rfl | rfl | rfl | rfl | rfl | rfl <;> rfl
  · rcases (show k = 0 ∨ k = 1 ∨ k = 2 ∨ k = 3 ∨ k = 4 ∨ k = 5 ∨ k = 6 ∨ k = 7 ∨ k = 8 ∨ k = 9 ∨ k = 10 ∨ k = 11 ∨ k = 12 ∨ k = 13 ∨ k = 14 ∨ k = 15 ∨ k = 16 ∨ k = 17 ∨ k = 18 ∨ k = 19 ∨ k = 20 by omega) with rfl | rfl | rfl | rfl | rfl | rfl | rfl | rfl | rfl | rfl | rfl | rfl | rfl | rfl | rfl | rfl | rfl | rfl | rfl | rfl | rfl <;> rfl
  · exact ⟨Int.le_refl 0, (eN_le 60).1, fun i => ⟨Or.inl rfl, Or.inl rfl, Or.inl rfl⟩, fun k => ⟨Int.le_refl 0, by show (0 : Int) ≤ 60; omega⟩, Int.le_refl 0, by show (0 : Int) ≤ 40; omega⟩
/-- from a contract in the class's words to one of the numbers -/
theorem mcon_w {l : Launch} {y : MethodName} {bs : ByteArray} {mL : Nat} {rt : Option FieldType} {rm : Room} {av : List Value} {S S' M : ph_T} {v : Int} (hs : MS S M) (h : ∀ (D : va_G) (dT : Nat → ClassId) (A : Nat → Prop) (KX : State → Prop) (L : Nat → Nat → Prop) (ad : Nat → Nat → Nat) (τ : ph_T) (o : Nat), MA o L ad τ → MS S τ → ph_M l y (.code y bs mL rt :: TB) rm D CLs (TY dT) dT kd A KX (.ref o :: av) L ad τ (fun r L' ad' τ' => L' = L ∧ ad' = ad ∧ (MA o L ad τ' ∧ MS S' τ') ∧ r = some (.int (ph_i v))) rm.cells rm.slots) : mcon l y bs mL rt rm av M (fun v' M1 => MS S' M1 ∧ v = v') :=
  fun D dT A KX L ad τ o hM => (h D dT A KX L ad τ o hM.ma (hs.of rfl hM)).mono (fun r L' ad' τ' q => by
    obtain ⟨rfl, rfl, ⟨h1, h2⟩, rfl⟩ := q
    exact ⟨τ', v, h1.mr, ⟨h2, rfl⟩, rfl⟩)
theorem mcon_r {l : Launch} {y : MethodName} {bs : ByteArray} {mL : Nat} {rt : Option FieldType} {rm : Room} {av : List Value} {S M : ph_T} {v : Int} (hs : MS S M) (h : ∀ (D : va_G) (dT : Nat → ClassId) (A : Nat → Prop) (KX : State → Prop) (L : Nat → Nat → Prop) (ad : Nat → Nat → Nat) (τ : ph_T) (o : Nat), MA o L ad τ → MS S τ → ph_M l y (.code y bs mL rt :: TB) rm D CLs (TY dT) dT kd A KX (.ref o :: av) L ad τ (fun r L' ad' τ' => L' = L ∧ ad' = ad ∧ τ' = τ ∧ r = some (.int (ph_i v))) rm.cells rm.slots) : mcon l y bs mL rt rm av M (fun v' M1 => MS S M1 ∧ v = v') :=
  fun D dT A KX L ad τ o hM => (h D dT A KX L ad τ o hM.ma (hs.of rfl hM)).mono (fun r L' ad' τ' q => by
    obtain ⟨rfl, rfl, rfl, rfl⟩ := q
    exact ⟨τ', v, hM.ma.mr, ⟨hs.of rfl hM, rfl⟩, rfl⟩)
