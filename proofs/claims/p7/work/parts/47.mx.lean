/-! ===== the other side: its addresses; its numbers are read of the heap itself ===== -/
def MA (o : Nat) (L : Nat → Nat → Prop) (ad : Nat → Nat → Nat) (τ : ph_T) : Prop :=
  L 20 0 ∧ ad 20 0 = o ∧ ∀ k : Nat, mrf k = true → L (21 + k) 0 ∧ τ 20 0 k = (ad (21 + k) 0 : Int)
section MAS
variable {M : ph_T} {o : Nat} {L : Nat → Nat → Prop} {ad : Nat → Nat → Nat} {τ : ph_T}
theorem MA.live (h : MA o L ad τ) : L 20 0 := h.1
theorem MA.ob (h : MA o L ad τ) : ad 20 0 = o := h.2.1
theorem MA.ar (h : MA o L ad τ) {k : Nat} (hk : mrf k = true) : L (21 + k) 0 := (h.2.2 k hk).1
theorem MA.rf (h : MA o L ad τ) {k : Nat} (hk : mrf k = true) : τ 20 0 k = (ad (21 + k) 0 : Int) := (h.2.2 k hk).2
theorem MR.ma (h : MR M o L ad τ) : MA o L ad τ := ⟨h.1, h.2.1, fun k hk => ⟨h.ar hk, h.rf hk⟩⟩
theorem MA.mr (h : MA o L ad τ) : MR τ o L ad τ := ⟨h.1, h.2.1, fun k hk => ⟨h.ar hk, h.rf hk, fun _ => rfl⟩, fun _ _ => rfl⟩
theorem MA.puta (h : MA o L ad τ) {k j : Nat} (z : Int) : MA o L ad (ph_up τ (21 + k) 0 j z) :=
  ⟨h.1, h.2.1, fun k' hk' => ⟨h.ar hk', by rw [up_ne _ (by omega)]; exact h.rf hk'⟩⟩
theorem MA.putf (h : MA o L ad τ) {k : Nat} (z : Int) (hk : mrf k = false) : MA o L ad (ph_up τ 20 0 k z) :=
  ⟨h.1, h.2.1, fun k' hk' => ⟨h.ar hk', by
    rw [ph_up_no _ _ (fun q => by
      obtain ⟨-, -, rfl⟩ := q
      rw [hk] at hk'
      cases hk')]
    exact h.rf hk'⟩⟩
end MAS
section PHMO
variable {l : Launch} {D : va_G} {cl : List vw_C} {tys : List (ClassId × FieldType)} {dT : Nat → ClassId} {kd : Nat → ph_K} {A : Nat → Prop} {KX : State → Prop} {L : Nat → Nat → Prop} {ad : Nat → Nat → Nat} {τ : ph_T}
theorem ph_M.mono {y : MethodName} {ws : List Cond} {rm : Room} {av : List Value} {mc ms : Nat} {post post' : Option Value → (Nat → Nat → Prop) → (Nat → Nat → Nat) → ph_T → Prop} (h : ph_M l y ws rm D cl tys dT kd A KX av L ad τ post mc ms) (hp : ∀ r L' ad' τ', post r L' ad' τ' → post' r L' ad' τ') : ph_M l y ws rm D cl tys dT kd A KX av L ad τ post' mc ms := by
  unfold ph_M Met at h ⊢
  refine Jvm.Free.MetFree.mono h (fun _ _ q => q) (fun _ _ _ _ _ q => q) ?_
  intro a s o t _ q
  obtain ⟨⟨⟨r, L', ad', τ', h1, h2, h3⟩, h4⟩, h5⟩ := q
  exact ⟨⟨⟨r, L', ad', τ', h1, hp _ _ _ _ h2, h3⟩, h4⟩, h5⟩
end PHMO
theorem mcon.mono {l : Launch} {y : MethodName} {bs : ByteArray} {mL : Nat} {rt : Option FieldType} {rm : Room} {av : List Value} {M : ph_T} {P Q : Int → ph_T → Prop} (h : mcon l y bs mL rt rm av M P) (hq : ∀ v M', P v M' → Q v M') : mcon l y bs mL rt rm av M Q :=
  fun D dT A KX L ad τ o hM => (h D dT A KX L ad τ o hM).mono (fun r L' ad' τ' q => by
    obtain ⟨M', v, h1, h2, h3⟩ := q
    exact ⟨M', v, h1, hq v M' h2, h3⟩)
section PHTL
variable {p : Program} {l : Launch} {e : Env} {R : Room} {s : State} {m : MethodId} {args : Array Value} {below : List Frame} {meth : Method} {c : Code}
variable {D : va_G} {cl : List vw_C} {dT : Nat → ClassId} {kd : Nat → ph_K} {A : Nat → Prop} {nL : Nat} {Q : State → Prop}
variable {L : Nat → Nat → Prop} {ad : Nat → Nat → Nat} {τ : ph_T} {cells slots pc : Nat} {lv : ph_V} {st : List Value}
theorem ph_tl {x y : Int} (h : x = y) (k : ph_W p l e R s m args below meth c D cl dT kd A nL Q L ad τ cells slots pc lv (.long (ph_l y) :: st)) : ph_W p l e R s m args below meth c D cl dT kd A nL Q L ad τ cells slots pc lv (.long (ph_l x) :: st) := by
  subst h
  exact k
end PHTL
