/-! ===== the other side's picture: one object (pool 20), its arrays (pools 21 + field) ===== -/
def mrf (k : Nat) : Bool := (Nat.ble 1 k && Nat.ble k 6) || (Nat.ble 8 k && Nat.ble k 14) || (Nat.ble 17 k && Nat.ble k 29) || Nat.beq k 32
def MR (M : ph_T) (o : Nat) (L : Nat → Nat → Prop) (ad : Nat → Nat → Nat) (τ : ph_T) : Prop :=
  L 20 0 ∧ ad 20 0 = o ∧ (∀ k : Nat, mrf k = true → L (21 + k) 0 ∧ τ 20 0 k = (ad (21 + k) 0 : Int) ∧ ∀ j : Nat, τ (21 + k) 0 j = M (21 + k) 0 j) ∧ ∀ k : Nat, mrf k = false → τ 20 0 k = M 20 0 k
/-- the other side -/
def cM (g : Nat) : Bool := Nat.ble 20 g
theorem cM_1 {g : Nat} (h : 20 ≤ g) : cM g = true := Nat.ble_eq.mpr h
theorem cM_0 {g : Nat} (h : g < 20) : cM g = false := by
  cases e : cM g with
  | false => rfl
  | true => exact absurd (Nat.ble_eq.mp e) (by omega)
theorem cJ_0 {g : Nat} (h : 20 ≤ g) : cJ g = false := by
  cases e : cJ g with
  | false => rfl
  | true => exact absurd (Nat.blt_eq.mp e) (by omega)
section MRS
variable {M S : ph_T} {o : Nat} {L L1 : Nat → Nat → Prop} {ad a1 : Nat → Nat → Nat} {τ t1 : ph_T}
theorem MR.live (h : MR M o L ad τ) : L 20 0 := h.1
theorem MR.ob (h : MR M o L ad τ) : ad 20 0 = o := h.2.1
theorem MR.ar (h : MR M o L ad τ) {k : Nat} (hk : mrf k = true) : L (21 + k) 0 := (h.2.2.1 k hk).1
theorem MR.rf (h : MR M o L ad τ) {k : Nat} (hk : mrf k = true) : τ 20 0 k = (ad (21 + k) 0 : Int) := (h.2.2.1 k hk).2.1
theorem MR.el (h : MR M o L ad τ) {k : Nat} (hk : mrf k = true) (j : Nat) : τ (21 + k) 0 j = M (21 + k) 0 j := (h.2.2.1 k hk).2.2 j
theorem MR.dat (h : MR M o L ad τ) {k : Nat} (hk : mrf k = false) : τ 20 0 k = M 20 0 k := h.2.2.2 k hk
theorem MR.sub (h : MR M o L ad τ) : MR M o (fun g i => cM g = true ∧ L g i) ad τ :=
  ⟨⟨cM_1 (by omega), h.live⟩, h.ob, fun k hk => ⟨⟨cM_1 (by omega), h.ar hk⟩, h.rf hk, h.el hk⟩, fun k hk => h.dat hk⟩
theorem MR.ext (h : MR M o L1 a1 t1) : MR M o (fr_L cM L1 L) (fr_a cM a1 ad) (fr_t cM t1 τ) := by
  have c20 : ∀ g, 20 ≤ g → cM g = true := fun g hg => cM_1 hg
  refine ⟨Or.inl ⟨c20 20 (by omega), h.live⟩, by rw [fr_a1 (c20 20 (by omega))]; exact h.ob, fun k hk => ⟨Or.inl ⟨c20 _ (by omega), h.ar hk⟩, ?_, fun j => ?_⟩, fun k hk => ?_⟩
  · rw [fr_t1 (c20 20 (by omega)), fr_a1 (c20 _ (by omega))]
    exact h.rf hk
  · rw [fr_t1 (c20 _ (by omega))]
    exact h.el hk j
  · rw [fr_t1 (c20 20 (by omega))]
    exact h.dat hk
/-- a side that a call does not reach -/
theorem MR.extJ (h : MR M o L ad τ) : MR M o (fr_L cJ L1 L) (fr_a cJ a1 ad) (fr_t cJ t1 τ) := by
  have c20 : ∀ g, 20 ≤ g → cJ g = false := fun g hg => cJ_0 hg
  refine ⟨Or.inr ⟨c20 20 (by omega), h.live⟩, by rw [fr_a0 (c20 20 (by omega))]; exact h.ob, fun k hk => ⟨Or.inr ⟨c20 _ (by omega), h.ar hk⟩, ?_, fun j => ?_⟩, fun k hk => ?_⟩
  · rw [fr_t0 (c20 20 (by omega)), fr_a0 (c20 _ (by omega))]
    exact h.rf hk
  · rw [fr_t0 (c20 _ (by omega))]
    exact h.el hk j
  · rw [fr_t0 (c20 20 (by omega))]
    exact h.dat hk
theorem LC_lt10 {g i : Nat} (h : LC S g i) : g < 10 := Nat.blt_eq.mp (LC_lt h)
theorem JR.extM (h : JR S o L ad τ) : JR S o (fr_L cM L1 L) (fr_a cM a1 ad) (fr_t cM t1 τ) := by
  have c0 : ∀ g, g < 10 → cM g = false := fun g hg => cM_0 (by omega)
  have ha : ∀ g, g < 10 → fr_a cM a1 ad g = ad g := fun g hg => fr_a0 (c0 g hg)
  have ht : ∀ g, g < 10 → fr_t cM t1 τ g = τ g := fun g hg => fr_t0 (c0 g hg)
  refine ⟨fun g i hl => Or.inr ⟨c0 g (LC_lt10 hl), h.1 g i hl⟩, by rw [ha 0 (by decide)]; exact h.ob, fun g i k hl hd => by rw [ht g (LC_lt10 hl)]; exact h.dat hl hd, ⟨?_, ?_, ?_, ?_, ?_, ?_⟩, fun i hl => ?_, fun i hl => ?_, fun i hl => ?_⟩
  · rw [ht 0 (by decide), ha 4 (by decide)]; exact h.r0
  · rw [ht 0 (by decide), ha 5 (by decide)]; exact h.r2
  · rw [ht 0 (by decide), ha 6 (by decide)]; exact h.r4
  · rw [ht 0 (by decide), ha 7 (by decide)]; exact h.r7
  · rw [ht 0 (by decide), ha 8 (by decide)]; exact h.r8
  · rw [ht 0 (by decide), ha 9 (by decide)]; exact h.r9
  · rw [ht 4 (by decide), ha 1 (by decide)]; exact h.e4 hl
  · rw [ht 5 (by decide), ha 2 (by decide)]; exact h.e5 hl
  · rw [ht 6 (by decide), ha 3 (by decide)]; exact h.e6 hl
theorem JF.extM (h : JF S L) : JF S (fr_L cM L1 L) := fun g i hg hl => by
  rcases hl with ⟨q, -⟩ | ⟨-, q⟩
  · exact absurd q (by rcases hg with rfl | rfl | rfl <;> decide)
  · exact h g i hg q
end MRS
/-- a contract of the other side's method: from the numbers M to an answer and numbers of which P holds -/
def mcon (l : Launch) (y : MethodName) (bs : ByteArray) (mL : Nat) (rt : Option FieldType) (rm : Room) (av : List Value) (M : ph_T) (P : Int → ph_T → Prop) : Prop :=
  ∀ (D : va_G) (dT : Nat → ClassId) (A : Nat → Prop) (KX : State → Prop) (L : Nat → Nat → Prop) (ad : Nat → Nat → Nat) (τ : ph_T) (o : Nat), MR M o L ad τ → ph_M l y (.code y bs mL rt :: TB) rm D CLs (TY dT) dT kd A KX (.ref o :: av) L ad τ (fun r L' ad' τ' => ∃ (M' : ph_T) (v : Int), MR M' o L' ad' τ' ∧ P v M' ∧ r = some (.int (ph_i v))) rm.cells rm.slots
/-! ===== a call of one side, with both sides kept ===== -/
section TWO
variable {p : Program} {l : Launch} {e : Env} {R : Room} {s : State} {m : MethodId} {args : Array Value} {below : List Frame} {meth : Method} {c : Code}
variable {D : va_G} {dT : Nat → ClassId} {A : Nat → Prop} {nL : Nat} {Q : State → Prop} {cc : ByteArray} {own : String} {aR aT : Nat}
variable {L : Nat → Nat → Prop} {ad : Nat → Nat → Nat} {τ : ph_T} {cells slots pc : Nat} {lv : ph_V} {st : List Value} {post : Option Value → (Nat → Nat → Prop) → (Nat → Nat → Nat) → ph_T → Prop}
variable {y : MethodName} {ws : List Cond} {rm : Room} {mc ms maxL index n b o : Nat} {ret : Option FieldType} {As rest : List Value} {bytes : ByteArray}
theorem lw_J (C : ph_C p s m args c cc nL own TB D CLs (TY dT) A (KJ dT A aR aT)) (hd : decode cc pc = .ok (.invokevirtual index, 3)) {S S' M : ph_T} {v : Int} (hI : JR S b L ad τ) (hMR : MR M o L ad τ) (hM : ∀ A1 : Nat → Prop, ph_M l y ws rm D CLs (TY dT) dT kd A1 (KJ dT A1 aR aT) (.ref b :: As) (fun g i => cJ g = true ∧ L g i) ad τ post mc ms) (hp : ∀ r L' ad' τ', post r L' ad' τ' → JR S' b L' ad' τ' ∧ JF S' L' ∧ r = some (.int (ph_i v))) (cw : CallW R s args own R_J index y bytes maxL ret ws rm mc ms n) (hn : As.length = n) (hst : st = As.reverse ++ .ref b :: rest) (hro : (rest.map fun v => v.category).sum ≤ 8) (hf : cells + mc ≤ R.cells ∧ slots + ms ≤ R.slots)
    (k : ∀ (L' : Nat → Nat → Prop) (ad' : Nat → Nat → Nat) (τ' : ph_T), JR S' b L' ad' τ' → JF S' L' → MR M o L' ad' τ' → ph_W p l e R s m args below meth c D CLs dT kd A nL Q L' ad' τ' (cells + mc) (slots + ms) (pc + 3) lv (.int (ph_i v) :: rest)) : ph_W p l e R s m args below meth c D CLs dT kd A nL Q L ad τ cells slots pc lv st :=
  ph_callVF C hd cJ (fun A1 => KJ dT A1 aR aT) (fun A1 h U hk => KJ_nar h U hk) (fun A1 => KJ_keep dT A1 aR aT) hM cw (g := 0) (i := 0) (hI.live (g := 0) (i := 0) rfl) hI.ob rfl rfl rfl hn hst hro hf (fun r L' ad' τ' hpo => by
    obtain ⟨h1, h2, rfl⟩ := hp r L' ad' τ' hpo
    exact k _ _ _ h1.ext h2.ext hMR.extJ)
theorem lw_M (C : ph_C p s m args c cc nL own TB D CLs (TY dT) A (KJ dT A aR aT)) (hd : decode cc pc = .ok (.invokevirtual index, 3)) {S M : ph_T} {P : Int → ph_T → Prop} {bs : ByteArray} (hI : JR S b L ad τ) (hF : JF S L) (hMR : MR M o L ad τ) (hM : mcon l y bs maxL ret rm As M P) (cw : CallW R s args own R_M index y bs maxL ret (.code y bs maxL ret :: TB) rm rm.cells rm.slots n) (hn : As.length = n) (hst : st = As.reverse ++ .ref o :: rest) (hro : (rest.map fun v => v.category).sum ≤ 8) (hf : cells + rm.cells ≤ R.cells ∧ slots + rm.slots ≤ R.slots)
    (k : ∀ (L' : Nat → Nat → Prop) (ad' : Nat → Nat → Nat) (τ' M' : ph_T) (v : Int), JR S b L' ad' τ' → JF S L' → MR M' o L' ad' τ' → P v M' → ph_W p l e R s m args below meth c D CLs dT kd A nL Q L' ad' τ' (cells + rm.cells) (slots + rm.slots) (pc + 3) lv (.int (ph_i v) :: rest)) : ph_W p l e R s m args below meth c D CLs dT kd A nL Q L ad τ cells slots pc lv st :=
  ph_callVF C hd cM (fun A1 => KJ dT A1 aR aT) (fun A1 h U hk => KJ_nar h U hk) (fun A1 => KJ_keep dT A1 aR aT) (fun A1 => hM D dT A1 (KJ dT A1 aR aT) _ ad τ o hMR.sub) cw (g := 20) (i := 0) hMR.live hMR.ob rfl rfl rfl hn hst hro hf (fun r L' ad' τ' hpo => by
    obtain ⟨M', v, h1, h2, rfl⟩ := hpo
    exact k _ _ _ M' v hI.extM hF.extM h1.ext h2)
end TWO
