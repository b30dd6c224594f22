/-! ===== two systems in one heap: a call reaches the pools of one side (c1) alone ===== -/
def fr_A (c1 : Nat → Bool) (L : Nat → Nat → Prop) (ad : Nat → Nat → Nat) (sz : Nat) : Nat → Prop := fun q => (∃ g i : Nat, c1 g = true ∧ L g i ∧ ad g i = q) ∨ sz ≤ q
def fr_L (c1 : Nat → Bool) (L1 L : Nat → Nat → Prop) : Nat → Nat → Prop := fun g i => (c1 g = true ∧ L1 g i) ∨ (c1 g = false ∧ L g i)
def fr_a (c1 : Nat → Bool) (a1 a : Nat → Nat → Nat) : Nat → Nat → Nat := fun g => bif c1 g then a1 g else a g
def fr_t (c1 : Nat → Bool) (t1 t : ph_T) : ph_T := fun g => bif c1 g then t1 g else t g
theorem fr_a1 {c1 : Nat → Bool} {a1 a : Nat → Nat → Nat} {g : Nat} (h : c1 g = true) : fr_a c1 a1 a g = a1 g := by simp [fr_a, h]
theorem fr_a0 {c1 : Nat → Bool} {a1 a : Nat → Nat → Nat} {g : Nat} (h : c1 g = false) : fr_a c1 a1 a g = a g := by simp [fr_a, h]
theorem fr_t1 {c1 : Nat → Bool} {t1 t : ph_T} {g : Nat} (h : c1 g = true) : fr_t c1 t1 t g = t1 g := by simp [fr_t, h]
theorem fr_t0 {c1 : Nat → Bool} {t1 t : ph_T} {g : Nat} (h : c1 g = false) : fr_t c1 t1 t g = t g := by simp [fr_t, h]
section FRM
variable {p : Program} {l : Launch} {e : Env} {R : Room} {s : State} {m : MethodId} {args : Array Value} {below : List Frame} {meth : Method} {c : Code}
variable {D : va_G} {cl : List vw_C} {tys : List (ClassId × FieldType)} {dT : Nat → ClassId} {kd : Nat → ph_K} {A : Nat → Prop} {KX : State → Prop} {nL : Nat} {Q : State → Prop} {cc : ByteArray} {own : String} {Ts : List Cond}
variable {L : Nat → Nat → Prop} {ad : Nat → Nat → Nat} {τ : ph_T} {cells slots pc : Nat} {lv : ph_V} {st : List Value} {post : Option Value → (Nat → Nat → Prop) → (Nat → Nat → Nat) → ph_T → Prop}
theorem ph_U.side {H : Heap} (h : ph_U D cl dT kd A L ad τ H) (c1 : Nat → Bool) : ph_U D cl dT kd (fr_A c1 L ad H.size) (fun g i => c1 g = true ∧ L g i) ad τ H :=
  ⟨fun g i hl => ⟨Or.inl ⟨g, i, hl.1, hl.2, rfl⟩, (h.1 g i hl.2).2⟩, fun g i g' i' h1 h2 he => h.2 g i g' i' h1.2 h2.2 he⟩
theorem ph_U.mix {H H1 : Heap} {c1 : Nat → Bool} {L1 : Nat → Nat → Prop} {a1 : Nat → Nat → Nat} {t1 : ph_T} (h : ph_U D cl dT kd A L ad τ H) (hA : ∀ q, fr_A c1 L ad H.size q → A q) (h1 : ph_U D cl dT kd (fr_A c1 L ad H.size) L1 a1 t1 H1) (hk : ∀ q : Nat, q < H.size → ¬ fr_A c1 L ad H.size q → H1[q]? = H[q]?) : ph_U D cl dT kd A (fr_L c1 L1 L) (fr_a c1 a1 ad) (fr_t c1 t1 τ) H1 := by
  have hout : ∀ g i, c1 g = false → L g i → ¬ fr_A c1 L ad H.size (ad g i) := fun g i hc hl q => by
    rcases q with ⟨g', i', q1, q2, q3⟩ | q
    · obtain ⟨rfl, -⟩ := h.2 g' i' g i q2 hl q3
      rw [hc] at q1
      cases q1
    · have := h.lt hl
      omega
  refine ⟨fun g i hl => ?_, fun g i g' i' hl hl' he => ?_⟩
  · rcases hl with ⟨hc, hl⟩ | ⟨hc, hl⟩
    · rw [fr_a1 hc, fr_t1 hc]
      exact ⟨hA _ (h1.1 g i hl).1, (h1.1 g i hl).2⟩
    · rw [fr_a0 hc, fr_t0 hc]
      exact ⟨(h.1 g i hl).1, (h.1 g i hl).2.kept (hk _ (h.lt hl) (hout g i hc hl))⟩
  · rcases hl with ⟨hc, hl⟩ | ⟨hc, hl⟩ <;> rcases hl' with ⟨hc', hl'⟩ | ⟨hc', hl'⟩
    · rw [fr_a1 hc, fr_a1 hc'] at he
      exact h1.2 g i g' i' hl hl' he
    · rw [fr_a1 hc, fr_a0 hc'] at he
      exact absurd (by rw [← he]; exact (h1.1 g i hl).1) (hout g' i' hc' hl')
    · rw [fr_a0 hc, fr_a1 hc'] at he
      exact absurd (by rw [he]; exact (h1.1 g' i' hl').1) (hout g i hc hl)
    · rw [fr_a0 hc, fr_a0 hc'] at he
      exact h.2 g i g' i' hl hl' he
theorem ph_C.side (C : ph_C p s m args c cc nL own Ts D cl tys A KX) {H : Heap} {locs : List Loc} (c1 : Nat → Bool) (hU : ph_U D cl dT kd A L ad τ H) (hS : va_S A s.heap H locs) : ∀ q, fr_A c1 L ad H.size q → A q := fun q hq => by
  rcases hq with ⟨g, i, -, q2, rfl⟩ | hq
  · exact (hU.1 g i q2).1
  · exact C.hA q (Nat.le_trans hS.1 hq)
variable {y : MethodName} {ws ws' : List Cond} {rm : Room} {mc ms maxL index n b : Nat} {ret : Option FieldType} {As rest : List Value} {bytes : ByteArray} {Cn : String}
theorem ph_preF (C : ph_C p s m args c cc nL own Ts D cl tys A KX) {H : Heap} {locs : List Loc} (c1 : Nat → Bool) {KX1 : State → Prop} (hU : ph_U D cl dT kd A L ad τ H) (hS : va_S A s.heap H locs) (hX : ∀ U, KX U → KX1 U) (hkp : ph_keep (fr_A c1 L ad H.size) KX1) {av : List Value} {U : State} (hH : U.heap = H) (hW : s.WarmedH U.vm) : va_Pc av (fun U => (∀ q : Nat, U.heap.size ≤ q → fr_A c1 L ad H.size q) ∧ ph_U D cl dT kd (fr_A c1 L ad H.size) (fun g i => c1 g = true ∧ L g i) ad τ U.heap ∧ va_K D cl tys U ∧ KX1 U ∧ ph_keep (fr_A c1 L ad H.size) KX1) av.toArray U :=
  ⟨rfl, fun q h => Or.inr (by rw [hH] at h; exact h), by rw [hH]; exact hU.side c1, va_K.moved hW.alike C.hK, hX U (C.2.2.2.2 s U hW (by rw [hH]; exact hS.1) (fun q h1 h2 => by rw [hH]; exact hS.2.1 q h1 h2) C.2.2.2.1), hkp⟩
theorem ph_backF {H : Heap} {locs : List Loc} {ls : Array Slot} {a : Array Value} (c1 : Nat → Bool) (hU : ph_U D cl dT kd A L ad τ H) (hA : ∀ q, fr_A c1 L ad H.size q → A q) (hr : va_Run p l e R s m args below meth c H locs cells slots mc ms (F0 m pc ls st) rest (ph_Q D cl dT kd (fr_A c1 L ad H.size) post a) (fr_A c1 L ad H.size)) (hS : va_S A s.heap H locs) (hl : ph_has ls nL lv)
    (k : ∀ (r : Option Value) (L' : Nat → Nat → Prop) (ad' : Nat → Nat → Nat) (τ' : ph_T), post r L' ad' τ' → ph_W p l e R s m args below meth c D cl dT kd A nL Q (fr_L c1 L' L) (fr_a c1 ad' ad) (fr_t c1 τ' τ) (cells + mc) (slots + ms) (pc + 3) lv (r.toList ++ rest)) : W p l e R s m args below meth c H locs cells slots Q (F0 m pc ls st) := by
  intro T hT X
  obtain ⟨v, st₀, t, T', Lc, h0, X', hLc, e1, e2, ⟨⟨r, L', ad', τ', ho, hp, hU'⟩, hz, hk⟩, stp⟩ := hr T hT X
  cases ho
  rw [h0] at hz hk
  obtain ⟨t2, a1, b1⟩ := k _ L' ad' τ' hp T'.heap (locs ++ Lc) ls (by rw [e1]; exact hU.mix hA hU' hk)
    ⟨Nat.le_trans hS.1 (by rw [e1]; exact hz), fun q h1 h2 => by rw [e1, hk q (Nat.lt_of_lt_of_le h1 hS.1) (fun z => h2 (hA q z))]; exact hS.2.1 q h1 h2, fun q hq => by
      rcases List.mem_append.mp hq with h | h
      · exact hS.2.2 q h
      · exact hA _ (hLc q h)⟩ hl T' rfl X'
  exact ⟨t2, stp t2 a1, b1⟩
theorem ph_callVF (C : ph_C p s m args c cc nL own Ts D cl tys A KX) (hd : decode cc pc = .ok (.invokevirtual index, 3)) (c1 : Nat → Bool) (KX1 : (Nat → Prop) → State → Prop) (hX : ∀ A1 : Nat → Prop, (∀ q, A1 q → A q) → ∀ U, KX U → KX1 A1 U) (hkp : ∀ A1, ph_keep A1 (KX1 A1)) (hM : ∀ A1 : Nat → Prop, ph_M l y ws rm D cl tys dT kd A1 (KX1 A1) (.ref b :: As) (fun g i => c1 g = true ∧ L g i) ad τ post mc ms) (cw : CallW R s args own Cn index y bytes maxL ret ws rm mc ms n) {g i ci : Nat} {tags : List Nat} {q : vw_C} (hL : L g i) (ha : ad g i = b) (hk : kd g = .inl (ci, tags)) (hc : cl[ci]? = some q) (hq : q.1 = Cn) (hn : As.length = n) (hst : st = As.reverse ++ .ref b :: rest) (hro : (rest.map fun v => v.category).sum ≤ 8) (hf : cells + mc ≤ R.cells ∧ slots + ms ≤ R.slots)
    (k : ∀ (r : Option Value) (L' : Nat → Nat → Prop) (ad' : Nat → Nat → Nat) (τ' : ph_T), post r L' ad' τ' → ph_W p l e R s m args below meth c D cl dT kd A nL Q (fr_L c1 L' L) (fr_a c1 ad' ad) (fr_t c1 τ' τ) (cells + mc) (slots + ms) (pc + 3) lv (r.toList ++ rest)) : ph_W p l e R s m args below meth c D cl dT kd A nL Q L ad τ cells slots pc lv st := fun H locs ls hU hS hl => by
  subst hst
  subst hq
  have hA := C.side c1 hU hS
  exact ph_backF c1 hU hA (va_runV C.1 (hM (fr_A c1 L ad H.size)) cw ⟨ph_blind, va_recv C.hK (hU.ob hL ha hk) (q0 := 0) hc rfl, fun U h1 h2 => ph_preF C c1 hU hS (hX _ hA) (hkp _) h1 h2⟩ rfl hn hl.1 rfl (lv_room hro) hd hf) hS hl k
theorem ph_callIF (C : ph_C p s m args c cc nL own Ts D cl tys A KX) (hd : decode cc pc = .ok (.invokespecial index, 3)) (c1 : Nat → Bool) (KX1 : (Nat → Prop) → State → Prop) (hX : ∀ A1 : Nat → Prop, (∀ q, A1 q → A q) → ∀ U, KX U → KX1 A1 U) (hkp : ∀ A1, ph_keep A1 (KX1 A1)) (hM : ∀ A1 : Nat → Prop, ph_M l y ws rm D cl tys dT kd A1 (KX1 A1) (.ref b :: As) (fun g i => c1 g = true ∧ L g i) ad τ post mc ms) (cw : CallB R s args own index y bytes maxL none ws rm mc ms n ∧ y.name = "<init>" ∧ (Cond.instanceMethod y).before args s = true) (hn : As.length = n) (hst : st = As.reverse ++ .ref b :: rest) (hro : (rest.map fun v => v.category).sum ≤ 8) (hf : cells + mc ≤ R.cells ∧ slots + ms ≤ R.slots)
    (k : ∀ (r : Option Value) (L' : Nat → Nat → Prop) (ad' : Nat → Nat → Nat) (τ' : ph_T), post r L' ad' τ' → ph_W p l e R s m args below meth c D cl dT kd A nL Q (fr_L c1 L' L) (fr_a c1 ad' ad) (fr_t c1 τ' τ) (cells + mc) (slots + ms) (pc + 3) lv (r.toList ++ rest)) : ph_W p l e R s m args below meth c D cl dT kd A nL Q L ad τ cells slots pc lv st := fun H locs ls hU hS hl => by
  subst hst
  have hA := C.side c1 hU hS
  exact ph_backF c1 hU hA (va_runI C.1 (hM (fr_A c1 L ad H.size)) cw ⟨ph_blind, fun U h1 h2 => ph_preF C c1 hU hS (hX _ hA) (hkp _) h1 h2⟩ rfl hn hl.1 rfl (lv_room hro) hd hf) hS hl k
end FRM
/-- the class's side -/
def cJ (g : Nat) : Bool := Nat.blt g 10
theorem KJ_nar {dT : Nat → ClassId} {A A1 : Nat → Prop} {aR aT : Nat} (h : ∀ q, A1 q → A q) (U : State) (hk : KJ dT A aR aT U) : KJ dT A1 aR aT U :=
  ⟨⟨hk.1.1.narrow h, hk.1.2.narrow h⟩, ⟨hk.2.1.1.narrow h, hk.2.1.2.narrow h⟩, hk.2.2⟩
theorem LC_lt {S : ph_T} {g i : Nat} (h : LC S g i) : cJ g = true := by
  by_cases q : g < 10
  · exact Nat.blt_eq.mpr q
  · exfalso
    unfold LC at h
    split at h
    all_goals first | exact h | (exact q (by decide))
/-- the class's picture, seen from the whole heap -/
theorem JR.sub {S : ph_T} {o : Nat} {L : Nat → Nat → Prop} {ad : Nat → Nat → Nat} {τ : ph_T} (h : JR S o L ad τ) : JR S o (fun g i => cJ g = true ∧ L g i) ad τ := ⟨fun g i hl => ⟨LC_lt hl, h.1 g i hl⟩, h.2⟩
theorem JR.ext {S : ph_T} {o : Nat} {L L1 : Nat → Nat → Prop} {ad a1 : Nat → Nat → Nat} {τ t1 : ph_T} (h : JR S o L1 a1 t1) : JR S o (fr_L cJ L1 L) (fr_a cJ a1 ad) (fr_t cJ t1 τ) := by
  have ha : ∀ g, g < 10 → fr_a cJ a1 ad g = a1 g := fun g hg => fr_a1 (Nat.blt_eq.mpr hg)
  have ht : ∀ g, g < 10 → fr_t cJ t1 τ g = t1 g := fun g hg => fr_t1 (Nat.blt_eq.mpr hg)
  refine ⟨fun g i hl => Or.inl ⟨LC_lt hl, h.1 g i hl⟩, by rw [ha 0 (by decide)]; exact h.ob, fun g i k hl hd => by rw [fr_t1 (LC_lt hl)]; exact h.dat hl hd, ⟨?_, ?_, ?_, ?_, ?_, ?_⟩, fun i hl => ?_, fun i hl => ?_, fun i hl => ?_⟩
  · rw [ht 0 (by decide), ha 4 (by decide)]; exact h.r0
  · rw [ht 0 (by decide), ha 5 (by decide)]; exact h.r2
  · rw [ht 0 (by decide), ha 6 (by decide)]; exact h.r4
  · rw [ht 0 (by decide), ha 7 (by decide)]; exact h.r7
  · rw [ht 0 (by decide), ha 8 (by decide)]; exact h.r8
  · rw [ht 0 (by decide), ha 9 (by decide)]; exact h.r9
  · rw [ht 4 (by decide), ha 1 (by decide)]; exact h.e4 hl
  · rw [ht 5 (by decide), ha 2 (by decide)]; exact h.e5 hl
  · rw [ht 6 (by decide), ha 3 (by decide)]; exact h.e6 hl
theorem JF.ext {S : ph_T} {L L1 : Nat → Nat → Prop} (h : JF S L1) : JF S (fr_L cJ L1 L) := fun g i hg hl => by
  rcases hl with ⟨-, q⟩ | ⟨q, -⟩
  · exact h g i hg q
  · exact absurd q (by rcases hg with rfl | rfl | rfl <;> decide)
theorem JF.sub {S : ph_T} {L : Nat → Nat → Prop} (h : JF S L) : JF S (fun g i => cJ g = true ∧ L g i) := fun g i hg hl => h g i hg hl.2
