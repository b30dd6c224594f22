/-! ===== numbers by their Int ===== -/
def ph_i (z : Int) : Int32 := Int32.ofInt z
def ph_l (z : Int) : Int64 := Int64.ofInt z
abbrev ph_ri (z : Int) : Prop := -2147483648 ≤ z ∧ z < 2147483648
abbrev ph_rl (z : Int) : Prop := -9223372036854775808 ≤ z ∧ z < 9223372036854775808
theorem ph_iT {z : Int} (h : ph_ri z) : (ph_i z).toInt = z := Int32.toInt_ofInt_of_le (by omega) (by omega)
theorem ph_lT {z : Int} (h : ph_rl z) : (ph_l z).toInt = z := Int64.toInt_ofInt_of_le (by omega) (by omega)
theorem ph_ile {a b : Int} (ha : ph_ri a) (hb : ph_ri b) : ph_i a ≤ ph_i b ↔ a ≤ b := by rw [Int32.le_iff_toInt_le, ph_iT ha, ph_iT hb]
theorem ph_ilt {a b : Int} (ha : ph_ri a) (hb : ph_ri b) : ph_i a < ph_i b ↔ a < b := by rw [Int32.lt_iff_toInt_lt, ph_iT ha, ph_iT hb]
theorem ph_ieq {a b : Int} (ha : ph_ri a) (hb : ph_ri b) : ph_i a = ph_i b ↔ a = b := by rw [← Int32.toInt_inj, ph_iT ha, ph_iT hb]
theorem ph_lle {a b : Int} (ha : ph_rl a) (hb : ph_rl b) : ph_l a ≤ ph_l b ↔ a ≤ b := by rw [Int64.le_iff_toInt_le, ph_lT ha, ph_lT hb]
theorem ph_llt {a b : Int} (ha : ph_rl a) (hb : ph_rl b) : ph_l a < ph_l b ↔ a < b := by rw [Int64.lt_iff_toInt_lt, ph_lT ha, ph_lT hb]
theorem ph_leq {a b : Int} (ha : ph_rl a) (hb : ph_rl b) : ph_l a = ph_l b ↔ a = b := by rw [← Int64.toInt_inj, ph_lT ha, ph_lT hb]
theorem ph_0 : ph_i 0 = 0 := rfl
theorem ph_icl {z : Int} (h0 : 0 ≤ z) (h : z < 2147483648) : (ph_i z).toNatClampNeg = z.toNat := Int32.toNatClampNeg_ofInt_of_le (by omega) (by omega)
theorem ph_iin {z : Int} {N : Nat} (h0 : 0 ≤ z) (h : z < (N : Int)) (hz : z < 2147483648) : vp_in (ph_i z) N := by
  intro q
  rcases q with q | q
  · have := (ph_ilt (a := z) (b := 0) (by omega) (by omega)).mp q
    omega
  · rw [ph_icl h0 hz] at q
    omega
theorem ph_jcl {x : Int} {j : Nat} (hj : x = (j : Int)) (h : j < 2147483648) : (ph_i x).toNatClampNeg = j := by
  subst hj
  rw [ph_icl (by omega) (by omega)]
  simp
theorem ph_jin {x : Int} {j N : Nat} (hj : x = (j : Int)) (h : j < N) (hN : N < 2147483648) : vp_in (ph_i x) N := ph_iin (by omega) (by omega) (by omega)
theorem pn_iadd (a b : Int) : ph_i a + ph_i b = ph_i (a + b) := (Int32.ofInt_add a b).symm
theorem pn_isub (a b : Int) : ph_i a - ph_i b = ph_i (a - b) := (Int32.ofInt_sub a b).symm
theorem pn_imul (a b : Int) : ph_i a * ph_i b = ph_i (a * b) := (Int32.ofInt_mul a b).symm
theorem pn_ineg (a : Int) : -ph_i a = ph_i (-a) := (Int32.ofInt_neg a).symm
theorem pn_ladd (a b : Int) : ph_l a + ph_l b = ph_l (a + b) := (Int64.ofInt_add a b).symm
theorem pn_lsub (a b : Int) : ph_l a - ph_l b = ph_l (a - b) := (Int64.ofInt_sub a b).symm
theorem pn_lmul (a b : Int) : ph_l a * ph_l b = ph_l (a * b) := (Int64.ofInt_mul a b).symm
theorem pn_lneg (a : Int) : -ph_l a = ph_l (-a) := (Int64.ofInt_neg a).symm
theorem pn_i2l {z : Int} (h : ph_ri z) : (ph_i z).toInt64 = ph_l z := by
  rw [← Int64.toInt_inj, Int32.toInt_toInt64, ph_iT h, ph_lT (by omega)]
theorem pn_l2i (z : Int) : (ph_l z).toInt32 = ph_i z := Int64.toInt32_ofInt
theorem ph_iof (x : Int32) : ∃ z : Int, ph_ri z ∧ x = ph_i z := ⟨x.toInt, ⟨by have := x.le_toInt; omega, by have := x.toInt_lt; omega⟩, (Int32.ofInt_toInt x).symm⟩
theorem ph_lof (x : Int64) : ∃ z : Int, ph_rl z ∧ x = ph_l z := ⟨x.toInt, ⟨by have := x.le_toInt; omega, by have := x.toInt_lt; omega⟩, (Int64.ofInt_toInt x).symm⟩
/-- a truth value as a number -/
noncomputable def ph_b (P : Prop) : Int := @ite Int P (Classical.propDecidable P) 1 0
theorem ph_b1 {P : Prop} (h : P) : ph_b P = 1 := if_pos h
theorem ph_b0 {P : Prop} (h : ¬ P) : ph_b P = 0 := if_neg h
theorem ph_br (P : Prop) : 0 ≤ ph_b P ∧ ph_b P ≤ 1 := by
  rcases Classical.em P with h | h
  · rw [ph_b1 h]; omega
  · rw [ph_b0 h]; omega
/-! ===== the locals: by lookup ===== -/
abbrev ph_V : Type := List (Nat × Option Value)
def ph_g : ph_V → Nat → Option Value
  | [], _ => none
  | q :: t, i => bif Nat.beq q.1 i then q.2 else ph_g t i
theorem ph_g_self (i : Nat) (v : Option Value) (t : ph_V) : ph_g ((i, v) :: t) i = v := by simp [ph_g]
theorem ph_g_ne {i j : Nat} (v : Option Value) (t : ph_V) (h : i ≠ j) : ph_g ((i, v) :: t) j = ph_g t j := by
  have : Nat.beq i j = false := by
    cases hb : Nat.beq i j with
    | false => rfl
    | true => exact absurd (Nat.eq_of_beq_eq_true hb) h
  simp [ph_g, this]
def ph_has (ls : Array Slot) (nL : Nat) (lv : ph_V) : Prop := ls.size = nL ∧ lv_wf ls ∧ ∀ (i : Nat) (v : Value), ph_g lv i = some v → ls[i]? = some (.val v)
/-- the store at i leaves no half of a long behind -/
def ph_ok (lv : ph_V) (i : Nat) : Bool := match i with
  | 0 => true
  | j + 1 => match ph_g lv j with
    | some v => v.category == 1
    | none => true
def ph_ll (nL : Nat) (lv : ph_V) : List (Nat × Value) := (List.range nL).filterMap fun j => (ph_g lv j).map fun v => (j, v)
theorem ph_ll_mem {nL : Nat} {lv : ph_V} {j : Nat} {v : Value} : (j, v) ∈ ph_ll nL lv ↔ j < nL ∧ ph_g lv j = some v := by
  unfold ph_ll
  rw [List.mem_filterMap]
  constructor
  · rintro ⟨a, ha, h⟩
    cases hg : ph_g lv a with
    | none => rw [hg] at h; cases h
    | some w =>
      rw [hg] at h
      simp only [Option.map_some, Option.some.injEq, Prod.mk.injEq] at h
      obtain ⟨rfl, rfl⟩ := h
      exact ⟨List.mem_range.mp ha, hg⟩
  · rintro ⟨h1, h2⟩
    exact ⟨j, List.mem_range.mpr h1, by rw [h2]; rfl⟩
theorem ph_has.lv {ls : Array Slot} {nL : Nat} {lv : ph_V} (h : ph_has ls nL lv) : lv_has ls nL (ph_ll nL lv) := ⟨h.1, h.2.1, fun q hq => h.2.2 q.1 q.2 (ph_ll_mem.mp hq).2⟩
theorem ph_has.bd {ls : Array Slot} {nL : Nat} {lv : ph_V} (h : ph_has ls nL lv) {j : Nat} {v : Value} (hj : ph_g lv j = some v) : j < nL := by
  rw [← h.1]
  exact (Array.getElem?_eq_some_iff.mp (h.2.2 j v hj)).1
theorem ph_ok_ne {lv : ph_V} {i j : Nat} {w : Value} (hk : ph_ok lv i = true) (hj : ph_g lv j = some w) (e : j + 1 = i) : ¬ w.category = 2 := by
  subst e
  simp only [ph_ok, hj, beq_iff_eq] at hk
  omega
theorem ph_st1 {ls : Array Slot} {nL i : Nat} {lv : ph_V} {v : Value} (h : ph_has ls nL lv) (hk : ph_ok lv i = true) (h' : lv_has ls nL ((i, v) :: (ph_ll nL lv).filter (fun q => !(q.1 == i) && !(q.1 + 1 == i && q.2.category == 2)))) : ph_has ls nL ((i, some v) :: lv) := by
  refine ⟨h.1, h.2.1, fun j w hj => ?_⟩
  by_cases e : i = j
  · subst e
    rw [ph_g_self] at hj
    cases hj
    exact h'.2.2 (i, v) List.mem_cons_self
  · rw [ph_g_ne _ _ e] at hj
    exact h.2.2 j w hj
theorem ph_st1' {ls ls' : Array Slot} {nL i : Nat} {lv : ph_V} {v : Value} (h : ph_has ls nL lv) (hk : ph_ok lv i = true) (h' : lv_has ls' nL ((i, v) :: (ph_ll nL lv).filter (fun q => !(q.1 == i) && !(q.1 + 1 == i && q.2.category == 2)))) : ph_has ls' nL ((i, some v) :: lv) := by
  refine ⟨h'.1, h'.2.1, fun j w hj => ?_⟩
  by_cases e : i = j
  · subst e
    rw [ph_g_self] at hj
    cases hj
    exact h'.2.2 (i, v) List.mem_cons_self
  · rw [ph_g_ne _ _ e] at hj
    refine h'.2.2 (j, w) (List.mem_cons_of_mem _ (List.mem_filter.mpr ⟨ph_ll_mem.mpr ⟨h.bd hj, hj⟩, ?_⟩))
    have e1 : (j == i) = false := by simpa using fun q => e q.symm
    by_cases e2 : j + 1 = i
    · have := ph_ok_ne hk hj e2
      simp [e1, this]
    · simp [e1, e2]
theorem ph_st2' {ls ls' : Array Slot} {nL i : Nat} {lv : ph_V} {v : Value} (h : ph_has ls nL lv) (hk : ph_ok lv i = true) (h' : lv_has ls' nL ((i, v) :: (ph_ll nL lv).filter (fun q => !(q.1 == i) && (!(q.1 == i + 1) && !(q.1 + 1 == i && q.2.category == 2))))) : ph_has ls' nL ((i, some v) :: (i + 1, none) :: lv) := by
  refine ⟨h'.1, h'.2.1, fun j w hj => ?_⟩
  by_cases e : i = j
  · subst e
    rw [ph_g_self] at hj
    cases hj
    exact h'.2.2 (i, v) List.mem_cons_self
  · rw [ph_g_ne _ _ e] at hj
    by_cases e3 : i + 1 = j
    · subst e3
      rw [ph_g_self] at hj
      cases hj
    · rw [ph_g_ne _ _ e3] at hj
      refine h'.2.2 (j, w) (List.mem_cons_of_mem _ (List.mem_filter.mpr ⟨ph_ll_mem.mpr ⟨h.bd hj, hj⟩, ?_⟩))
      have e1 : (j == i) = false := by simpa using fun q => e q.symm
      have e4 : (j == i + 1) = false := by simpa using fun q => e3 q.symm
      by_cases e2 : j + 1 = i
      · have := ph_ok_ne hk hj e2
        simp [e1, e4, this]
      · simp [e1, e4, e2]
/-- a list of locals in its plain form -/
def ph_mk (l : List (Nat × Value)) : ph_V := l.map fun q => (q.1, some q.2)
def ph_all (lv : ph_V) : List (Nat × Value) → Prop
  | [] => True
  | q :: t => ph_g lv q.1 = some q.2 ∧ ph_all lv t
theorem ph_mk_g {l : List (Nat × Value)} {i : Nat} {v : Value} (h : ph_g (ph_mk l) i = some v) : (i, v) ∈ l := by
  induction l with
  | nil => cases h
  | cons q t ih =>
    by_cases e : q.1 = i
    · subst e
      have : ph_g ((q.1, some q.2) :: ph_mk t) q.1 = some v := h
      rw [ph_g_self] at this
      cases this
      exact List.mem_cons_self
    · have h2 : ph_g ((q.1, some q.2) :: ph_mk t) i = some v := h
      rw [ph_g_ne _ _ e] at h2
      exact List.mem_cons_of_mem _ (ih h2)
theorem ph_all_mem {lv : ph_V} {l : List (Nat × Value)} (h : ph_all lv l) : ∀ q ∈ l, ph_g lv q.1 = some q.2 := by
  induction l with
  | nil => intro q hq; cases hq
  | cons a t ih =>
    intro q hq
    rcases List.mem_cons.mp hq with rfl | h2
    · exact h.1
    · exact ih h.2 q h2
theorem ph_has.to {ls : Array Slot} {nL : Nat} {lv : ph_V} {l : List (Nat × Value)} (h : ph_has ls nL lv) (hl : ph_all lv l) : ph_has ls nL (ph_mk l) := ⟨h.1, h.2.1, fun i v hi => h.2.2 i v (ph_all_mem hl (i, v) (ph_mk_g hi))⟩
theorem ph_has.of {ls : Array Slot} {nL : Nat} {l : List (Nat × Value)} (h : lv_has ls nL l) : ph_has ls nL (ph_mk l) := ⟨h.1, h.2.1, fun i v hi => h.2.2 (i, v) (ph_mk_g hi)⟩
/-! ===== the heap of typed pools: cell (pool c, index i) at the address ad c i, of the kind kd c, with the numbers τ c i k ===== -/
abbrev ph_K : Type := (Nat × List Nat) ⊕ (Nat × Nat)
abbrev ph_T : Type := Nat → Nat → Nat → Int
def ph_r (z : Int) : Option Nat := if z < 0 then none else some z.toNat
def ph_e (t : Nat) (z : Int) : Value := match t with
  | 0 => .int (ph_i z)
  | 1 => .long (ph_l z)
  | _ => va_rf (ph_r z)
theorem ph_rn (a : Nat) : ph_r (a : Int) = some a := by
  unfold ph_r
  rw [if_neg (by omega)]
  simp
theorem ph_r1 : ph_r (-1) = none := rfl
def ph_fs (tags : List Nat) (f : Nat → Int) : List Value := tags.mapIdx fun k t => ph_e t (f k)
abbrev ph_S : Type := (Nat → Int32) ⊕ (Nat → Int64) ⊕ (Nat → UInt32) ⊕ (Nat → UInt64) ⊕ (Nat → Option Nat)
/-- 0 int, 1 boolean, 2 long, from 3 on references -/
def ph_ac (ty : Nat) (f : Nat → Int) : ph_S := match ty with
  | 0 => .inl fun j => ph_i (f j)
  | 1 => .inl fun j => ph_i (f j)
  | 2 => .inr (.inl fun j => ph_l (f j))
  | _ => .inr (.inr (.inr (.inr fun j => ph_r (f j))))
def ph_cell (dT : Nat → ClassId) (k : ph_K) (f : Nat → Int) : va_E := match k with
  | .inl q => .inr (q.1, ph_fs q.2 f)
  | .inr q => .inl (dT q.1, q.2, ph_ac q.1 f)
def ph_u1 (f : Nat → Int) (k : Nat) (z : Int) : Nat → Int := fun j => if j = k then z else f j
def ph_up (τ : ph_T) (c i k : Nat) (z : Int) : ph_T := fun c' i' k' => if c' = c ∧ i' = i ∧ k' = k then z else τ c' i' k'
theorem ph_up_self (τ : ph_T) (c i k : Nat) (z : Int) : ph_up τ c i k z c i = ph_u1 (τ c i) k z := by
  funext j
  simp [ph_up, ph_u1]
theorem ph_up_ne (τ : ph_T) {c i c' i' : Nat} (k : Nat) (z : Int) (h : ¬ (c' = c ∧ i' = i)) : ph_up τ c i k z c' i' = τ c' i' := by
  funext j
  unfold ph_up
  rw [if_neg (fun q => h ⟨q.1, q.2.1⟩)]
theorem ph_fs_get {tags : List Nat} {f : Nat → Int} {k t : Nat} (h : tags[k]? = some t) : (ph_fs tags f)[k]? = some (ph_e t (f k)) := by
  unfold ph_fs
  rw [List.getElem?_mapIdx, h]
  rfl
theorem ph_fs_len (tags : List Nat) (f : Nat → Int) : (ph_fs tags f).length = tags.length := by simp [ph_fs]
theorem ph_fs_set {tags : List Nat} {f : Nat → Int} {k t : Nat} (h : tags[k]? = some t) (z : Int) : (ph_fs tags f).set k (ph_e t z) = ph_fs tags (ph_u1 f k z) := by
  apply List.ext_getElem?
  intro j
  have hk : k < tags.length := (List.getElem?_eq_some_iff.mp h).1
  by_cases e : j = k
  · subst e
    rw [List.getElem?_set_self (by rw [ph_fs_len]; exact hk), ph_fs_get h]
    simp [ph_u1]
  · rw [List.getElem?_set_ne (fun q => e q.symm)]
    unfold ph_fs
    rw [List.getElem?_mapIdx, List.getElem?_mapIdx]
    simp [ph_u1, e]
def ph_U (D : va_G) (cl : List vw_C) (dT : Nat → ClassId) (kd : Nat → ph_K) (A : Nat → Prop) (L : Nat → Nat → Prop) (ad : Nat → Nat → Nat) (τ : ph_T) (H : Heap) : Prop :=
  (∀ c i : Nat, L c i → A (ad c i) ∧ va_at D cl (ad c i, ph_cell dT (kd c) (τ c i)) H) ∧ ∀ c i c' i' : Nat, L c i → L c' i' → ad c i = ad c' i' → c = c' ∧ i = i'
section PHU
variable {D : va_G} {cl : List vw_C} {dT : Nat → ClassId} {kd : Nat → ph_K} {A : Nat → Prop} {L : Nat → Nat → Prop} {ad : Nat → Nat → Nat} {τ : ph_T} {H H1 : Heap}
theorem ph_U.put (h : ph_U D cl dT kd A L ad τ H) {c i k : Nat} {z : Int} (hL : L c i) (he : va_at D cl (ad c i, ph_cell dT (kd c) (ph_u1 (τ c i) k z)) H1) (oq : ∀ q : Nat, q ≠ ad c i → H1[q]? = H[q]?) : ph_U D cl dT kd A L ad (ph_up τ c i k z) H1 := by
  refine ⟨fun c' i' h' => ⟨(h.1 c' i' h').1, ?_⟩, h.2⟩
  by_cases e : c' = c ∧ i' = i
  · obtain ⟨rfl, rfl⟩ := e
    rw [ph_up_self]
    exact he
  · rw [ph_up_ne τ k z e]
    exact (h.1 c' i' h').2.kept (oq _ (fun q => e (h.2 c' i' c i h' hL q)))
theorem ph_U.lt (h : ph_U D cl dT kd A L ad τ H) {c i : Nat} (hL : L c i) : ad c i < H.size := ((h.1 c i hL).2).lt
def ph_Ln (L : Nat → Nat → Prop) (c i : Nat) : Nat → Nat → Prop := fun c' i' => L c' i' ∨ (c' = c ∧ i' = i)
def ph_an (ad : Nat → Nat → Nat) (c i a : Nat) : Nat → Nat → Nat := fun c' i' => if c' = c ∧ i' = i then a else ad c' i'
def ph_tn (τ : ph_T) (c i : Nat) (f : Nat → Int) : ph_T := fun c' i' => if c' = c ∧ i' = i then f else τ c' i'
theorem ph_U.new (h : ph_U D cl dT kd A L ad τ H) {c i a : Nat} {f : Nat → Int} (hL : ¬ L c i) (hA : A a) (ha : H.size = a) (he : va_at D cl (a, ph_cell dT (kd c) f) H1) (oq : ∀ q : Nat, q < a → H1[q]? = H[q]?) : ph_U D cl dT kd A (ph_Ln L c i) (ph_an ad c i a) (ph_tn τ c i f) H1 := by
  have hne : ∀ c' i', L c' i' → ¬ (c' = c ∧ i' = i) := fun c' i' h1 e => hL (by obtain ⟨rfl, rfl⟩ := e; exact h1)
  refine ⟨fun c' i' h' => ?_, fun c1 i1 c2 i2 h1 h2 e => ?_⟩
  · by_cases e : c' = c ∧ i' = i
    · obtain ⟨rfl, rfl⟩ := e
      simp only [ph_an, ph_tn, and_self, if_true]
      exact ⟨hA, he⟩
    · have h1 : L c' i' := h'.resolve_right e
      simp only [ph_an, ph_tn, if_neg e]
      exact ⟨(h.1 c' i' h1).1, (h.1 c' i' h1).2.kept (oq _ (by rw [← ha]; exact h.lt h1))⟩
  · by_cases e1 : c1 = c ∧ i1 = i
    · by_cases e2 : c2 = c ∧ i2 = i
      · exact ⟨e1.1.trans e2.1.symm, e1.2.trans e2.2.symm⟩
      · have h3 : L c2 i2 := h2.resolve_right e2
        simp only [ph_an, if_pos e1, if_neg e2] at e
        have := h.lt h3
        omega
    · have h3 : L c1 i1 := h1.resolve_right e1
      by_cases e2 : c2 = c ∧ i2 = i
      · simp only [ph_an, if_pos e2, if_neg e1] at e
        have := h.lt h3
        omega
      · simp only [ph_an, if_neg e2, if_neg e1] at e
        exact h.2 c1 i1 c2 i2 h3 (h2.resolve_right e2) e
end PHU
