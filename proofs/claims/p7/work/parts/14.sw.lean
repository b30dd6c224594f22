/-! ===== switches; ranks ===== -/
section PHSW
variable {p : Program} {l : Launch} {e : Env} {R : Room} {s : State} {m : MethodId} {args : Array Value} {below : List Frame} {meth : Method} {c : Code}
variable {D : va_G} {cl : List vw_C} {tys : List (ClassId × FieldType)} {dT : Nat → ClassId} {kd : Nat → ph_K} {A : Nat → Prop} {KX : State → Prop} {nL : Nat} {Q : State → Prop} {cc : ByteArray} {own : String} {Ts : List Cond}
variable {L : Nat → Nat → Prop} {ad : Nat → Nat → Nat} {τ : ph_T} {cells slots pc : Nat} {lv : ph_V} {st : List Value}
theorem ph_swI (C : ph_C p s m args c cc nL own Ts D cl tys A KX) {dflt lo hi off z : Int} {offs : Array Int} {len tgt : Nat} (hd : decode cc pc = .ok (.tableswitch dflt lo hi offs, len)) (hz : ph_ri z) (h1 : ¬ z < lo) (h2 : ¬ hi < z) (ho : offs[(z - lo).toNat]? = some off) (ht : (pc : Int) + off = (tgt : Int))
    (k : ph_W p l e R s m args below meth c D cl dT kd A nL Q L ad τ cells slots tgt lv st) : ph_W p l e R s m args below meth c D cl dT kd A nL Q L ad τ cells slots pc lv (.int (ph_i z) :: st) := fun H locs ls hU hS hl =>
  lv_tableIn C.hx C.hb hd (by rw [ph_iT hz]; exact h1) (by rw [ph_iT hz]; exact h2) (by rw [ph_iT hz]; exact ho) ht (k H locs ls hU hS hl)
theorem ph_swO (C : ph_C p s m args c cc nL own Ts D cl tys A KX) {dflt lo hi z : Int} {offs : Array Int} {len tgt : Nat} (hd : decode cc pc = .ok (.tableswitch dflt lo hi offs, len)) (hz : ph_ri z) (h : z < lo ∨ hi < z) (ht : (pc : Int) + dflt = (tgt : Int))
    (k : ph_W p l e R s m args below meth c D cl dT kd A nL Q L ad τ cells slots tgt lv st) : ph_W p l e R s m args below meth c D cl dT kd A nL Q L ad τ cells slots pc lv (.int (ph_i z) :: st) := fun H locs ls hU hS hl =>
  lv_tableOut C.hx C.hb hd (by rw [ph_iT hz]; exact h) ht (k H locs ls hU hS hl)
theorem ph_ti {x y : Int} (h : x = y) (k : ph_W p l e R s m args below meth c D cl dT kd A nL Q L ad τ cells slots pc lv (.int (ph_i y) :: st)) : ph_W p l e R s m args below meth c D cl dT kd A nL Q L ad τ cells slots pc lv (.int (ph_i x) :: st) := by
  subst h
  exact k
theorem ph_ti2 {x y : Int} {v : Value} (h : x = y) (k : ph_W p l e R s m args below meth c D cl dT kd A nL Q L ad τ cells slots pc lv (v :: .int (ph_i y) :: st)) : ph_W p l e R s m args below meth c D cl dT kd A nL Q L ad τ cells slots pc lv (v :: .int (ph_i x) :: st) := by
  subst h
  exact k
end PHSW
def rnk (S : ph_T) (f : Nat) : Int := rankv (S 3 f 3) (S 3 f 0)
theorem rankv_r (t k : Int) : 0 ≤ rankv t k ∧ rankv t k ≤ 9 := by
  unfold rankv
  split
  · unfold rkT
    split <;> omega
  · omega
/-- a round over the faults that are not cleared, at one rank: the one that is found (0: none), how many are left to pass -/
def fiF (S : ph_T) (r : Int) : Nat → Nat → Int → Int × Int
  | 0, _, t => (0, t)
  | n + 1, f, t => if rnk S f = r then (if t = 0 then ((f : Int), t) else fiF S r n (f + 1) (t + -1)) else fiF S r n (f + 1) t
theorem fiF_n {S : ph_T} {r : Int} {n f : Nat} {t : Int} (h : ¬ rnk S f = r) : fiF S r (n + 1) f t = fiF S r n (f + 1) t := if_neg h
theorem fiF_p {S : ph_T} {r : Int} {n f : Nat} {t : Int} (h : rnk S f = r) (ht : ¬ t = 0) : fiF S r (n + 1) f t = fiF S r n (f + 1) (t + -1) := (if_pos h).trans (if_neg ht)
theorem fiF_0 {S : ph_T} {r : Int} {n f : Nat} {t : Int} (h : rnk S f = r) (ht : t = 0) : fiF S r (n + 1) f t = ((f : Int), t) := (if_pos h).trans (if_pos ht)
def foF (S : ph_T) : Nat → Int → Int
  | 0, _ => 0
  | r + 1, t => if (fiF S ((r + 1 : Nat) : Int) (S 0 0 5 - S 0 0 6).toNat ((S 0 0 6).toNat + 1) t).1 = 0 then foF S r (fiF S ((r + 1 : Nat) : Int) (S 0 0 5 - S 0 0 6).toNat ((S 0 0 6).toNat + 1) t).2 else (fiF S ((r + 1 : Nat) : Int) (S 0 0 5 - S 0 0 6).toNat ((S 0 0 6).toNat + 1) t).1
theorem foF_s {S : ph_T} {r : Nat} {t : Int} : foF S (r + 1) t = if (fiF S ((r + 1 : Nat) : Int) (S 0 0 5 - S 0 0 6).toNat ((S 0 0 6).toNat + 1) t).1 = 0 then foF S r (fiF S ((r + 1 : Nat) : Int) (S 0 0 5 - S 0 0 6).toNat ((S 0 0 6).toNat + 1) t).2 else (fiF S ((r + 1 : Nat) : Int) (S 0 0 5 - S 0 0 6).toNat ((S 0 0 6).toNat + 1) t).1 := rfl
def fbr (S : ph_T) (x : Int) : Int := if x < 0 then 0 else foF S 9 x
theorem fiF_le {S : ph_T} {r : Int} : ∀ (n f : Nat) (t : Int), 0 ≤ t → 0 ≤ (fiF S r n f t).2 ∧ (fiF S r n f t).2 ≤ t ∧ ((fiF S r n f t).1 = 0 ∨ ((f : Int) ≤ (fiF S r n f t).1 ∧ (fiF S r n f t).1 < (f : Int) + n))
  | 0, f, t, h => ⟨h, Int.le_refl t, Or.inl rfl⟩
  | n + 1, f, t, h => by
    by_cases h1 : rnk S f = r
    · by_cases h2 : t = 0
      · rw [fiF_0 h1 h2]
        exact ⟨h, Int.le_refl t, Or.inr ⟨Int.le_refl _, by show (f : Int) < f + ((n + 1 : Nat) : Int); omega⟩⟩
      · rw [fiF_p h1 h2]
        have := fiF_le (r := r) (S := S) n (f + 1) (t + -1) (by omega)
        omega
    · rw [fiF_n h1]
      have := fiF_le (r := r) (S := S) n (f + 1) t h
      omega
theorem foF_le {S : ph_T} (hc : 0 ≤ S 0 0 6 ∧ S 0 0 6 ≤ S 0 0 5) : ∀ (r : Nat) (t : Int), 0 ≤ t → foF S r t = 0 ∨ (S 0 0 6 < foF S r t ∧ foF S r t ≤ S 0 0 5)
  | 0, _, _ => Or.inl rfl
  | r + 1, t, h => by
    have h1 := fiF_le (S := S) (r := ((r + 1 : Nat) : Int)) (S 0 0 5 - S 0 0 6).toNat ((S 0 0 6).toNat + 1) t h
    rw [foF_s]
    split
    · exact foF_le hc r _ h1.1
    · omega
theorem fbr_le {S : ph_T} (hV : IV S) (x : Int) : fbr S x = 0 ∨ (S 0 0 6 < fbr S x ∧ fbr S x ≤ S 0 0 5) := by
  unfold fbr
  split
  · exact Or.inl rfl
  · exact foF_le ⟨hV.c.2.2.2.2.2.2.1, hV.c.2.2.2.2.2.2.2.1⟩ 9 x (by omega)
def alarmv (S : ph_T) (x y : Int) : Int := if y < 0 ∨ 4 < y then -12 else if fbr S x = 0 then -1 else if y = 0 then fbr S x else if y = 1 then rnk S (fbr S x).toNat else if y = 2 then S 3 (fbr S x).toNat 0 else if y = 3 then S 3 (fbr S x).toNat 1 else S 3 (fbr S x).toNat 2
