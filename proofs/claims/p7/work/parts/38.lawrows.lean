/-! ===== rows of the law: its script, its words of two ints, its truth values ===== -/
section LWR
variable {p : Program} {l : Launch} {e : Env} {R : Room} {s : State} {m : MethodId} {args : Array Value} {below : List Frame} {meth : Method} {c : Code}
variable {D : va_G} {cl : List vw_C} {tys : List (ClassId × FieldType)} {dT : Nat → ClassId} {kd : Nat → ph_K} {A : Nat → Prop} {KX : State → Prop} {nL : Nat} {Q : State → Prop} {cc : ByteArray} {own : String} {Ts : List Cond}
variable {L : Nat → Nat → Prop} {ad : Nat → Nat → Nat} {τ : ph_T} {cells slots pc : Nat} {lv : ph_V} {st : List Value}
theorem ph_sln (C : ph_C p s m args c cc nL own Ts D cl tys A KX) {b N : Nat} {xs : Nat → Int32} (hd : decode cc pc = .ok (.arraylength, 1)) (hX : va_X b N xs s s.heap) (hbl : b < s.heap.size) (hbA : ¬ A b)
    (kk : ph_W p l e R s m args below meth c D cl dT kd A nL Q L ad τ cells slots (pc + 1) lv (.int (ph_i (N : Int)) :: st)) : ph_W p l e R s m args below meth c D cl dT kd A nL Q L ad τ cells slots pc lv (.ref b :: st) := fun H locs ls hU hS hl =>
  va_slen C.hx C.hb hX hbl hbA hS hd (by rw [show Int32.ofNat N = ph_i (N : Int) from (Int32.ofInt_eq_ofNat).symm]; exact kk H locs ls hU hS hl)
theorem ph_sel (C : ph_C p s m args c cc nL own Ts D cl tys A KX) {b N : Nat} {x : Int} {xs : Nat → Int32} (hd : decode cc pc = .ok (.iaload, 1)) (hX : va_X b N xs s s.heap) (hbl : b < s.heap.size) (hbA : ¬ A b) (j : Nat) (hj : x = (j : Int)) (hx : j < N) (hN : N < 2147483648)
    (kk : ph_W p l e R s m args below meth c D cl dT kd A nL Q L ad τ cells slots (pc + 1) lv (.int (ph_i (xs j).toInt) :: st)) : ph_W p l e R s m args below meth c D cl dT kd A nL Q L ad τ cells slots pc lv (.int (ph_i x) :: .ref b :: st) := fun H locs ls hU hS hl =>
  va_sld C.hx C.hb hX hbl hbA hS (ph_jin hj hx hN) hd (by
    rw [ph_jcl hj (by omega), show xs j = ph_i (xs j).toInt from (Int32.ofInt_toInt _).symm]
    exact kk H locs ls hU hS hl)
theorem ph_nez (C : ph_C p s m args c cc nL own Ts D cl tys A KX) {z : Int} (hd0 : decode cc pc = .ok (.ifCond .eq 7, 3)) (hd1 : decode cc (pc + 3) = .ok (.iconst 1, 1)) (hd2 : decode cc (pc + 4) = .ok (.goto 4, 3)) (hd3 : decode cc (pc + 7) = .ok (.iconst 0, 1)) (hz : ph_ri z)
    (kk : ph_W p l e R s m args below meth c D cl dT kd A nL Q L ad τ cells slots (pc + 8) lv (.int (ph_i (ph_b (¬ z = 0))) :: st)) : ph_W p l e R s m args below meth c D cl dT kd A nL Q L ad τ cells slots pc lv (.int (ph_i z) :: st) := by
  refine ph_if_eq (tgt := pc + 7) C hd0 (by omega) hz (fun h => ?_) (fun h => ?_)
  · refine ph_iconst (pc := pc + 7) C hd3 ?_
    rw [ph_b0 (fun q => q h)] at kk
    exact kk
  · refine ph_iconst (pc := pc + 3) C hd1 ?_
    refine ph_goto (pc := pc + 4) (tgt := pc + 8) C hd2 (by omega) ?_
    rw [ph_b1 h] at kk
    exact kk
/-- two answers that are the same -/
theorem ph_ceq (C : ph_C p s m args c cc nL own Ts D cl tys A KX) {x y off : Int} {tgt : Nat} (hd : decode cc pc = .ok (.if_icmp .eq off, 3)) (ht : (pc : Int) + off = (tgt : Int)) (h : x = y)
    (kt : ph_W p l e R s m args below meth c D cl dT kd A nL Q L ad τ cells slots tgt lv st) : ph_W p l e R s m args below meth c D cl dT kd A nL Q L ad τ cells slots pc lv (.int (ph_i y) :: .int (ph_i x) :: st) := fun H locs ls hU hS hl =>
  lv_icmp_eq C.hx C.hb hd ht (fun _ => kt H locs ls hU hS hl) (fun q => absurd (congrArg ph_i h) q)
end LWR
theorem lw_ri (x : Int32) : ph_ri x.toInt := ⟨by have := x.le_toInt; omega, by have := x.toInt_lt; omega⟩
theorem lw_rl (x : Int64) : ph_rl x.toInt := ⟨by have := x.le_toInt; omega, by have := x.toInt_lt; omega⟩
theorem lw_lo (x : Int64) : x = ph_l x.toInt := (Int64.ofInt_toInt x).symm
theorem lw_io (x : Int32) : x = ph_i x.toInt := (Int32.ofInt_toInt x).symm
def lw_s (a : Int) : Int := (ph_l a <<< ((ph_i 32).toInt64 &&& 63)).toInt
def lw_n (b : Int) : Int := (ph_l b &&& ph_l 4294967295).toInt
/-- a long out of two ints -/
def lw_j (a b : Int) : Int := (ph_l (lw_s a) ||| ph_l (lw_n b)).toInt
def lw_k (a : Int) : Int := (ph_i a &&& ph_i 15).toInt
theorem lw_jr (a b : Int) : ph_rl (lw_j a b) := lw_rl _
theorem lw_kr (a : Int) : 0 ≤ lw_k a ∧ lw_k a ≤ 15 := by
  unfold lw_k
  have h : (ph_i a &&& ph_i 15).toBitVec.toNat ≤ 15 := by
    rw [Int32.toBitVec_and, BitVec.toNat_and]
    exact Nat.and_le_right
  have e : (ph_i a &&& ph_i 15).toInt = ((ph_i a &&& ph_i 15).toBitVec.toNat : Int) := by
    show (ph_i a &&& ph_i 15).toBitVec.toInt = _
    exact BitVec.toInt_eq_toNat_of_lt (by omega)
  omega
/-! ===== what rule, feed and step leave of the counts ===== -/
theorem JF_eq {S S1 : ph_T} {L : Nat → Nat → Prop} (h : JF S L) (e : ∀ k, (k = 1 ∨ k = 3 ∨ k = 5) → S1 0 0 k = S 0 0 k) : JF S1 L := fun g i hg hl => (LC_eq (e 1 (by omega)) (e 3 (by omega)) (e 5 (by omega)) g i).mpr (h g i hg hl)
theorem ruleS_0 {S : ph_T} {x y t : Int} {k : Nat} : ruleS S x y t 0 0 k = S 0 0 k := by
  rcases Classical.em (ruleOk x y) with q | q
  · rw [ruleS_t q, up_ne _ (by decide), up_ne _ (by decide)]
  · rw [ruleS_f q]
theorem feedS_0 {S : ph_T} {x : Int} {k : Nat} (hk : k ≠ 10) : feedS S x 0 0 k = S 0 0 k := by
  unfold feedS
  split
  · unfold dropS
    rw [tlF_0 (by decide) (fun _ => hk), up_ne _ (by decide)]
  · rfl
theorem clearS_0 {S : ph_T} {f k : Nat} (hk : k ≠ 10) (h6 : k ≠ 6) : clearS S f 0 0 k = S 0 0 k := by
  have e : clrB S f 0 0 k = S 0 0 k := by
    unfold clrB
    rw [clF_0 _ _ _ _ hk, clrA_0 h6]
  unfold clearS
  split
  · exact e
  · unfold listS
    rw [loF_0 _ _ _ _ hk]
    exact e
theorem stA_0 {S : ph_T} {f k : Nat} {y : Int} : stA S f y 0 0 k = S 0 0 k := by
  unfold stA
  split
  · rw [resetS_g (by decide), up_ne _ (by decide)]
  · rw [up_ne _ (by decide)]
theorem stepS_0 {S : ph_T} {x y : Int} {k : Nat} (hk : k ≠ 10) (h6 : k ≠ 6) : stepS S x y 0 0 k = S 0 0 k := by
  rcases Classical.em (stOk S x y) with q | q
  · rw [stepS_t q]
    unfold stB
    split
    · rw [clearS_0 hk h6, stA_0]
    · exact stA_0
  · rw [stepS_f q]
def rmOk (r : Room) : Prop := r.frames ≤ 8 ∧ r.cells ≤ 8 ∧ r.slots ≤ 600 ∧ r.locals ≤ 290
