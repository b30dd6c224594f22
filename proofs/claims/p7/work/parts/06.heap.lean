section PHH
variable {p : Program} {l : Launch} {e : Env} {R : Room} {s : State} {m : MethodId} {args : Array Value} {below : List Frame} {meth : Method} {c : Code}
variable {D : va_G} {cl : List vw_C} {tys : List (ClassId × FieldType)} {dT : Nat → ClassId} {kd : Nat → ph_K} {A : Nat → Prop} {KX : State → Prop} {nL : Nat} {Q : State → Prop} {cc : ByteArray} {own : String} {Ts : List Cond}
variable {L : Nat → Nat → Prop} {ad : Nat → Nat → Nat} {τ : ph_T} {cells slots pc : Nat} {lv : ph_V} {st : List Value}
theorem ph_U.cell {H : Heap} (h : ph_U D cl dT kd A L ad τ H) {g i a : Nat} (hL : L g i) (ha : ad g i = a) : va_at D cl (a, ph_cell dT (kd g) (τ g i)) H := by
  subst ha
  exact (h.1 g i hL).2
theorem ph_U.ob {H : Heap} (h : ph_U D cl dT kd A L ad τ H) {g i a ci : Nat} {tags : List Nat} (hL : L g i) (ha : ad g i = a) (hk : kd g = .inl (ci, tags)) : va_P D cl [(a, .inr (ci, ph_fs tags (τ g i)))] H := by
  intro k q hq
  have hz : k < 1 := (List.getElem?_eq_some_iff.mp hq).1
  rw [show k = 0 by omega] at hq
  cases hq
  have h1 := h.cell hL ha
  rw [hk] at h1
  exact h1
theorem ph_U.ar {H : Heap} (h : ph_U D cl dT kd A L ad τ H) {g i a ty N : Nat} (hL : L g i) (ha : ad g i = a) (hk : kd g = .inr (ty, N)) : va_P D cl [(a, .inl (dT ty, N, ph_ac ty (τ g i)))] H := by
  intro k q hq
  have hz : k < 1 := (List.getElem?_eq_some_iff.mp hq).1
  rw [show k = 0 by omega] at hq
  cases hq
  have h1 := h.cell hL ha
  rw [hk] at h1
  exact h1
/-- getfield -/
theorem ph_get (C : ph_C p s m args c cc nL own Ts D cl tys A KX) {g i a ci index N k t : Nat} {tags : List Nat} {Cn ref : String} {T : u_T} {v : Value} (hd : decode cc pc = .ok (.getfield index, 3)) (hL : L g i) (ha : ad g i = a) (hk : kd g = .inl (ci, tags)) (hc : cl[ci]? = some (Cn, T, N)) (hin : ∀ w ∈ u_ws Cn T N, w ∈ Ts) (hkN : k < N) (ht : tags[k]? = some t) (href : (T k).1 = ref) (hlink : Cond.fieldLink own index ref (T k).2.1 (T k).2.2.1 ∈ Ts) (hv : ph_e t (τ g i k) = v)
    (kk : ph_W p l e R s m args below meth c D cl dT kd A nL Q L ad τ cells slots (pc + 3) lv (v :: st)) : ph_W p l e R s m args below meth c D cl dT kd A nL Q L ad τ cells slots pc lv (.ref a :: st) := fun H locs ls hU hS hl => by
  subst hv
  exact va_get (ref := ref) C.hx C.hb C.hts hin C.hown C.hK (hU.ob hL ha hk) 0 rfl hc k hkN (C.hts _ hlink) (fun x h => by rw [← href]; exact h) (ph_fs_get ht) hd (kk H locs ls hU hS hl)
theorem ph_getN (C : ph_C p s m args c cc nL own Ts D cl tys A KX) {g i a ci index N k t : Nat} {tags : List Nat} {Cn ref host : String} {T : u_T} {v : Value} (hd : decode cc pc = .ok (.getfield index, 3)) (hL : L g i) (ha : ad g i = a) (hk : kd g = .inl (ci, tags)) (hc : cl[ci]? = some (Cn, T, N)) (hin : ∀ w ∈ u_ws Cn T N, w ∈ Ts) (hkN : k < N) (ht : tags[k]? = some t) (href : (T k).1 = ref) (hlink : (Cond.fieldLinkNest own index ref (T k).2.1 (T k).2.2.1 host).before args s = true) (hv : ph_e t (τ g i k) = v)
    (kk : ph_W p l e R s m args below meth c D cl dT kd A nL Q L ad τ cells slots (pc + 3) lv (v :: st)) : ph_W p l e R s m args below meth c D cl dT kd A nL Q L ad τ cells slots pc lv (.ref a :: st) := fun H locs ls hU hS hl => by
  subst hv
  exact va_getN (ref := ref) C.hx C.hb C.hts hin C.hown C.hK (hU.ob hL ha hk) 0 rfl hc k hkN hlink (fun x h => by rw [← href]; exact h) (ph_fs_get ht) hd (kk H locs ls hU hS hl)
/-- putfield -/
theorem ph_put (C : ph_C p s m args c cc nL own Ts D cl tys A KX) {g i a ci index N k t : Nat} {tags : List Nat} {Cn ref : String} {T : u_T} {ty0 : Nat → FieldType} {ty : FieldType} {v : Value} (hd : decode cc pc = .ok (.putfield index, 3)) (z : Int) (hL : L g i) (ha : ad g i = a) (hk : kd g = .inl (ci, tags)) (hc : cl[ci]? = some (Cn, T, N)) (hin : ∀ w ∈ u_ws Cn T N, w ∈ Ts) (hty : ∀ k, k < N → parseFieldDescriptor (T k).2.2.1 = some (ty0 k)) (hnm : ∀ a, a < N → ∀ b, b < N → a ≠ b → (T a).2.1 ≠ (T b).2.1) (hkN : k < N) (ht : tags[k]? = some t) (href : (T k).1 = ref) (hlink : Cond.fieldLink own index ref (T k).2.1 (T k).2.2.1 ∈ Ts) (hfin : (T k).2.2.2 = false) (hd0 : parseFieldDescriptor (T k).2.2.1 = some ty) (hv : ph_e t z = v) (hn : narrow ty v = v) (hfit : fits ty v = true)
    (kk : ph_W p l e R s m args below meth c D cl dT kd A nL Q L ad (ph_up τ g i k z) cells slots (pc + 3) lv st) : ph_W p l e R s m args below meth c D cl dT kd A nL Q L ad τ cells slots pc lv (v :: .ref a :: st) := fun H locs ls hU hS hl => by
  subst hv
  subst ha
  have hap := va_apart (own := own) C.hts hin ty0 hty hnm C.hK hc
  obtain ⟨r, h1, cell, q1, q2, q3, q4⟩ := (hU.ob hL rfl hk) 0 _ rfl
  have hr : r = (Cn, T, N) := Option.some.inj (h1.symm.trans hc)
  subst hr
  obtain ⟨hSl, hfc, kC, hkC, hkind⟩ := C.hK.1 ci _ hc
  obtain ⟨cf, kf, fi, f, hi, hsl⟩ := hSl k hkN
  have hlay := C.hts _ (hin _ (u_in_lay hkN))
  unfold u_lay at hlay
  rw [if_neg (by rw [hfin]; decide)] at hlay
  have hst := (u_facts hfc hkC (u_lays C.hts hin hkN) hi).1
  have h6 := u_store hfc hkC hkind hlay hi hd0 hn hfit
  refine W.putK C.hx C.hb (f := f) ⟨C.hown, C.hts _ hlink, ⟨_, _, _, (by rw [← href]; exact hi)⟩, hst⟩ (by rw [q2]; exact h6) q1 q3 (by rw [hsl]; exact k2_hasslot (q4 k hkN)) rfl rfl hd fun H' e1 e2 e3 => ?_
  rw [hsl] at e1 ⊢
  have hlen : k < (ph_fs tags (τ g i)).length := by
    rw [ph_fs_len]
    exact (List.getElem?_eq_some_iff.mp ht).1
  refine kk H' _ ls (hU.put hL ?_ e3) (hS.put e2 e3 (hU.1 g i hL).1) hl
  rw [hk]
  show va_at D cl (ad g i, .inr (ci, ph_fs tags (ph_u1 (τ g i) k z))) H'
  rw [← ph_fs_set ht z]
  exact ⟨_, hc, t_OB.to (V := updV (vp_V (ph_fs tags (τ g i))) k (ph_e t z)) ⟨_, e1, q2, q3, t_set q4 hap hkN (ph_e t z)⟩ (fun j _ => vp_updV_set hlen (ph_e t z) j)⟩
theorem ph_putF (C : ph_C p s m args c cc nL own Ts D cl tys A KX) {g i a ci index N k t : Nat} {tags : List Nat} {Cn ref : String} {T : u_T} {ty0 : Nat → FieldType} {ty : FieldType} {v : Value} (hd : decode cc pc = .ok (.putfield index, 3)) (z : Int) (hL : L g i) (ha : ad g i = a) (hk : kd g = .inl (ci, tags)) (hc : cl[ci]? = some (Cn, T, N)) (hin : ∀ w ∈ u_ws Cn T N, w ∈ Ts) (hty : ∀ k, k < N → parseFieldDescriptor (T k).2.2.1 = some (ty0 k)) (hnm : ∀ a, a < N → ∀ b, b < N → a ≠ b → (T a).2.1 ≠ (T b).2.1) (hkN : k < N) (ht : tags[k]? = some t) (href : (T k).1 = ref) (hlink : Cond.fieldLink own index ref (T k).2.1 (T k).2.2.1 ∈ Ts) (hfin : (T k).2.2.2 = true) (hin2 : meth.name = "<init>") (hdecl : (T k).1 = own) (hd0 : parseFieldDescriptor (T k).2.2.1 = some ty) (hv : ph_e t z = v) (hn : narrow ty v = v) (hfit : fits ty v = true)
    (kk : ph_W p l e R s m args below meth c D cl dT kd A nL Q L ad (ph_up τ g i k z) cells slots (pc + 3) lv st) : ph_W p l e R s m args below meth c D cl dT kd A nL Q L ad τ cells slots pc lv (v :: .ref a :: st) := fun H locs ls hU hS hl => by
  subst hv
  subst ha
  have hap := va_apart (own := own) C.hts hin ty0 hty hnm C.hK hc
  obtain ⟨r, h1, cell, q1, q2, q3, q4⟩ := (hU.ob hL rfl hk) 0 _ rfl
  have hr : r = (Cn, T, N) := Option.some.inj (h1.symm.trans hc)
  subst hr
  obtain ⟨hSl, hfc, kC, hkC, hkind⟩ := C.hK.1 ci _ hc
  obtain ⟨cf, kf, fi, f, hi, hsl⟩ := hSl k hkN
  have hlay := C.hts _ (hin _ (u_in_lay hkN))
  unfold u_lay at hlay
  rw [if_pos hfin] at hlay
  have hst := (u_facts hfc hkC (u_lays C.hts hin hkN) hi).1
  have hcf : m.cls = cf := by
    obtain ⟨_, _, c', _, _, _, -, -, hf', -, -, -, hown2, -⟩ := Cond.laysFinal_spec hlay
    have e1 : c' = cf := by have := hi.symm.trans hf'; simp at this; exact this.1.symm
    rw [hdecl] at hown2
    rw [← e1]
    exact Option.some.inj (C.hown.symm.trans hown2)
  have h6 := u_fits hfc hkC hkind (Or.inr hlay) hi hd0 hn hfit
  refine W.putFinK C.hx C.hb C.hown (C.hts _ hlink) (by rw [← href]; exact hi) hst hcf hin2 (by rw [q2]; exact h6) q1 q3 (by rw [hsl]; exact k2_hasslot (q4 k hkN)) rfl rfl hd fun H' e1 e2 e3 => ?_
  rw [hsl] at e1 ⊢
  have hlen : k < (ph_fs tags (τ g i)).length := by
    rw [ph_fs_len]
    exact (List.getElem?_eq_some_iff.mp ht).1
  refine kk H' _ ls (hU.put hL ?_ e3) (hS.put e2 e3 (hU.1 g i hL).1) hl
  rw [hk]
  show va_at D cl (ad g i, .inr (ci, ph_fs tags (ph_u1 (τ g i) k z))) H'
  rw [← ph_fs_set ht z]
  exact ⟨_, hc, t_OB.to (V := updV (vp_V (ph_fs tags (τ g i))) k (ph_e t z)) ⟨_, e1, q2, q3, t_set q4 hap hkN (ph_e t z)⟩ (fun j _ => vp_updV_set hlen (ph_e t z) j)⟩
/-- loads from arrays -/
theorem ph_iald (C : ph_C p s m args c cc nL own Ts D cl tys A KX) {g i a N : Nat} {x : Int} (hd : decode cc pc = .ok (.iaload, 1)) (hL : L g i) (ha : ad g i = a) (hk : kd g = .inr (0, N)) (hty : tys[0]? = some (dT 0, .int)) (j : Nat) (hj : x = (j : Int)) (hx : j < N) (hN : N < 2147483648)
    (kk : ph_W p l e R s m args below meth c D cl dT kd A nL Q L ad τ cells slots (pc + 1) lv (.int (ph_i (τ g i j)) :: st)) : ph_W p l e R s m args below meth c D cl dT kd A nL Q L ad τ cells slots pc lv (.int (ph_i x) :: .ref a :: st) := fun H locs ls hU hS hl =>
  va_iald C.hx C.hb C.hK (hU.ar hL ha hk) 0 0 rfl hty (ph_jin hj hx hN) hd (by rw [ph_jcl hj (by omega)]; exact kk H locs ls hU hS hl)
theorem ph_zald (C : ph_C p s m args c cc nL own Ts D cl tys A KX) {g i a N : Nat} {x : Int} (hd : decode cc pc = .ok (.baload, 1)) (hL : L g i) (ha : ad g i = a) (hk : kd g = .inr (1, N)) (hty : tys[1]? = some (dT 1, .boolean)) (j : Nat) (hj : x = (j : Int)) (hx : j < N) (hN : N < 2147483648)
    (kk : ph_W p l e R s m args below meth c D cl dT kd A nL Q L ad τ cells slots (pc + 1) lv (.int (ph_i (τ g i j)) :: st)) : ph_W p l e R s m args below meth c D cl dT kd A nL Q L ad τ cells slots pc lv (.int (ph_i x) :: .ref a :: st) := fun H locs ls hU hS hl =>
  va_zald C.hx C.hb C.hK (hU.ar hL ha hk) 0 1 rfl hty (ph_jin hj hx hN) hd (by rw [ph_jcl hj (by omega)]; exact kk H locs ls hU hS hl)
theorem ph_lald (C : ph_C p s m args c cc nL own Ts D cl tys A KX) {g i a N : Nat} {x : Int} (hd : decode cc pc = .ok (.laload, 1)) (hL : L g i) (ha : ad g i = a) (hk : kd g = .inr (2, N)) (hty : tys[2]? = some (dT 2, .long)) (j : Nat) (hj : x = (j : Int)) (hx : j < N) (hN : N < 2147483648)
    (kk : ph_W p l e R s m args below meth c D cl dT kd A nL Q L ad τ cells slots (pc + 1) lv (.long (ph_l (τ g i j)) :: st)) : ph_W p l e R s m args below meth c D cl dT kd A nL Q L ad τ cells slots pc lv (.int (ph_i x) :: .ref a :: st) := fun H locs ls hU hS hl =>
  va_lald C.hx C.hb C.hK (hU.ar hL ha hk) 0 2 rfl hty (ph_jin hj hx hN) hd (by rw [ph_jcl hj (by omega)]; exact kk H locs ls hU hS hl)
theorem ph_aald (C : ph_C p s m args c cc nL own Ts D cl tys A KX) {g i a N t : Nat} {x : Int} {Cn : String} {v : Value} (hd : decode cc pc = .ok (.aaload, 1)) (hL : L g i) (ha : ad g i = a) (hk : kd g = .inr (t + 3, N)) (hty : tys[t + 3]? = some (dT (t + 3), .object Cn)) (j : Nat) (hj : x = (j : Int)) (hx : j < N) (hN : N < 2147483648) (hv : va_rf (ph_r (τ g i j)) = v)
    (kk : ph_W p l e R s m args below meth c D cl dT kd A nL Q L ad τ cells slots (pc + 1) lv (v :: st)) : ph_W p l e R s m args below meth c D cl dT kd A nL Q L ad τ cells slots pc lv (.int (ph_i x) :: .ref a :: st) := fun H locs ls hU hS hl =>
  va_aldq C.hx C.hb C.hK (hU.ar hL ha hk) 0 (t + 3) rfl hty (ph_jin hj hx hN) hd (by rw [ph_jcl hj (by omega), hv]; exact kk H locs ls hU hS hl)
theorem ph_alen (C : ph_C p s m args c cc nL own Ts D cl tys A KX) {g i a N t : Nat} {ty : FieldType} (hd : decode cc pc = .ok (.arraylength, 1)) (hL : L g i) (ha : ad g i = a) (hk : kd g = .inr (t, N)) (hty : tys[t]? = some (dT t, ty))
    (kk : ph_W p l e R s m args below meth c D cl dT kd A nL Q L ad τ cells slots (pc + 1) lv (.int (ph_i (N : Int)) :: st)) : ph_W p l e R s m args below meth c D cl dT kd A nL Q L ad τ cells slots pc lv (.ref a :: st) := fun H locs ls hU hS hl =>
  va_alen C.hx C.hb C.hK (hU.ar hL ha hk) 0 t rfl hty (v := ph_i (N : Int)) (Int32.ofInt_eq_ofNat).symm hd (kk H locs ls hU hS hl)
theorem ph_iast (C : ph_C p s m args c cc nL own Ts D cl tys A KX) {g i a N : Nat} {x z : Int} (hd : decode cc pc = .ok (.iastore, 1)) (hL : L g i) (ha : ad g i = a) (hk : kd g = .inr (0, N)) (hty : tys[0]? = some (dT (0), .int)) (j : Nat) (hj : x = (j : Int)) (hx : j < N) (hN : N < 2147483648)
    (kk : ph_W p l e R s m args below meth c D cl dT kd A nL Q L ad (ph_up τ g i j z) cells slots (pc + 1) lv st) : ph_W p l e R s m args below meth c D cl dT kd A nL Q L ad τ cells slots pc lv (.int (ph_i z) :: .int (ph_i x) :: .ref a :: st) := fun H locs ls hU hS hl => by
  subst ha
  have hcell := (hU.ar hL rfl hk) 0 _ rfl
  have hin : vp_in (ph_i x) N := ph_jin hj hx hN
  refine W.iast C.hx C.hb hcell ((C.hK.2 _ _ hty).1 N (fun j => .int (ph_i (τ g i j)))) (fun q => by cases q) (by show ¬ (ph_i x < 0 ∨ (arrV _ _ _).slots.size ≤ _); rw [arrV_size]; exact hin) rfl rfl hd fun H1 e z1 oq => ?_
  refine kk H1 _ ls (hU.put hL ?_ oq) (hS.put z1 oq (hU.1 g i hL).1) hl
  rw [hk]
  show H1[ad g i]? = some (vp_cell _ _)
  rw [e, ph_jcl hj (by omega)]
  show some ((arrV (dT (0)) N (fun q => .int (ph_i (τ g i q)))).setSlot j _) = some (arrV (dT (0)) N (fun q => .int (ph_i (ph_u1 (τ g i) j z q))))
  rw [arrV_store]
  congr 2
  funext q
  by_cases hq : q = j
  · subst hq
    simp [updV, ph_u1]
  · simp [updV, ph_u1, hq]
theorem ph_zast (C : ph_C p s m args c cc nL own Ts D cl tys A KX) {g i a N : Nat} {x z : Int} (hd : decode cc pc = .ok (.bastore, 1)) (hz : z = 0 ∨ z = 1) (hL : L g i) (ha : ad g i = a) (hk : kd g = .inr (1, N)) (hty : tys[1]? = some (dT (1), .boolean)) (j : Nat) (hj : x = (j : Int)) (hx : j < N) (hN : N < 2147483648)
    (kk : ph_W p l e R s m args below meth c D cl dT kd A nL Q L ad (ph_up τ g i j z) cells slots (pc + 1) lv st) : ph_W p l e R s m args below meth c D cl dT kd A nL Q L ad τ cells slots pc lv (.int (ph_i z) :: .int (ph_i x) :: .ref a :: st) := fun H locs ls hU hS hl => by
  subst ha
  have hcell := (hU.ar hL rfl hk) 0 _ rfl
  have hin : vp_in (ph_i x) N := ph_jin hj hx hN
  refine W.zast C.hx C.hb hcell ((C.hK.2 _ _ hty).1 N (fun j => .int (ph_i (τ g i j)))) (fun q => by cases q) (by show ¬ (ph_i x < 0 ∨ (arrV _ _ _).slots.size ≤ _); rw [arrV_size]; exact hin) rfl rfl hd fun H1 e z1 oq => ?_
  refine kk H1 _ ls (hU.put hL ?_ oq) (hS.put z1 oq (hU.1 g i hL).1) hl
  rw [hk]
  show H1[ad g i]? = some (vp_cell _ _)
  rw [e, ph_jcl hj (by omega)]
  show some ((arrV (dT (1)) N (fun q => .int (ph_i (τ g i q)))).setSlot j _) = some (arrV (dT (1)) N (fun q => .int (ph_i (ph_u1 (τ g i) j z q))))
  rw [arrV_store]
  congr 2
  funext q
  by_cases hq : q = j
  · subst hq
    rcases hz with rfl | rfl <;> simp [updV, ph_u1] <;> rfl
  · simp [updV, ph_u1, hq]
theorem ph_last (C : ph_C p s m args c cc nL own Ts D cl tys A KX) {g i a N : Nat} {x z : Int} (hd : decode cc pc = .ok (.lastore, 1)) (hL : L g i) (ha : ad g i = a) (hk : kd g = .inr (2, N)) (hty : tys[2]? = some (dT (2), .long)) (j : Nat) (hj : x = (j : Int)) (hx : j < N) (hN : N < 2147483648)
    (kk : ph_W p l e R s m args below meth c D cl dT kd A nL Q L ad (ph_up τ g i j z) cells slots (pc + 1) lv st) : ph_W p l e R s m args below meth c D cl dT kd A nL Q L ad τ cells slots pc lv (.long (ph_l z) :: .int (ph_i x) :: .ref a :: st) := fun H locs ls hU hS hl => by
  subst ha
  have hcell := (hU.ar hL rfl hk) 0 _ rfl
  have hin : vp_in (ph_i x) N := ph_jin hj hx hN
  refine W.last C.hx C.hb hcell ((C.hK.2 _ _ hty).1 N (fun j => .long (ph_l (τ g i j)))) (fun q => by cases q) (by show ¬ (ph_i x < 0 ∨ (arrV _ _ _).slots.size ≤ _); rw [arrV_size]; exact hin) rfl rfl hd fun H1 e z1 oq => ?_
  refine kk H1 _ ls (hU.put hL ?_ oq) (hS.put z1 oq (hU.1 g i hL).1) hl
  rw [hk]
  show H1[ad g i]? = some (vp_cell _ _)
  rw [e, ph_jcl hj (by omega)]
  show some ((arrV (dT (2)) N (fun q => .long (ph_l (τ g i q)))).setSlot j _) = some (arrV (dT (2)) N (fun q => .long (ph_l (ph_u1 (τ g i) j z q))))
  rw [arrV_store]
  congr 2
  funext q
  by_cases hq : q = j
  · subst hq
    simp [updV, ph_u1]
  · simp [updV, ph_u1, hq]
theorem ph_aast (C : ph_C p s m args c cc nL own Ts D cl tys A KX) {g i a N t g2 i2 v ci : Nat} {x : Int} {r : vw_C} {tags : List Nat} (hL : L g i) (ha : ad g i = a) (hk : kd g = .inr (t + 3, N)) (hty : tys[t + 3]? = some (dT (t + 3), .object r.1)) (hL2 : L g2 i2) (ha2 : ad g2 i2 = v) (hk2 : kd g2 = .inl (ci, tags)) (hc : cl[ci]? = some r) (j : Nat) (hj : x = (j : Int)) (hx : j < N) (hN : N < 2147483648) (hd : decode cc pc = .ok (.aastore, 1))
    (kk : ph_W p l e R s m args below meth c D cl dT kd A nL Q L ad (ph_up τ g i j (v : Int)) cells slots (pc + 1) lv st) : ph_W p l e R s m args below meth c D cl dT kd A nL Q L ad τ cells slots pc lv (.ref v :: .int (ph_i x) :: .ref a :: st) := fun H locs ls hU hS hl => by
  subst ha
  have hcell := (hU.ar hL rfl hk) 0 _ rfl
  have hin : vp_in (ph_i x) N := ph_jin hj hx hN
  have hlt : (ph_i x).toNatClampNeg < N := Nat.not_le.mp fun q => hin (Or.inr q)
  have hn0 : ¬ ph_i x < 0 := fun q => hin (Or.inl q)
  obtain ⟨r', hr', cellV, g1, g2', g3, -⟩ := (hU.ob hL2 ha2 hk2) 0 _ rfl
  have hcls := (C.hK.1 ci r hc).2
  obtain ⟨kA, comp, k1, k2, k3, -⟩ := (C.hK.2 _ _ hty).2
  have hcomp : comp = D.1 ci := Option.some.inj (k3.symm.trans hcls.1)
  subst hcomp
  have hcls2 := hcls
  obtain ⟨kC, hkC, -⟩ := hcls2.2
  refine W.aast C.hx C.hb hcell (fun q h => by cases h) (fun h => by cases h) k1 k2 rfl hkC ⟨hn0, by show _ < (arrV _ _ _).slots.size; rw [arrV_size]; exact hlt⟩ g1 (fun q h => by rw [g3] at h; cases h) (by rw [g2']; exact hkC) (by rw [g2']; exact va_assign hcls) rfl rfl hd fun H1 e z1 oq => ?_
  refine kk H1 _ ls (hU.put hL ?_ oq) (hS.put z1 oq (hU.1 g i hL).1) hl
  rw [hk]
  show H1[ad g i]? = some (vp_cell _ _)
  rw [e, ph_jcl hj (by omega)]
  show some ((arrV (dT (t + 3)) N (fun q => va_rf (ph_r (τ g i q)))).setSlot j _) = some (arrV (dT (t + 3)) N (fun q => va_rf (ph_r (ph_u1 (τ g i) j (v : Int) q))))
  rw [arrV_store]
  congr 2
  funext q
  by_cases hq : q = j
  · subst hq
    simp [updV, ph_u1, ph_rn, va_rf]
  · simp [updV, ph_u1, hq]
/-- new cells -/
def ph_df (tags : List Nat) : Nat → Int := fun k => match tags[k]? with
  | some 0 => 0
  | some 1 => 0
  | some _ => -1
  | none => 0
theorem ph_new (C : ph_C p s m args c cc nL own Ts D cl tys A KX) {g ci index N : Nat} {tags : List Nat} {Cn : String} {T : u_T} {ty0 : Nat → FieldType} (hd : decode cc pc = .ok (.new index, 3)) (i : Nat) (hL : ¬ L g i) (hk : kd g = .inl (ci, tags)) (hc : cl[ci]? = some (Cn, T, N)) (hin : ∀ w ∈ u_ws Cn T N, w ∈ Ts) (hty : ∀ k, k < N → parseFieldDescriptor (T k).2.2.1 = some (ty0 k)) (hcl : Cond.classLink own index Cn ∈ Ts) (hins : Cond.instantiable Cn N ∈ Ts) (hini : Cond.initialized Cn ∈ Ts) (hdf : ∀ j, j < N → defaultValue (ty0 j) = vp_V (ph_fs tags (ph_df tags)) j) (h1 : cells + 1 ≤ R.cells) (h2 : slots + N ≤ R.slots)
    (kk : ∀ a : Nat, (∀ g' i', L g' i' → ad g' i' ≠ a) → ph_W p l e R s m args below meth c D cl dT kd A nL Q (ph_Ln L g i) (ph_an ad g i a) (ph_tn τ g i (ph_df tags)) (cells + 1) (slots + N) (pc + 3) lv (.ref a :: st)) : ph_W p l e R s m args below meth c D cl dT kd A nL Q L ad τ cells slots pc lv st := fun H locs ls hU hS hl => by
  have hKn := C.hK.1 ci _ hc
  refine W.newcK C.hx C.hb C.hown (C.hts _ hcl) (C.hts _ hins) (C.hts _ hini) rfl hd h1 h2 hKn.2.1 rfl fun H1 kC hkC e1 z1 o1 => ?_
  refine kk H.size (fun g' i' h' => Nat.ne_of_lt (hU.lt h')) H1 locs ls (hU.new hL (C.hA _ hS.1) rfl ?_ o1) ⟨Nat.le_trans hS.1 (by omega), fun x q1 q2 => (o1 x (Nat.lt_of_lt_of_le q1 hS.1)).trans (hS.2.1 x q1 q2), hS.2.2⟩ hl
  rw [hk]
  exact ⟨_, hc, (u_born ty0 C.hts hin hKn hkC e1 hty).to hdf⟩
theorem ph_newi (C : ph_C p s m args c cc nL own Ts D cl tys A KX) {g N : Nat} {x : Int} {at0 : ArrayType} (hd : decode cc pc = .ok (.newarray at0, 2)) (i : Nat) (hL : ¬ L g i) (hk : kd g = .inr (0, N)) (hty : tys[0]? = some (dT 0, .int)) (hw : Cond.arrayClass .int ∈ Ts) (hN : x = (N : Int)) (hN2 : N < 100000) (h1 : cells + 1 ≤ R.cells) (h2 : slots + N ≤ R.slots) (hat : newarray.typeOf at0 = .int)
    (kk : ∀ a : Nat, (∀ g' i', L g' i' → ad g' i' ≠ a) → ph_W p l e R s m args below meth c D cl dT kd A nL Q (ph_Ln L g i) (ph_an ad g i a) (ph_tn τ g i (fun _ => 0)) (cells + 1) (slots + N) (pc + 2) lv (.ref a :: st)) : ph_W p l e R s m args below meth c D cl dT kd A nL Q L ad τ cells slots pc lv (.int (ph_i x) :: st) := fun H locs ls hU hS hl => by
  subst hN
  refine va_newaK C.hx C.hb (by rw [hat]; exact C.hts _ hw) rfl hd rfl (fun q => by have := (ph_ilt (a := (N : Int)) (b := 0) (by omega) (by omega)).mp q; omega) (N := N) (by rw [ph_icl (by omega) (by omega)]; simp) (by rw [hat]; show N * 4 ≤ _; omega) h1 h2 rfl fun H1 cA e1 z1 o1 hAr hNm => ?_
  rw [hat] at e1 hNm
  have hcA : cA = dT 0 := Option.some.inj (hNm.symm.trans (C.hK.2 0 _ hty).2)
  subst hcA
  refine kk H.size (fun g' i' h' => Nat.ne_of_lt (hU.lt h')) H1 locs ls (hU.new hL (C.hA _ hS.1) rfl ?_ o1) ⟨Nat.le_trans hS.1 (by omega), fun x q1 q2 => (o1 x (Nat.lt_of_lt_of_le q1 hS.1)).trans (hS.2.1 x q1 q2), hS.2.2⟩ hl
  rw [hk]
  exact e1
theorem ph_newz (C : ph_C p s m args c cc nL own Ts D cl tys A KX) {g N : Nat} {x : Int} {at0 : ArrayType} (hd : decode cc pc = .ok (.newarray at0, 2)) (i : Nat) (hL : ¬ L g i) (hk : kd g = .inr (1, N)) (hty : tys[1]? = some (dT 1, .boolean)) (hw : Cond.arrayClass .boolean ∈ Ts) (hN : x = (N : Int)) (hN2 : N < 100000) (h1 : cells + 1 ≤ R.cells) (h2 : slots + N ≤ R.slots) (hat : newarray.typeOf at0 = .boolean)
    (kk : ∀ a : Nat, (∀ g' i', L g' i' → ad g' i' ≠ a) → ph_W p l e R s m args below meth c D cl dT kd A nL Q (ph_Ln L g i) (ph_an ad g i a) (ph_tn τ g i (fun _ => 0)) (cells + 1) (slots + N) (pc + 2) lv (.ref a :: st)) : ph_W p l e R s m args below meth c D cl dT kd A nL Q L ad τ cells slots pc lv (.int (ph_i x) :: st) := fun H locs ls hU hS hl => by
  subst hN
  refine va_newaK C.hx C.hb (by rw [hat]; exact C.hts _ hw) rfl hd rfl (fun q => by have := (ph_ilt (a := (N : Int)) (b := 0) (by omega) (by omega)).mp q; omega) (N := N) (by rw [ph_icl (by omega) (by omega)]; simp) (by rw [hat]; show N * 1 ≤ _; omega) h1 h2 rfl fun H1 cA e1 z1 o1 hAr hNm => ?_
  rw [hat] at e1 hNm
  have hcA : cA = dT 1 := Option.some.inj (hNm.symm.trans (C.hK.2 1 _ hty).2)
  subst hcA
  refine kk H.size (fun g' i' h' => Nat.ne_of_lt (hU.lt h')) H1 locs ls (hU.new hL (C.hA _ hS.1) rfl ?_ o1) ⟨Nat.le_trans hS.1 (by omega), fun x q1 q2 => (o1 x (Nat.lt_of_lt_of_le q1 hS.1)).trans (hS.2.1 x q1 q2), hS.2.2⟩ hl
  rw [hk]
  exact e1
theorem ph_newl (C : ph_C p s m args c cc nL own Ts D cl tys A KX) {g N : Nat} {x : Int} {at0 : ArrayType} (hd : decode cc pc = .ok (.newarray at0, 2)) (i : Nat) (hL : ¬ L g i) (hk : kd g = .inr (2, N)) (hty : tys[2]? = some (dT 2, .long)) (hw : Cond.arrayClass .long ∈ Ts) (hN : x = (N : Int)) (hN2 : N < 100000) (h1 : cells + 1 ≤ R.cells) (h2 : slots + N ≤ R.slots) (hat : newarray.typeOf at0 = .long)
    (kk : ∀ a : Nat, (∀ g' i', L g' i' → ad g' i' ≠ a) → ph_W p l e R s m args below meth c D cl dT kd A nL Q (ph_Ln L g i) (ph_an ad g i a) (ph_tn τ g i (fun _ => 0)) (cells + 1) (slots + N) (pc + 2) lv (.ref a :: st)) : ph_W p l e R s m args below meth c D cl dT kd A nL Q L ad τ cells slots pc lv (.int (ph_i x) :: st) := fun H locs ls hU hS hl => by
  subst hN
  refine va_newaK C.hx C.hb (by rw [hat]; exact C.hts _ hw) rfl hd rfl (fun q => by have := (ph_ilt (a := (N : Int)) (b := 0) (by omega) (by omega)).mp q; omega) (N := N) (by rw [ph_icl (by omega) (by omega)]; simp) (by rw [hat]; show N * 8 ≤ _; omega) h1 h2 rfl fun H1 cA e1 z1 o1 hAr hNm => ?_
  rw [hat] at e1 hNm
  have hcA : cA = dT 2 := Option.some.inj (hNm.symm.trans (C.hK.2 2 _ hty).2)
  subst hcA
  refine kk H.size (fun g' i' h' => Nat.ne_of_lt (hU.lt h')) H1 locs ls (hU.new hL (C.hA _ hS.1) rfl ?_ o1) ⟨Nat.le_trans hS.1 (by omega), fun x q1 q2 => (o1 x (Nat.lt_of_lt_of_le q1 hS.1)).trans (hS.2.1 x q1 q2), hS.2.2⟩ hl
  rw [hk]
  exact e1
theorem ph_newq (C : ph_C p s m args c cc nL own Ts D cl tys A KX) {g N index t : Nat} {x : Int} {Cn : String} (hd : decode cc pc = .ok (.anewarray index, 3)) (i : Nat) (hL : ¬ L g i) (hk : kd g = .inr (t + 3, N)) (hty : tys[t + 3]? = some (dT (t + 3), .object Cn)) (hcl : Cond.classLink own index Cn ∈ Ts) (hAO : va_AO Cn s) (hN : x = (N : Int)) (hN2 : N < 100000) (h1 : cells + 1 ≤ R.cells) (h2 : slots + N ≤ R.slots)
    (kk : ∀ a : Nat, (∀ g' i', L g' i' → ad g' i' ≠ a) → ph_W p l e R s m args below meth c D cl dT kd A nL Q (ph_Ln L g i) (ph_an ad g i a) (ph_tn τ g i (fun _ => -1)) (cells + 1) (slots + N) (pc + 3) lv (.ref a :: st)) : ph_W p l e R s m args below meth c D cl dT kd A nL Q L ad τ cells slots pc lv (.int (ph_i x) :: st) := fun H locs ls hU hS hl => by
  subst hN
  have hcl0 : (ph_i (N : Int)).toNatClampNeg = N := by rw [ph_icl (by omega) (by omega)]; simp
  refine W.anew C.hx C.hb C.hown (C.hts _ hcl) (va_AO.use hAO) rfl hd rfl (fun q => by have := (ph_ilt (a := (N : Int)) (b := 0) (by omega) (by omega)).mp q; omega) (by rw [hcl0]; omega) h1 (by rw [hcl0]; exact h2) fun cA kA comp f1 f2 f3 f4 => ?_
  rw [hcl0]
  generalize hH1 : H.push ({ cls := cA, slots := Array.replicate N .null, vm := .none } : Cell) = H1
  have z1 : H1.size = H.size + 1 := by rw [← hH1, Array.size_push]
  have e1 : H1[H.size]? = some (arrV cA N (fun _ => .null)) := by rw [← hH1, Array.getElem?_push_size, ← arrV_new]
  have o1 : ∀ q : Nat, q < H.size → H1[q]? = H[q]? := fun q hq => by rw [← hH1, Array.getElem?_push, if_neg (Nat.ne_of_lt hq)]
  obtain ⟨kA2, comp2, -, -, -, hNm⟩ := (C.hK.2 _ _ hty).2
  have hcA : cA = dT (t + 3) := Option.some.inj (f1.symm.trans hNm)
  subst hcA
  refine kk H.size (fun g' i' h' => Nat.ne_of_lt (hU.lt h')) H1 locs ls (hU.new hL (C.hA _ hS.1) rfl ?_ o1) ⟨Nat.le_trans hS.1 (by omega), fun x q1 q2 => (o1 x (Nat.lt_of_lt_of_le q1 hS.1)).trans (hS.2.1 x q1 q2), hS.2.2⟩ hl
  rw [hk]
  exact e1
/-- statics that nobody writes -/
theorem ph_gets (C : ph_C p s m args c cc nL own Ts D cl tys A KX) {index : Nat} {Cc n d ref : String} {v : Value} (hd : decode cc pc = .ok (.getstatic index, 3)) (hZ : va_Z Cc n d v A s s.heap) (hlink : Cond.fieldLink own index ref n d ∈ Ts) (href : Cc = ref)
    (kk : ph_W p l e R s m args below meth c D cl dT kd A nL Q L ad τ cells slots (pc + 3) lv (v :: st)) : ph_W p l e R s m args below meth c D cl dT kd A nL Q L ad τ cells slots pc lv st := fun H locs ls hU hS hl =>
  va_gets C.hx C.hb hZ hS C.hown (C.hts _ hlink) (fun x h => by rw [← href]; exact h) hd (kk H locs ls hU hS hl)
theorem ph_getsN (C : ph_C p s m args c cc nL own Ts D cl tys A KX) {index : Nat} {Cc n d ref host : String} {v : Value} (hd : decode cc pc = .ok (.getstatic index, 3)) (hZ : va_Z Cc n d v A s s.heap) (hlink : va_Nw (.fieldLinkNest own index ref n d host) s) (href : Cc = ref)
    (kk : ph_W p l e R s m args below meth c D cl dT kd A nL Q L ad τ cells slots (pc + 3) lv (v :: st)) : ph_W p l e R s m args below meth c D cl dT kd A nL Q L ad τ cells slots pc lv st := fun H locs ls hU hS hl =>
  va_getsN C.hx C.hb hZ hS C.hown (va_Nw.use rfl hlink) (fun x h => by rw [← href]; exact h) hd (kk H locs ls hU hS hl)
theorem ph_sald (C : ph_C p s m args c cc nL own Ts D cl tys A KX) {a N : Nat} {x z : Int} {f : Nat → Int} (hd : decode cc pc = .ok (.iaload, 1)) (hT : va_T .int a N (fun j => .int (ph_i (f j))) A s s.heap) (j : Nat) (hj : x = (j : Int)) (hx : j < N) (hN : N < 2147483648) (hz : f j = z)
    (kk : ph_W p l e R s m args below meth c D cl dT kd A nL Q L ad τ cells slots (pc + 1) lv (.int (ph_i z) :: st)) : ph_W p l e R s m args below meth c D cl dT kd A nL Q L ad τ cells slots pc lv (.int (ph_i x) :: .ref a :: st) := fun H locs ls hU hS hl =>
  va_ti C.hx C.hb hT hS (ph_jin hj hx hN) (v := .int (ph_i z)) (by rw [ph_jcl hj (by omega), hz]) hd (kk H locs ls hU hS hl)
/-- the constructor of Object -/
theorem ph_objInit (C : ph_C p s m args c cc nL own Ts D cl tys A KX) {index a : Nat} (hd : decode cc pc = .ok (.invokespecial index, 3)) (hlink : Cond.methodLink own index Lib.objectInit ∈ Ts) (hinst : Cond.instanceMethod Lib.objectInit ∈ Ts) (hcode : Cond.code Lib.objectInit ⟨#[0xb1]⟩ 1 none ∈ Ts) (hf : 1 ≤ R.frames) (hlo : (st.map fun v => v.category).sum + 12 ≤ R.locals)
    (kk : ph_W p l e R s m args below meth c D cl dT kd A nL Q L ad τ cells slots (pc + 3) lv st) : ph_W p l e R s m args below meth c D cl dT kd A nL Q L ad τ cells slots pc lv (.ref a :: st) := fun H locs ls hU hS hl =>
  W.objInit C.hx C.hb C.hown (C.hts _ hlink) (C.hts _ hinst) (C.hts _ hcode) rfl (by show ls.size = c.maxLocals; rw [C.1.2.2.1]; exact hl.1) rfl hd hf (by show 2 * 0 + _ + 12 ≤ _; omega) (kk H locs ls hU hS hl)
end PHH
/-! ===== contracts ===== -/
def ph_Q (D : va_G) (cl : List vw_C) (dT : Nat → ClassId) (kd : Nat → ph_K) (A : Nat → Prop) (post : Option Value → (Nat → Nat → Prop) → (Nat → Nat → Nat) → ph_T → Prop) : Array Value → State → Outcome → State → Prop := fun _ st o t =>
  (∃ (r : Option Value) (L' : Nat → Nat → Prop) (ad' : Nat → Nat → Nat) (τ' : ph_T), o = .returned r ∧ post r L' ad' τ' ∧ ph_U D cl dT kd A L' ad' τ' t.heap) ∧ va_F A st t
def ph_M (l : Launch) (y : MethodName) (ws : List Cond) (rm : Room) (D : va_G) (cl : List vw_C) (tys : List (ClassId × FieldType)) (dT : Nat → ClassId) (kd : Nat → ph_K) (A : Nat → Prop) (KX : State → Prop) (av : List Value) (L : Nat → Nat → Prop) (ad : Nat → Nat → Nat) (τ : ph_T) (post : Option Value → (Nat → Nat → Prop) → (Nat → Nat → Nat) → ph_T → Prop) (mc ms : Nat) : Prop :=
  Met l y ws rm (va_Pc av (fun U => (∀ q : Nat, U.heap.size ≤ q → A q) ∧ ph_U D cl dT kd A L ad τ U.heap ∧ va_K D cl tys U ∧ KX U ∧ ph_keep A KX)) (ph_Q D cl dT kd A post) mc ms A
section PHM
variable {p : Program} {l : Launch} {e : Env} {R : Room} {s : State} {m : MethodId} {args : Array Value} {below : List Frame} {meth : Method} {c : Code}
variable {D : va_G} {cl : List vw_C} {tys : List (ClassId × FieldType)} {dT : Nat → ClassId} {kd : Nat → ph_K} {A : Nat → Prop} {KX : State → Prop} {nL : Nat} {Q : State → Prop} {cc : ByteArray} {own : String} {Ts : List Cond}
variable {L : Nat → Nat → Prop} {ad : Nat → Nat → Nat} {τ : ph_T} {cells slots pc : Nat} {lv : ph_V} {st : List Value} {post : Option Value → (Nat → Nat → Prop) → (Nat → Nat → Nat) → ph_T → Prop}
theorem ph_M.of {y : MethodName} {ws ws' : List Cond} {rm : Room} {av : List Value} {mc ms maxL : Nat} {ret : Option FieldType} (hy : plainName y.cls = true) (hw : ws = Cond.code y cc maxL ret :: ws') (hlen : (lg_sl av).length ≤ maxL)
    (body : ∀ (p : Program) (e : Env) (s : State) (m : MethodId) (below : List Frame) (meth : Method) (c : Code), ph_C p s m av.toArray c cc maxL y.cls ws D cl tys A KX → meth.sig.returnType = ret → meth.locks = false → meth.name = y.name →
      ph_W p l e rm s m av.toArray below meth c D cl dT kd A maxL (MQ below (ph_Q D cl dT kd A post) av.toArray s mc ms A) L ad τ 0 0 0 (ph_mk (lv_args 0 av)) []) : ph_M l y ws rm D cl tys dT kd A KX av L ad τ post mc ms := by
  refine Met.ofW (cc := cc) (maxL := maxL) (ret := ret) hy hw ?_
  intro p e s m args below meth c s₁ B hml hv
  obtain ⟨rfl, hA, hU, hK, hX, hkeep⟩ := hv
  have hl := lv_entry av (n := maxL) hlen
  rw [lg_entry_eq]
  exact body p e s m below meth c ⟨⟨B.exec, B.bytes, hml, findClass_of_methodNamed B.named, atoms_spec (ws := ws) B.pre⟩, hK, hA, hX, hkeep⟩ B.returns B.notSynchronized (name_of_methodNamed B.named B.method).1 s.heap [] _ hU va_S.rf (ph_has.of hl)
theorem ph_blind {av : List Value} : FrameBlind (va_Pc av (fun U => (∀ q : Nat, U.heap.size ≤ q → A q) ∧ ph_U D cl dT kd A L ad τ U.heap ∧ va_K D cl tys U ∧ KX U ∧ ph_keep A KX)) := fun a U g mk q => by
  obtain ⟨q0, q1, q2, q3, q4, q5⟩ := q
  exact ⟨q0, q1, q2, va_K.moved (u := U) (U := U.calling g mk a) (Vm.Alike.refl U.vm) q3, q5 U (U.calling g mk a) (State.WarmedH.refl U) (Nat.le_refl _) (fun _ _ _ => rfl) q4, q5⟩
theorem ph_pre (C : ph_C p s m args c cc nL own Ts D cl tys A KX) {H : Heap} {locs : List Loc} (hU : ph_U D cl dT kd A L ad τ H) (hS : va_S A s.heap H locs) {av : List Value} {U : State} (hH : U.heap = H) (hW : s.WarmedH U.vm) : va_Pc av (fun U => (∀ q : Nat, U.heap.size ≤ q → A q) ∧ ph_U D cl dT kd A L ad τ U.heap ∧ va_K D cl tys U ∧ KX U ∧ ph_keep A KX) av.toArray U :=
  ⟨rfl, fun q h => C.hA q (by rw [hH] at h; exact Nat.le_trans hS.1 h), by rw [hH]; exact hU, va_K.moved hW.alike C.hK, C.2.2.2.2 s U hW (by rw [hH]; exact hS.1) (fun q h1 h2 => by rw [hH]; exact hS.2.1 q h1 h2) C.2.2.2.1, C.2.2.2.2⟩
theorem ph_back {H : Heap} {locs : List Loc} {ls : Array Slot} {mc ms : Nat} {rest : List Value} {a : Array Value} (hr : va_Run p l e R s m args below meth c H locs cells slots mc ms (F0 m pc ls st) rest (ph_Q D cl dT kd A post a) A) (hS : va_S A s.heap H locs) (hl : ph_has ls nL lv)
    (k : ∀ (r : Option Value) (L' : Nat → Nat → Prop) (ad' : Nat → Nat → Nat) (τ' : ph_T), post r L' ad' τ' → ph_W p l e R s m args below meth c D cl dT kd A nL Q L' ad' τ' (cells + mc) (slots + ms) (pc + 3) lv (r.toList ++ rest)) : W p l e R s m args below meth c H locs cells slots Q (F0 m pc ls st) := by
  intro T hT X
  obtain ⟨v, st₀, t, T', Lc, h0, X', hLc, e1, e2, ⟨⟨r, L', ad', τ', ho, hp, hU'⟩, hz, hk⟩, stp⟩ := hr T hT X
  cases ho
  rw [h0] at hz hk
  obtain ⟨t2, a1, b1⟩ := k _ L' ad' τ' hp T'.heap (locs ++ Lc) ls (by rw [e1]; exact hU')
    ⟨Nat.le_trans hS.1 (by rw [e1]; exact hz), fun q h1 h2 => by rw [e1, hk q (Nat.lt_of_lt_of_le h1 hS.1) h2]; exact hS.2.1 q h1 h2, fun q hq => by
      rcases List.mem_append.mp hq with h | h
      · exact hS.2.2 q h
      · exact hLc q h⟩ hl T' rfl X'
  exact ⟨t2, stp t2 a1, b1⟩
variable {y : MethodName} {ws ws' : List Cond} {rm : Room} {mc ms maxL index n b : Nat} {ret : Option FieldType} {As rest : List Value} {bytes : ByteArray} {Cn : String}
theorem ph_callV (C : ph_C p s m args c cc nL own Ts D cl tys A KX)  (hd : decode cc pc = .ok (.invokevirtual index, 3))(hM : ph_M l y ws rm D cl tys dT kd A KX (.ref b :: As) L ad τ post mc ms) (cw : CallW R s args own Cn index y bytes maxL ret ws rm mc ms n) {g i ci : Nat} {tags : List Nat} {q : vw_C} (hL : L g i) (ha : ad g i = b) (hk : kd g = .inl (ci, tags)) (hc : cl[ci]? = some q) (hq : q.1 = Cn) (hn : As.length = n) (hst : st = As.reverse ++ .ref b :: rest) (hro : (rest.map fun v => v.category).sum ≤ 8) (hf : cells + mc ≤ R.cells ∧ slots + ms ≤ R.slots)
    (k : ∀ (r : Option Value) (L' : Nat → Nat → Prop) (ad' : Nat → Nat → Nat) (τ' : ph_T), post r L' ad' τ' → ph_W p l e R s m args below meth c D cl dT kd A nL Q L' ad' τ' (cells + mc) (slots + ms) (pc + 3) lv (r.toList ++ rest)) : ph_W p l e R s m args below meth c D cl dT kd A nL Q L ad τ cells slots pc lv st := fun H locs ls hU hS hl => by
  subst hst
  subst hq
  exact ph_back (va_runV C.1 hM cw ⟨ph_blind, va_recv C.hK (hU.ob hL ha hk) (q0 := 0) hc rfl, fun U h1 h2 => ph_pre C hU hS h1 h2⟩ rfl hn hl.1 rfl (lv_room hro) hd hf) hS hl k
theorem ph_callS (C : ph_C p s m args c cc nL own Ts D cl tys A KX)  (hd : decode cc pc = .ok (.invokestatic index, 3))(hM : ph_M l y ws rm D cl tys dT kd A KX As L ad τ post mc ms) (cw : CallB R s args own index y bytes maxL ret ws rm mc ms n ∧ (Cond.static y).before args s = true) (hn : As.length = n) (hst : st = As.reverse ++ rest) (hro : (rest.map fun v => v.category).sum ≤ 8) (hf : cells + mc ≤ R.cells ∧ slots + ms ≤ R.slots)
    (k : ∀ (r : Option Value) (L' : Nat → Nat → Prop) (ad' : Nat → Nat → Nat) (τ' : ph_T), post r L' ad' τ' → ph_W p l e R s m args below meth c D cl dT kd A nL Q L' ad' τ' (cells + mc) (slots + ms) (pc + 3) lv (r.toList ++ rest)) : ph_W p l e R s m args below meth c D cl dT kd A nL Q L ad τ cells slots pc lv st := fun H locs ls hU hS hl => by
  subst hst
  exact ph_back (va_runS C.1 hM cw ⟨ph_blind, fun U h1 h2 => ph_pre C hU hS h1 h2⟩ rfl hn hl.1 rfl (lv_room hro) hd hf) hS hl k
theorem ph_callI (C : ph_C p s m args c cc nL own Ts D cl tys A KX)  (hd : decode cc pc = .ok (.invokespecial index, 3))(hM : ph_M l y ws rm D cl tys dT kd A KX (.ref b :: As) L ad τ post mc ms) (cw : CallB R s args own index y bytes maxL none ws rm mc ms n ∧ y.name = "<init>" ∧ (Cond.instanceMethod y).before args s = true) (hn : As.length = n) (hst : st = As.reverse ++ .ref b :: rest) (hro : (rest.map fun v => v.category).sum ≤ 8) (hf : cells + mc ≤ R.cells ∧ slots + ms ≤ R.slots)
    (k : ∀ (r : Option Value) (L' : Nat → Nat → Prop) (ad' : Nat → Nat → Nat) (τ' : ph_T), post r L' ad' τ' → ph_W p l e R s m args below meth c D cl dT kd A nL Q L' ad' τ' (cells + mc) (slots + ms) (pc + 3) lv (r.toList ++ rest)) : ph_W p l e R s m args below meth c D cl dT kd A nL Q L ad τ cells slots pc lv st := fun H locs ls hU hS hl => by
  subst hst
  exact ph_back (va_runI C.1 hM cw ⟨ph_blind, fun U h1 h2 => ph_pre C hU hS h1 h2⟩ rfl hn hl.1 rfl (lv_room hro) hd hf) hS hl k
/-- returns -/
theorem ph_iret (C : ph_C p s m args c cc nL own Ts D cl tys A KX) {v : Int32} {ty : FieldType} (hd : decode cc pc = .ok (.ireturn, 1)) (hr : meth.sig.returnType = some ty) (hlk : meth.locks = false) (hn : narrow ty (.int v) = .int v) (h1 : cells ≤ mc) (h2 : slots ≤ ms) (hp : post (some (.int v)) L ad τ) : ph_W p l e R s m args below meth c D cl dT kd A nL (MQ below (ph_Q D cl dT kd A post) args s mc ms A) L ad τ cells slots pc lv [.int v] := fun H locs ls hU hS hl =>
  W.widen h1 h2 (W.zret C.hx C.hb hr hn (fun t ht hW => ⟨⟨_, _, _, _, rfl, hp, by rw [ht]; exact hU⟩, hS.F ht⟩) hS.2.2 hd hlk)
theorem ph_lret (C : ph_C p s m args c cc nL own Ts D cl tys A KX) {v : Int64} (hd : decode cc pc = .ok (.lreturn, 1)) (hr : meth.sig.returnType = some .long) (hlk : meth.locks = false) (h1 : cells ≤ mc) (h2 : slots ≤ ms) (hp : post (some (.long v)) L ad τ) : ph_W p l e R s m args below meth c D cl dT kd A nL (MQ below (ph_Q D cl dT kd A post) args s mc ms A) L ad τ cells slots pc lv [.long v] := fun H locs ls hU hS hl =>
  W.widen h1 h2 (W.lret C.hx C.hb hr (fun t ht hW => ⟨⟨_, _, _, _, rfl, hp, by rw [ht]; exact hU⟩, hS.F ht⟩) hS.2.2 hd hlk)
theorem ph_vret (C : ph_C p s m args c cc nL own Ts D cl tys A KX)  (hd : decode cc pc = .ok (.return_, 1))(hr : meth.sig.returnType = none) (hlk : meth.locks = false) (h1 : cells ≤ mc) (h2 : slots ≤ ms) (hp : post none L ad τ) : ph_W p l e R s m args below meth c D cl dT kd A nL (MQ below (ph_Q D cl dT kd A post) args s mc ms A) L ad τ cells slots pc lv [] := fun H locs ls hU hS hl =>
  W.widen h1 h2 (W.vret C.hx C.hb hr (fun t ht hW => ⟨⟨_, _, _, _, rfl, hp, by rw [ht]; exact hU⟩, hS.F ht⟩) hS.2.2 hd hlk)
end PHM
