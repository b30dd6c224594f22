/-! ===== classes, pools ===== -/
abbrev CLs : List vw_C := [(R_J, F_J, 12), (R_S, F_S, 6), (R_I, F_I, 7), (R_F, F_F, 7)]
abbrev TY (dT : Nat → ClassId) : List (ClassId × FieldType) := [(dT 0, .int), (dT 1, .boolean), (dT 2, .long), (dT 3, .object "JamRules$Sensor"), (dT 4, .object "JamRules$Item"), (dT 5, .object "JamRules$Fault")]
def kd : Nat → ph_K := fun g => match g with
  | 0 => .inl (0, [2, 0, 2, 0, 2, 0, 0, 2, 2, 2, 0, 1])
  | 1 => .inl (1, [1, 0, 0, 0, 1, 0])
  | 2 => .inl (2, [1, 1, 0, 0, 0, 0, 0])
  | 3 => .inl (3, [0, 0, 1, 0, 0, 1, 0])
  | 4 => .inr (3, 8)
  | 5 => .inr (4, 61)
  | 6 => .inr (5, 41)
  | 7 => .inr (1, 7)
  | 8 => .inr (1, 7)
  | 9 => .inr (0, 60)
  | _ => .inr (0, 0)
theorem ph_er {z : Int} {a : Nat} (h : z = (a : Int)) : ph_e 2 z = .ref a := by
  subst h
  simp [ph_e, ph_rn, va_rf]
theorem ph_vr {z : Int} {a : Nat} (h : z = (a : Int)) : va_rf (ph_r z) = .ref a := by
  subst h
  simp [ph_rn, va_rf]
theorem ph_e0 {z z' : Int} (h : z = z') : ph_e 0 z = .int (ph_i z') := by rw [h]; rfl
theorem ph_e1 {z z' : Int} (h : z = z') : ph_e 1 z = .long (ph_l z') := by rw [h]; rfl
theorem ph_bz {z : Int} (h : z = 0 ∨ z = 1) : narrow .boolean (.int (ph_i z)) = .int (ph_i z) ∧ fits .boolean (.int (ph_i z)) = true := by
  rcases h with rfl | rfl <;> exact ⟨rfl, rfl⟩
theorem ph_bb (P : Prop) : ph_b P = 0 ∨ ph_b P = 1 := by
  rcases Classical.em P with h | h
  · exact Or.inr (ph_b1 h)
  · exact Or.inl (ph_b0 h)
theorem ph_nb (P : Prop) : narrow .boolean (.int (ph_i (ph_b P))) = .int (ph_i (ph_b P)) := (ph_bz (ph_bb P)).1
theorem ph_bt {P : Prop} (h : P) : (some (.int (ph_i 1)) : Option Value) = some (.int (ph_i (ph_b P))) := by rw [ph_b1 h]
theorem ph_bf {P : Prop} (h : ¬ P) : (some (.int (ph_i 0)) : Option Value) = some (.int (ph_i (ph_b P))) := by rw [ph_b0 h]
/-- the same context over the words that stay -/
theorem ph_C.sub {p : Program} {s : State} {m : MethodId} {args : Array Value} {c : Code} {cc : ByteArray} {nL : Nat} {own : String} {w : Cond} {D : va_G} {cl : List vw_C} {tys : List (ClassId × FieldType)} {A : Nat → Prop} {KX : State → Prop} (C : ph_C p s m args c cc nL own (w :: TB) D cl tys A KX) : ph_C p s m args c cc nL own TB D cl tys A KX :=
  ⟨⟨C.1.1, C.1.2.1, C.1.2.2.1, C.1.2.2.2.1, fun q h => C.1.2.2.2.2 q (List.mem_cons_of_mem _ h)⟩, C.2⟩
theorem gdV {own Cn : String} {idx maxL : Nat} {y : MethodName} {b : ByteArray} {ret : Option FieldType} (h1 : Cond.methodLink own idx y ∈ TB) (h2 : Cond.instanceMethod y ∈ TB) (h3 : Cond.selects Cn y y ∈ TB) (h4 : Cond.initialized Cn ∈ TB) (h5 : Cond.code y b maxL ret ∈ TB) : GoodIn TB (wsV own idx Cn y (.code y b maxL ret :: TB)) := fun w h => by
  have hm : w ∈ TB := by
    simp only [wsV, List.cons_append, List.nil_append, List.mem_cons] at h
    rcases h with rfl | rfl | rfl | rfl | rfl | h
    · exact h1
    · exact h2
    · exact h3
    · exact h4
    · exact h5
    · exact h
  exact TB_good w hm
theorem gdS {own : String} {idx maxL : Nat} {y : MethodName} {b : ByteArray} {ret : Option FieldType} (h1 : Cond.methodLink own idx y ∈ TB) (h2 : Cond.static y ∈ TB) (h4 : Cond.initialized own ∈ TB) (h5 : Cond.code y b maxL ret ∈ TB) : GoodIn TB (wsS own idx y (.code y b maxL ret :: TB)) := fun w h => by
  have hm : w ∈ TB := by
    simp only [wsS, List.cons_append, List.nil_append, List.mem_cons] at h
    rcases h with rfl | rfl | rfl | rfl | h
    · exact h1
    · exact h2
    · exact h4
    · exact h5
    · exact h
  exact TB_good w hm
theorem gdI {maxL : Nat} {y : MethodName} {b : ByteArray} {ret : Option FieldType} (h5 : Cond.code y b maxL ret ∈ TB) : GoodIn TB (.code y b maxL ret :: TB) := fun w h => by
  have hm : w ∈ TB := by
    rcases List.mem_cons.mp h with rfl | h
    · exact h5
    · exact h
  exact TB_good w hm
section SCH
variable {p : Program} {l : Launch} {e : Env} {R : Room} {s : State} {m : MethodId} {args : Array Value} {below : List Frame} {meth : Method} {c : Code}
variable {D : va_G} {dT : Nat → ClassId} {A : Nat → Prop} {KX : State → Prop} {nL : Nat} {Q : State → Prop} {cc : ByteArray}
variable {L : Nat → Nat → Prop} {ad : Nat → Nat → Nat} {τ : ph_T} {cells slots pc : Nat} {lv : ph_V} {st : List Value}
theorem pt_J_11 (C : ph_C p s m args c cc nL R_J TB D CLs (TY dT) A KX) (hd : decode cc pc = .ok (.putfield 11, 3)) (hin2 : meth.name = "<init>") {i a b : Nat} (hL : L 0 i) (ha : ad 0 i = a)
    (kk : ph_W p l e R s m args below meth c D CLs dT kd A nL Q L ad (ph_up τ 0 i 0 (b : Int)) cells slots (pc + 3) lv st) : ph_W p l e R s m args below meth c D CLs dT kd A nL Q L ad τ cells slots pc lv (.ref b :: .ref a :: st) := ph_putF (k := 0) (t := 2) C hd (b : Int) hL ha rfl rfl in_J t_J_ok n_J (by decide) rfl rfl tw_20 rfl hin2 rfl rfl (ph_er rfl) rfl rfl kk
theorem pt_J_15 (C : ph_C p s m args c cc nL R_J TB D CLs (TY dT) A KX) (hd : decode cc pc = .ok (.putfield 15, 3)) {i a : Nat} {z : Int} (hL : L 0 i) (ha : ad 0 i = a)
    (kk : ph_W p l e R s m args below meth c D CLs dT kd A nL Q L ad (ph_up τ 0 i 1 z) cells slots (pc + 3) lv st) : ph_W p l e R s m args below meth c D CLs dT kd A nL Q L ad τ cells slots pc lv (.int (ph_i z) :: .ref a :: st) := ph_put (k := 1) (t := 0) C hd z hL ha rfl rfl in_J t_J_ok n_J (by decide) rfl rfl tw_21 rfl rfl rfl rfl rfl kk
theorem pt_J_21 (C : ph_C p s m args c cc nL R_J TB D CLs (TY dT) A KX) (hd : decode cc pc = .ok (.putfield 21, 3)) (hin2 : meth.name = "<init>") {i a b : Nat} (hL : L 0 i) (ha : ad 0 i = a)
    (kk : ph_W p l e R s m args below meth c D CLs dT kd A nL Q L ad (ph_up τ 0 i 2 (b : Int)) cells slots (pc + 3) lv st) : ph_W p l e R s m args below meth c D CLs dT kd A nL Q L ad τ cells slots pc lv (.ref b :: .ref a :: st) := ph_putF (k := 2) (t := 2) C hd (b : Int) hL ha rfl rfl in_J t_J_ok n_J (by decide) rfl rfl tw_22 rfl hin2 rfl rfl (ph_er rfl) rfl rfl kk
theorem pt_J_25 (C : ph_C p s m args c cc nL R_J TB D CLs (TY dT) A KX) (hd : decode cc pc = .ok (.putfield 25, 3)) {i a : Nat} {z : Int} (hL : L 0 i) (ha : ad 0 i = a)
    (kk : ph_W p l e R s m args below meth c D CLs dT kd A nL Q L ad (ph_up τ 0 i 3 z) cells slots (pc + 3) lv st) : ph_W p l e R s m args below meth c D CLs dT kd A nL Q L ad τ cells slots pc lv (.int (ph_i z) :: .ref a :: st) := ph_put (k := 3) (t := 0) C hd z hL ha rfl rfl in_J t_J_ok n_J (by decide) rfl rfl tw_23 rfl rfl rfl rfl rfl kk
theorem pt_J_30 (C : ph_C p s m args c cc nL R_J TB D CLs (TY dT) A KX) (hd : decode cc pc = .ok (.putfield 30, 3)) (hin2 : meth.name = "<init>") {i a b : Nat} (hL : L 0 i) (ha : ad 0 i = a)
    (kk : ph_W p l e R s m args below meth c D CLs dT kd A nL Q L ad (ph_up τ 0 i 4 (b : Int)) cells slots (pc + 3) lv st) : ph_W p l e R s m args below meth c D CLs dT kd A nL Q L ad τ cells slots pc lv (.ref b :: .ref a :: st) := ph_putF (k := 4) (t := 2) C hd (b : Int) hL ha rfl rfl in_J t_J_ok n_J (by decide) rfl rfl tw_24 rfl hin2 rfl rfl (ph_er rfl) rfl rfl kk
theorem pt_J_34 (C : ph_C p s m args c cc nL R_J TB D CLs (TY dT) A KX) (hd : decode cc pc = .ok (.putfield 34, 3)) {i a : Nat} {z : Int} (hL : L 0 i) (ha : ad 0 i = a)
    (kk : ph_W p l e R s m args below meth c D CLs dT kd A nL Q L ad (ph_up τ 0 i 5 z) cells slots (pc + 3) lv st) : ph_W p l e R s m args below meth c D CLs dT kd A nL Q L ad τ cells slots pc lv (.int (ph_i z) :: .ref a :: st) := ph_put (k := 5) (t := 0) C hd z hL ha rfl rfl in_J t_J_ok n_J (by decide) rfl rfl tw_25 rfl rfl rfl rfl rfl kk
theorem pt_J_37 (C : ph_C p s m args c cc nL R_J TB D CLs (TY dT) A KX) (hd : decode cc pc = .ok (.putfield 37, 3)) {i a : Nat} {z : Int} (hL : L 0 i) (ha : ad 0 i = a)
    (kk : ph_W p l e R s m args below meth c D CLs dT kd A nL Q L ad (ph_up τ 0 i 6 z) cells slots (pc + 3) lv st) : ph_W p l e R s m args below meth c D CLs dT kd A nL Q L ad τ cells slots pc lv (.int (ph_i z) :: .ref a :: st) := ph_put (k := 6) (t := 0) C hd z hL ha rfl rfl in_J t_J_ok n_J (by decide) rfl rfl tw_26 rfl rfl rfl rfl rfl kk
theorem pt_J_40 (C : ph_C p s m args c cc nL R_J TB D CLs (TY dT) A KX) (hd : decode cc pc = .ok (.putfield 40, 3)) (hin2 : meth.name = "<init>") {i a b : Nat} (hL : L 0 i) (ha : ad 0 i = a)
    (kk : ph_W p l e R s m args below meth c D CLs dT kd A nL Q L ad (ph_up τ 0 i 7 (b : Int)) cells slots (pc + 3) lv st) : ph_W p l e R s m args below meth c D CLs dT kd A nL Q L ad τ cells slots pc lv (.ref b :: .ref a :: st) := ph_putF (k := 7) (t := 2) C hd (b : Int) hL ha rfl rfl in_J t_J_ok n_J (by decide) rfl rfl tw_27 rfl hin2 rfl rfl (ph_er rfl) rfl rfl kk
theorem pt_J_44 (C : ph_C p s m args c cc nL R_J TB D CLs (TY dT) A KX) (hd : decode cc pc = .ok (.putfield 44, 3)) (hin2 : meth.name = "<init>") {i a b : Nat} (hL : L 0 i) (ha : ad 0 i = a)
    (kk : ph_W p l e R s m args below meth c D CLs dT kd A nL Q L ad (ph_up τ 0 i 8 (b : Int)) cells slots (pc + 3) lv st) : ph_W p l e R s m args below meth c D CLs dT kd A nL Q L ad τ cells slots pc lv (.ref b :: .ref a :: st) := ph_putF (k := 8) (t := 2) C hd (b : Int) hL ha rfl rfl in_J t_J_ok n_J (by decide) rfl rfl tw_28 rfl hin2 rfl rfl (ph_er rfl) rfl rfl kk
theorem pt_J_47 (C : ph_C p s m args c cc nL R_J TB D CLs (TY dT) A KX) (hd : decode cc pc = .ok (.putfield 47, 3)) (hin2 : meth.name = "<init>") {i a b : Nat} (hL : L 0 i) (ha : ad 0 i = a)
    (kk : ph_W p l e R s m args below meth c D CLs dT kd A nL Q L ad (ph_up τ 0 i 9 (b : Int)) cells slots (pc + 3) lv st) : ph_W p l e R s m args below meth c D CLs dT kd A nL Q L ad τ cells slots pc lv (.ref b :: .ref a :: st) := ph_putF (k := 9) (t := 2) C hd (b : Int) hL ha rfl rfl in_J t_J_ok n_J (by decide) rfl rfl tw_29 rfl hin2 rfl rfl (ph_er rfl) rfl rfl kk
theorem pt_J_51 (C : ph_C p s m args c cc nL R_J TB D CLs (TY dT) A KX) (hd : decode cc pc = .ok (.putfield 51, 3)) {i a : Nat} {z : Int} (hL : L 0 i) (ha : ad 0 i = a)
    (kk : ph_W p l e R s m args below meth c D CLs dT kd A nL Q L ad (ph_up τ 0 i 10 z) cells slots (pc + 3) lv st) : ph_W p l e R s m args below meth c D CLs dT kd A nL Q L ad τ cells slots pc lv (.int (ph_i z) :: .ref a :: st) := ph_put (k := 10) (t := 0) C hd z hL ha rfl rfl in_J t_J_ok n_J (by decide) rfl rfl tw_30 rfl rfl rfl rfl rfl kk
theorem pt_J_54 (C : ph_C p s m args c cc nL R_J TB D CLs (TY dT) A KX) (hd : decode cc pc = .ok (.putfield 54, 3)) {i a : Nat} {z : Int} (hL : L 0 i) (ha : ad 0 i = a)
    (kk : ph_W p l e R s m args below meth c D CLs dT kd A nL Q L ad (ph_up τ 0 i 11 z) cells slots (pc + 3) lv st) : ph_W p l e R s m args below meth c D CLs dT kd A nL Q L ad τ cells slots pc lv (.long (ph_l z) :: .ref a :: st) := ph_put (k := 11) (t := 1) C hd z hL ha rfl rfl in_J t_J_ok n_J (by decide) rfl rfl tw_31 rfl rfl rfl rfl rfl kk
theorem gt_J_40 (C : ph_C p s m args c cc nL R_J TB D CLs (TY dT) A KX) (hd : decode cc pc = .ok (.getfield 40, 3)) {i a b : Nat} (hL : L 0 i) (ha : ad 0 i = a) (hz : τ 0 i 7 = (b : Int))
    (kk : ph_W p l e R s m args below meth c D CLs dT kd A nL Q L ad τ cells slots (pc + 3) lv (.ref b :: st)) : ph_W p l e R s m args below meth c D CLs dT kd A nL Q L ad τ cells slots pc lv (.ref a :: st) := ph_get (k := 7) (t := 2) C hd hL ha rfl rfl in_J (by decide) rfl rfl tw_27 (ph_er hz) kk
theorem gt_J_15 (C : ph_C p s m args c cc nL R_J TB D CLs (TY dT) A KX) (hd : decode cc pc = .ok (.getfield 15, 3)) {i a : Nat} {z : Int} (hL : L 0 i) (ha : ad 0 i = a) (hz : τ 0 i 1 = z)
    (kk : ph_W p l e R s m args below meth c D CLs dT kd A nL Q L ad τ cells slots (pc + 3) lv (.int (ph_i z) :: st)) : ph_W p l e R s m args below meth c D CLs dT kd A nL Q L ad τ cells slots pc lv (.ref a :: st) := ph_get (k := 1) (t := 0) C hd hL ha rfl rfl in_J (by decide) rfl rfl tw_21 (ph_e0 hz) kk
theorem gt_J_11 (C : ph_C p s m args c cc nL R_J TB D CLs (TY dT) A KX) (hd : decode cc pc = .ok (.getfield 11, 3)) {i a b : Nat} (hL : L 0 i) (ha : ad 0 i = a) (hz : τ 0 i 0 = (b : Int))
    (kk : ph_W p l e R s m args below meth c D CLs dT kd A nL Q L ad τ cells slots (pc + 3) lv (.ref b :: st)) : ph_W p l e R s m args below meth c D CLs dT kd A nL Q L ad τ cells slots pc lv (.ref a :: st) := ph_get (k := 0) (t := 2) C hd hL ha rfl rfl in_J (by decide) rfl rfl tw_20 (ph_er hz) kk
theorem gt_J_58 (C : ph_C p s m args c cc nL R_J TB D CLs (TY dT) A KX) (hd : decode cc pc = .ok (.getfield 58, 3)) {i a : Nat} {z : Int} (hL : L 1 i) (ha : ad 1 i = a) (hz : τ 1 i 0 = z)
    (kk : ph_W p l e R s m args below meth c D CLs dT kd A nL Q L ad τ cells slots (pc + 3) lv (.long (ph_l z) :: st)) : ph_W p l e R s m args below meth c D CLs dT kd A nL Q L ad τ cells slots pc lv (.ref a :: st) := ph_get (k := 0) (t := 1) C hd hL ha rfl rfl in_S (by decide) rfl rfl tw_71 (ph_e1 hz) kk
theorem gt_J_25 (C : ph_C p s m args c cc nL R_J TB D CLs (TY dT) A KX) (hd : decode cc pc = .ok (.getfield 25, 3)) {i a : Nat} {z : Int} (hL : L 0 i) (ha : ad 0 i = a) (hz : τ 0 i 3 = z)
    (kk : ph_W p l e R s m args below meth c D CLs dT kd A nL Q L ad τ cells slots (pc + 3) lv (.int (ph_i z) :: st)) : ph_W p l e R s m args below meth c D CLs dT kd A nL Q L ad τ cells slots pc lv (.ref a :: st) := ph_get (k := 3) (t := 0) C hd hL ha rfl rfl in_J (by decide) rfl rfl tw_23 (ph_e0 hz) kk
theorem gt_J_21 (C : ph_C p s m args c cc nL R_J TB D CLs (TY dT) A KX) (hd : decode cc pc = .ok (.getfield 21, 3)) {i a b : Nat} (hL : L 0 i) (ha : ad 0 i = a) (hz : τ 0 i 2 = (b : Int))
    (kk : ph_W p l e R s m args below meth c D CLs dT kd A nL Q L ad τ cells slots (pc + 3) lv (.ref b :: st)) : ph_W p l e R s m args below meth c D CLs dT kd A nL Q L ad τ cells slots pc lv (.ref a :: st) := ph_get (k := 2) (t := 2) C hd hL ha rfl rfl in_J (by decide) rfl rfl tw_22 (ph_er hz) kk
theorem gt_J_91 (C : ph_C p s m args c cc nL R_J TB D CLs (TY dT) A KX) (hd : decode cc pc = .ok (.getfield 91, 3)) {i a : Nat} {z : Int} (hL : L 1 i) (ha : ad 1 i = a) (hz : τ 1 i 2 = z)
    (kk : ph_W p l e R s m args below meth c D CLs dT kd A nL Q L ad τ cells slots (pc + 3) lv (.int (ph_i z) :: st)) : ph_W p l e R s m args below meth c D CLs dT kd A nL Q L ad τ cells slots pc lv (.ref a :: st) := ph_get (k := 2) (t := 0) C hd hL ha rfl rfl in_S (by decide) rfl rfl tw_75 (ph_e0 hz) kk
theorem gt_J_34 (C : ph_C p s m args c cc nL R_J TB D CLs (TY dT) A KX) (hd : decode cc pc = .ok (.getfield 34, 3)) {i a : Nat} {z : Int} (hL : L 0 i) (ha : ad 0 i = a) (hz : τ 0 i 5 = z)
    (kk : ph_W p l e R s m args below meth c D CLs dT kd A nL Q L ad τ cells slots (pc + 3) lv (.int (ph_i z) :: st)) : ph_W p l e R s m args below meth c D CLs dT kd A nL Q L ad τ cells slots pc lv (.ref a :: st) := ph_get (k := 5) (t := 0) C hd hL ha rfl rfl in_J (by decide) rfl rfl tw_25 (ph_e0 hz) kk
theorem gt_J_30 (C : ph_C p s m args c cc nL R_J TB D CLs (TY dT) A KX) (hd : decode cc pc = .ok (.getfield 30, 3)) {i a b : Nat} (hL : L 0 i) (ha : ad 0 i = a) (hz : τ 0 i 4 = (b : Int))
    (kk : ph_W p l e R s m args below meth c D CLs dT kd A nL Q L ad τ cells slots (pc + 3) lv (.ref b :: st)) : ph_W p l e R s m args below meth c D CLs dT kd A nL Q L ad τ cells slots pc lv (.ref a :: st) := ph_get (k := 4) (t := 2) C hd hL ha rfl rfl in_J (by decide) rfl rfl tw_24 (ph_er hz) kk
theorem gt_J_111 (C : ph_C p s m args c cc nL R_J TB D CLs (TY dT) A KX) (hd : decode cc pc = .ok (.getfield 111, 3)) {i a : Nat} {z : Int} (hL : L 3 i) (ha : ad 3 i = a) (hz : τ 3 i 1 = z)
    (kk : ph_W p l e R s m args below meth c D CLs dT kd A nL Q L ad τ cells slots (pc + 3) lv (.int (ph_i z) :: st)) : ph_W p l e R s m args below meth c D CLs dT kd A nL Q L ad τ cells slots pc lv (.ref a :: st) := ph_get (k := 1) (t := 0) C hd hL ha rfl rfl in_F (by decide) rfl rfl tw_180 (ph_e0 hz) kk
theorem gt_J_114 (C : ph_C p s m args c cc nL R_J TB D CLs (TY dT) A KX) (hd : decode cc pc = .ok (.getfield 114, 3)) {i a : Nat} {z : Int} (hL : L 3 i) (ha : ad 3 i = a) (hz : τ 3 i 0 = z)
    (kk : ph_W p l e R s m args below meth c D CLs dT kd A nL Q L ad τ cells slots (pc + 3) lv (.int (ph_i z) :: st)) : ph_W p l e R s m args below meth c D CLs dT kd A nL Q L ad τ cells slots pc lv (.ref a :: st) := ph_get (k := 0) (t := 0) C hd hL ha rfl rfl in_F (by decide) rfl rfl tw_178 (ph_e0 hz) kk
theorem gt_J_117 (C : ph_C p s m args c cc nL R_J TB D CLs (TY dT) A KX) (hd : decode cc pc = .ok (.getfield 117, 3)) {i a : Nat} {z : Int} (hL : L 3 i) (ha : ad 3 i = a) (hz : τ 3 i 3 = z)
    (kk : ph_W p l e R s m args below meth c D CLs dT kd A nL Q L ad τ cells slots (pc + 3) lv (.int (ph_i z) :: st)) : ph_W p l e R s m args below meth c D CLs dT kd A nL Q L ad τ cells slots pc lv (.ref a :: st) := ph_get (k := 3) (t := 0) C hd hL ha rfl rfl in_F (by decide) rfl rfl tw_184 (ph_e0 hz) kk
theorem gt_J_37 (C : ph_C p s m args c cc nL R_J TB D CLs (TY dT) A KX) (hd : decode cc pc = .ok (.getfield 37, 3)) {i a : Nat} {z : Int} (hL : L 0 i) (ha : ad 0 i = a) (hz : τ 0 i 6 = z)
    (kk : ph_W p l e R s m args below meth c D CLs dT kd A nL Q L ad τ cells slots (pc + 3) lv (.int (ph_i z) :: st)) : ph_W p l e R s m args below meth c D CLs dT kd A nL Q L ad τ cells slots pc lv (.ref a :: st) := ph_get (k := 6) (t := 0) C hd hL ha rfl rfl in_J (by decide) rfl rfl tw_26 (ph_e0 hz) kk
theorem gt_J_127 (C : ph_C p s m args c cc nL R_J TB D CLs (TY dT) A KX) (hd : decode cc pc = .ok (.getfield 127, 3)) {i a : Nat} {z : Int} (hL : L 3 i) (ha : ad 3 i = a) (hz : τ 3 i 6 = z)
    (kk : ph_W p l e R s m args below meth c D CLs dT kd A nL Q L ad τ cells slots (pc + 3) lv (.int (ph_i z) :: st)) : ph_W p l e R s m args below meth c D CLs dT kd A nL Q L ad τ cells slots pc lv (.ref a :: st) := ph_get (k := 6) (t := 0) C hd hL ha rfl rfl in_F (by decide) rfl rfl tw_190 (ph_e0 hz) kk
theorem pt_J_127 (C : ph_C p s m args c cc nL R_J TB D CLs (TY dT) A KX) (hd : decode cc pc = .ok (.putfield 127, 3)) {i a : Nat} {z : Int} (hL : L 3 i) (ha : ad 3 i = a)
    (kk : ph_W p l e R s m args below meth c D CLs dT kd A nL Q L ad (ph_up τ 3 i 6 z) cells slots (pc + 3) lv st) : ph_W p l e R s m args below meth c D CLs dT kd A nL Q L ad τ cells slots pc lv (.int (ph_i z) :: .ref a :: st) := ph_put (k := 6) (t := 0) C hd z hL ha rfl rfl in_F t_F_ok n_F (by decide) rfl rfl tw_190 rfl rfl rfl rfl rfl kk
theorem gt_J_139 (C : ph_C p s m args c cc nL R_J TB D CLs (TY dT) A KX) (hd : decode cc pc = .ok (.getfield 139, 3)) {i a : Nat} {z : Int} (hL : L 2 i) (ha : ad 2 i = a) (hz : τ 2 i 4 = z)
    (kk : ph_W p l e R s m args below meth c D CLs dT kd A nL Q L ad τ cells slots (pc + 3) lv (.int (ph_i z) :: st)) : ph_W p l e R s m args below meth c D CLs dT kd A nL Q L ad τ cells slots pc lv (.ref a :: st) := ph_get (k := 4) (t := 0) C hd hL ha rfl rfl in_I (by decide) rfl rfl tw_129 (ph_e0 hz) kk
theorem gt_J_142 (C : ph_C p s m args c cc nL R_J TB D CLs (TY dT) A KX) (hd : decode cc pc = .ok (.getfield 142, 3)) {i a : Nat} {z : Int} (hL : L 2 i) (ha : ad 2 i = a) (hz : τ 2 i 3 = z)
    (kk : ph_W p l e R s m args below meth c D CLs dT kd A nL Q L ad τ cells slots (pc + 3) lv (.int (ph_i z) :: st)) : ph_W p l e R s m args below meth c D CLs dT kd A nL Q L ad τ cells slots pc lv (.ref a :: st) := ph_get (k := 3) (t := 0) C hd hL ha rfl rfl in_I (by decide) rfl rfl tw_127 (ph_e0 hz) kk
theorem pt_J_139 (C : ph_C p s m args c cc nL R_J TB D CLs (TY dT) A KX) (hd : decode cc pc = .ok (.putfield 139, 3)) {i a : Nat} {z : Int} (hz : z = 0 ∨ z = 1) (hL : L 2 i) (ha : ad 2 i = a)
    (kk : ph_W p l e R s m args below meth c D CLs dT kd A nL Q L ad (ph_up τ 2 i 4 z) cells slots (pc + 3) lv st) : ph_W p l e R s m args below meth c D CLs dT kd A nL Q L ad τ cells slots pc lv (.int (ph_i z) :: .ref a :: st) := ph_put (k := 4) (t := 0) C hd z hL ha rfl rfl in_I t_I_ok n_I (by decide) rfl rfl tw_129 rfl rfl rfl (ph_bz hz).1 (ph_bz hz).2 kk
theorem gt_J_51 (C : ph_C p s m args c cc nL R_J TB D CLs (TY dT) A KX) (hd : decode cc pc = .ok (.getfield 51, 3)) {i a : Nat} {z : Int} (hL : L 0 i) (ha : ad 0 i = a) (hz : τ 0 i 10 = z)
    (kk : ph_W p l e R s m args below meth c D CLs dT kd A nL Q L ad τ cells slots (pc + 3) lv (.int (ph_i z) :: st)) : ph_W p l e R s m args below meth c D CLs dT kd A nL Q L ad τ cells slots pc lv (.ref a :: st) := ph_get (k := 10) (t := 0) C hd hL ha rfl rfl in_J (by decide) rfl rfl tw_30 (ph_e0 hz) kk
theorem gt_J_47 (C : ph_C p s m args c cc nL R_J TB D CLs (TY dT) A KX) (hd : decode cc pc = .ok (.getfield 47, 3)) {i a b : Nat} (hL : L 0 i) (ha : ad 0 i = a) (hz : τ 0 i 9 = (b : Int))
    (kk : ph_W p l e R s m args below meth c D CLs dT kd A nL Q L ad τ cells slots (pc + 3) lv (.ref b :: st)) : ph_W p l e R s m args below meth c D CLs dT kd A nL Q L ad τ cells slots pc lv (.ref a :: st) := ph_get (k := 9) (t := 2) C hd hL ha rfl rfl in_J (by decide) rfl rfl tw_29 (ph_er hz) kk
theorem gt_J_44 (C : ph_C p s m args c cc nL R_J TB D CLs (TY dT) A KX) (hd : decode cc pc = .ok (.getfield 44, 3)) {i a b : Nat} (hL : L 0 i) (ha : ad 0 i = a) (hz : τ 0 i 8 = (b : Int))
    (kk : ph_W p l e R s m args below meth c D CLs dT kd A nL Q L ad τ cells slots (pc + 3) lv (.ref b :: st)) : ph_W p l e R s m args below meth c D CLs dT kd A nL Q L ad τ cells slots pc lv (.ref a :: st) := ph_get (k := 8) (t := 2) C hd hL ha rfl rfl in_J (by decide) rfl rfl tw_28 (ph_er hz) kk
theorem gt_J_163 (C : ph_C p s m args c cc nL R_J TB D CLs (TY dT) A KX) (hd : decode cc pc = .ok (.getfield 163, 3)) {i a : Nat} {z : Int} (hL : L 3 i) (ha : ad 3 i = a) (hz : τ 3 i 2 = z)
    (kk : ph_W p l e R s m args below meth c D CLs dT kd A nL Q L ad τ cells slots (pc + 3) lv (.long (ph_l z) :: st)) : ph_W p l e R s m args below meth c D CLs dT kd A nL Q L ad τ cells slots pc lv (.ref a :: st) := ph_get (k := 2) (t := 1) C hd hL ha rfl rfl in_F (by decide) rfl rfl tw_182 (ph_e1 hz) kk
theorem gt_J_166 (C : ph_C p s m args c cc nL R_J TB D CLs (TY dT) A KX) (hd : decode cc pc = .ok (.getfield 166, 3)) {i a : Nat} {z : Int} (hL : L 1 i) (ha : ad 1 i = a) (hz : τ 1 i 1 = z)
    (kk : ph_W p l e R s m args below meth c D CLs dT kd A nL Q L ad τ cells slots (pc + 3) lv (.int (ph_i z) :: st)) : ph_W p l e R s m args below meth c D CLs dT kd A nL Q L ad τ cells slots pc lv (.ref a :: st) := ph_get (k := 1) (t := 0) C hd hL ha rfl rfl in_S (by decide) rfl rfl tw_73 (ph_e0 hz) kk
theorem gt_J_169 (C : ph_C p s m args c cc nL R_J TB D CLs (TY dT) A KX) (hd : decode cc pc = .ok (.getfield 169, 3)) {i a : Nat} {z : Int} (hL : L 3 i) (ha : ad 3 i = a) (hz : τ 3 i 4 = z)
    (kk : ph_W p l e R s m args below meth c D CLs dT kd A nL Q L ad τ cells slots (pc + 3) lv (.int (ph_i z) :: st)) : ph_W p l e R s m args below meth c D CLs dT kd A nL Q L ad τ cells slots pc lv (.ref a :: st) := ph_get (k := 4) (t := 0) C hd hL ha rfl rfl in_F (by decide) rfl rfl tw_186 (ph_e0 hz) kk
theorem gt_J_54 (C : ph_C p s m args c cc nL R_J TB D CLs (TY dT) A KX) (hd : decode cc pc = .ok (.getfield 54, 3)) {i a : Nat} {z : Int} (hL : L 0 i) (ha : ad 0 i = a) (hz : τ 0 i 11 = z)
    (kk : ph_W p l e R s m args below meth c D CLs dT kd A nL Q L ad τ cells slots (pc + 3) lv (.long (ph_l z) :: st)) : ph_W p l e R s m args below meth c D CLs dT kd A nL Q L ad τ cells slots pc lv (.ref a :: st) := ph_get (k := 11) (t := 1) C hd hL ha rfl rfl in_J (by decide) rfl rfl tw_31 (ph_e1 hz) kk
theorem gt_J_174 (C : ph_C p s m args c cc nL R_J TB D CLs (TY dT) A KX) (hd : decode cc pc = .ok (.getfield 174, 3)) {i a : Nat} {z : Int} (hL : L 2 i) (ha : ad 2 i = a) (hz : τ 2 i 1 = z)
    (kk : ph_W p l e R s m args below meth c D CLs dT kd A nL Q L ad τ cells slots (pc + 3) lv (.long (ph_l z) :: st)) : ph_W p l e R s m args below meth c D CLs dT kd A nL Q L ad τ cells slots pc lv (.ref a :: st) := ph_get (k := 1) (t := 1) C hd hL ha rfl rfl in_I (by decide) rfl rfl tw_123 (ph_e1 hz) kk
theorem gt_J_177 (C : ph_C p s m args c cc nL R_J TB D CLs (TY dT) A KX) (hd : decode cc pc = .ok (.getfield 177, 3)) {i a : Nat} {z : Int} (hL : L 2 i) (ha : ad 2 i = a) (hz : τ 2 i 0 = z)
    (kk : ph_W p l e R s m args below meth c D CLs dT kd A nL Q L ad τ cells slots (pc + 3) lv (.long (ph_l z) :: st)) : ph_W p l e R s m args below meth c D CLs dT kd A nL Q L ad τ cells slots pc lv (.ref a :: st) := ph_get (k := 0) (t := 1) C hd hL ha rfl rfl in_I (by decide) rfl rfl tw_121 (ph_e1 hz) kk
theorem gt_J_182 (C : ph_C p s m args c cc nL R_J TB D CLs (TY dT) A KX) (hd : decode cc pc = .ok (.getfield 182, 3)) {i a : Nat} {z : Int} (hL : L 1 i) (ha : ad 1 i = a) (hz : τ 1 i 5 = z)
    (kk : ph_W p l e R s m args below meth c D CLs dT kd A nL Q L ad τ cells slots (pc + 3) lv (.int (ph_i z) :: st)) : ph_W p l e R s m args below meth c D CLs dT kd A nL Q L ad τ cells slots pc lv (.ref a :: st) := ph_get (k := 5) (t := 0) C hd hL ha rfl rfl in_S (by decide) rfl rfl tw_81 (ph_e0 hz) kk
theorem gt_J_185 (C : ph_C p s m args c cc nL R_J TB D CLs (TY dT) A KX) (hd : decode cc pc = .ok (.getfield 185, 3)) {i a : Nat} {z : Int} (hL : L 1 i) (ha : ad 1 i = a) (hz : τ 1 i 4 = z)
    (kk : ph_W p l e R s m args below meth c D CLs dT kd A nL Q L ad τ cells slots (pc + 3) lv (.long (ph_l z) :: st)) : ph_W p l e R s m args below meth c D CLs dT kd A nL Q L ad τ cells slots pc lv (.ref a :: st) := ph_get (k := 4) (t := 1) C hd hL ha rfl rfl in_S (by decide) rfl rfl tw_79 (ph_e1 hz) kk
theorem pt_J_182 (C : ph_C p s m args c cc nL R_J TB D CLs (TY dT) A KX) (hd : decode cc pc = .ok (.putfield 182, 3)) {i a : Nat} {z : Int} (hz : z = 0 ∨ z = 1) (hL : L 1 i) (ha : ad 1 i = a)
    (kk : ph_W p l e R s m args below meth c D CLs dT kd A nL Q L ad (ph_up τ 1 i 5 z) cells slots (pc + 3) lv st) : ph_W p l e R s m args below meth c D CLs dT kd A nL Q L ad τ cells slots pc lv (.int (ph_i z) :: .ref a :: st) := ph_put (k := 5) (t := 0) C hd z hL ha rfl rfl in_S t_S_ok n_S (by decide) rfl rfl tw_81 rfl rfl rfl (ph_bz hz).1 (ph_bz hz).2 kk
theorem gt_J_194 (C : ph_C p s m args c cc nL R_J TB D CLs (TY dT) A KX) (hd : decode cc pc = .ok (.getfield 194, 3)) {i a : Nat} {z : Int} (hL : L 1 i) (ha : ad 1 i = a) (hz : τ 1 i 3 = z)
    (kk : ph_W p l e R s m args below meth c D CLs dT kd A nL Q L ad τ cells slots (pc + 3) lv (.int (ph_i z) :: st)) : ph_W p l e R s m args below meth c D CLs dT kd A nL Q L ad τ cells slots pc lv (.ref a :: st) := ph_get (k := 3) (t := 0) C hd hL ha rfl rfl in_S (by decide) rfl rfl tw_77 (ph_e0 hz) kk
theorem pt_J_166 (C : ph_C p s m args c cc nL R_J TB D CLs (TY dT) A KX) (hd : decode cc pc = .ok (.putfield 166, 3)) {i a : Nat} {z : Int} (hL : L 1 i) (ha : ad 1 i = a)
    (kk : ph_W p l e R s m args below meth c D CLs dT kd A nL Q L ad (ph_up τ 1 i 1 z) cells slots (pc + 3) lv st) : ph_W p l e R s m args below meth c D CLs dT kd A nL Q L ad τ cells slots pc lv (.int (ph_i z) :: .ref a :: st) := ph_put (k := 1) (t := 0) C hd z hL ha rfl rfl in_S t_S_ok n_S (by decide) rfl rfl tw_73 rfl rfl rfl rfl rfl kk
theorem pt_J_117 (C : ph_C p s m args c cc nL R_J TB D CLs (TY dT) A KX) (hd : decode cc pc = .ok (.putfield 117, 3)) {i a : Nat} {z : Int} (hz : z = 0 ∨ z = 1) (hL : L 3 i) (ha : ad 3 i = a)
    (kk : ph_W p l e R s m args below meth c D CLs dT kd A nL Q L ad (ph_up τ 3 i 3 z) cells slots (pc + 3) lv st) : ph_W p l e R s m args below meth c D CLs dT kd A nL Q L ad τ cells slots pc lv (.int (ph_i z) :: .ref a :: st) := ph_put (k := 3) (t := 0) C hd z hL ha rfl rfl in_F t_F_ok n_F (by decide) rfl rfl tw_184 rfl rfl rfl (ph_bz hz).1 (ph_bz hz).2 kk
theorem pt_J_169 (C : ph_C p s m args c cc nL R_J TB D CLs (TY dT) A KX) (hd : decode cc pc = .ok (.putfield 169, 3)) {i a : Nat} {z : Int} (hz : z = 0 ∨ z = 1) (hL : L 3 i) (ha : ad 3 i = a)
    (kk : ph_W p l e R s m args below meth c D CLs dT kd A nL Q L ad (ph_up τ 3 i 4 z) cells slots (pc + 3) lv st) : ph_W p l e R s m args below meth c D CLs dT kd A nL Q L ad τ cells slots pc lv (.int (ph_i z) :: .ref a :: st) := ph_put (k := 4) (t := 0) C hd z hL ha rfl rfl in_F t_F_ok n_F (by decide) rfl rfl tw_186 rfl rfl rfl (ph_bz hz).1 (ph_bz hz).2 kk
theorem pt_J_251 (C : ph_C p s m args c cc nL R_J TB D CLs (TY dT) A KX) (hd : decode cc pc = .ok (.putfield 251, 3)) {i a : Nat} {z : Int} (hL : L 3 i) (ha : ad 3 i = a)
    (kk : ph_W p l e R s m args below meth c D CLs dT kd A nL Q L ad (ph_up τ 3 i 5 z) cells slots (pc + 3) lv st) : ph_W p l e R s m args below meth c D CLs dT kd A nL Q L ad τ cells slots pc lv (.long (ph_l z) :: .ref a :: st) := ph_put (k := 5) (t := 1) C hd z hL ha rfl rfl in_F t_F_ok n_F (by decide) rfl rfl tw_188 rfl rfl rfl rfl rfl kk
theorem gt_J_278 (C : ph_C p s m args c cc nL R_J TB D CLs (TY dT) A KX) (hd : decode cc pc = .ok (.getfield 278, 3)) {i a : Nat} {z : Int} (hL : L 2 i) (ha : ad 2 i = a) (hz : τ 2 i 2 = z)
    (kk : ph_W p l e R s m args below meth c D CLs dT kd A nL Q L ad τ cells slots (pc + 3) lv (.int (ph_i z) :: st)) : ph_W p l e R s m args below meth c D CLs dT kd A nL Q L ad τ cells slots pc lv (.ref a :: st) := ph_get (k := 2) (t := 0) C hd hL ha rfl rfl in_I (by decide) rfl rfl tw_125 (ph_e0 hz) kk
theorem pt_J_142 (C : ph_C p s m args c cc nL R_J TB D CLs (TY dT) A KX) (hd : decode cc pc = .ok (.putfield 142, 3)) {i a : Nat} {z : Int} (hz : z = 0 ∨ z = 1) (hL : L 2 i) (ha : ad 2 i = a)
    (kk : ph_W p l e R s m args below meth c D CLs dT kd A nL Q L ad (ph_up τ 2 i 3 z) cells slots (pc + 3) lv st) : ph_W p l e R s m args below meth c D CLs dT kd A nL Q L ad τ cells slots pc lv (.int (ph_i z) :: .ref a :: st) := ph_put (k := 3) (t := 0) C hd z hL ha rfl rfl in_I t_I_ok n_I (by decide) rfl rfl tw_127 rfl rfl rfl (ph_bz hz).1 (ph_bz hz).2 kk
theorem pt_F_9 (C : ph_C p s m args c cc nL R_F TB D CLs (TY dT) A KX) (hd : decode cc pc = .ok (.putfield 9, 3)) {i a : Nat} {z : Int} (hz : z = 0 ∨ z = 1) (hL : L 3 i) (ha : ad 3 i = a)
    (kk : ph_W p l e R s m args below meth c D CLs dT kd A nL Q L ad (ph_up τ 3 i 3 z) cells slots (pc + 3) lv st) : ph_W p l e R s m args below meth c D CLs dT kd A nL Q L ad τ cells slots pc lv (.int (ph_i z) :: .ref a :: st) := ph_put (k := 3) (t := 0) C hd z hL ha rfl rfl in_F t_F_ok n_F (by decide) rfl rfl tw_183 rfl rfl rfl (ph_bz hz).1 (ph_bz hz).2 kk
theorem pt_F_15 (C : ph_C p s m args c cc nL R_F TB D CLs (TY dT) A KX) (hd : decode cc pc = .ok (.putfield 15, 3)) {i a : Nat} {z : Int} (hz : z = 0 ∨ z = 1) (hL : L 3 i) (ha : ad 3 i = a)
    (kk : ph_W p l e R s m args below meth c D CLs dT kd A nL Q L ad (ph_up τ 3 i 4 z) cells slots (pc + 3) lv st) : ph_W p l e R s m args below meth c D CLs dT kd A nL Q L ad τ cells slots pc lv (.int (ph_i z) :: .ref a :: st) := ph_put (k := 4) (t := 0) C hd z hL ha rfl rfl in_F t_F_ok n_F (by decide) rfl rfl tw_185 rfl rfl rfl (ph_bz hz).1 (ph_bz hz).2 kk
theorem pt_F_18 (C : ph_C p s m args c cc nL R_F TB D CLs (TY dT) A KX) (hd : decode cc pc = .ok (.putfield 18, 3)) {i a : Nat} {z : Int} (hL : L 3 i) (ha : ad 3 i = a)
    (kk : ph_W p l e R s m args below meth c D CLs dT kd A nL Q L ad (ph_up τ 3 i 5 z) cells slots (pc + 3) lv st) : ph_W p l e R s m args below meth c D CLs dT kd A nL Q L ad τ cells slots pc lv (.long (ph_l z) :: .ref a :: st) := ph_put (k := 5) (t := 1) C hd z hL ha rfl rfl in_F t_F_ok n_F (by decide) rfl rfl tw_187 rfl rfl rfl rfl rfl kk
theorem pt_F_22 (C : ph_C p s m args c cc nL R_F TB D CLs (TY dT) A KX) (hd : decode cc pc = .ok (.putfield 22, 3)) {i a : Nat} {z : Int} (hL : L 3 i) (ha : ad 3 i = a)
    (kk : ph_W p l e R s m args below meth c D CLs dT kd A nL Q L ad (ph_up τ 3 i 6 z) cells slots (pc + 3) lv st) : ph_W p l e R s m args below meth c D CLs dT kd A nL Q L ad τ cells slots pc lv (.int (ph_i z) :: .ref a :: st) := ph_put (k := 6) (t := 0) C hd z hL ha rfl rfl in_F t_F_ok n_F (by decide) rfl rfl tw_189 rfl rfl rfl rfl rfl kk
theorem pt_F_26 (C : ph_C p s m args c cc nL R_F TB D CLs (TY dT) A KX) (hd : decode cc pc = .ok (.putfield 26, 3)) (hin2 : meth.name = "<init>") {i a : Nat} {z : Int} (hL : L 3 i) (ha : ad 3 i = a)
    (kk : ph_W p l e R s m args below meth c D CLs dT kd A nL Q L ad (ph_up τ 3 i 0 z) cells slots (pc + 3) lv st) : ph_W p l e R s m args below meth c D CLs dT kd A nL Q L ad τ cells slots pc lv (.int (ph_i z) :: .ref a :: st) := ph_putF (k := 0) (t := 0) C hd z hL ha rfl rfl in_F t_F_ok n_F (by decide) rfl rfl tw_177 rfl hin2 rfl rfl rfl rfl rfl kk
theorem pt_F_29 (C : ph_C p s m args c cc nL R_F TB D CLs (TY dT) A KX) (hd : decode cc pc = .ok (.putfield 29, 3)) (hin2 : meth.name = "<init>") {i a : Nat} {z : Int} (hL : L 3 i) (ha : ad 3 i = a)
    (kk : ph_W p l e R s m args below meth c D CLs dT kd A nL Q L ad (ph_up τ 3 i 1 z) cells slots (pc + 3) lv st) : ph_W p l e R s m args below meth c D CLs dT kd A nL Q L ad τ cells slots pc lv (.int (ph_i z) :: .ref a :: st) := ph_putF (k := 1) (t := 0) C hd z hL ha rfl rfl in_F t_F_ok n_F (by decide) rfl rfl tw_179 rfl hin2 rfl rfl rfl rfl rfl kk
theorem pt_F_32 (C : ph_C p s m args c cc nL R_F TB D CLs (TY dT) A KX) (hd : decode cc pc = .ok (.putfield 32, 3)) (hin2 : meth.name = "<init>") {i a : Nat} {z : Int} (hL : L 3 i) (ha : ad 3 i = a)
    (kk : ph_W p l e R s m args below meth c D CLs dT kd A nL Q L ad (ph_up τ 3 i 2 z) cells slots (pc + 3) lv st) : ph_W p l e R s m args below meth c D CLs dT kd A nL Q L ad τ cells slots pc lv (.long (ph_l z) :: .ref a :: st) := ph_putF (k := 2) (t := 1) C hd z hL ha rfl rfl in_F t_F_ok n_F (by decide) rfl rfl tw_181 rfl hin2 rfl rfl rfl rfl rfl kk
theorem gt_F_18 (C : ph_C p s m args c cc nL R_F TB D CLs (TY dT) A KX) (hd : decode cc pc = .ok (.getfield 18, 3)) {i a : Nat} {z : Int} (hL : L 3 i) (ha : ad 3 i = a) (hz : τ 3 i 5 = z)
    (kk : ph_W p l e R s m args below meth c D CLs dT kd A nL Q L ad τ cells slots (pc + 3) lv (.long (ph_l z) :: st)) : ph_W p l e R s m args below meth c D CLs dT kd A nL Q L ad τ cells slots pc lv (.ref a :: st) := ph_get (k := 5) (t := 1) C hd hL ha rfl rfl in_F (by decide) rfl rfl tw_187 (ph_e1 hz) kk
theorem gt_F_9 (C : ph_C p s m args c cc nL R_F TB D CLs (TY dT) A KX) (hd : decode cc pc = .ok (.getfield 9, 3)) {i a : Nat} {z : Int} (hL : L 3 i) (ha : ad 3 i = a) (hz : τ 3 i 3 = z)
    (kk : ph_W p l e R s m args below meth c D CLs dT kd A nL Q L ad τ cells slots (pc + 3) lv (.int (ph_i z) :: st)) : ph_W p l e R s m args below meth c D CLs dT kd A nL Q L ad τ cells slots pc lv (.ref a :: st) := ph_get (k := 3) (t := 0) C hd hL ha rfl rfl in_F (by decide) rfl rfl tw_183 (ph_e0 hz) kk
theorem gt_F_26 (C : ph_C p s m args c cc nL R_F TB D CLs (TY dT) A KX) (hd : decode cc pc = .ok (.getfield 26, 3)) {i a : Nat} {z : Int} (hL : L 3 i) (ha : ad 3 i = a) (hz : τ 3 i 0 = z)
    (kk : ph_W p l e R s m args below meth c D CLs dT kd A nL Q L ad τ cells slots (pc + 3) lv (.int (ph_i z) :: st)) : ph_W p l e R s m args below meth c D CLs dT kd A nL Q L ad τ cells slots pc lv (.ref a :: st) := ph_get (k := 0) (t := 0) C hd hL ha rfl rfl in_F (by decide) rfl rfl tw_177 (ph_e0 hz) kk
theorem pt_I_9 (C : ph_C p s m args c cc nL R_I TB D CLs (TY dT) A KX) (hd : decode cc pc = .ok (.putfield 9, 3)) {i a : Nat} {z : Int} (hL : L 2 i) (ha : ad 2 i = a)
    (kk : ph_W p l e R s m args below meth c D CLs dT kd A nL Q L ad (ph_up τ 2 i 2 z) cells slots (pc + 3) lv st) : ph_W p l e R s m args below meth c D CLs dT kd A nL Q L ad τ cells slots pc lv (.int (ph_i z) :: .ref a :: st) := ph_put (k := 2) (t := 0) C hd z hL ha rfl rfl in_I t_I_ok n_I (by decide) rfl rfl tw_124 rfl rfl rfl rfl rfl kk
theorem pt_I_15 (C : ph_C p s m args c cc nL R_I TB D CLs (TY dT) A KX) (hd : decode cc pc = .ok (.putfield 15, 3)) {i a : Nat} {z : Int} (hz : z = 0 ∨ z = 1) (hL : L 2 i) (ha : ad 2 i = a)
    (kk : ph_W p l e R s m args below meth c D CLs dT kd A nL Q L ad (ph_up τ 2 i 3 z) cells slots (pc + 3) lv st) : ph_W p l e R s m args below meth c D CLs dT kd A nL Q L ad τ cells slots pc lv (.int (ph_i z) :: .ref a :: st) := ph_put (k := 3) (t := 0) C hd z hL ha rfl rfl in_I t_I_ok n_I (by decide) rfl rfl tw_126 rfl rfl rfl (ph_bz hz).1 (ph_bz hz).2 kk
theorem pt_I_19 (C : ph_C p s m args c cc nL R_I TB D CLs (TY dT) A KX) (hd : decode cc pc = .ok (.putfield 19, 3)) {i a : Nat} {z : Int} (hz : z = 0 ∨ z = 1) (hL : L 2 i) (ha : ad 2 i = a)
    (kk : ph_W p l e R s m args below meth c D CLs dT kd A nL Q L ad (ph_up τ 2 i 4 z) cells slots (pc + 3) lv st) : ph_W p l e R s m args below meth c D CLs dT kd A nL Q L ad τ cells slots pc lv (.int (ph_i z) :: .ref a :: st) := ph_put (k := 4) (t := 0) C hd z hL ha rfl rfl in_I t_I_ok n_I (by decide) rfl rfl tw_128 rfl rfl rfl (ph_bz hz).1 (ph_bz hz).2 kk
theorem pt_I_22 (C : ph_C p s m args c cc nL R_I TB D CLs (TY dT) A KX) (hd : decode cc pc = .ok (.putfield 22, 3)) {i a : Nat} {z : Int} (hL : L 2 i) (ha : ad 2 i = a)
    (kk : ph_W p l e R s m args below meth c D CLs dT kd A nL Q L ad (ph_up τ 2 i 5 z) cells slots (pc + 3) lv st) : ph_W p l e R s m args below meth c D CLs dT kd A nL Q L ad τ cells slots pc lv (.int (ph_i z) :: .ref a :: st) := ph_put (k := 5) (t := 0) C hd z hL ha rfl rfl in_I t_I_ok n_I (by decide) rfl rfl tw_130 rfl rfl rfl rfl rfl kk
theorem pt_I_25 (C : ph_C p s m args c cc nL R_I TB D CLs (TY dT) A KX) (hd : decode cc pc = .ok (.putfield 25, 3)) {i a : Nat} {z : Int} (hL : L 2 i) (ha : ad 2 i = a)
    (kk : ph_W p l e R s m args below meth c D CLs dT kd A nL Q L ad (ph_up τ 2 i 6 z) cells slots (pc + 3) lv st) : ph_W p l e R s m args below meth c D CLs dT kd A nL Q L ad τ cells slots pc lv (.int (ph_i z) :: .ref a :: st) := ph_put (k := 6) (t := 0) C hd z hL ha rfl rfl in_I t_I_ok n_I (by decide) rfl rfl tw_131 rfl rfl rfl rfl rfl kk
theorem pt_I_28 (C : ph_C p s m args c cc nL R_I TB D CLs (TY dT) A KX) (hd : decode cc pc = .ok (.putfield 28, 3)) (hin2 : meth.name = "<init>") {i a : Nat} {z : Int} (hL : L 2 i) (ha : ad 2 i = a)
    (kk : ph_W p l e R s m args below meth c D CLs dT kd A nL Q L ad (ph_up τ 2 i 0 z) cells slots (pc + 3) lv st) : ph_W p l e R s m args below meth c D CLs dT kd A nL Q L ad τ cells slots pc lv (.long (ph_l z) :: .ref a :: st) := ph_putF (k := 0) (t := 1) C hd z hL ha rfl rfl in_I t_I_ok n_I (by decide) rfl rfl tw_120 rfl hin2 rfl rfl rfl rfl rfl kk
theorem pt_I_32 (C : ph_C p s m args c cc nL R_I TB D CLs (TY dT) A KX) (hd : decode cc pc = .ok (.putfield 32, 3)) (hin2 : meth.name = "<init>") {i a : Nat} {z : Int} (hL : L 2 i) (ha : ad 2 i = a)
    (kk : ph_W p l e R s m args below meth c D CLs dT kd A nL Q L ad (ph_up τ 2 i 1 z) cells slots (pc + 3) lv st) : ph_W p l e R s m args below meth c D CLs dT kd A nL Q L ad τ cells slots pc lv (.long (ph_l z) :: .ref a :: st) := ph_putF (k := 1) (t := 1) C hd z hL ha rfl rfl in_I t_I_ok n_I (by decide) rfl rfl tw_122 rfl hin2 rfl rfl rfl rfl rfl kk
theorem gt_I_22 (C : ph_C p s m args c cc nL R_I TB D CLs (TY dT) A KX) (hd : decode cc pc = .ok (.getfield 22, 3)) {i a : Nat} {z : Int} (hL : L 2 i) (ha : ad 2 i = a) (hz : τ 2 i 5 = z)
    (kk : ph_W p l e R s m args below meth c D CLs dT kd A nL Q L ad τ cells slots (pc + 3) lv (.int (ph_i z) :: st)) : ph_W p l e R s m args below meth c D CLs dT kd A nL Q L ad τ cells slots pc lv (.ref a :: st) := ph_get (k := 5) (t := 0) C hd hL ha rfl rfl in_I (by decide) rfl rfl tw_130 (ph_e0 hz) kk
theorem gt_I_25 (C : ph_C p s m args c cc nL R_I TB D CLs (TY dT) A KX) (hd : decode cc pc = .ok (.getfield 25, 3)) {i a : Nat} {z : Int} (hL : L 2 i) (ha : ad 2 i = a) (hz : τ 2 i 6 = z)
    (kk : ph_W p l e R s m args below meth c D CLs dT kd A nL Q L ad τ cells slots (pc + 3) lv (.int (ph_i z) :: st)) : ph_W p l e R s m args below meth c D CLs dT kd A nL Q L ad τ cells slots pc lv (.ref a :: st) := ph_get (k := 6) (t := 0) C hd hL ha rfl rfl in_I (by decide) rfl rfl tw_131 (ph_e0 hz) kk
theorem pt_S_9 (C : ph_C p s m args c cc nL R_S TB D CLs (TY dT) A KX) (hd : decode cc pc = .ok (.putfield 9, 3)) {i a : Nat} {z : Int} (hL : L 1 i) (ha : ad 1 i = a)
    (kk : ph_W p l e R s m args below meth c D CLs dT kd A nL Q L ad (ph_up τ 1 i 1 z) cells slots (pc + 3) lv st) : ph_W p l e R s m args below meth c D CLs dT kd A nL Q L ad τ cells slots pc lv (.int (ph_i z) :: .ref a :: st) := ph_put (k := 1) (t := 0) C hd z hL ha rfl rfl in_S t_S_ok n_S (by decide) rfl rfl tw_72 rfl rfl rfl rfl rfl kk
theorem pt_S_15 (C : ph_C p s m args c cc nL R_S TB D CLs (TY dT) A KX) (hd : decode cc pc = .ok (.putfield 15, 3)) {i a : Nat} {z : Int} (hz : z = 0 ∨ z = 1) (hL : L 1 i) (ha : ad 1 i = a)
    (kk : ph_W p l e R s m args below meth c D CLs dT kd A nL Q L ad (ph_up τ 1 i 2 z) cells slots (pc + 3) lv st) : ph_W p l e R s m args below meth c D CLs dT kd A nL Q L ad τ cells slots pc lv (.int (ph_i z) :: .ref a :: st) := ph_put (k := 2) (t := 0) C hd z hL ha rfl rfl in_S t_S_ok n_S (by decide) rfl rfl tw_74 rfl rfl rfl (ph_bz hz).1 (ph_bz hz).2 kk
theorem pt_S_19 (C : ph_C p s m args c cc nL R_S TB D CLs (TY dT) A KX) (hd : decode cc pc = .ok (.putfield 19, 3)) {i a : Nat} {z : Int} (hL : L 1 i) (ha : ad 1 i = a)
    (kk : ph_W p l e R s m args below meth c D CLs dT kd A nL Q L ad (ph_up τ 1 i 3 z) cells slots (pc + 3) lv st) : ph_W p l e R s m args below meth c D CLs dT kd A nL Q L ad τ cells slots pc lv (.int (ph_i z) :: .ref a :: st) := ph_put (k := 3) (t := 0) C hd z hL ha rfl rfl in_S t_S_ok n_S (by decide) rfl rfl tw_76 rfl rfl rfl rfl rfl kk
theorem pt_S_22 (C : ph_C p s m args c cc nL R_S TB D CLs (TY dT) A KX) (hd : decode cc pc = .ok (.putfield 22, 3)) {i a : Nat} {z : Int} (hL : L 1 i) (ha : ad 1 i = a)
    (kk : ph_W p l e R s m args below meth c D CLs dT kd A nL Q L ad (ph_up τ 1 i 4 z) cells slots (pc + 3) lv st) : ph_W p l e R s m args below meth c D CLs dT kd A nL Q L ad τ cells slots pc lv (.long (ph_l z) :: .ref a :: st) := ph_put (k := 4) (t := 1) C hd z hL ha rfl rfl in_S t_S_ok n_S (by decide) rfl rfl tw_78 rfl rfl rfl rfl rfl kk
theorem pt_S_26 (C : ph_C p s m args c cc nL R_S TB D CLs (TY dT) A KX) (hd : decode cc pc = .ok (.putfield 26, 3)) {i a : Nat} {z : Int} (hz : z = 0 ∨ z = 1) (hL : L 1 i) (ha : ad 1 i = a)
    (kk : ph_W p l e R s m args below meth c D CLs dT kd A nL Q L ad (ph_up τ 1 i 5 z) cells slots (pc + 3) lv st) : ph_W p l e R s m args below meth c D CLs dT kd A nL Q L ad τ cells slots pc lv (.int (ph_i z) :: .ref a :: st) := ph_put (k := 5) (t := 0) C hd z hL ha rfl rfl in_S t_S_ok n_S (by decide) rfl rfl tw_80 rfl rfl rfl (ph_bz hz).1 (ph_bz hz).2 kk
theorem pt_S_29 (C : ph_C p s m args c cc nL R_S TB D CLs (TY dT) A KX) (hd : decode cc pc = .ok (.putfield 29, 3)) (hin2 : meth.name = "<init>") {i a : Nat} {z : Int} (hL : L 1 i) (ha : ad 1 i = a)
    (kk : ph_W p l e R s m args below meth c D CLs dT kd A nL Q L ad (ph_up τ 1 i 0 z) cells slots (pc + 3) lv st) : ph_W p l e R s m args below meth c D CLs dT kd A nL Q L ad τ cells slots pc lv (.long (ph_l z) :: .ref a :: st) := ph_putF (k := 0) (t := 1) C hd z hL ha rfl rfl in_S t_S_ok n_S (by decide) rfl rfl tw_70 rfl hin2 rfl rfl rfl rfl rfl kk
end SCH
