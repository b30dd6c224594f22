/-! ===== reads of the class ===== -/
set_option maxHeartbeats 4000000 in
set_option maxRecDepth 100000 in
theorem c_J_isSensor (l : Launch) (D : va_G) (dT : Nat → ClassId) (A : Nat → Prop) (KX : State → Prop) (L : Nat → Nat → Prop) (ad : Nat → Nat → Nat) (τ : ph_T) (S : ph_T) (o : Nat) (hI : JR S o L ad τ) (hV : IV S) (x : Int) (hx : ph_ri x) : ph_M l y_J_isSensor (.code y_J_isSensor b_J_isSensor 2 (some .boolean) :: TB) ({ frames := 0, cells := 0, slots := 0, locals := 0 } : Room) D CLs (TY dT) dT kd A KX [.ref (o), .int (ph_i (x))] L ad τ (fun r L' ad' τ' => L' = L ∧ ad' = ad ∧ τ' = τ ∧ r = some (.int (ph_i (ph_b (0 ≤ x ∧ x < S 0 0 1))))) 0 0 := by
  refine ph_M.of (cc := b_J_isSensor) (maxL := 2) (ret := (some .boolean)) (by decide) rfl (Nat.le_of_ble_eq_true rfl) ?_
  intro p e s m below meth c C0 hr hlk hnm
  have C := C0.sub
  refine ph_loc (l2 := [(0, .ref (o)), (1, .int (ph_i (x)))]) ⟨rfl, rfl, trivial⟩ ?_
  have hc := hV.c
  refine ph_iload_n (pc := 0) C d_J_isSensor_0 rfl ?_
  refine ph_if_lt (pc := 1) (tgt := 16) C d_J_isSensor_1 (by decide) (by omega) (fun c1 => ?_) (fun c1 => ?_)
  · refine ph_iconst (pc := 16) C d_J_isSensor_16 ?_
    exact ph_iret (pc := 17) C d_J_isSensor_17 hr hlk (by decide) (by decide) (by decide) ⟨rfl, rfl, rfl, (ph_bf (by omega))⟩
  · refine ph_iload_n (pc := 4) C d_J_isSensor_4 rfl ?_
    refine ph_aload_n (pc := 5) C d_J_isSensor_5 rfl ?_
    refine gt_J_15 (pc := 6) C d_J_isSensor_6 (hI.live (g := 0) (i := 0) rfl) hI.ob (hI.dat rfl rfl) ?_
    refine ph_icmp_ge (pc := 9) (tgt := 16) C d_J_isSensor_9 (by decide) (by omega) (by omega) (fun c9 => ?_) (fun c9 => ?_)
    · refine ph_iconst (pc := 16) C d_J_isSensor_16 ?_
      exact ph_iret (pc := 17) C d_J_isSensor_17 hr hlk (by decide) (by decide) (by decide) ⟨rfl, rfl, rfl, (ph_bf (by omega))⟩
    · refine ph_iconst (pc := 12) C d_J_isSensor_12 ?_
      refine ph_goto (pc := 13) (tgt := 17) C d_J_isSensor_13 (by decide) ?_
      exact ph_iret (pc := 17) C d_J_isSensor_17 hr hlk (by decide) (by decide) (by decide) ⟨rfl, rfl, rfl, (ph_bt (by omega))⟩
set_option maxHeartbeats 4000000 in
set_option maxRecDepth 100000 in
theorem c_J_isItem (l : Launch) (D : va_G) (dT : Nat → ClassId) (A : Nat → Prop) (KX : State → Prop) (L : Nat → Nat → Prop) (ad : Nat → Nat → Nat) (τ : ph_T) (S : ph_T) (o : Nat) (hI : JR S o L ad τ) (hV : IV S) (x : Int) (hx : ph_ri x) : ph_M l y_J_isItem (.code y_J_isItem b_J_isItem 2 (some .boolean) :: TB) ({ frames := 0, cells := 0, slots := 0, locals := 0 } : Room) D CLs (TY dT) dT kd A KX [.ref (o), .int (ph_i (x))] L ad τ (fun r L' ad' τ' => L' = L ∧ ad' = ad ∧ τ' = τ ∧ r = some (.int (ph_i (ph_b (1 ≤ x ∧ x ≤ S 0 0 3))))) 0 0 := by
  refine ph_M.of (cc := b_J_isItem) (maxL := 2) (ret := (some .boolean)) (by decide) rfl (Nat.le_of_ble_eq_true rfl) ?_
  intro p e s m below meth c C0 hr hlk hnm
  have C := C0.sub
  refine ph_loc (l2 := [(0, .ref (o)), (1, .int (ph_i (x)))]) ⟨rfl, rfl, trivial⟩ ?_
  have hc := hV.c
  refine ph_iload_n (pc := 0) C d_J_isItem_0 rfl ?_
  refine ph_iconst (pc := 1) C d_J_isItem_1 ?_
  refine ph_icmp_lt (pc := 2) (tgt := 17) C d_J_isItem_2 (by decide) (by omega) (by omega) (fun c2 => ?_) (fun c2 => ?_)
  · refine ph_iconst (pc := 17) C d_J_isItem_17 ?_
    exact ph_iret (pc := 18) C d_J_isItem_18 hr hlk (by decide) (by decide) (by decide) ⟨rfl, rfl, rfl, (ph_bf (by omega))⟩
  · refine ph_iload_n (pc := 5) C d_J_isItem_5 rfl ?_
    refine ph_aload_n (pc := 6) C d_J_isItem_6 rfl ?_
    refine gt_J_25 (pc := 7) C d_J_isItem_7 (hI.live (g := 0) (i := 0) rfl) hI.ob (hI.dat rfl rfl) ?_
    refine ph_icmp_gt (pc := 10) (tgt := 17) C d_J_isItem_10 (by decide) (by omega) (by omega) (fun c10 => ?_) (fun c10 => ?_)
    · refine ph_iconst (pc := 17) C d_J_isItem_17 ?_
      exact ph_iret (pc := 18) C d_J_isItem_18 hr hlk (by decide) (by decide) (by decide) ⟨rfl, rfl, rfl, (ph_bf (by omega))⟩
    · refine ph_iconst (pc := 13) C d_J_isItem_13 ?_
      refine ph_goto (pc := 14) (tgt := 18) C d_J_isItem_14 (by decide) ?_
      exact ph_iret (pc := 18) C d_J_isItem_18 hr hlk (by decide) (by decide) (by decide) ⟨rfl, rfl, rfl, (ph_bt (by omega))⟩
set_option maxHeartbeats 4000000 in
set_option maxRecDepth 100000 in
theorem c_J_isFault (l : Launch) (D : va_G) (dT : Nat → ClassId) (A : Nat → Prop) (KX : State → Prop) (L : Nat → Nat → Prop) (ad : Nat → Nat → Nat) (τ : ph_T) (S : ph_T) (o : Nat) (hI : JR S o L ad τ) (hV : IV S) (x : Int) (hx : ph_ri x) : ph_M l y_J_isFault (.code y_J_isFault b_J_isFault 2 (some .boolean) :: TB) ({ frames := 0, cells := 0, slots := 0, locals := 0 } : Room) D CLs (TY dT) dT kd A KX [.ref (o), .int (ph_i (x))] L ad τ (fun r L' ad' τ' => L' = L ∧ ad' = ad ∧ τ' = τ ∧ r = some (.int (ph_i (ph_b (1 ≤ x ∧ x ≤ S 0 0 5))))) 0 0 := by
  refine ph_M.of (cc := b_J_isFault) (maxL := 2) (ret := (some .boolean)) (by decide) rfl (Nat.le_of_ble_eq_true rfl) ?_
  intro p e s m below meth c C0 hr hlk hnm
  have C := C0.sub
  refine ph_loc (l2 := [(0, .ref (o)), (1, .int (ph_i (x)))]) ⟨rfl, rfl, trivial⟩ ?_
  have hc := hV.c
  refine ph_iload_n (pc := 0) C d_J_isFault_0 rfl ?_
  refine ph_iconst (pc := 1) C d_J_isFault_1 ?_
  refine ph_icmp_lt (pc := 2) (tgt := 17) C d_J_isFault_2 (by decide) (by omega) (by omega) (fun c2 => ?_) (fun c2 => ?_)
  · refine ph_iconst (pc := 17) C d_J_isFault_17 ?_
    exact ph_iret (pc := 18) C d_J_isFault_18 hr hlk (by decide) (by decide) (by decide) ⟨rfl, rfl, rfl, (ph_bf (by omega))⟩
  · refine ph_iload_n (pc := 5) C d_J_isFault_5 rfl ?_
    refine ph_aload_n (pc := 6) C d_J_isFault_6 rfl ?_
    refine gt_J_34 (pc := 7) C d_J_isFault_7 (hI.live (g := 0) (i := 0) rfl) hI.ob (hI.dat rfl rfl) ?_
    refine ph_icmp_gt (pc := 10) (tgt := 17) C d_J_isFault_10 (by decide) (by omega) (by omega) (fun c10 => ?_) (fun c10 => ?_)
    · refine ph_iconst (pc := 17) C d_J_isFault_17 ?_
      exact ph_iret (pc := 18) C d_J_isFault_18 hr hlk (by decide) (by decide) (by decide) ⟨rfl, rfl, rfl, (ph_bf (by omega))⟩
    · refine ph_iconst (pc := 13) C d_J_isFault_13 ?_
      refine ph_goto (pc := 14) (tgt := 18) C d_J_isFault_14 (by decide) ?_
      exact ph_iret (pc := 18) C d_J_isFault_18 hr hlk (by decide) (by decide) (by decide) ⟨rfl, rfl, rfl, (ph_bt (by omega))⟩
set_option maxHeartbeats 4000000 in
set_option maxRecDepth 100000 in
theorem c_J_isKind (l : Launch) (D : va_G) (dT : Nat → ClassId) (A : Nat → Prop) (KX : State → Prop) (L : Nat → Nat → Prop) (ad : Nat → Nat → Nat) (τ : ph_T) (x : Int) (hx : ph_ri x) : ph_M l y_J_isKind (.code y_J_isKind b_J_isKind 1 (some .boolean) :: TB) ({ frames := 0, cells := 0, slots := 0, locals := 0 } : Room) D CLs (TY dT) dT kd A KX [.int (ph_i (x))] L ad τ (fun r L' ad' τ' => L' = L ∧ ad' = ad ∧ τ' = τ ∧ r = some (.int (ph_i (ph_b (1 ≤ x ∧ x ≤ 6))))) 0 0 := by
  refine ph_M.of (cc := b_J_isKind) (maxL := 1) (ret := (some .boolean)) (by decide) rfl (Nat.le_of_ble_eq_true rfl) ?_
  intro p e s m below meth c C0 hr hlk hnm
  have C := C0.sub
  refine ph_loc (l2 := [(0, .int (ph_i (x)))]) ⟨rfl, trivial⟩ ?_
  refine ph_iload_n (pc := 0) C d_J_isKind_0 rfl ?_
  refine ph_iconst (pc := 1) C d_J_isKind_1 ?_
  refine ph_icmp_lt (pc := 2) (tgt := 15) C d_J_isKind_2 (by decide) (by omega) (by omega) (fun c2 => ?_) (fun c2 => ?_)
  · refine ph_iconst (pc := 15) C d_J_isKind_15 ?_
    exact ph_iret (pc := 16) C d_J_isKind_16 hr hlk (by decide) (by decide) (by decide) ⟨rfl, rfl, rfl, (ph_bf (by omega))⟩
  · refine ph_iload_n (pc := 5) C d_J_isKind_5 rfl ?_
    refine ph_bipush (pc := 6) C d_J_isKind_6 (by decide) ?_
    refine ph_icmp_gt (pc := 8) (tgt := 15) C d_J_isKind_8 (by decide) (by omega) (by omega) (fun c8 => ?_) (fun c8 => ?_)
    · refine ph_iconst (pc := 15) C d_J_isKind_15 ?_
      exact ph_iret (pc := 16) C d_J_isKind_16 hr hlk (by decide) (by decide) (by decide) ⟨rfl, rfl, rfl, (ph_bf (by omega))⟩
    · refine ph_iconst (pc := 11) C d_J_isKind_11 ?_
      refine ph_goto (pc := 12) (tgt := 16) C d_J_isKind_12 (by decide) ?_
      exact ph_iret (pc := 16) C d_J_isKind_16 hr hlk (by decide) (by decide) (by decide) ⟨rfl, rfl, rfl, (ph_bt (by omega))⟩
set_option maxHeartbeats 4000000 in
set_option maxRecDepth 100000 in
theorem c_J_isTime (l : Launch) (D : va_G) (dT : Nat → ClassId) (A : Nat → Prop) (KX : State → Prop) (L : Nat → Nat → Prop) (ad : Nat → Nat → Nat) (τ : ph_T) (S : ph_T) (o : Nat) (hI : JR S o L ad τ) (hV : IV S) (x : Int) (hx : ph_rl x) : ph_M l y_J_isTime (.code y_J_isTime b_J_isTime 3 (some .boolean) :: TB) ({ frames := 0, cells := 0, slots := 0, locals := 0 } : Room) D CLs (TY dT) dT kd A KX [.ref (o), .long (ph_l (x))] L ad τ (fun r L' ad' τ' => L' = L ∧ ad' = ad ∧ τ' = τ ∧ r = some (.int (ph_i (ph_b (S 0 0 11 ≤ x ∧ x ≤ 1000000000))))) 0 0 := by
  refine ph_M.of (cc := b_J_isTime) (maxL := 3) (ret := (some .boolean)) (by decide) rfl (Nat.le_of_ble_eq_true rfl) ?_
  intro p e s m below meth c C0 hr hlk hnm
  have C := C0.sub
  refine ph_loc (l2 := [(0, .ref (o)), (1, .long (ph_l (x)))]) ⟨rfl, rfl, trivial⟩ ?_
  have hc := hV.c
  refine ph_lload_n (pc := 0) C d_J_isTime_0 rfl ?_
  refine ph_aload_n (pc := 1) C d_J_isTime_1 rfl ?_
  refine gt_J_54 (pc := 2) C d_J_isTime_2 (hI.live (g := 0) (i := 0) rfl) hI.ob (hI.dat rfl rfl) ?_
  refine ph_l_lt (pc := 5) (tgt := 21) C d_J_isTime_5 d_J_isTime_6 (by decide) (by omega) (by omega) (fun c5 => ?_) (fun c5 => ?_)
  · refine ph_iconst (pc := 21) C d_J_isTime_21 ?_
    exact ph_iret (pc := 22) C d_J_isTime_22 hr hlk (by decide) (by decide) (by decide) ⟨rfl, rfl, rfl, (ph_bf (by omega))⟩
  · refine ph_lload_n (pc := 9) C d_J_isTime_9 rfl ?_
    refine ph_ldc2 (pc := 10) C d_J_isTime_10 (1000000000) (by decide) tw_105 ?_
    refine ph_l_gt (pc := 13) (tgt := 21) C d_J_isTime_13 d_J_isTime_14 (by decide) (by omega) (by omega) (fun c13 => ?_) (fun c13 => ?_)
    · refine ph_iconst (pc := 21) C d_J_isTime_21 ?_
      exact ph_iret (pc := 22) C d_J_isTime_22 hr hlk (by decide) (by decide) (by decide) ⟨rfl, rfl, rfl, (ph_bf (by omega))⟩
    · refine ph_iconst (pc := 17) C d_J_isTime_17 ?_
      refine ph_goto (pc := 18) (tgt := 22) C d_J_isTime_18 (by decide) ?_
      exact ph_iret (pc := 22) C d_J_isTime_22 hr hlk (by decide) (by decide) (by decide) ⟨rfl, rfl, rfl, (ph_bt (by omega))⟩
set_option maxHeartbeats 4000000 in
set_option maxRecDepth 100000 in
theorem c_J_dueAt (l : Launch) (D : va_G) (dT : Nat → ClassId) (A : Nat → Prop) (KX : State → Prop) (L : Nat → Nat → Prop) (ad : Nat → Nat → Nat) (τ : ph_T) (S : ph_T) (o : Nat) (hI : JR S o L ad τ) (hV : IV S) (i s0 : Nat) (hi : LC S 2 i) (hs : LC S 1 s0) : ph_M l y_J_dueAt (.code y_J_dueAt b_J_dueAt 3 (some .long) :: TB) ({ frames := 0, cells := 0, slots := 0, locals := 0 } : Room) D CLs (TY dT) dT kd A KX [.ref (o), .int (ph_i ((i : Int))), .int (ph_i ((s0 : Int)))] L ad τ (fun r L' ad' τ' => L' = L ∧ ad' = ad ∧ τ' = τ ∧ r = some (.long (ph_l (S 2 i 1 + S 1 s0 0)))) 0 0 := by
  refine ph_M.of (cc := b_J_dueAt) (maxL := 3) (ret := (some .long)) (by decide) rfl (Nat.le_of_ble_eq_true rfl) ?_
  intro p e s m below meth c C0 hr hlk hnm
  have C := C0.sub
  refine ph_loc (l2 := [(0, .ref (o)), (1, .int (ph_i ((i : Int)))), (2, .int (ph_i ((s0 : Int))))]) ⟨rfl, rfl, rfl, trivial⟩ ?_
  have hc := hV.c
  refine ph_aload_n (pc := 0) C d_J_dueAt_0 rfl ?_
  refine gt_J_21 (pc := 1) C d_J_dueAt_1 (hI.live (g := 0) (i := 0) rfl) hI.ob hI.r2 ?_
  refine ph_iload_n (pc := 4) C d_J_dueAt_4 rfl ?_
  refine ph_aald (pc := 5) (t := 1) C d_J_dueAt_5 (hI.live (g := 5) (i := 0) rfl) rfl rfl rfl i rfl (by have := hi; simp only [LC] at this; omega) (by decide) (ph_vr (hI.e5 hi)) ?_
  refine gt_J_174 (pc := 6) C d_J_dueAt_6 (hI.live hi) rfl (hI.dat hi rfl) ?_
  refine ph_aload_n (pc := 9) C d_J_dueAt_9 rfl ?_
  refine gt_J_11 (pc := 10) C d_J_dueAt_10 (hI.live (g := 0) (i := 0) rfl) hI.ob hI.r0 ?_
  refine ph_iload_n (pc := 13) C d_J_dueAt_13 rfl ?_
  refine ph_aald (pc := 14) (t := 0) C d_J_dueAt_14 (hI.live (g := 4) (i := 0) rfl) rfl rfl rfl s0 rfl (by have := hs; simp only [LC] at this; omega) (by decide) (ph_vr (hI.e4 hs)) ?_
  refine gt_J_58 (pc := 15) C d_J_dueAt_15 (hI.live hs) rfl (hI.dat hs rfl) ?_
  refine ph_ladd (pc := 18) C d_J_dueAt_18 ?_
  exact ph_lret (pc := 19) C d_J_dueAt_19 hr hlk (by decide) (by decide) ⟨rfl, rfl, rfl, rfl⟩
set_option maxHeartbeats 4000000 in
set_option maxRecDepth 100000 in
theorem c_J_isAwaited (l : Launch) (D : va_G) (dT : Nat → ClassId) (A : Nat → Prop) (KX : State → Prop) (L : Nat → Nat → Prop) (ad : Nat → Nat → Nat) (τ : ph_T) (S : ph_T) (o : Nat) (hI : JR S o L ad τ) (hV : IV S) (i s0 : Nat) (hi : LC S 2 i) (hs : LC S 1 s0) : ph_M l y_J_isAwaited (.code y_J_isAwaited b_J_isAwaited 3 (some .boolean) :: TB) ({ frames := 1, cells := 0, slots := 0, locals := 21 } : Room) D CLs (TY dT) dT kd A KX [.ref (o), .int (ph_i ((i : Int))), .int (ph_i ((s0 : Int)))] L ad τ (fun r L' ad' τ' => L' = L ∧ ad' = ad ∧ τ' = τ ∧ r = some (.int (ph_i (ph_b (aw S i s0))))) 0 0 := by
  refine ph_M.of (cc := b_J_isAwaited) (maxL := 3) (ret := (some .boolean)) (by decide) rfl (Nat.le_of_ble_eq_true rfl) ?_
  intro p e s m below meth c C0 hr hlk hnm
  have C := C0.sub
  refine ph_loc (l2 := [(0, .ref (o)), (1, .int (ph_i ((i : Int)))), (2, .int (ph_i ((s0 : Int))))]) ⟨rfl, rfl, rfl, trivial⟩ ?_
  have hc := hV.c
  refine ph_aload_n (pc := 0) C d_J_isAwaited_0 rfl ?_
  refine gt_J_21 (pc := 1) C d_J_isAwaited_1 (hI.live (g := 0) (i := 0) rfl) hI.ob hI.r2 ?_
  refine ph_iload_n (pc := 4) C d_J_isAwaited_4 rfl ?_
  refine ph_aald (pc := 5) (t := 1) C d_J_isAwaited_5 (hI.live (g := 5) (i := 0) rfl) rfl rfl rfl i rfl (by have := hi; simp only [LC] at this; omega) (by decide) (ph_vr (hI.e5 hi)) ?_
  refine ph_callV (pc := 6) (rest := []) C d_J_isAwaited_6 (c_I_isOnBelt l D dT A KX L ad τ i (ad 2 i) (hI.live hi) rfl (S 2 i 5) (hI.dat hi rfl) (by have := hV.i hi; omega)) (cwV 0 C.hts (gdV tw_214 tw_215 tw_216 tw_4 tw_217) rfl rfl rfl ⟨rfl, by decide, by decide, by decide⟩ ⟨by decide, by decide⟩) (hI.live hi) rfl rfl rfl rfl rfl rfl (Nat.le_of_ble_eq_true rfl) ⟨by decide, by decide⟩ ?_
  rintro r1 L1 ad1 τ1 ⟨g1, g2, g3, g4⟩; obtain rfl := g1.symm; obtain rfl := g2.symm; obtain rfl := g3.symm; subst g4
  refine ph_bif_eq (pc := 9) (tgt := 29) C d_J_isAwaited_9 (by decide) (fun c9 => ?_) (fun c9 => ?_)
  · refine ph_iconst (pc := 29) C d_J_isAwaited_29 ?_
    exact ph_iret (pc := 30) C d_J_isAwaited_30 hr hlk (by decide) (by decide) (by decide) ⟨rfl, rfl, rfl, (ph_bf (fun h => by first | exact absurd h.1 (by assumption) | exact absurd (by assumption) h.2))⟩
  · refine ph_aload_n (pc := 12) C d_J_isAwaited_12 rfl ?_
    refine gt_J_21 (pc := 13) C d_J_isAwaited_13 (hI.live (g := 0) (i := 0) rfl) hI.ob hI.r2 ?_
    refine ph_iload_n (pc := 16) C d_J_isAwaited_16 rfl ?_
    refine ph_aald (pc := 17) (t := 1) C d_J_isAwaited_17 (hI.live (g := 5) (i := 0) rfl) rfl rfl rfl i rfl (by have := hi; simp only [LC] at this; omega) (by decide) (ph_vr (hI.e5 hi)) ?_
    refine ph_iload_n (pc := 18) C d_J_isAwaited_18 rfl ?_
    refine ph_callV (pc := 19) (rest := []) C d_J_isAwaited_19 (c_I_isSeenBy l D dT A KX L ad τ i (ad 2 i) (hI.live hi) rfl (S 2 i 6).toNat s0 (by rw [hI.dat hi rfl]; have := hV.i hi; omega) (by have := hV.i hi; omega) (by have := hs; simp only [LC] at this; omega)) (cwV 1 C.hts (gdV tw_218 tw_219 tw_220 tw_4 tw_221) rfl rfl rfl ⟨rfl, by decide, by decide, by decide⟩ ⟨by decide, by decide⟩) (hI.live hi) rfl rfl rfl rfl rfl rfl (Nat.le_of_ble_eq_true rfl) ⟨by decide, by decide⟩ ?_
    rintro r1 L1 ad1 τ1 ⟨g1, g2, g3, g4⟩; obtain rfl := g1.symm; obtain rfl := g2.symm; obtain rfl := g3.symm; subst g4
    refine ph_bif_ne (pc := 22) (tgt := 29) C d_J_isAwaited_22 (by decide) (fun c22 => ?_) (fun c22 => ?_)
    · refine ph_iconst (pc := 29) C d_J_isAwaited_29 ?_
      exact ph_iret (pc := 30) C d_J_isAwaited_30 hr hlk (by decide) (by decide) (by decide) ⟨rfl, rfl, rfl, (ph_bf (fun h => by first | exact absurd h.1 (by assumption) | exact absurd (by assumption) h.2))⟩
    · refine ph_iconst (pc := 25) C d_J_isAwaited_25 ?_
      refine ph_goto (pc := 26) (tgt := 30) C d_J_isAwaited_26 (by decide) ?_
      exact ph_iret (pc := 30) C d_J_isAwaited_30 hr hlk (by decide) (by decide) (by decide) ⟨rfl, rfl, rfl, (ph_bt (⟨by assumption, by assumption⟩))⟩
set_option maxHeartbeats 4000000 in
set_option maxRecDepth 100000 in
theorem c_J_isComing (l : Launch) (D : va_G) (dT : Nat → ClassId) (A : Nat → Prop) (KX : State → Prop) (L : Nat → Nat → Prop) (ad : Nat → Nat → Nat) (τ : ph_T) (S : ph_T) (o : Nat) (hI : JR S o L ad τ) (hV : IV S) (x : Int) (hx : ph_ri x) (s0 : Nat) (hs : LC S 1 s0) : ph_M l y_J_isComing (.code y_J_isComing b_J_isComing 3 (some .boolean) :: TB) ({ frames := 1, cells := 0, slots := 0, locals := 22 } : Room) D CLs (TY dT) dT kd A KX [.ref (o), .int (ph_i (x)), .int (ph_i ((s0 : Int)))] L ad τ (fun r L' ad' τ' => L' = L ∧ ad' = ad ∧ τ' = τ ∧ r = some (.int (ph_i (ph_b (coming S x s0))))) 0 0 := by
  refine ph_M.of (cc := b_J_isComing) (maxL := 3) (ret := (some .boolean)) (by decide) rfl (Nat.le_of_ble_eq_true rfl) ?_
  intro p e s m below meth c C0 hr hlk hnm
  have C := C0.sub
  refine ph_loc (l2 := [(0, .ref (o)), (1, .int (ph_i (x))), (2, .int (ph_i ((s0 : Int))))]) ⟨rfl, rfl, rfl, trivial⟩ ?_
  have hc := hV.c
  refine ph_aload_n (pc := 0) C d_J_isComing_0 rfl ?_
  refine ph_iload_n (pc := 1) C d_J_isComing_1 rfl ?_
  refine ph_callV (pc := 2) (rest := []) C d_J_isComing_2 (c_J_isItem l D dT A KX L ad τ S o hI hV x hx) (cwV 1 C.hts (gdV tw_164 tw_166 se_5 tw_1 tw_167) rfl rfl rfl ⟨rfl, by decide, by decide, by decide⟩ ⟨by decide, by decide⟩) (hI.live (g := 0) (i := 0) rfl) hI.ob rfl rfl rfl rfl rfl (Nat.le_of_ble_eq_true rfl) ⟨by decide, by decide⟩ ?_
  rintro r1 L1 ad1 τ1 ⟨g1, g2, g3, g4⟩; obtain rfl := g1.symm; obtain rfl := g2.symm; obtain rfl := g3.symm; subst g4
  refine ph_bif_eq (pc := 5) (tgt := 30) C d_J_isComing_5 (by decide) (fun c5 => ?_) (fun c5 => ?_)
  · refine ph_iconst (pc := 30) C d_J_isComing_30 ?_
    exact ph_iret (pc := 31) C d_J_isComing_31 hr hlk (by decide) (by decide) (by decide) ⟨rfl, rfl, rfl, (ph_bf (fun h => by first | exact absurd h.1 (by assumption) | (have h2 := h.2; unfold due at h2; simp only [Int.toNat_natCast] at h2; omega)))⟩
  · refine ph_aload_n (pc := 8) C d_J_isComing_8 rfl ?_
    refine ph_iload_n (pc := 9) C d_J_isComing_9 rfl ?_
    refine ph_iload_n (pc := 10) C d_J_isComing_10 rfl ?_
    obtain ⟨j, rfl⟩ : ∃ j : Nat, x = (j : Int) := ⟨x.toNat, by omega⟩
    refine ph_callV (pc := 11) (rest := []) C d_J_isComing_11 (c_J_dueAt l D dT A KX L ad τ S o hI hV j s0 (by simp only [LC]; omega) hs) (cwV 2 C.hts (gdV tw_234 tw_236 se_12 tw_1 tw_237) rfl rfl rfl ⟨rfl, by decide, by decide, by decide⟩ ⟨by decide, by decide⟩) (hI.live (g := 0) (i := 0) rfl) hI.ob rfl rfl rfl rfl rfl (Nat.le_of_ble_eq_true rfl) ⟨by decide, by decide⟩ ?_
    rintro r1 L1 ad1 τ1 ⟨g1, g2, g3, g4⟩; obtain rfl := g1.symm; obtain rfl := g2.symm; obtain rfl := g3.symm; subst g4
    refine ph_aload_n (pc := 14) C d_J_isComing_14 rfl ?_
    refine gt_J_54 (pc := 15) C d_J_isComing_15 (hI.live (g := 0) (i := 0) rfl) hI.ob (hI.dat rfl rfl) ?_
    refine ph_ldc2 (pc := 18) C d_J_isComing_18 (15) (by decide) tw_238 ?_
    refine ph_ladd (pc := 21) C d_J_isComing_21 ?_
    refine ph_l_gt (pc := 22) (tgt := 30) C d_J_isComing_22 d_J_isComing_23 (by decide) (by first | omega | (have h1 := hV.i (i := j) (show LC S 2 j by simp only [LC]; omega); have h2 := hV.s hs; omega)) (by first | omega | (have h1 := hV.i (i := j) (show LC S 2 j by simp only [LC]; omega); have h2 := hV.s hs; omega)) (fun c22 => ?_) (fun c22 => ?_)
    · refine ph_iconst (pc := 30) C d_J_isComing_30 ?_
      exact ph_iret (pc := 31) C d_J_isComing_31 hr hlk (by decide) (by decide) (by decide) ⟨rfl, rfl, rfl, (ph_bf (fun h => by first | exact absurd h.1 (by assumption) | (have h2 := h.2; unfold due at h2; simp only [Int.toNat_natCast] at h2; omega)))⟩
    · refine ph_iconst (pc := 26) C d_J_isComing_26 ?_
      refine ph_goto (pc := 27) (tgt := 31) C d_J_isComing_27 (by decide) ?_
      exact ph_iret (pc := 31) C d_J_isComing_31 hr hlk (by decide) (by decide) (by decide) ⟨rfl, rfl, rfl, (ph_bt (⟨by assumption, by unfold due; simp only [Int.toNat_natCast]; omega⟩))⟩
set_option maxHeartbeats 4000000 in
set_option maxRecDepth 100000 in
theorem c_J_lengthAt (l : Launch) (D : va_G) (dT : Nat → ClassId) (A : Nat → Prop) (KX : State → Prop) (L : Nat → Nat → Prop) (ad : Nat → Nat → Nat) (τ : ph_T) (S : ph_T) (o : Nat) (hI : JR S o L ad τ) (hV : IV S) (s0 : Nat) (hs : LC S 1 s0) : ph_M l y_J_lengthAt (.code y_J_lengthAt b_J_lengthAt 2 (some .long) :: TB) ({ frames := 1, cells := 0, slots := 0, locals := 21 } : Room) D CLs (TY dT) dT kd A KX [.ref (o), .ref (ad 1 s0)] L ad τ (fun r L' ad' τ' => L' = L ∧ ad' = ad ∧ τ' = τ ∧ r = some (.long (ph_l (lenAt S s0)))) 0 0 := by
  refine ph_M.of (cc := b_J_lengthAt) (maxL := 2) (ret := (some .long)) (by decide) rfl (Nat.le_of_ble_eq_true rfl) ?_
  intro p e s m below meth c C0 hr hlk hnm
  have C := C0.sub
  refine ph_loc (l2 := [(0, .ref (o)), (1, .ref (ad 1 s0))]) ⟨rfl, rfl, trivial⟩ ?_
  have hc := hV.c
  refine ph_aload_n (pc := 0) C d_J_lengthAt_0 rfl ?_
  refine ph_aload_n (pc := 1) C d_J_lengthAt_1 rfl ?_
  refine gt_J_194 (pc := 2) C d_J_lengthAt_2 (hI.live hs) rfl (hI.dat hs rfl) ?_
  refine ph_callV (pc := 5) (rest := []) C d_J_lengthAt_5 (c_J_isItem l D dT A KX L ad τ S o hI hV (S 1 s0 3) (by have := hV.s hs; omega)) (cwV 1 C.hts (gdV tw_164 tw_166 se_5 tw_1 tw_167) rfl rfl rfl ⟨rfl, by decide, by decide, by decide⟩ ⟨by decide, by decide⟩) (hI.live (g := 0) (i := 0) rfl) hI.ob rfl rfl rfl rfl rfl (Nat.le_of_ble_eq_true rfl) ⟨by decide, by decide⟩ ?_
  rintro r1 L1 ad1 τ1 ⟨g1, g2, g3, g4⟩; obtain rfl := g1.symm; obtain rfl := g2.symm; obtain rfl := g3.symm; subst g4
  refine ph_bif_eq (pc := 8) (tgt := 26) C d_J_lengthAt_8 (by decide) (fun c8 => ?_) (fun c8 => ?_)
  · refine ph_lconst (pc := 26) C d_J_lengthAt_26 0 (by decide) ?_
    exact ph_lret (pc := 27) C d_J_lengthAt_27 hr hlk (by decide) (by decide) ⟨rfl, rfl, rfl, by first | (rw [lenAt, if_pos (by assumption)]) | (rw [lenAt, if_neg (by assumption)])⟩
  · refine ph_aload_n (pc := 11) C d_J_lengthAt_11 rfl ?_
    refine gt_J_21 (pc := 12) C d_J_lengthAt_12 (hI.live (g := 0) (i := 0) rfl) hI.ob hI.r2 ?_
    refine ph_aload_n (pc := 15) C d_J_lengthAt_15 rfl ?_
    refine gt_J_194 (pc := 16) C d_J_lengthAt_16 (hI.live hs) rfl (hI.dat hs rfl) ?_
    refine ph_aald (pc := 19) (t := 1) C d_J_lengthAt_19 (hI.live (g := 5) (i := 0) rfl) rfl rfl rfl (S 1 s0 3).toNat (by omega) (by have := (show LC S 2 (S 1 s0 3).toNat by simp only [LC]; omega); simp only [LC] at this; omega) (by decide) (ph_vr (hI.e5 (show LC S 2 (S 1 s0 3).toNat by simp only [LC]; omega))) ?_
    refine gt_J_177 (pc := 20) C d_J_lengthAt_20 (hI.live (show LC S 2 (S 1 s0 3).toNat by simp only [LC]; omega)) rfl (hI.dat (show LC S 2 (S 1 s0 3).toNat by simp only [LC]; omega) rfl) ?_
    refine ph_goto (pc := 23) (tgt := 27) C d_J_lengthAt_23 (by decide) ?_
    exact ph_lret (pc := 27) C d_J_lengthAt_27 hr hlk (by decide) (by decide) ⟨rfl, rfl, rfl, by first | (rw [lenAt, if_pos (by assumption)]) | (rw [lenAt, if_neg (by assumption)])⟩
set_option maxHeartbeats 4000000 in
set_option maxRecDepth 100000 in
theorem c_J_earliestHead (l : Launch) (D : va_G) (dT : Nat → ClassId) (A : Nat → Prop) (KX : State → Prop) (L : Nat → Nat → Prop) (ad : Nat → Nat → Nat) (τ : ph_T) (S : ph_T) (o : Nat) (hI : JR S o L ad τ) (hV : IV S)  : ph_M l y_J_earliestHead (.code y_J_earliestHead b_J_earliestHead 2 (some .long) :: TB) ({ frames := 0, cells := 0, slots := 0, locals := 0 } : Room) D CLs (TY dT) dT kd A KX [.ref (o)] L ad τ (fun r L' ad' τ' => L' = L ∧ ad' = ad ∧ τ' = τ ∧ r = some (.long (ph_l (earliest S)))) 0 0 := by
  refine ph_M.of (cc := b_J_earliestHead) (maxL := 2) (ret := (some .long)) (by decide) rfl (Nat.le_of_ble_eq_true rfl) ?_
  intro p e s m below meth c C0 hr hlk hnm
  have C := C0.sub
  refine ph_loc (l2 := [(0, .ref (o))]) ⟨rfl, trivial⟩ ?_
  have hc := hV.c
  refine ph_aload_n (pc := 0) C d_J_earliestHead_0 rfl ?_
  refine gt_J_25 (pc := 1) C d_J_earliestHead_1 (hI.live (g := 0) (i := 0) rfl) hI.ob (hI.dat rfl rfl) ?_
  refine ph_if_ne (pc := 4) (tgt := 9) C d_J_earliestHead_4 (by decide) (by omega) (fun c4 => ?_) (fun c4 => ?_)
  · refine ph_aload_n (pc := 9) C d_J_earliestHead_9 rfl ?_
    refine gt_J_21 (pc := 10) C d_J_earliestHead_10 (hI.live (g := 0) (i := 0) rfl) hI.ob hI.r2 ?_
    refine ph_aload_n (pc := 13) C d_J_earliestHead_13 rfl ?_
    refine gt_J_25 (pc := 14) C d_J_earliestHead_14 (hI.live (g := 0) (i := 0) rfl) hI.ob (hI.dat rfl rfl) ?_
    refine ph_aald (pc := 17) (t := 1) C d_J_earliestHead_17 (hI.live (g := 5) (i := 0) rfl) rfl rfl rfl (S 0 0 3).toNat (by omega) (by have := (show LC S 2 (S 0 0 3).toNat by simp only [LC]; omega); simp only [LC] at this; omega) (by decide) (ph_vr (hI.e5 (show LC S 2 (S 0 0 3).toNat by simp only [LC]; omega))) ?_
    refine ph_astore_n (pc := 18) C d_J_earliestHead_18 (by decide) rfl ?_
    refine ph_aload_n (pc := 19) C d_J_earliestHead_19 rfl ?_
    refine gt_J_174 (pc := 20) C d_J_earliestHead_20 (hI.live (show LC S 2 (S 0 0 3).toNat by simp only [LC]; omega)) rfl (hI.dat (show LC S 2 (S 0 0 3).toNat by simp only [LC]; omega) rfl) ?_
    refine ph_aload_n (pc := 23) C d_J_earliestHead_23 rfl ?_
    refine gt_J_177 (pc := 24) C d_J_earliestHead_24 (hI.live (show LC S 2 (S 0 0 3).toNat by simp only [LC]; omega)) rfl (hI.dat (show LC S 2 (S 0 0 3).toNat by simp only [LC]; omega) rfl) ?_
    refine ph_ladd (pc := 27) C d_J_earliestHead_27 ?_
    refine ph_ldc2 (pc := 28) C d_J_earliestHead_28 (30) (by decide) tw_110 ?_
    refine ph_ladd (pc := 31) C d_J_earliestHead_31 ?_
    exact ph_lret (pc := 32) C d_J_earliestHead_32 hr hlk (by decide) (by decide) ⟨rfl, rfl, rfl, by first | (rw [earliest, if_pos (by assumption)]) | (rw [earliest, if_neg (by assumption)])⟩
  · refine ph_lconst (pc := 7) C d_J_earliestHead_7 0 (by decide) ?_
    exact ph_lret (pc := 8) C d_J_earliestHead_8 hr hlk (by decide) (by decide) ⟨rfl, rfl, rfl, by first | (rw [earliest, if_pos (by assumption)]) | (rw [earliest, if_neg (by assumption)])⟩
set_option maxHeartbeats 4000000 in
set_option maxRecDepth 100000 in
theorem c_J_leastUnseen (l : Launch) (D : va_G) (dT : Nat → ClassId) (A : Nat → Prop) (KX : State → Prop) (L : Nat → Nat → Prop) (ad : Nat → Nat → Nat) (τ : ph_T) (S : ph_T) (o : Nat) (hI : JR S o L ad τ) (hV : IV S) (s0 : Nat) (hs : LC S 1 s0) : ph_M l y_J_leastUnseen (.code y_J_leastUnseen b_J_leastUnseen 3 (some .int) :: TB) ({ frames := 2, cells := 0, slots := 0, locals := 43 } : Room) D CLs (TY dT) dT kd A KX [.ref (o), .int (ph_i ((s0 : Int)))] L ad τ (fun r L' ad' τ' => L' = L ∧ ad' = ad ∧ τ' = τ ∧ r = some (.int (ph_i ((lu S s0 : Nat) : Int)))) 0 0 := by
  refine ph_M.of (cc := b_J_leastUnseen) (maxL := 3) (ret := (some .int)) (by decide) rfl (Nat.le_of_ble_eq_true rfl) ?_
  intro p e s m below meth c C0 hr hlk hnm
  have C := C0.sub
  refine ph_loc (l2 := [(0, .ref (o)), (1, .int (ph_i ((s0 : Int))))]) ⟨rfl, rfl, trivial⟩ ?_
  have hc := hV.c
  have loop : ∀ (n i : Nat), 1 ≤ i → S 0 0 3 = (i : Int) + n - 1 → luF S s0 n i = lu S s0 → ph_W p l e ({ frames := 2, cells := 0, slots := 0, locals := 43 } : Room) s m [.ref (o), .int (ph_i ((s0 : Int)))].toArray below meth c D CLs dT kd A 3 (MQ below (ph_Q D CLs dT kd A (fun r L' ad' τ' => L' = L ∧ ad' = ad ∧ τ' = τ ∧ r = some (.int (ph_i ((lu S s0 : Nat) : Int))))) [.ref (o), .int (ph_i ((s0 : Int)))].toArray s 0 0 A) L ad τ 0 0 2 (ph_mk [(0, .ref (o)), (1, .int (ph_i ((s0 : Int)))), (2, .int (ph_i ((i : Int))))]) [] := by
    intro n
    induction n with
    | zero =>
      intro i h1 h2 h3
      refine ph_iload_n (pc := 2) C d_J_leastUnseen_2 rfl ?_
      refine ph_aload_n (pc := 3) C d_J_leastUnseen_3 rfl ?_
      refine gt_J_25 (pc := 4) C d_J_leastUnseen_4 (hI.live (g := 0) (i := 0) rfl) hI.ob (hI.dat rfl rfl) ?_
      refine ph_icmp_gt (pc := 7) (tgt := 27) C d_J_leastUnseen_7 (by decide) (by omega) (by omega) (fun c7 => ?_) (fun c7 => ?_)
      · refine ph_iconst (pc := 27) C d_J_leastUnseen_27 ?_
        exact ph_iret (pc := 28) C d_J_leastUnseen_28 hr hlk (by rfl) (by decide) (by decide) ⟨rfl, rfl, rfl, (by first | (rw [← h3]; rfl) | (exfalso; omega))⟩
      · refine ph_aload_n (pc := 10) C d_J_leastUnseen_10 rfl ?_
        refine ph_iload_n (pc := 11) C d_J_leastUnseen_11 rfl ?_
        refine ph_iload_n (pc := 12) C d_J_leastUnseen_12 rfl ?_
        exfalso; omega
    | succ n ih =>
      intro i h1 h2 h3
      refine ph_iload_n (pc := 2) C d_J_leastUnseen_2 rfl ?_
      refine ph_aload_n (pc := 3) C d_J_leastUnseen_3 rfl ?_
      refine gt_J_25 (pc := 4) C d_J_leastUnseen_4 (hI.live (g := 0) (i := 0) rfl) hI.ob (hI.dat rfl rfl) ?_
      refine ph_icmp_gt (pc := 7) (tgt := 27) C d_J_leastUnseen_7 (by decide) (by omega) (by omega) (fun c7 => ?_) (fun c7 => ?_)
      · refine ph_iconst (pc := 27) C d_J_leastUnseen_27 ?_
        exact ph_iret (pc := 28) C d_J_leastUnseen_28 hr hlk (by rfl) (by decide) (by decide) ⟨rfl, rfl, rfl, (by first | (rw [← h3]; rfl) | (exfalso; omega))⟩
      · refine ph_aload_n (pc := 10) C d_J_leastUnseen_10 rfl ?_
        refine ph_iload_n (pc := 11) C d_J_leastUnseen_11 rfl ?_
        refine ph_iload_n (pc := 12) C d_J_leastUnseen_12 rfl ?_
        refine ph_callV (pc := 13) (rest := []) C d_J_leastUnseen_13 (c_J_isAwaited l D dT A KX L ad τ S o hI hV i s0 (show LC S 2 i by simp only [LC]; omega) hs) (cwV 2 C.hts (gdV tw_230 tw_232 se_11 tw_1 tw_233) rfl rfl rfl ⟨rfl, by decide, by decide, by decide⟩ ⟨by decide, by decide⟩) (hI.live (g := 0) (i := 0) rfl) hI.ob rfl rfl rfl rfl rfl (Nat.le_of_ble_eq_true rfl) ⟨by decide, by decide⟩ ?_
        rintro r1 L1 ad1 τ1 ⟨g1, g2, g3, g4⟩; obtain rfl := g1.symm; obtain rfl := g2.symm; obtain rfl := g3.symm; subst g4
        refine ph_bif_eq (pc := 16) (tgt := 21) C d_J_leastUnseen_16 (by decide) (fun c16 => ?_) (fun c16 => ?_)
        · refine ph_iinc (pc := 21) C d_J_leastUnseen_21 rfl rfl ?_
          refine ph_goto (pc := 24) (tgt := 2) C d_J_leastUnseen_24 (by decide) ?_
          refine ph_loc (l2 := [(0, .ref (o)), (1, .int (ph_i ((s0 : Int)))), (2, .int (ph_i (((i + 1 : Nat) : Int))))]) ⟨rfl, rfl, rfl, trivial⟩ ?_
          exact ih (i + 1) (by omega) (by omega) (by rw [← h3, luF_f (by assumption)])
        · refine ph_iload_n (pc := 19) C d_J_leastUnseen_19 rfl ?_
          exact ph_iret (pc := 20) C d_J_leastUnseen_20 hr hlk (by rfl) (by decide) (by decide) ⟨rfl, rfl, rfl, (by rw [← h3, luF_t (by assumption)])⟩
  refine ph_iconst (pc := 0) C d_J_leastUnseen_0 ?_
  refine ph_istore_n (pc := 1) C d_J_leastUnseen_1 (by decide) rfl ?_
  refine ph_loc (l2 := [(0, .ref (o)), (1, .int (ph_i ((s0 : Int)))), (2, .int (ph_i (((1 : Nat) : Int))))]) ⟨rfl, rfl, rfl, trivial⟩ ?_
  exact loop (S 0 0 3).toNat 1 (by omega) (by omega) rfl
set_option maxHeartbeats 4000000 in
set_option maxRecDepth 100000 in
theorem c_J_nextStep (l : Launch) (D : va_G) (dT : Nat → ClassId) (A : Nat → Prop) (KX : State → Prop) (L : Nat → Nat → Prop) (ad : Nat → Nat → Nat) (τ : ph_T) (S : ph_T) (o : Nat) (hI : JR S o L ad τ) (hV : IV S) (aR aT : Nat) (hX : ∀ U, KX U → KJ dT A aR aT U) (f0 : Nat) (hf : LC S 3 f0) : ph_M l y_J_nextStep (.code y_J_nextStep b_J_nextStep 1 (some .int) :: TB) ({ frames := 0, cells := 0, slots := 0, locals := 0 } : Room) D CLs (TY dT) dT kd A KX [.ref (ad 3 f0)] L ad τ (fun r L' ad' τ' => L' = L ∧ ad' = ad ∧ τ' = τ ∧ r = some (.int (ph_i (nextv S f0)))) 0 0 := by
  refine ph_M.of (cc := b_J_nextStep) (maxL := 1) (ret := (some .int)) (by decide) rfl (Nat.le_of_ble_eq_true rfl) ?_
  intro p e s m below meth c C0 hr hlk hnm
  have C := C0.sub
  refine ph_loc (l2 := [(0, .ref (ad 3 f0))]) ⟨rfl, trivial⟩ ?_
  have hc := hV.c
  have hf9 := hV.f hf
  refine ph_aload_n (pc := 0) C d_J_nextStep_0 rfl ?_
  refine gt_J_127 (pc := 1) C d_J_nextStep_1 (hI.live hf) rfl (hI.dat hf rfl) ?_
  refine ph_iconst (pc := 4) C d_J_nextStep_4 ?_
  refine ph_icmp_lt (pc := 5) (tgt := 10) C d_J_nextStep_5 (by decide) (by omega) (by omega) (fun c5 => ?_) (fun c5 => ?_)
  · have hk9 := hX s C.kx
    refine ph_gets (pc := 10) C d_J_nextStep_10 hk9.2.1.1 tw_307 rfl ?_
    refine ph_aload_n (pc := 13) C d_J_nextStep_13 rfl ?_
    refine gt_J_114 (pc := 14) C d_J_nextStep_14 (hI.live hf) rfl (hI.dat hf rfl) ?_
    refine ph_iconst (pc := 17) C d_J_nextStep_17 ?_
    refine ph_isub (pc := 18) C d_J_nextStep_18 ?_
    refine ph_iconst (pc := 19) C d_J_nextStep_19 ?_
    refine ph_imul (pc := 20) C d_J_nextStep_20 ?_
    refine ph_aload_n (pc := 21) C d_J_nextStep_21 rfl ?_
    refine gt_J_127 (pc := 22) C d_J_nextStep_22 (hI.live hf) rfl (hI.dat hf rfl) ?_
    refine ph_iadd (pc := 25) C d_J_nextStep_25 ?_
    refine ph_sald (pc := 26) C d_J_nextStep_26 hk9.2.1.2 ((S 3 f0 0 - 1) * 3 + S 3 f0 6).toNat (by omega) (by omega) (by decide) rfl ?_
    exact ph_iret (pc := 27) C d_J_nextStep_27 hr hlk (by rfl) (by decide) (by decide) ⟨rfl, rfl, rfl, (by rw [nextv, if_neg (by omega)])⟩
  · refine ph_iconst (pc := 8) C d_J_nextStep_8 ?_
    exact ph_iret (pc := 9) C d_J_nextStep_9 hr hlk (by rfl) (by decide) (by decide) ⟨rfl, rfl, rfl, (by rw [nextv, if_pos (by omega)])⟩
set_option maxHeartbeats 4000000 in
set_option maxRecDepth 100000 in
theorem c_J_isSameTrouble (l : Launch) (D : va_G) (dT : Nat → ClassId) (A : Nat → Prop) (KX : State → Prop) (L : Nat → Nat → Prop) (ad : Nat → Nat → Nat) (τ : ph_T) (S : ph_T) (o : Nat) (hI : JR S o L ad τ) (hV : IV S) (e0 f0 : Nat) (he : LC S 3 e0) (hf : LC S 3 f0) : ph_M l y_J_isSameTrouble (.code y_J_isSameTrouble b_J_isSameTrouble 2 (some .boolean) :: TB) ({ frames := 0, cells := 0, slots := 0, locals := 0 } : Room) D CLs (TY dT) dT kd A KX [.ref (ad 3 e0), .ref (ad 3 f0)] L ad τ (fun r L' ad' τ' => L' = L ∧ ad' = ad ∧ τ' = τ ∧ r = some (.int (ph_i (ph_b (sameT S e0 f0))))) 0 0 := by
  refine ph_M.of (cc := b_J_isSameTrouble) (maxL := 2) (ret := (some .boolean)) (by decide) rfl (Nat.le_of_ble_eq_true rfl) ?_
  intro p e s m below meth c C0 hr hlk hnm
  have C := C0.sub
  refine ph_loc (l2 := [(0, .ref (ad 3 e0)), (1, .ref (ad 3 f0))]) ⟨rfl, rfl, trivial⟩ ?_
  have hc := hV.c
  have hf9 := hV.f hf
  have he9 := hV.f he
  refine ph_aload_n (pc := 0) C d_J_isSameTrouble_0 rfl ?_
  refine gt_J_114 (pc := 1) C d_J_isSameTrouble_1 (hI.live hf) rfl (hI.dat hf rfl) ?_
  refine ph_bipush (pc := 4) C d_J_isSameTrouble_4 (by decide) ?_
  refine ph_icmp_ne (pc := 6) (tgt := 26) C d_J_isSameTrouble_6 (by decide) (by omega) (by omega) (fun c6 => ?_) (fun c6 => ?_)
  · refine ph_aload_n (pc := 26) C d_J_isSameTrouble_26 rfl ?_
    refine gt_J_111 (pc := 27) C d_J_isSameTrouble_27 (hI.live he) rfl (hI.dat he rfl) ?_
    refine ph_aload_n (pc := 30) C d_J_isSameTrouble_30 rfl ?_
    refine gt_J_111 (pc := 31) C d_J_isSameTrouble_31 (hI.live hf) rfl (hI.dat hf rfl) ?_
    refine ph_icmp_ne (pc := 34) (tgt := 41) C d_J_isSameTrouble_34 (by decide) (by omega) (by omega) (fun c34 => ?_) (fun c34 => ?_)
    · refine ph_iconst (pc := 41) C d_J_isSameTrouble_41 ?_
      exact ph_iret (pc := 42) C d_J_isSameTrouble_42 hr hlk (by decide) (by decide) (by decide) ⟨rfl, rfl, rfl, (ph_bf (by unfold sameT; omega))⟩
    · refine ph_iconst (pc := 37) C d_J_isSameTrouble_37 ?_
      refine ph_goto (pc := 38) (tgt := 42) C d_J_isSameTrouble_38 (by decide) ?_
      exact ph_iret (pc := 42) C d_J_isSameTrouble_42 hr hlk (by decide) (by decide) (by decide) ⟨rfl, rfl, rfl, (ph_bt (by unfold sameT; omega))⟩
  · refine ph_aload_n (pc := 9) C d_J_isSameTrouble_9 rfl ?_
    refine gt_J_114 (pc := 10) C d_J_isSameTrouble_10 (hI.live he) rfl (hI.dat he rfl) ?_
    refine ph_bipush (pc := 13) C d_J_isSameTrouble_13 (by decide) ?_
    refine ph_icmp_ne (pc := 15) (tgt := 22) C d_J_isSameTrouble_15 (by decide) (by omega) (by omega) (fun c15 => ?_) (fun c15 => ?_)
    · refine ph_iconst (pc := 22) C d_J_isSameTrouble_22 ?_
      refine ph_goto (pc := 23) (tgt := 42) C d_J_isSameTrouble_23 (by decide) ?_
      exact ph_iret (pc := 42) C d_J_isSameTrouble_42 hr hlk (by decide) (by decide) (by decide) ⟨rfl, rfl, rfl, (ph_bf (by unfold sameT; omega))⟩
    · refine ph_iconst (pc := 18) C d_J_isSameTrouble_18 ?_
      refine ph_goto (pc := 19) (tgt := 42) C d_J_isSameTrouble_19 (by decide) ?_
      exact ph_iret (pc := 42) C d_J_isSameTrouble_42 hr hlk (by decide) (by decide) (by decide) ⟨rfl, rfl, rfl, (ph_bt (by unfold sameT; omega))⟩
set_option maxHeartbeats 4000000 in
set_option maxRecDepth 100000 in
theorem c_J_isInDoubt (l : Launch) (D : va_G) (dT : Nat → ClassId) (A : Nat → Prop) (KX : State → Prop) (L : Nat → Nat → Prop) (ad : Nat → Nat → Nat) (τ : ph_T) (S : ph_T) (o : Nat) (hI : JR S o L ad τ) (hV : IV S) (i s0 : Nat) (hi : LC S 2 i) (hs : LC S 1 s0) : ph_M l y_J_isInDoubt (.code y_J_isInDoubt b_J_isInDoubt 4 (some .boolean) :: TB) ({ frames := 1, cells := 0, slots := 0, locals := 21 } : Room) D CLs (TY dT) dT kd A KX [.ref (o), .int (ph_i ((i : Int))), .int (ph_i ((s0 : Int)))] L ad τ (fun r L' ad' τ' => L' = L ∧ ad' = ad ∧ τ' = τ ∧ r = some (.int (ph_i (ph_b (inD S i s0))))) 0 0 := by
  refine ph_M.of (cc := b_J_isInDoubt) (maxL := 4) (ret := (some .boolean)) (by decide) rfl (Nat.le_of_ble_eq_true rfl) ?_
  intro p e s m below meth c C0 hr hlk hnm
  have C := C0.sub
  refine ph_loc (l2 := [(0, .ref (o)), (1, .int (ph_i ((i : Int)))), (2, .int (ph_i ((s0 : Int))))]) ⟨rfl, rfl, rfl, trivial⟩ ?_
  have hc := hV.c
  have hi9 := hV.i hi
  have hs9 := hV.s hs
  have hi8 := id hi
  have hs8 := id hs
  simp only [LC] at hi8 hs8
  refine ph_aload_n (pc := 0) C d_J_isInDoubt_0 rfl ?_
  refine gt_J_21 (pc := 1) C d_J_isInDoubt_1 (hI.live (g := 0) (i := 0) rfl) hI.ob hI.r2 ?_
  refine ph_iload_n (pc := 4) C d_J_isInDoubt_4 rfl ?_
  refine ph_aald (pc := 5) (t := 1) C d_J_isInDoubt_5 (hI.live (g := 5) (i := 0) rfl) rfl rfl rfl i rfl (by have := hi; simp only [LC] at this; omega) (by decide) (ph_vr (hI.e5 hi)) ?_
  refine ph_astore_n (pc := 6) C d_J_isInDoubt_6 (by decide) rfl ?_
  refine ph_aload_n (pc := 7) C d_J_isInDoubt_7 rfl ?_
  refine ph_callV (pc := 8) (rest := []) C d_J_isInDoubt_8 (c_I_isOnBelt l D dT A KX L ad τ i (ad 2 i) (hI.live hi) rfl (S 2 i 5) (hI.dat hi rfl) (by have := hV.i hi; omega)) (cwV 0 C.hts (gdV tw_214 tw_215 tw_216 tw_4 tw_217) rfl rfl rfl ⟨rfl, by decide, by decide, by decide⟩ ⟨by decide, by decide⟩) (hI.live hi) rfl rfl rfl rfl rfl rfl (Nat.le_of_ble_eq_true rfl) ⟨by decide, by decide⟩ ?_
  rintro r1 L1 ad1 τ1 ⟨g1, g2, g3, g4⟩; obtain rfl := g1.symm; obtain rfl := g2.symm; obtain rfl := g3.symm; subst g4
  refine ph_bif_ne (pc := 11) (tgt := 16) C d_J_isInDoubt_11 (by decide) (fun c11 => ?_) (fun c11 => ?_)
  · refine ph_aload_n (pc := 16) C d_J_isInDoubt_16 rfl ?_
    refine ph_iload_n (pc := 17) C d_J_isInDoubt_17 rfl ?_
    refine ph_callV (pc := 18) (rest := []) C d_J_isInDoubt_18 (c_I_isSeenBy l D dT A KX L ad τ i (ad 2 i) (hI.live hi) rfl (S 2 i 6).toNat s0 (by rw [hI.dat hi rfl]; have := hV.i hi; omega) (by have := hV.i hi; omega) (by have := hs; simp only [LC] at this; omega)) (cwV 1 C.hts (gdV tw_218 tw_219 tw_220 tw_4 tw_221) rfl rfl rfl ⟨rfl, by decide, by decide, by decide⟩ ⟨by decide, by decide⟩) (hI.live hi) rfl rfl rfl rfl rfl rfl (Nat.le_of_ble_eq_true rfl) ⟨by decide, by decide⟩ ?_
    rintro r1 L1 ad1 τ1 ⟨g1, g2, g3, g4⟩; obtain rfl := g1.symm; obtain rfl := g2.symm; obtain rfl := g3.symm; subst g4
    refine ph_bif_eq (pc := 21) (tgt := 55) C d_J_isInDoubt_21 (by decide) (fun c21 => ?_) (fun c21 => ?_)
    · refine ph_iload_n (pc := 55) C d_J_isInDoubt_55 rfl ?_
      refine ph_if_ne (pc := 56) (tgt := 79) C d_J_isInDoubt_56 (by decide) (by omega) (fun c56 => ?_) (fun c56 => ?_)
      · refine ph_aload_n (pc := 79) C d_J_isInDoubt_79 rfl ?_
        refine ph_iload_n (pc := 80) C d_J_isInDoubt_80 rfl ?_
        refine ph_iconst (pc := 81) C d_J_isInDoubt_81 ?_
        refine ph_isub (pc := 82) C d_J_isInDoubt_82 ?_
        obtain ⟨q0, rfl⟩ : ∃ q0 : Nat, s0 = q0 + 1 := ⟨s0 - 1, by omega⟩
        rw [show (((q0 + 1 : Nat) : Int) - 1) = (q0 : Int) by omega]
        refine ph_callV (pc := 83) (rest := []) C d_J_isInDoubt_83 (c_I_isSeenBy l D dT A KX L ad τ i (ad 2 i) (hI.live hi) rfl (S 2 i 6).toNat q0 (by rw [hI.dat hi rfl]; have := hV.i hi; omega) (by have := hV.i hi; omega) (by omega)) (cwV 1 C.hts (gdV tw_218 tw_219 tw_220 tw_4 tw_221) rfl rfl rfl ⟨rfl, by decide, by decide, by decide⟩ ⟨by decide, by decide⟩) (hI.live hi) rfl rfl rfl rfl rfl rfl (Nat.le_of_ble_eq_true rfl) ⟨by decide, by decide⟩ ?_
        rintro r1 L1 ad1 τ1 ⟨g1, g2, g3, g4⟩; obtain rfl := g1.symm; obtain rfl := g2.symm; obtain rfl := g3.symm; subst g4
        exact ph_iret (pc := 86) C d_J_isInDoubt_86 hr hlk (ph_nb _) (by decide) (by decide) ⟨rfl, rfl, rfl, (ph_bq (by unfold inD seenb; simp only [Nat.add_sub_cancel]; grind))⟩
      · refine ph_aload_n (pc := 59) C d_J_isInDoubt_59 rfl ?_
        refine gt_J_174 (pc := 60) C d_J_isInDoubt_60 (hI.live hi) rfl (hI.dat hi rfl) ?_
        refine ph_aload_n (pc := 63) C d_J_isInDoubt_63 rfl ?_
        refine gt_J_54 (pc := 64) C d_J_isInDoubt_64 (hI.live (g := 0) (i := 0) rfl) hI.ob (hI.dat rfl rfl) ?_
        refine ph_l_gt (pc := 67) (tgt := 75) C d_J_isInDoubt_67 d_J_isInDoubt_68 (by decide) (by omega) (by omega) (fun c67 => ?_) (fun c67 => ?_)
        · refine ph_iconst (pc := 75) C d_J_isInDoubt_75 ?_
          refine ph_goto (pc := 76) (tgt := 86) C d_J_isInDoubt_76 (by decide) ?_
          exact ph_iret (pc := 86) C d_J_isInDoubt_86 hr hlk (by decide) (by decide) (by decide) ⟨rfl, rfl, rfl, (ph_bf (by unfold inD seenb; grind))⟩
        · refine ph_iconst (pc := 71) C d_J_isInDoubt_71 ?_
          refine ph_goto (pc := 72) (tgt := 86) C d_J_isInDoubt_72 (by decide) ?_
          exact ph_iret (pc := 86) C d_J_isInDoubt_86 hr hlk (by decide) (by decide) (by decide) ⟨rfl, rfl, rfl, (ph_bt (by unfold inD seenb; grind))⟩
    · refine ph_aload_n (pc := 24) C d_J_isInDoubt_24 rfl ?_
      refine gt_J_11 (pc := 25) C d_J_isInDoubt_25 (hI.live (g := 0) (i := 0) rfl) hI.ob hI.r0 ?_
      refine ph_iload_n (pc := 28) C d_J_isInDoubt_28 rfl ?_
      refine ph_aald (pc := 29) (t := 0) C d_J_isInDoubt_29 (hI.live (g := 4) (i := 0) rfl) rfl rfl rfl s0 rfl (by have := hs; simp only [LC] at this; omega) (by decide) (ph_vr (hI.e4 hs)) ?_
      refine gt_J_91 (pc := 30) C d_J_isInDoubt_30 (hI.live hs) rfl (hI.dat hs rfl) ?_
      refine ph_if_eq (pc := 33) (tgt := 53) C d_J_isInDoubt_33 (by decide) (by omega) (fun c33 => ?_) (fun c33 => ?_)
      · refine ph_iconst (pc := 53) C d_J_isInDoubt_53 ?_
        exact ph_iret (pc := 54) C d_J_isInDoubt_54 hr hlk (by decide) (by decide) (by decide) ⟨rfl, rfl, rfl, (ph_bf (by unfold inD seenb; grind))⟩
      · refine ph_aload_n (pc := 36) C d_J_isInDoubt_36 rfl ?_
        refine gt_J_11 (pc := 37) C d_J_isInDoubt_37 (hI.live (g := 0) (i := 0) rfl) hI.ob hI.r0 ?_
        refine ph_iload_n (pc := 40) C d_J_isInDoubt_40 rfl ?_
        refine ph_aald (pc := 41) (t := 0) C d_J_isInDoubt_41 (hI.live (g := 4) (i := 0) rfl) rfl rfl rfl s0 rfl (by have := hs; simp only [LC] at this; omega) (by decide) (ph_vr (hI.e4 hs)) ?_
        refine gt_J_194 (pc := 42) C d_J_isInDoubt_42 (hI.live hs) rfl (hI.dat hs rfl) ?_
        refine ph_iload_n (pc := 45) C d_J_isInDoubt_45 rfl ?_
        refine ph_icmp_ne (pc := 46) (tgt := 53) C d_J_isInDoubt_46 (by decide) (by omega) (by omega) (fun c46 => ?_) (fun c46 => ?_)
        · refine ph_iconst (pc := 53) C d_J_isInDoubt_53 ?_
          exact ph_iret (pc := 54) C d_J_isInDoubt_54 hr hlk (by decide) (by decide) (by decide) ⟨rfl, rfl, rfl, (ph_bf (by unfold inD seenb; grind))⟩
        · refine ph_iconst (pc := 49) C d_J_isInDoubt_49 ?_
          refine ph_goto (pc := 50) (tgt := 54) C d_J_isInDoubt_50 (by decide) ?_
          exact ph_iret (pc := 54) C d_J_isInDoubt_54 hr hlk (by decide) (by decide) (by decide) ⟨rfl, rfl, rfl, (ph_bt (by unfold inD seenb; grind))⟩
  · refine ph_iconst (pc := 14) C d_J_isInDoubt_14 ?_
    exact ph_iret (pc := 15) C d_J_isInDoubt_15 hr hlk (by decide) (by decide) (by decide) ⟨rfl, rfl, rfl, (ph_bf (by unfold inD seenb; grind))⟩
