/-! ===== reads of the class ===== -/
set_option maxHeartbeats 4000000 in
set_option maxRecDepth 100000 in
theorem c_J_isSensor (l : Launch) (D : va_G) (dT : Nat → ClassId) (A : Nat → Prop) (KX : State → Prop) (L : Nat → Nat → Prop) (ad : Nat → Nat → Nat) (τ : ph_T) (S : ph_T) (o : Nat) (hI : JR S o L ad τ) (hV : IV S) (x : Int) (hx : ph_ri x) : ph_M l y_J_isSensor (.code y_J_isSensor b_J_isSensor 2 (some .boolean) :: TB) ({ frames := 0, cells := 0, slots := 0, locals := 0 } : Room) D CLs (TY dT) dT kd A KX [.ref (o), .int (ph_i (x))] L ad τ (fun r L' ad' τ' => L' = L ∧ ad' = ad ∧ τ' = τ ∧ r = some (.int (ph_i (ph_b (0 ≤ x ∧ x < S 0 0 1))))) 0 0 := by
  refine ph_M.of (cc := b_J_isSensor) (maxL := 2) (ret := (some .boolean)) (by decide) rfl (Nat.le_of_ble_eq_true rfl) ?_
  intro p e s m below meth c C0 hr hlk hnm
  have C := C0.sub
  refine ph_loc (l2 := [(0, .ref (o)), (1, .int (ph_i (x)))]) ⟨rfl, rfl, trivial⟩ ?_
  have hc := hV.c
  refine ph_iload_n (pc := 0) C d_J_isSensor_0 rfl ?_
  refine ph_if_lt (pc := 1) (tgt := 16) C d_J_isSensor_1 (by decide) (by omega) (fun c1 => ?_) (fun c1 => ?_)
  · refine ph_iconst (pc := 16) C d_J_isSensor_16 ?_
    exact ph_iret (pc := 17) C d_J_isSensor_17 hr hlk (by decide) (by decide) (by decide) ⟨rfl, rfl, rfl, (ph_bf (by omega))⟩
  · refine ph_iload_n (pc := 4) C d_J_isSensor_4 rfl ?_
    refine ph_aload_n (pc := 5) C d_J_isSensor_5 rfl ?_
    refine gt_J_15 (pc := 6) C d_J_isSensor_6 (hI.live (g := 0) (i := 0) rfl) hI.ob (hI.dat rfl rfl) ?_
    refine ph_icmp_ge (pc := 9) (tgt := 16) C d_J_isSensor_9 (by decide) (by omega) (by omega) (fun c9 => ?_) (fun c9 => ?_)
    · refine ph_iconst (pc := 16) C d_J_isSensor_16 ?_
      exact ph_iret (pc := 17) C d_J_isSensor_17 hr hlk (by decide) (by decide) (by decide) ⟨rfl, rfl, rfl, (ph_bf (by omega))⟩
    · refine ph_iconst (pc := 12) C d_J_isSensor_12 ?_
      refine ph_goto (pc := 13) (tgt := 17) C d_J_isSensor_13 (by decide) ?_
      exact ph_iret (pc := 17) C d_J_isSensor_17 hr hlk (by decide) (by decide) (by decide) ⟨rfl, rfl, rfl, (ph_bt (by omega))⟩
set_option maxHeartbeats 4000000 in
set_option maxRecDepth 100000 in
theorem c_J_isItem (l : Launch) (D : va_G) (dT : Nat → ClassId) (A : Nat → Prop) (KX : State → Prop) (L : Nat → Nat → Prop) (ad : Nat → Nat → Nat) (τ : ph_T) (S : ph_T) (o : Nat) (hI : JR S o L ad τ) (hV : IV S) (x : Int) (hx : ph_ri x) : ph_M l y_J_isItem (.code y_J_isItem b_J_isItem 2 (some .boolean) :: TB) ({ frames := 0, cells := 0, slots := 0, locals := 0 } : Room) D CLs (TY dT) dT kd A KX [.ref (o), .int (ph_i (x))] L ad τ (fun r L' ad' τ' => L' = L ∧ ad' = ad ∧ τ' = τ ∧ r = some (.int (ph_i (ph_b (1 ≤ x ∧ x ≤ S 0 0 3))))) 0 0 := by
  refine ph_M.of (cc := b_J_isItem) (maxL := 2) (ret := (some .boolean)) (by decide) rfl (Nat.le_of_ble_eq_true rfl) ?_
  intro p e s m below meth c C0 hr hlk hnm
  have C := C0.sub
  refine ph_loc (l2 := [(0, .ref (o)), (1, .int (ph_i (x)))]) ⟨rfl, rfl, trivial⟩ ?_
  have hc := hV.c
  refine ph_iload_n (pc := 0) C d_J_isItem_0 rfl ?_
  refine ph_iconst (pc := 1) C d_J_isItem_1 ?_
  refine ph_icmp_lt (pc := 2) (tgt := 17) C d_J_isItem_2 (by decide) (by omega) (by omega) (fun c2 => ?_) (fun c2 => ?_)
  · refine ph_iconst (pc := 17) C d_J_isItem_17 ?_
    exact ph_iret (pc := 18) C d_J_isItem_18 hr hlk (by decide) (by decide) (by decide) ⟨rfl, rfl, rfl, (ph_bf (by omega))⟩
  · refine ph_iload_n (pc := 5) C d_J_isItem_5 rfl ?_
    refine ph_aload_n (pc := 6) C d_J_isItem_6 rfl ?_
    refine gt_J_25 (pc := 7) C d_J_isItem_7 (hI.live (g := 0) (i := 0) rfl) hI.ob (hI.dat rfl rfl) ?_
    refine ph_icmp_gt (pc := 10) (tgt := 17) C d_J_isItem_10 (by decide) (by omega) (by omega) (fun c10 => ?_) (fun c10 => ?_)
    · refine ph_iconst (pc := 17) C d_J_isItem_17 ?_
      exact ph_iret (pc := 18) C d_J_isItem_18 hr hlk (by decide) (by decide) (by decide) ⟨rfl, rfl, rfl, (ph_bf (by omega))⟩
    · refine ph_iconst (pc := 13) C d_J_isItem_13 ?_
      refine ph_goto (pc := 14) (tgt := 18) C d_J_isItem_14 (by decide) ?_
      exact ph_iret (pc := 18) C d_J_isItem_18 hr hlk (by decide) (by decide) (by decide) ⟨rfl, rfl, rfl, (ph_bt (by omega))⟩
set_option maxHeartbeats 4000000 in
set_option maxRecDepth 100000 in
theorem c_J_isFault (l : Launch) (D : va_G) (dT : Nat → ClassId) (A : Nat → Prop) (KX : State → Prop) (L : Nat → Nat → Prop) (ad : Nat → Nat → Nat) (τ : ph_T) (S : ph_T) (o : Nat) (hI : JR S o L ad τ) (hV : IV S) (x : Int) (hx : ph_ri x) : ph_M l y_J_isFault (.code y_J_isFault b_J_isFault 2 (some .boolean) :: TB) ({ frames := 0, cells := 0, slots := 0, locals := 0 } : Room) D CLs (TY dT) dT kd A KX [.ref (o), .int (ph_i (x))] L ad τ (fun r L' ad' τ' => L' = L ∧ ad' = ad ∧ τ' = τ ∧ r = some (.int (ph_i (ph_b (1 ≤ x ∧ x ≤ S 0 0 5))))) 0 0 := by
  refine ph_M.of (cc := b_J_isFault) (maxL := 2) (ret := (some .boolean)) (by decide) rfl (Nat.le_of_ble_eq_true rfl) ?_
  intro p e s m below meth c C0 hr hlk hnm
  have C := C0.sub
  refine ph_loc (l2 := [(0, .ref (o)), (1, .int (ph_i (x)))]) ⟨rfl, rfl, trivial⟩ ?_
  have hc := hV.c
  refine ph_iload_n (pc := 0) C d_J_isFault_0 rfl ?_
  refine ph_iconst (pc := 1) C d_J_isFault_1 ?_
  refine ph_icmp_lt (pc := 2) (tgt := 17) C d_J_isFault_2 (by decide) (by omega) (by omega) (fun c2 => ?_) (fun c2 => ?_)
  · refine ph_iconst (pc := 17) C d_J_isFault_17 ?_
    exact ph_iret (pc := 18) C d_J_isFault_18 hr hlk (by decide) (by decide) (by decide) ⟨rfl, rfl, rfl, (ph_bf (by omega))⟩
  · refine ph_iload_n (pc := 5) C d_J_isFault_5 rfl ?_
    refine ph_aload_n (pc := 6) C d_J_isFault_6 rfl ?_
    refine gt_J_34 (pc := 7) C d_J_isFault_7 (hI.live (g := 0) (i := 0) rfl) hI.ob (hI.dat rfl rfl) ?_
    refine ph_icmp_gt (pc := 10) (tgt := 17) C d_J_isFault_10 (by decide) (by omega) (by omega) (fun c10 => ?_) (fun c10 => ?_)
    · refine ph_iconst (pc := 17) C d_J_isFault_17 ?_
      exact ph_iret (pc := 18) C d_J_isFault_18 hr hlk (by decide) (by decide) (by decide) ⟨rfl, rfl, rfl, (ph_bf (by omega))⟩
    · refine ph_iconst (pc := 13) C d_J_isFault_13 ?_
      refine ph_goto (pc := 14) (tgt := 18) C d_J_isFault_14 (by decide) ?_
      exact ph_iret (pc := 18) C d_J_isFault_18 hr hlk (by decide) (by decide) (by decide) ⟨rfl, rfl, rfl, (ph_bt (by omega))⟩
set_option maxHeartbeats 4000000 in
set_option maxRecDepth 100000 in
theorem c_J_isKind (l : Launch) (D : va_G) (dT : Nat → ClassId) (A : Nat → Prop) (KX : State → Prop) (L : Nat → Nat → Prop) (ad : Nat → Nat → Nat) (τ : ph_T) (x : Int) (hx : ph_ri x) : ph_M l y_J_isKind (.code y_J_isKind b_J_isKind 1 (some .boolean) :: TB) ({ frames := 0, cells := 0, slots := 0, locals := 0 } : Room) D CLs (TY dT) dT kd A KX [.int (ph_i (x))] L ad τ (fun r L' ad' τ' => L' = L ∧ ad' = ad ∧ τ' = τ ∧ r = some (.int (ph_i (ph_b (1 ≤ x ∧ x ≤ 6))))) 0 0 := by
  refine ph_M.of (cc := b_J_isKind) (maxL := 1) (ret := (some .boolean)) (by decide) rfl (Nat.le_of_ble_eq_true rfl) ?_
  intro p e s m below meth c C0 hr hlk hnm
  have C := C0.sub
  refine ph_loc (l2 := [(0, .int (ph_i (x)))]) ⟨rfl, trivial⟩ ?_
  refine ph_iload_n (pc := 0) C d_J_isKind_0 rfl ?_
  refine ph_iconst (pc := 1) C d_J_isKind_1 ?_
  refine ph_icmp_lt (pc := 2) (tgt := 15) C d_J_isKind_2 (by decide) (by omega) (by omega) (fun c2 => ?_) (fun c2 => ?_)
  · refine ph_iconst (pc := 15) C d_J_isKind_15 ?_
    exact ph_iret (pc := 16) C d_J_isKind_16 hr hlk (by decide) (by decide) (by decide) ⟨rfl, rfl, rfl, (ph_bf (by omega))⟩
  · refine ph_iload_n (pc := 5) C d_J_isKind_5 rfl ?_
    refine ph_bipush (pc := 6) C d_J_isKind_6 (by decide) ?_
    refine ph_icmp_gt (pc := 8) (tgt := 15) C d_J_isKind_8 (by decide) (by omega) (by omega) (fun c8 => ?_) (fun c8 => ?_)
    · refine ph_iconst (pc := 15) C d_J_isKind_15 ?_
      exact ph_iret (pc := 16) C d_J_isKind_16 hr hlk (by decide) (by decide) (by decide) ⟨rfl, rfl, rfl, (ph_bf (by omega))⟩
    · refine ph_iconst (pc := 11) C d_J_isKind_11 ?_
      refine ph_goto (pc := 12) (tgt := 16) C d_J_isKind_12 (by decide) ?_
      exact ph_iret (pc := 16) C d_J_isKind_16 hr hlk (by decide) (by decide) (by decide) ⟨rfl, rfl, rfl, (ph_bt (by omega))⟩
set_option maxHeartbeats 4000000 in
set_option maxRecDepth 100000 in
theorem c_J_isTime (l : Launch) (D : va_G) (dT : Nat → ClassId) (A : Nat → Prop) (KX : State → Prop) (L : Nat → Nat → Prop) (ad : Nat → Nat → Nat) (τ : ph_T) (S : ph_T) (o : Nat) (hI : JR S o L ad τ) (hV : IV S) (x : Int) (hx : ph_rl x) : ph_M l y_J_isTime (.code y_J_isTime b_J_isTime 3 (some .boolean) :: TB) ({ frames := 0, cells := 0, slots := 0, locals := 0 } : Room) D CLs (TY dT) dT kd A KX [.ref (o), .long (ph_l (x))] L ad τ (fun r L' ad' τ' => L' = L ∧ ad' = ad ∧ τ' = τ ∧ r = some (.int (ph_i (ph_b (S 0 0 11 ≤ x ∧ x ≤ 1000000000))))) 0 0 := by
  refine ph_M.of (cc := b_J_isTime) (maxL := 3) (ret := (some .boolean)) (by decide) rfl (Nat.le_of_ble_eq_true rfl) ?_
  intro p e s m below meth c C0 hr hlk hnm
  have C := C0.sub
  refine ph_loc (l2 := [(0, .ref (o)), (1, .long (ph_l (x)))]) ⟨rfl, rfl, trivial⟩ ?_
  have hc := hV.c
  refine ph_lload_n (pc := 0) C d_J_isTime_0 rfl ?_
  refine ph_aload_n (pc := 1) C d_J_isTime_1 rfl ?_
  refine gt_J_54 (pc := 2) C d_J_isTime_2 (hI.live (g := 0) (i := 0) rfl) hI.ob (hI.dat rfl rfl) ?_
  refine ph_l_lt (pc := 5) (tgt := 21) C d_J_isTime_5 d_J_isTime_6 (by decide) (by omega) (by omega) (fun c5 => ?_) (fun c5 => ?_)
  · refine ph_iconst (pc := 21) C d_J_isTime_21 ?_
    exact ph_iret (pc := 22) C d_J_isTime_22 hr hlk (by decide) (by decide) (by decide) ⟨rfl, rfl, rfl, (ph_bf (by omega))⟩
  · refine ph_lload_n (pc := 9) C d_J_isTime_9 rfl ?_
    refine ph_ldc2 (pc := 10) C d_J_isTime_10 1000000000 (by decide) tw_105 ?_
    refine ph_l_gt (pc := 13) (tgt := 21) C d_J_isTime_13 d_J_isTime_14 (by decide) (by omega) (by omega) (fun c13 => ?_) (fun c13 => ?_)
    · refine ph_iconst (pc := 21) C d_J_isTime_21 ?_
      exact ph_iret (pc := 22) C d_J_isTime_22 hr hlk (by decide) (by decide) (by decide) ⟨rfl, rfl, rfl, (ph_bf (by omega))⟩
    · refine ph_iconst (pc := 17) C d_J_isTime_17 ?_
      refine ph_goto (pc := 18) (tgt := 22) C d_J_isTime_18 (by decide) ?_
      exact ph_iret (pc := 22) C d_J_isTime_22 hr hlk (by decide) (by decide) (by decide) ⟨rfl, rfl, rfl, (ph_bt (by omega))⟩
set_option maxHeartbeats 4000000 in
set_option maxRecDepth 100000 in
theorem c_J_dueAt (l : Launch) (D : va_G) (dT : Nat → ClassId) (A : Nat → Prop) (KX : State → Prop) (L : Nat → Nat → Prop) (ad : Nat → Nat → Nat) (τ : ph_T) (S : ph_T) (o : Nat) (hI : JR S o L ad τ) (hV : IV S) (i s0 : Nat) (hi : LC S 2 i) (hs : LC S 1 s0) : ph_M l y_J_dueAt (.code y_J_dueAt b_J_dueAt 3 (some .long) :: TB) ({ frames := 0, cells := 0, slots := 0, locals := 0 } : Room) D CLs (TY dT) dT kd A KX [.ref (o), .int (ph_i ((i : Int))), .int (ph_i ((s0 : Int)))] L ad τ (fun r L' ad' τ' => L' = L ∧ ad' = ad ∧ τ' = τ ∧ r = some (.long (ph_l (S 2 i 1 + S 1 s0 0)))) 0 0 := by
  refine ph_M.of (cc := b_J_dueAt) (maxL := 3) (ret := (some .long)) (by decide) rfl (Nat.le_of_ble_eq_true rfl) ?_
  intro p e s m below meth c C0 hr hlk hnm
  have C := C0.sub
  refine ph_loc (l2 := [(0, .ref (o)), (1, .int (ph_i ((i : Int)))), (2, .int (ph_i ((s0 : Int))))]) ⟨rfl, rfl, rfl, trivial⟩ ?_
  have hc := hV.c
  refine ph_aload_n (pc := 0) C d_J_dueAt_0 rfl ?_
  refine gt_J_21 (pc := 1) C d_J_dueAt_1 (hI.live (g := 0) (i := 0) rfl) hI.ob hI.r2 ?_
  refine ph_iload_n (pc := 4) C d_J_dueAt_4 rfl ?_
  refine ph_aald (pc := 5) (t := 1) C d_J_dueAt_5 (hI.live (g := 5) (i := 0) rfl) rfl rfl rfl i rfl (by have := hi; simp only [LC] at this; omega) (by decide) (ph_vr (hI.e5 hi)) ?_
  refine gt_J_174 (pc := 6) C d_J_dueAt_6 (hI.live hi) rfl (hI.dat hi rfl) ?_
  refine ph_aload_n (pc := 9) C d_J_dueAt_9 rfl ?_
  refine gt_J_11 (pc := 10) C d_J_dueAt_10 (hI.live (g := 0) (i := 0) rfl) hI.ob hI.r0 ?_
  refine ph_iload_n (pc := 13) C d_J_dueAt_13 rfl ?_
  refine ph_aald (pc := 14) (t := 0) C d_J_dueAt_14 (hI.live (g := 4) (i := 0) rfl) rfl rfl rfl s0 rfl (by have := hs; simp only [LC] at this; omega) (by decide) (ph_vr (hI.e4 hs)) ?_
  refine gt_J_58 (pc := 15) C d_J_dueAt_15 (hI.live hs) rfl (hI.dat hs rfl) ?_
  refine ph_ladd (pc := 18) C d_J_dueAt_18 ?_
  exact ph_lret (pc := 19) C d_J_dueAt_19 hr hlk (by decide) (by decide) ⟨rfl, rfl, rfl, rfl⟩
