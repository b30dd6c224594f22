/-! ===== the small classes: over any heap that holds the object ===== -/
set_option maxHeartbeats 4000000 in
set_option maxRecDepth 100000 in
theorem c_I_isOnBelt (l : Launch) (D : va_G) (dT : Nat → ClassId) (A : Nat → Prop) (KX : State → Prop) (L : Nat → Nat → Prop) (ad : Nat → Nat → Nat) (τ : ph_T) (i a : Nat) (hL : L 2 i) (ha : ad 2 i = a) (h5 : ph_ri (τ 2 i 5)) : ph_M l y_I_isOnBelt (.code y_I_isOnBelt b_I_isOnBelt 1 (some .boolean) :: TB) ({ frames := 0, cells := 0, slots := 0, locals := 0 } : Room) D CLs (TY dT) dT kd A KX [.ref (a)] L ad τ (fun r L' ad' τ' => L' = L ∧ ad' = ad ∧ τ' = τ ∧ r = some (.int (ph_i (ph_b (τ 2 i 5 = 0))))) 0 0 := by
  refine ph_M.of (cc := b_I_isOnBelt) (maxL := 1) (ret := (some .boolean)) (by decide) rfl (Nat.le_of_ble_eq_true rfl) ?_
  intro p e s m below meth c C0 hr hlk hnm
  have C := C0.sub
  refine ph_loc (l2 := [(0, .ref (a))]) ⟨rfl, trivial⟩ ?_
  refine ph_aload_n (pc := 0) C d_I_isOnBelt_0 rfl ?_
  refine gt_I_22 (pc := 1) C d_I_isOnBelt_1 hL ha rfl ?_
  refine ph_if_ne (pc := 4) (tgt := 11) C d_I_isOnBelt_4 (by decide) (by omega) (fun c4 => ?_) (fun c4 => ?_)
  · refine ph_iconst (pc := 11) C d_I_isOnBelt_11 ?_
    exact ph_iret (pc := 12) C d_I_isOnBelt_12 hr hlk (by decide) (by decide) (by decide) ⟨rfl, rfl, rfl, (ph_bf (by omega))⟩
  · refine ph_iconst (pc := 7) C d_I_isOnBelt_7 ?_
    refine ph_goto (pc := 8) (tgt := 12) C d_I_isOnBelt_8 (by decide) ?_
    exact ph_iret (pc := 12) C d_I_isOnBelt_12 hr hlk (by decide) (by decide) (by decide) ⟨rfl, rfl, rfl, (ph_bt (by omega))⟩
set_option maxHeartbeats 4000000 in
set_option maxRecDepth 100000 in
theorem c_I_isOff (l : Launch) (D : va_G) (dT : Nat → ClassId) (A : Nat → Prop) (KX : State → Prop) (L : Nat → Nat → Prop) (ad : Nat → Nat → Nat) (τ : ph_T) (i a : Nat) (hL : L 2 i) (ha : ad 2 i = a) (h5 : ph_ri (τ 2 i 5)) : ph_M l y_I_isOff (.code y_I_isOff b_I_isOff 1 (some .boolean) :: TB) ({ frames := 0, cells := 0, slots := 0, locals := 0 } : Room) D CLs (TY dT) dT kd A KX [.ref (a)] L ad τ (fun r L' ad' τ' => L' = L ∧ ad' = ad ∧ τ' = τ ∧ r = some (.int (ph_i (ph_b (τ 2 i 5 = 2))))) 0 0 := by
  refine ph_M.of (cc := b_I_isOff) (maxL := 1) (ret := (some .boolean)) (by decide) rfl (Nat.le_of_ble_eq_true rfl) ?_
  intro p e s m below meth c C0 hr hlk hnm
  have C := C0.sub
  refine ph_loc (l2 := [(0, .ref (a))]) ⟨rfl, trivial⟩ ?_
  refine ph_aload_n (pc := 0) C d_I_isOff_0 rfl ?_
  refine gt_I_22 (pc := 1) C d_I_isOff_1 hL ha rfl ?_
  refine ph_iconst (pc := 4) C d_I_isOff_4 ?_
  refine ph_icmp_ne (pc := 5) (tgt := 12) C d_I_isOff_5 (by decide) (by omega) (by omega) (fun c5 => ?_) (fun c5 => ?_)
  · refine ph_iconst (pc := 12) C d_I_isOff_12 ?_
    exact ph_iret (pc := 13) C d_I_isOff_13 hr hlk (by decide) (by decide) (by decide) ⟨rfl, rfl, rfl, (ph_bf (by omega))⟩
  · refine ph_iconst (pc := 8) C d_I_isOff_8 ?_
    refine ph_goto (pc := 9) (tgt := 13) C d_I_isOff_9 (by decide) ?_
    exact ph_iret (pc := 13) C d_I_isOff_13 hr hlk (by decide) (by decide) (by decide) ⟨rfl, rfl, rfl, (ph_bt (by omega))⟩
set_option maxHeartbeats 4000000 in
set_option maxRecDepth 100000 in
theorem c_I_takeOffBelt (l : Launch) (D : va_G) (dT : Nat → ClassId) (A : Nat → Prop) (KX : State → Prop) (L : Nat → Nat → Prop) (ad : Nat → Nat → Nat) (τ : ph_T) (i a : Nat) (hL : L 2 i) (ha : ad 2 i = a) (f : Int) (h5 : ph_ri (τ 2 i 5)) : ph_M l y_I_takeOffBelt (.code y_I_takeOffBelt b_I_takeOffBelt 2 none :: TB) ({ frames := 0, cells := 0, slots := 0, locals := 0 } : Room) D CLs (TY dT) dT kd A KX [.ref (a), .int (ph_i (f))] L ad τ (fun r L' ad' τ' => L' = L ∧ ad' = ad ∧ τ' = (if τ 2 i 5 = 2 then τ else ph_up (ph_up τ 2 i 5 2) 2 i 2 f) ∧ r = none) 0 0 := by
  refine ph_M.of (cc := b_I_takeOffBelt) (maxL := 2) (ret := none) (by decide) rfl (Nat.le_of_ble_eq_true rfl) ?_
  intro p e s m below meth c C0 hr hlk hnm
  have C := C0.sub
  refine ph_loc (l2 := [(0, .ref (a)), (1, .int (ph_i (f)))]) ⟨rfl, rfl, trivial⟩ ?_
  refine ph_aload_n (pc := 0) C d_I_takeOffBelt_0 rfl ?_
  refine gt_I_22 (pc := 1) C d_I_takeOffBelt_1 hL ha rfl ?_
  refine ph_iconst (pc := 4) C d_I_takeOffBelt_4 ?_
  refine ph_icmp_eq (pc := 5) (tgt := 18) C d_I_takeOffBelt_5 (by decide) (by omega) (by omega) (fun c5 => ?_) (fun c5 => ?_)
  · exact ph_vret (pc := 18) C d_I_takeOffBelt_18 hr hlk (by decide) (by decide) ⟨rfl, rfl, (if_pos (by omega)).symm, rfl⟩
  · refine ph_aload_n (pc := 8) C d_I_takeOffBelt_8 rfl ?_
    refine ph_iconst (pc := 9) C d_I_takeOffBelt_9 ?_
    refine pt_I_22 (pc := 10) C d_I_takeOffBelt_10 hL ha ?_
    refine ph_aload_n (pc := 13) C d_I_takeOffBelt_13 rfl ?_
    refine ph_iload_n (pc := 14) C d_I_takeOffBelt_14 rfl ?_
    refine pt_I_9 (pc := 15) C d_I_takeOffBelt_15 hL ha ?_
    exact ph_vret (pc := 18) C d_I_takeOffBelt_18 hr hlk (by decide) (by decide) ⟨rfl, rfl, (if_neg (by omega)).symm, rfl⟩
set_option maxHeartbeats 4000000 in
set_option maxRecDepth 100000 in
theorem c_I_leaveBelt (l : Launch) (D : va_G) (dT : Nat → ClassId) (A : Nat → Prop) (KX : State → Prop) (L : Nat → Nat → Prop) (ad : Nat → Nat → Nat) (τ : ph_T) (i a : Nat) (hL : L 2 i) (ha : ad 2 i = a) (h5 : ph_ri (τ 2 i 5)) : ph_M l y_I_leaveBelt (.code y_I_leaveBelt b_I_leaveBelt 1 none :: TB) ({ frames := 0, cells := 0, slots := 0, locals := 0 } : Room) D CLs (TY dT) dT kd A KX [.ref (a)] L ad τ (fun r L' ad' τ' => L' = L ∧ ad' = ad ∧ τ' = (if τ 2 i 5 = 0 then ph_up τ 2 i 5 1 else τ) ∧ r = none) 0 0 := by
  refine ph_M.of (cc := b_I_leaveBelt) (maxL := 1) (ret := none) (by decide) rfl (Nat.le_of_ble_eq_true rfl) ?_
  intro p e s m below meth c C0 hr hlk hnm
  have C := C0.sub
  refine ph_loc (l2 := [(0, .ref (a))]) ⟨rfl, trivial⟩ ?_
  refine ph_aload_n (pc := 0) C d_I_leaveBelt_0 rfl ?_
  refine gt_I_22 (pc := 1) C d_I_leaveBelt_1 hL ha rfl ?_
  refine ph_if_ne (pc := 4) (tgt := 12) C d_I_leaveBelt_4 (by decide) (by omega) (fun c4 => ?_) (fun c4 => ?_)
  · exact ph_vret (pc := 12) C d_I_leaveBelt_12 hr hlk (by decide) (by decide) ⟨rfl, rfl, (if_neg (by omega)).symm, rfl⟩
  · refine ph_aload_n (pc := 7) C d_I_leaveBelt_7 rfl ?_
    refine ph_iconst (pc := 8) C d_I_leaveBelt_8 ?_
    refine pt_I_22 (pc := 9) C d_I_leaveBelt_9 hL ha ?_
    exact ph_vret (pc := 12) C d_I_leaveBelt_12 hr hlk (by decide) (by decide) ⟨rfl, rfl, (if_pos (by omega)).symm, rfl⟩
set_option maxHeartbeats 4000000 in
set_option maxRecDepth 100000 in
theorem c_S_darken (l : Launch) (D : va_G) (dT : Nat → ClassId) (A : Nat → Prop) (KX : State → Prop) (L : Nat → Nat → Prop) (ad : Nat → Nat → Nat) (τ : ph_T) (i a : Nat) (hL : L 1 i) (ha : ad 1 i = a) (b t : Int) : ph_M l y_S_darken (.code y_S_darken b_S_darken 4 none :: TB) ({ frames := 0, cells := 0, slots := 0, locals := 0 } : Room) D CLs (TY dT) dT kd A KX [.ref (a), .int (ph_i (b)), .long (ph_l (t))] L ad τ (fun r L' ad' τ' => L' = L ∧ ad' = ad ∧ τ' = (ph_up (ph_up (ph_up (ph_up τ 1 i 2 1) 1 i 3 b) 1 i 4 t) 1 i 5 0) ∧ r = none) 0 0 := by
  refine ph_M.of (cc := b_S_darken) (maxL := 4) (ret := none) (by decide) rfl (Nat.le_of_ble_eq_true rfl) ?_
  intro p e s m below meth c C0 hr hlk hnm
  have C := C0.sub
  refine ph_loc (l2 := [(0, .ref (a)), (1, .int (ph_i (b))), (2, .long (ph_l (t)))]) ⟨rfl, rfl, rfl, trivial⟩ ?_
  refine ph_aload_n (pc := 0) C d_S_darken_0 rfl ?_
  refine ph_iconst (pc := 1) C d_S_darken_1 ?_
  refine pt_S_15 (pc := 2) C d_S_darken_2 (by omega) hL ha ?_
  refine ph_aload_n (pc := 5) C d_S_darken_5 rfl ?_
  refine ph_iload_n (pc := 6) C d_S_darken_6 rfl ?_
  refine pt_S_19 (pc := 7) C d_S_darken_7 hL ha ?_
  refine ph_aload_n (pc := 10) C d_S_darken_10 rfl ?_
  refine ph_lload_n (pc := 11) C d_S_darken_11 rfl ?_
  refine pt_S_22 (pc := 12) C d_S_darken_12 hL ha ?_
  refine ph_aload_n (pc := 15) C d_S_darken_15 rfl ?_
  refine ph_iconst (pc := 16) C d_S_darken_16 ?_
  refine pt_S_26 (pc := 17) C d_S_darken_17 (by omega) hL ha ?_
  exact ph_vret (pc := 20) C d_S_darken_20 hr hlk (by decide) (by decide) ⟨rfl, rfl, rfl, rfl⟩
set_option maxHeartbeats 4000000 in
set_option maxRecDepth 100000 in
theorem c_S_lighten (l : Launch) (D : va_G) (dT : Nat → ClassId) (A : Nat → Prop) (KX : State → Prop) (L : Nat → Nat → Prop) (ad : Nat → Nat → Nat) (τ : ph_T) (i a : Nat) (hL : L 1 i) (ha : ad 1 i = a) : ph_M l y_S_lighten (.code y_S_lighten b_S_lighten 1 none :: TB) ({ frames := 0, cells := 0, slots := 0, locals := 0 } : Room) D CLs (TY dT) dT kd A KX [.ref (a)] L ad τ (fun r L' ad' τ' => L' = L ∧ ad' = ad ∧ τ' = (ph_up (ph_up τ 1 i 2 0) 1 i 3 0) ∧ r = none) 0 0 := by
  refine ph_M.of (cc := b_S_lighten) (maxL := 1) (ret := none) (by decide) rfl (Nat.le_of_ble_eq_true rfl) ?_
  intro p e s m below meth c C0 hr hlk hnm
  have C := C0.sub
  refine ph_loc (l2 := [(0, .ref (a))]) ⟨rfl, trivial⟩ ?_
  refine ph_aload_n (pc := 0) C d_S_lighten_0 rfl ?_
  refine ph_iconst (pc := 1) C d_S_lighten_1 ?_
  refine pt_S_15 (pc := 2) C d_S_lighten_2 (by omega) hL ha ?_
  refine ph_aload_n (pc := 5) C d_S_lighten_5 rfl ?_
  refine ph_iconst (pc := 6) C d_S_lighten_6 ?_
  refine pt_S_19 (pc := 7) C d_S_lighten_7 hL ha ?_
  exact ph_vret (pc := 10) C d_S_lighten_10 hr hlk (by decide) (by decide) ⟨rfl, rfl, rfl, rfl⟩
