/-! ===== the small classes: over any heap that holds the object ===== -/
set_option maxHeartbeats 4000000 in
set_option maxRecDepth 100000 in
theorem c_I_isOnBelt (l : Launch) (D : va_G) (dT : Nat → ClassId) (A : Nat → Prop) (KX : State → Prop) (L : Nat → Nat → Prop) (ad : Nat → Nat → Nat) (τ : ph_T) (i a : Nat) (hL : L 2 i) (ha : ad 2 i = a) (z : Int) (hz : τ 2 i 5 = z) (h5 : ph_ri z) : ph_M l y_I_isOnBelt (.code y_I_isOnBelt b_I_isOnBelt 1 (some .boolean) :: TB) ({ frames := 0, cells := 0, slots := 0, locals := 0 } : Room) D CLs (TY dT) dT kd A KX [.ref (a)] L ad τ (fun r L' ad' τ' => L' = L ∧ ad' = ad ∧ τ' = τ ∧ r = some (.int (ph_i (ph_b (z = 0))))) 0 0 := by
  refine ph_M.of (cc := b_I_isOnBelt) (maxL := 1) (ret := (some .boolean)) (by decide) rfl (Nat.le_of_ble_eq_true rfl) ?_
  intro p e s m below meth c C0 hr hlk hnm
  have C := C0.sub
  refine ph_loc (l2 := [(0, .ref (a))]) ⟨rfl, trivial⟩ ?_
  refine ph_aload_n (pc := 0) C d_I_isOnBelt_0 rfl ?_
  refine gt_I_22 (pc := 1) C d_I_isOnBelt_1 hL ha hz ?_
  refine ph_if_ne (pc := 4) (tgt := 11) C d_I_isOnBelt_4 (by decide) (by omega) (fun c4 => ?_) (fun c4 => ?_)
  · refine ph_iconst (pc := 11) C d_I_isOnBelt_11 ?_
    exact ph_iret (pc := 12) C d_I_isOnBelt_12 hr hlk (by decide) (by decide) (by decide) ⟨rfl, rfl, rfl, (ph_bf (by omega))⟩
  · refine ph_iconst (pc := 7) C d_I_isOnBelt_7 ?_
    refine ph_goto (pc := 8) (tgt := 12) C d_I_isOnBelt_8 (by decide) ?_
    exact ph_iret (pc := 12) C d_I_isOnBelt_12 hr hlk (by decide) (by decide) (by decide) ⟨rfl, rfl, rfl, (ph_bt (by omega))⟩
set_option maxHeartbeats 4000000 in
set_option maxRecDepth 100000 in
theorem c_I_isOff (l : Launch) (D : va_G) (dT : Nat → ClassId) (A : Nat → Prop) (KX : State → Prop) (L : Nat → Nat → Prop) (ad : Nat → Nat → Nat) (τ : ph_T) (i a : Nat) (hL : L 2 i) (ha : ad 2 i = a) (z : Int) (hz : τ 2 i 5 = z) (h5 : ph_ri z) : ph_M l y_I_isOff (.code y_I_isOff b_I_isOff 1 (some .boolean) :: TB) ({ frames := 0, cells := 0, slots := 0, locals := 0 } : Room) D CLs (TY dT) dT kd A KX [.ref (a)] L ad τ (fun r L' ad' τ' => L' = L ∧ ad' = ad ∧ τ' = τ ∧ r = some (.int (ph_i (ph_b (z = 2))))) 0 0 := by
  refine ph_M.of (cc := b_I_isOff) (maxL := 1) (ret := (some .boolean)) (by decide) rfl (Nat.le_of_ble_eq_true rfl) ?_
  intro p e s m below meth c C0 hr hlk hnm
  have C := C0.sub
  refine ph_loc (l2 := [(0, .ref (a))]) ⟨rfl, trivial⟩ ?_
  refine ph_aload_n (pc := 0) C d_I_isOff_0 rfl ?_
  refine gt_I_22 (pc := 1) C d_I_isOff_1 hL ha hz ?_
  refine ph_iconst (pc := 4) C d_I_isOff_4 ?_
  refine ph_icmp_ne (pc := 5) (tgt := 12) C d_I_isOff_5 (by decide) (by omega) (by omega) (fun c5 => ?_) (fun c5 => ?_)
  · refine ph_iconst (pc := 12) C d_I_isOff_12 ?_
    exact ph_iret (pc := 13) C d_I_isOff_13 hr hlk (by decide) (by decide) (by decide) ⟨rfl, rfl, rfl, (ph_bf (by omega))⟩
  · refine ph_iconst (pc := 8) C d_I_isOff_8 ?_
    refine ph_goto (pc := 9) (tgt := 13) C d_I_isOff_9 (by decide) ?_
    exact ph_iret (pc := 13) C d_I_isOff_13 hr hlk (by decide) (by decide) (by decide) ⟨rfl, rfl, rfl, (ph_bt (by omega))⟩
set_option maxHeartbeats 4000000 in
set_option maxRecDepth 100000 in
theorem c_I_takeOffBelt (l : Launch) (D : va_G) (dT : Nat → ClassId) (A : Nat → Prop) (KX : State → Prop) (L : Nat → Nat → Prop) (ad : Nat → Nat → Nat) (τ : ph_T) (i a : Nat) (hL : L 2 i) (ha : ad 2 i = a) (z : Int) (hz : τ 2 i 5 = z) (h5 : ph_ri z) (f : Int) : ph_M l y_I_takeOffBelt (.code y_I_takeOffBelt b_I_takeOffBelt 2 none :: TB) ({ frames := 0, cells := 0, slots := 0, locals := 0 } : Room) D CLs (TY dT) dT kd A KX [.ref (a), .int (ph_i (f))] L ad τ (fun r L' ad' τ' => L' = L ∧ ad' = ad ∧ τ' = (if z = 2 then τ else ph_up (ph_up τ 2 i 5 2) 2 i 2 f) ∧ r = none) 0 0 := by
  refine ph_M.of (cc := b_I_takeOffBelt) (maxL := 2) (ret := none) (by decide) rfl (Nat.le_of_ble_eq_true rfl) ?_
  intro p e s m below meth c C0 hr hlk hnm
  have C := C0.sub
  refine ph_loc (l2 := [(0, .ref (a)), (1, .int (ph_i (f)))]) ⟨rfl, rfl, trivial⟩ ?_
  refine ph_aload_n (pc := 0) C d_I_takeOffBelt_0 rfl ?_
  refine gt_I_22 (pc := 1) C d_I_takeOffBelt_1 hL ha hz ?_
  refine ph_iconst (pc := 4) C d_I_takeOffBelt_4 ?_
  refine ph_icmp_eq (pc := 5) (tgt := 18) C d_I_takeOffBelt_5 (by decide) (by omega) (by omega) (fun c5 => ?_) (fun c5 => ?_)
  · exact ph_vret (pc := 18) C d_I_takeOffBelt_18 hr hlk (by decide) (by decide) ⟨rfl, rfl, (if_pos (by omega)).symm, rfl⟩
  · refine ph_aload_n (pc := 8) C d_I_takeOffBelt_8 rfl ?_
    refine ph_iconst (pc := 9) C d_I_takeOffBelt_9 ?_
    refine pt_I_22 (pc := 10) C d_I_takeOffBelt_10 hL ha ?_
    refine ph_aload_n (pc := 13) C d_I_takeOffBelt_13 rfl ?_
    refine ph_iload_n (pc := 14) C d_I_takeOffBelt_14 rfl ?_
    refine pt_I_9 (pc := 15) C d_I_takeOffBelt_15 hL ha ?_
    exact ph_vret (pc := 18) C d_I_takeOffBelt_18 hr hlk (by decide) (by decide) ⟨rfl, rfl, (if_neg (by omega)).symm, rfl⟩
set_option maxHeartbeats 4000000 in
set_option maxRecDepth 100000 in
theorem c_I_leaveBelt (l : Launch) (D : va_G) (dT : Nat → ClassId) (A : Nat → Prop) (KX : State → Prop) (L : Nat → Nat → Prop) (ad : Nat → Nat → Nat) (τ : ph_T) (i a : Nat) (hL : L 2 i) (ha : ad 2 i = a) (z : Int) (hz : τ 2 i 5 = z) (h5 : ph_ri z) : ph_M l y_I_leaveBelt (.code y_I_leaveBelt b_I_leaveBelt 1 none :: TB) ({ frames := 0, cells := 0, slots := 0, locals := 0 } : Room) D CLs (TY dT) dT kd A KX [.ref (a)] L ad τ (fun r L' ad' τ' => L' = L ∧ ad' = ad ∧ τ' = (if z = 0 then ph_up τ 2 i 5 1 else τ) ∧ r = none) 0 0 := by
  refine ph_M.of (cc := b_I_leaveBelt) (maxL := 1) (ret := none) (by decide) rfl (Nat.le_of_ble_eq_true rfl) ?_
  intro p e s m below meth c C0 hr hlk hnm
  have C := C0.sub
  refine ph_loc (l2 := [(0, .ref (a))]) ⟨rfl, trivial⟩ ?_
  refine ph_aload_n (pc := 0) C d_I_leaveBelt_0 rfl ?_
  refine gt_I_22 (pc := 1) C d_I_leaveBelt_1 hL ha hz ?_
  refine ph_if_ne (pc := 4) (tgt := 12) C d_I_leaveBelt_4 (by decide) (by omega) (fun c4 => ?_) (fun c4 => ?_)
  · exact ph_vret (pc := 12) C d_I_leaveBelt_12 hr hlk (by decide) (by decide) ⟨rfl, rfl, (if_neg (by omega)).symm, rfl⟩
  · refine ph_aload_n (pc := 7) C d_I_leaveBelt_7 rfl ?_
    refine ph_iconst (pc := 8) C d_I_leaveBelt_8 ?_
    refine pt_I_22 (pc := 9) C d_I_leaveBelt_9 hL ha ?_
    exact ph_vret (pc := 12) C d_I_leaveBelt_12 hr hlk (by decide) (by decide) ⟨rfl, rfl, (if_pos (by omega)).symm, rfl⟩
set_option maxHeartbeats 4000000 in
set_option maxRecDepth 100000 in
theorem c_S_darken (l : Launch) (D : va_G) (dT : Nat → ClassId) (A : Nat → Prop) (KX : State → Prop) (L : Nat → Nat → Prop) (ad : Nat → Nat → Nat) (τ : ph_T) (i a : Nat) (hL : L 1 i) (ha : ad 1 i = a) (b t : Int) : ph_M l y_S_darken (.code y_S_darken b_S_darken 4 none :: TB) ({ frames := 0, cells := 0, slots := 0, locals := 0 } : Room) D CLs (TY dT) dT kd A KX [.ref (a), .int (ph_i (b)), .long (ph_l (t))] L ad τ (fun r L' ad' τ' => L' = L ∧ ad' = ad ∧ τ' = (ph_up (ph_up (ph_up (ph_up τ 1 i 2 1) 1 i 3 b) 1 i 4 t) 1 i 5 0) ∧ r = none) 0 0 := by
  refine ph_M.of (cc := b_S_darken) (maxL := 4) (ret := none) (by decide) rfl (Nat.le_of_ble_eq_true rfl) ?_
  intro p e s m below meth c C0 hr hlk hnm
  have C := C0.sub
  refine ph_loc (l2 := [(0, .ref (a)), (1, .int (ph_i (b))), (2, .long (ph_l (t)))]) ⟨rfl, rfl, rfl, trivial⟩ ?_
  refine ph_aload_n (pc := 0) C d_S_darken_0 rfl ?_
  refine ph_iconst (pc := 1) C d_S_darken_1 ?_
  refine pt_S_15 (pc := 2) C d_S_darken_2 (by omega) hL ha ?_
  refine ph_aload_n (pc := 5) C d_S_darken_5 rfl ?_
  refine ph_iload_n (pc := 6) C d_S_darken_6 rfl ?_
  refine pt_S_19 (pc := 7) C d_S_darken_7 hL ha ?_
  refine ph_aload_n (pc := 10) C d_S_darken_10 rfl ?_
  refine ph_lload_n (pc := 11) C d_S_darken_11 rfl ?_
  refine pt_S_22 (pc := 12) C d_S_darken_12 hL ha ?_
  refine ph_aload_n (pc := 15) C d_S_darken_15 rfl ?_
  refine ph_iconst (pc := 16) C d_S_darken_16 ?_
  refine pt_S_26 (pc := 17) C d_S_darken_17 (by omega) hL ha ?_
  exact ph_vret (pc := 20) C d_S_darken_20 hr hlk (by decide) (by decide) ⟨rfl, rfl, rfl, rfl⟩
set_option maxHeartbeats 4000000 in
set_option maxRecDepth 100000 in
theorem c_S_lighten (l : Launch) (D : va_G) (dT : Nat → ClassId) (A : Nat → Prop) (KX : State → Prop) (L : Nat → Nat → Prop) (ad : Nat → Nat → Nat) (τ : ph_T) (i a : Nat) (hL : L 1 i) (ha : ad 1 i = a) : ph_M l y_S_lighten (.code y_S_lighten b_S_lighten 1 none :: TB) ({ frames := 0, cells := 0, slots := 0, locals := 0 } : Room) D CLs (TY dT) dT kd A KX [.ref (a)] L ad τ (fun r L' ad' τ' => L' = L ∧ ad' = ad ∧ τ' = (ph_up (ph_up τ 1 i 2 0) 1 i 3 0) ∧ r = none) 0 0 := by
  refine ph_M.of (cc := b_S_lighten) (maxL := 1) (ret := none) (by decide) rfl (Nat.le_of_ble_eq_true rfl) ?_
  intro p e s m below meth c C0 hr hlk hnm
  have C := C0.sub
  refine ph_loc (l2 := [(0, .ref (a))]) ⟨rfl, trivial⟩ ?_
  refine ph_aload_n (pc := 0) C d_S_lighten_0 rfl ?_
  refine ph_iconst (pc := 1) C d_S_lighten_1 ?_
  refine pt_S_15 (pc := 2) C d_S_lighten_2 (by omega) hL ha ?_
  refine ph_aload_n (pc := 5) C d_S_lighten_5 rfl ?_
  refine ph_iconst (pc := 6) C d_S_lighten_6 ?_
  refine pt_S_19 (pc := 7) C d_S_lighten_7 hL ha ?_
  exact ph_vret (pc := 10) C d_S_lighten_10 hr hlk (by decide) (by decide) ⟨rfl, rfl, rfl, rfl⟩
set_option maxHeartbeats 4000000 in
set_option maxRecDepth 100000 in
theorem c_I_isSeenBy (l : Launch) (D : va_G) (dT : Nat → ClassId) (A : Nat → Prop) (KX : State → Prop) (L : Nat → Nat → Prop) (ad : Nat → Nat → Nat) (τ : ph_T) (i a : Nat) (hL : L 2 i) (ha : ad 2 i = a) (n s0 : Nat) (hn : τ 2 i 6 = (n : Int)) (hb : n < 256) (hs : s0 < 8) : ph_M l y_I_isSeenBy (.code y_I_isSeenBy b_I_isSeenBy 2 (some .boolean) :: TB) ({ frames := 0, cells := 0, slots := 0, locals := 0 } : Room) D CLs (TY dT) dT kd A KX [.ref (a), .int (ph_i ((s0 : Int)))] L ad τ (fun r L' ad' τ' => L' = L ∧ ad' = ad ∧ τ' = τ ∧ r = some (.int (ph_i (ph_b (n.testBit s0 = true))))) 0 0 := by
  refine ph_M.of (cc := b_I_isSeenBy) (maxL := 2) (ret := (some .boolean)) (by decide) rfl (Nat.le_of_ble_eq_true rfl) ?_
  intro p e s m below meth c C0 hr hlk hnm
  have C := C0.sub
  refine ph_loc (l2 := [(0, .ref (a)), (1, .int (ph_i ((s0 : Int))))]) ⟨rfl, rfl, trivial⟩ ?_
  refine ph_aload_n (pc := 0) C d_I_isSeenBy_0 rfl ?_
  refine gt_I_25 (pc := 1) C d_I_isSeenBy_1 hL ha hn ?_
  refine ph_iload_n (pc := 4) C d_I_isSeenBy_4 rfl ?_
  refine ph_ishr (pc := 5) C d_I_isSeenBy_5 ((n / 2 ^ s0 : Nat) : Int) (pb_ishr (by omega) (by omega)) ?_
  refine ph_iconst (pc := 6) C d_I_isSeenBy_6 ?_
  refine ph_iand (pc := 7) C d_I_isSeenBy_7 ((n / 2 ^ s0 % 2 : Nat) : Int) (pb_iand1 (pb_dv (by omega))) ?_
  refine ph_if_eq (pc := 8) (tgt := 15) C d_I_isSeenBy_8 (by decide) (pb_r2 _) (fun c8 => ?_) (fun c8 => ?_)
  · refine ph_iconst (pc := 15) C d_I_isSeenBy_15 ?_
    exact ph_iret (pc := 16) C d_I_isSeenBy_16 hr hlk (by decide) (by decide) (by decide) ⟨rfl, rfl, rfl, (ph_bf (pb_t0 c8))⟩
  · refine ph_iconst (pc := 11) C d_I_isSeenBy_11 ?_
    refine ph_goto (pc := 12) (tgt := 16) C d_I_isSeenBy_12 (by decide) ?_
    exact ph_iret (pc := 16) C d_I_isSeenBy_16 hr hlk (by decide) (by decide) (by decide) ⟨rfl, rfl, rfl, (ph_bt (pb_t1 c8))⟩
set_option maxHeartbeats 4000000 in
set_option maxRecDepth 100000 in
theorem c_I_beSeenBy (l : Launch) (D : va_G) (dT : Nat → ClassId) (A : Nat → Prop) (KX : State → Prop) (L : Nat → Nat → Prop) (ad : Nat → Nat → Nat) (τ : ph_T) (i a : Nat) (hL : L 2 i) (ha : ad 2 i = a) (n s0 : Nat) (hn : τ 2 i 6 = (n : Int)) (hb : n < 256) (hs : s0 < 8) : ph_M l y_I_beSeenBy (.code y_I_beSeenBy b_I_beSeenBy 2 none :: TB) ({ frames := 0, cells := 0, slots := 0, locals := 0 } : Room) D CLs (TY dT) dT kd A KX [.ref (a), .int (ph_i ((s0 : Int)))] L ad τ (fun r L' ad' τ' => L' = L ∧ ad' = ad ∧ τ' = (ph_up τ 2 i 6 ((n ||| 2 ^ s0 : Nat) : Int)) ∧ r = none) 0 0 := by
  refine ph_M.of (cc := b_I_beSeenBy) (maxL := 2) (ret := none) (by decide) rfl (Nat.le_of_ble_eq_true rfl) ?_
  intro p e s m below meth c C0 hr hlk hnm
  have C := C0.sub
  refine ph_loc (l2 := [(0, .ref (a)), (1, .int (ph_i ((s0 : Int))))]) ⟨rfl, rfl, trivial⟩ ?_
  refine ph_aload_n (pc := 0) C d_I_beSeenBy_0 rfl ?_
  refine ph_dup (pc := 1) C d_I_beSeenBy_1 rfl ?_
  refine gt_I_25 (pc := 2) C d_I_beSeenBy_2 hL ha hn ?_
  refine ph_iconst (pc := 5) C d_I_beSeenBy_5 ?_
  refine ph_iload_n (pc := 6) C d_I_beSeenBy_6 rfl ?_
  refine ph_ishl (pc := 7) C d_I_beSeenBy_7 ((2 ^ s0 : Nat) : Int) (pb_ishl1 (by omega)) ?_
  refine ph_ior (pc := 8) C d_I_beSeenBy_8 ((n ||| 2 ^ s0 : Nat) : Int) (pb_ior n (2 ^ s0)) ?_
  refine pt_I_25 (pc := 9) C d_I_beSeenBy_9 hL ha ?_
  exact ph_vret (pc := 12) C d_I_beSeenBy_12 hr hlk (by decide) (by decide) ⟨rfl, rfl, rfl, rfl⟩
set_option maxHeartbeats 4000000 in
set_option maxRecDepth 100000 in
theorem c_F_doubts (l : Launch) (D : va_G) (dT : Nat → ClassId) (A : Nat → Prop) (KX : State → Prop) (L : Nat → Nat → Prop) (ad : Nat → Nat → Nat) (τ : ph_T) (i a : Nat) (hL : L 3 i) (ha : ad 3 i = a) (n s0 : Nat) (hn : τ 3 i 5 = (n : Int)) (hb : n < 2305843009213693952) (hs : s0 < 61) : ph_M l y_F_doubts (.code y_F_doubts b_F_doubts 2 (some .boolean) :: TB) ({ frames := 0, cells := 0, slots := 0, locals := 0 } : Room) D CLs (TY dT) dT kd A KX [.ref (a), .int (ph_i ((s0 : Int)))] L ad τ (fun r L' ad' τ' => L' = L ∧ ad' = ad ∧ τ' = τ ∧ r = some (.int (ph_i (ph_b (n.testBit s0 = true))))) 0 0 := by
  refine ph_M.of (cc := b_F_doubts) (maxL := 2) (ret := (some .boolean)) (by decide) rfl (Nat.le_of_ble_eq_true rfl) ?_
  intro p e s m below meth c C0 hr hlk hnm
  have C := C0.sub
  refine ph_loc (l2 := [(0, .ref (a)), (1, .int (ph_i ((s0 : Int))))]) ⟨rfl, rfl, trivial⟩ ?_
  refine ph_aload_n (pc := 0) C d_F_doubts_0 rfl ?_
  refine gt_F_18 (pc := 1) C d_F_doubts_1 hL ha hn ?_
  refine ph_iload_n (pc := 4) C d_F_doubts_4 rfl ?_
  refine ph_lshr (pc := 5) C d_F_doubts_5 ((n / 2 ^ s0 : Nat) : Int) (pb_lshr (by omega) (by omega)) ?_
  refine ph_lconst (pc := 6) C d_F_doubts_6 1 (by decide) ?_
  refine ph_land (pc := 7) C d_F_doubts_7 ((n / 2 ^ s0 % 2 : Nat) : Int) (pb_land1 (pb_dv (by omega))) ?_
  refine ph_lconst (pc := 8) C d_F_doubts_8 0 (by decide) ?_
  refine ph_l_eq (pc := 9) (tgt := 17) C d_F_doubts_9 d_F_doubts_10 (by decide) (by first | exact pb_rl2 _ | omega) (by first | exact pb_rl2 _ | omega) (fun c9 => ?_) (fun c9 => ?_)
  · refine ph_iconst (pc := 17) C d_F_doubts_17 ?_
    exact ph_iret (pc := 18) C d_F_doubts_18 hr hlk (by decide) (by decide) (by decide) ⟨rfl, rfl, rfl, (ph_bf (pb_t0 c9))⟩
  · refine ph_iconst (pc := 13) C d_F_doubts_13 ?_
    refine ph_goto (pc := 14) (tgt := 18) C d_F_doubts_14 (by decide) ?_
    exact ph_iret (pc := 18) C d_F_doubts_18 hr hlk (by decide) (by decide) (by decide) ⟨rfl, rfl, rfl, (ph_bt (pb_t1 c9))⟩
set_option maxHeartbeats 4000000 in
set_option maxRecDepth 100000 in
theorem c_S_init (l : Launch) (D : va_G) (dT : Nat → ClassId) (A : Nat → Prop) (KX : State → Prop) (L : Nat → Nat → Prop) (ad : Nat → Nat → Nat) (τ : ph_T) (i a : Nat) (hL : L 1 i) (ha : ad 1 i = a) (x : Int) : ph_M l y_S_init (.code y_S_init b_S_init 3 none :: TB) ({ frames := 1, cells := 0, slots := 0, locals := 12 } : Room) D CLs (TY dT) dT kd A KX [.ref (a), .long (ph_l (x))] L ad τ (fun r L' ad' τ' => L' = L ∧ ad' = ad ∧ τ' = (ph_up (ph_up (ph_up (ph_up (ph_up (ph_up τ 1 i 1 (0)) 1 i 2 (0)) 1 i 3 (0)) 1 i 4 (0)) 1 i 5 (0)) 1 i 0 (x)) ∧ r = none) 0 0 := by
  refine ph_M.of (cc := b_S_init) (maxL := 3) (ret := none) (by decide) rfl (Nat.le_of_ble_eq_true rfl) ?_
  intro p e s m below meth c C0 hr hlk hnm
  have C := C0.sub
  refine ph_loc (l2 := [(0, .ref (a)), (1, .long (ph_l (x)))]) ⟨rfl, rfl, trivial⟩ ?_
  refine ph_aload_n (pc := 0) C d_S_init_0 rfl ?_
  refine ph_objInit (pc := 1) C d_S_init_1 tw_69 tw_12 tw_13 (by decide) (by decide) ?_
  refine ph_aload_n (pc := 4) C d_S_init_4 rfl ?_
  refine ph_iconst (pc := 5) C d_S_init_5 ?_
  refine pt_S_9 (pc := 6) C d_S_init_6 hL ha ?_
  refine ph_aload_n (pc := 9) C d_S_init_9 rfl ?_
  refine ph_iconst (pc := 10) C d_S_init_10 ?_
  refine pt_S_15 (pc := 11) C d_S_init_11 (by omega) hL ha ?_
  refine ph_aload_n (pc := 14) C d_S_init_14 rfl ?_
  refine ph_iconst (pc := 15) C d_S_init_15 ?_
  refine pt_S_19 (pc := 16) C d_S_init_16 hL ha ?_
  refine ph_aload_n (pc := 19) C d_S_init_19 rfl ?_
  refine ph_lconst (pc := 20) C d_S_init_20 0 (by decide) ?_
  refine pt_S_22 (pc := 21) C d_S_init_21 hL ha ?_
  refine ph_aload_n (pc := 24) C d_S_init_24 rfl ?_
  refine ph_iconst (pc := 25) C d_S_init_25 ?_
  refine pt_S_26 (pc := 26) C d_S_init_26 (by omega) hL ha ?_
  refine ph_aload_n (pc := 29) C d_S_init_29 rfl ?_
  refine ph_lload_n (pc := 30) C d_S_init_30 rfl ?_
  refine pt_S_29 (pc := 31) C d_S_init_31 hnm hL ha ?_
  exact ph_vret (pc := 34) C d_S_init_34 hr hlk (by decide) (by decide) ⟨rfl, rfl, rfl, rfl⟩
set_option maxHeartbeats 4000000 in
set_option maxRecDepth 100000 in
theorem c_I_init (l : Launch) (D : va_G) (dT : Nat → ClassId) (A : Nat → Prop) (KX : State → Prop) (L : Nat → Nat → Prop) (ad : Nat → Nat → Nat) (τ : ph_T) (i a : Nat) (hL : L 2 i) (ha : ad 2 i = a) (x t : Int) : ph_M l y_I_init (.code y_I_init b_I_init 5 none :: TB) ({ frames := 1, cells := 0, slots := 0, locals := 12 } : Room) D CLs (TY dT) dT kd A KX [.ref (a), .long (ph_l (x)), .long (ph_l (t))] L ad τ (fun r L' ad' τ' => L' = L ∧ ad' = ad ∧ τ' = (ph_up (ph_up (ph_up (ph_up (ph_up (ph_up (ph_up τ 2 i 2 (0)) 2 i 3 (0)) 2 i 4 (0)) 2 i 5 (0)) 2 i 6 (0)) 2 i 0 (x)) 2 i 1 (t)) ∧ r = none) 0 0 := by
  refine ph_M.of (cc := b_I_init) (maxL := 5) (ret := none) (by decide) rfl (Nat.le_of_ble_eq_true rfl) ?_
  intro p e s m below meth c C0 hr hlk hnm
  have C := C0.sub
  refine ph_loc (l2 := [(0, .ref (a)), (1, .long (ph_l (x))), (3, .long (ph_l (t)))]) ⟨rfl, rfl, rfl, trivial⟩ ?_
  refine ph_aload_n (pc := 0) C d_I_init_0 rfl ?_
  refine ph_objInit (pc := 1) C d_I_init_1 tw_119 tw_12 tw_13 (by decide) (by decide) ?_
  refine ph_aload_n (pc := 4) C d_I_init_4 rfl ?_
  refine ph_iconst (pc := 5) C d_I_init_5 ?_
  refine pt_I_9 (pc := 6) C d_I_init_6 hL ha ?_
  refine ph_aload_n (pc := 9) C d_I_init_9 rfl ?_
  refine ph_iconst (pc := 10) C d_I_init_10 ?_
  refine pt_I_15 (pc := 11) C d_I_init_11 (by omega) hL ha ?_
  refine ph_aload_n (pc := 14) C d_I_init_14 rfl ?_
  refine ph_iconst (pc := 15) C d_I_init_15 ?_
  refine pt_I_19 (pc := 16) C d_I_init_16 (by omega) hL ha ?_
  refine ph_aload_n (pc := 19) C d_I_init_19 rfl ?_
  refine ph_iconst (pc := 20) C d_I_init_20 ?_
  refine pt_I_22 (pc := 21) C d_I_init_21 hL ha ?_
  refine ph_aload_n (pc := 24) C d_I_init_24 rfl ?_
  refine ph_iconst (pc := 25) C d_I_init_25 ?_
  refine pt_I_25 (pc := 26) C d_I_init_26 hL ha ?_
  refine ph_aload_n (pc := 29) C d_I_init_29 rfl ?_
  refine ph_lload_n (pc := 30) C d_I_init_30 rfl ?_
  refine pt_I_28 (pc := 31) C d_I_init_31 hnm hL ha ?_
  refine ph_aload_n (pc := 34) C d_I_init_34 rfl ?_
  refine ph_lload_n (pc := 35) C d_I_init_35 rfl ?_
  refine pt_I_32 (pc := 36) C d_I_init_36 hnm hL ha ?_
  exact ph_vret (pc := 39) C d_I_init_39 hr hlk (by decide) (by decide) ⟨rfl, rfl, rfl, rfl⟩
set_option maxHeartbeats 4000000 in
set_option maxRecDepth 100000 in
theorem c_F_init (l : Launch) (D : va_G) (dT : Nat → ClassId) (A : Nat → Prop) (KX : State → Prop) (L : Nat → Nat → Prop) (ad : Nat → Nat → Nat) (τ : ph_T) (i a : Nat) (hL : L 3 i) (ha : ad 3 i = a) (k f t : Int) : ph_M l y_F_init (.code y_F_init b_F_init 5 none :: TB) ({ frames := 1, cells := 0, slots := 0, locals := 12 } : Room) D CLs (TY dT) dT kd A KX [.ref (a), .int (ph_i (k)), .int (ph_i (f)), .long (ph_l (t))] L ad τ (fun r L' ad' τ' => L' = L ∧ ad' = ad ∧ τ' = (ph_up (ph_up (ph_up (ph_up (ph_up (ph_up (ph_up τ 3 i 3 (0)) 3 i 4 (0)) 3 i 5 (0)) 3 i 6 (0)) 3 i 0 (k)) 3 i 1 (f)) 3 i 2 (t)) ∧ r = none) 0 0 := by
  refine ph_M.of (cc := b_F_init) (maxL := 5) (ret := none) (by decide) rfl (Nat.le_of_ble_eq_true rfl) ?_
  intro p e s m below meth c C0 hr hlk hnm
  have C := C0.sub
  refine ph_loc (l2 := [(0, .ref (a)), (1, .int (ph_i (k))), (2, .int (ph_i (f))), (3, .long (ph_l (t)))]) ⟨rfl, rfl, rfl, rfl, trivial⟩ ?_
  refine ph_aload_n (pc := 0) C d_F_init_0 rfl ?_
  refine ph_objInit (pc := 1) C d_F_init_1 tw_176 tw_12 tw_13 (by decide) (by decide) ?_
  refine ph_aload_n (pc := 4) C d_F_init_4 rfl ?_
  refine ph_iconst (pc := 5) C d_F_init_5 ?_
  refine pt_F_9 (pc := 6) C d_F_init_6 (by omega) hL ha ?_
  refine ph_aload_n (pc := 9) C d_F_init_9 rfl ?_
  refine ph_iconst (pc := 10) C d_F_init_10 ?_
  refine pt_F_15 (pc := 11) C d_F_init_11 (by omega) hL ha ?_
  refine ph_aload_n (pc := 14) C d_F_init_14 rfl ?_
  refine ph_lconst (pc := 15) C d_F_init_15 0 (by decide) ?_
  refine pt_F_18 (pc := 16) C d_F_init_16 hL ha ?_
  refine ph_aload_n (pc := 19) C d_F_init_19 rfl ?_
  refine ph_iconst (pc := 20) C d_F_init_20 ?_
  refine pt_F_22 (pc := 21) C d_F_init_21 hL ha ?_
  refine ph_aload_n (pc := 24) C d_F_init_24 rfl ?_
  refine ph_iload_n (pc := 25) C d_F_init_25 rfl ?_
  refine pt_F_26 (pc := 26) C d_F_init_26 hnm hL ha ?_
  refine ph_aload_n (pc := 29) C d_F_init_29 rfl ?_
  refine ph_iload_n (pc := 30) C d_F_init_30 rfl ?_
  refine pt_F_29 (pc := 31) C d_F_init_31 hnm hL ha ?_
  refine ph_aload_n (pc := 34) C d_F_init_34 rfl ?_
  refine ph_lload_n (pc := 35) C d_F_init_35 rfl ?_
  refine pt_F_32 (pc := 36) C d_F_init_36 hnm hL ha ?_
  exact ph_vret (pc := 39) C d_F_init_39 hr hlk (by decide) (by decide) ⟨rfl, rfl, rfl, rfl⟩
def rankv (t k : Int) : Int := if t = 0 then rkT k.toNat else 9
theorem ph_C.kx {p : Program} {s : State} {m : MethodId} {args : Array Value} {c : Code} {cc : ByteArray} {nL : Nat} {own : String} {Ts : List Cond} {D : va_G} {cl : List vw_C} {tys : List (ClassId × FieldType)} {A : Nat → Prop} {KX : State → Prop} (C : ph_C p s m args c cc nL own Ts D cl tys A KX) : KX s := C.2.2.2.1
set_option maxHeartbeats 4000000 in
set_option maxRecDepth 100000 in
theorem c_F_rank (l : Launch) (D : va_G) (dT : Nat → ClassId) (A : Nat → Prop) (KX : State → Prop) (L : Nat → Nat → Prop) (ad : Nat → Nat → Nat) (τ : ph_T) (i a : Nat) (hL : L 3 i) (ha : ad 3 i = a) (aR aT : Nat) (hX : ∀ U, KX U → KJ dT A aR aT U) (t k : Int) (ht : τ 3 i 3 = t) (hk : τ 3 i 0 = k) (ht2 : ph_ri t) (hk2 : 1 ≤ k ∧ k ≤ 6) : ph_M l y_F_rank (.code y_F_rank b_F_rank 1 (some .int) :: TB) ({ frames := 0, cells := 0, slots := 0, locals := 0 } : Room) D CLs (TY dT) dT kd A KX [.ref (a)] L ad τ (fun r L' ad' τ' => L' = L ∧ ad' = ad ∧ τ' = τ ∧ r = some (.int (ph_i (rankv t k)))) 0 0 := by
  refine ph_M.of (cc := b_F_rank) (maxL := 1) (ret := (some .int)) (by decide) rfl (Nat.le_of_ble_eq_true rfl) ?_
  intro p e s m below meth c C0 hr hlk hnm
  have C := C0.sub
  refine ph_loc (l2 := [(0, .ref (a))]) ⟨rfl, trivial⟩ ?_
  refine ph_aload_n (pc := 0) C d_F_rank_0 rfl ?_
  refine gt_F_9 (pc := 1) C d_F_rank_1 hL ha ht ?_
  refine ph_if_eq (pc := 4) (tgt := 12) C d_F_rank_4 (by decide) (by omega) (fun c4 => ?_) (fun c4 => ?_)
  · have hk9 := hX s C.kx
    refine ph_getsN (pc := 12) C d_F_rank_12 hk9.1.1 hk9.2.2.2 rfl ?_
    refine ph_aload_n (pc := 15) C d_F_rank_15 rfl ?_
    refine gt_F_26 (pc := 16) C d_F_rank_16 hL ha hk ?_
    refine ph_sald (pc := 19) C d_F_rank_19 hk9.1.2 k.toNat (by omega) (by omega) (by decide) rfl ?_
    exact ph_iret (pc := 20) C d_F_rank_20 hr hlk rfl (by decide) (by decide) ⟨rfl, rfl, rfl, (by rw [rankv, if_pos (by omega)])⟩
  · refine ph_bipush (pc := 7) C d_F_rank_7 (by decide) ?_
    refine ph_goto (pc := 9) (tgt := 20) C d_F_rank_9 (by decide) ?_
    exact ph_iret (pc := 20) C d_F_rank_20 hr hlk rfl (by decide) (by decide) ⟨rfl, rfl, rfl, (by rw [rankv, if_neg (by omega)])⟩
