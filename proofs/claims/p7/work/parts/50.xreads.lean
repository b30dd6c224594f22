/-! ===== reads of the other side ===== -/
set_option maxHeartbeats 4000000 in
set_option maxRecDepth 100000 in
theorem c_M_isIn (l : Launch) (D : va_G) (dT : Nat → ClassId) (A : Nat → Prop) (KX : State → Prop) (L : Nat → Nat → Prop) (ad : Nat → Nat → Nat) (τ : ph_T) (v a b : Int) (hv : ph_rl v) (ha : ph_rl a) (hb : ph_rl b) : ph_M l y_M_isIn (.code y_M_isIn b_M_isIn 6 (some .boolean) :: TB) ({ frames := 0, cells := 0, slots := 0, locals := 0 } : Room) D CLs (TY dT) dT kd A KX [.long (ph_l (v)), .long (ph_l (a)), .long (ph_l (b))] L ad τ (fun r L' ad' τ' => L' = L ∧ ad' = ad ∧ τ' = τ ∧ r = some (.int (ph_i (ph_b (a ≤ v ∧ v ≤ b))))) 0 0 := by
  refine ph_M.of (cc := b_M_isIn) (maxL := 6) (ret := (some .boolean)) (by decide) rfl (Nat.le_of_ble_eq_true rfl) ?_
  intro p e s m below meth c C0 hr hlk hnm
  have C := C0.sub
  refine ph_loc (l2 := [(0, .long (ph_l (v))), (2, .long (ph_l (a))), (4, .long (ph_l (b)))]) ⟨rfl, rfl, rfl, trivial⟩ ?_
  refine ph_lload_n (pc := 0) C d_M_isIn_0 rfl ?_
  refine ph_lload_n (pc := 1) C d_M_isIn_1 rfl ?_
  refine ph_l_lt (pc := 2) (tgt := 17) C d_M_isIn_2 d_M_isIn_3 (by decide) (by omega) (by omega) (fun c2 => ?_) (fun c2 => ?_)
  · refine ph_iconst (pc := 17) C d_M_isIn_17 ?_
    exact ph_iret (pc := 18) C d_M_isIn_18 hr hlk (by decide) (by decide) (by decide) ⟨rfl, rfl, rfl, (ph_bf (by omega))⟩
  · refine ph_lload_n (pc := 6) C d_M_isIn_6 rfl ?_
    refine ph_lload (pc := 7) C d_M_isIn_7 rfl ?_
    refine ph_l_gt (pc := 9) (tgt := 17) C d_M_isIn_9 d_M_isIn_10 (by decide) (by omega) (by omega) (fun c9 => ?_) (fun c9 => ?_)
    · refine ph_iconst (pc := 17) C d_M_isIn_17 ?_
      exact ph_iret (pc := 18) C d_M_isIn_18 hr hlk (by decide) (by decide) (by decide) ⟨rfl, rfl, rfl, (ph_bf (by omega))⟩
    · refine ph_iconst (pc := 13) C d_M_isIn_13 ?_
      refine ph_goto (pc := 14) (tgt := 18) C d_M_isIn_14 (by decide) ?_
      exact ph_iret (pc := 18) C d_M_isIn_18 hr hlk (by decide) (by decide) (by decide) ⟨rfl, rfl, rfl, (ph_bt (by omega))⟩
set_option maxHeartbeats 4000000 in
set_option maxRecDepth 100000 in
theorem c_M_noSensor (l : Launch) (D : va_G) (dT : Nat → ClassId) (A : Nat → Prop) (KX : State → Prop) (L : Nat → Nat → Prop) (ad : Nat → Nat → Nat) (τ : ph_T) (S : ph_T) (o : Nat) (hA : MA o L ad τ) (hs : MS S τ) (hV : IV S) (x : Int) (hx : ph_ri x) : ph_M l y_M_noSensor (.code y_M_noSensor b_M_noSensor 2 (some .boolean) :: TB) ({ frames := 0, cells := 0, slots := 0, locals := 0 } : Room) D CLs (TY dT) dT kd A KX [.ref (o), .int (ph_i (x))] L ad τ (fun r L' ad' τ' => L' = L ∧ ad' = ad ∧ τ' = τ ∧ r = some (.int (ph_i (ph_b (¬ (0 ≤ x ∧ x < S 0 0 1)))))) 0 0 := by
  refine ph_M.of (cc := b_M_noSensor) (maxL := 2) (ret := (some .boolean)) (by decide) rfl (Nat.le_of_ble_eq_true rfl) ?_
  intro p e s m below meth c C0 hr hlk hnm
  have C := C0.sub
  refine ph_loc (l2 := [(0, .ref (o)), (1, .int (ph_i (x)))]) ⟨rfl, rfl, trivial⟩ ?_
  have hc := hV.c
  have hm := hs.ml.r
  refine ph_iload_n (pc := 0) C d_M_noSensor_0 rfl ?_
  refine ph_if_lt (pc := 1) (tgt := 12) C d_M_noSensor_1 (by decide) (by omega) (fun c1 => ?_) (fun c1 => ?_)
  · refine ph_iconst (pc := 12) C d_M_noSensor_12 ?_
    refine ph_goto (pc := 13) (tgt := 17) C d_M_noSensor_13 (by decide) ?_
    exact ph_iret (pc := 17) C d_M_noSensor_17 hr hlk (by decide) (by decide) (by decide) ⟨rfl, rfl, rfl, (ph_bt (by omega))⟩
  · refine ph_iload_n (pc := 4) C d_M_noSensor_4 rfl ?_
    refine ph_aload_n (pc := 5) C d_M_noSensor_5 rfl ?_
    refine gt_M_93 (pc := 6) C d_M_noSensor_6 hA.live hA.ob (z := S 0 0 1) hs.c0 ?_
    refine ph_icmp_lt (pc := 9) (tgt := 16) C d_M_noSensor_9 (by decide) (by omega) (by omega) (fun c9 => ?_) (fun c9 => ?_)
    · refine ph_iconst (pc := 16) C d_M_noSensor_16 ?_
      exact ph_iret (pc := 17) C d_M_noSensor_17 hr hlk (by decide) (by decide) (by decide) ⟨rfl, rfl, rfl, (ph_bf (by omega))⟩
    · refine ph_iconst (pc := 12) C d_M_noSensor_12 ?_
      refine ph_goto (pc := 13) (tgt := 17) C d_M_noSensor_13 (by decide) ?_
      exact ph_iret (pc := 17) C d_M_noSensor_17 hr hlk (by decide) (by decide) (by decide) ⟨rfl, rfl, rfl, (ph_bt (by omega))⟩
set_option maxHeartbeats 4000000 in
set_option maxRecDepth 100000 in
theorem c_M_noFault (l : Launch) (D : va_G) (dT : Nat → ClassId) (A : Nat → Prop) (KX : State → Prop) (L : Nat → Nat → Prop) (ad : Nat → Nat → Nat) (τ : ph_T) (S : ph_T) (o : Nat) (hA : MA o L ad τ) (hs : MS S τ) (hV : IV S) (x : Int) (hx : ph_ri x) : ph_M l y_M_noFault (.code y_M_noFault b_M_noFault 2 (some .boolean) :: TB) ({ frames := 0, cells := 0, slots := 0, locals := 0 } : Room) D CLs (TY dT) dT kd A KX [.ref (o), .int (ph_i (x))] L ad τ (fun r L' ad' τ' => L' = L ∧ ad' = ad ∧ τ' = τ ∧ r = some (.int (ph_i (ph_b (¬ (1 ≤ x ∧ x ≤ S 0 0 5)))))) 0 0 := by
  refine ph_M.of (cc := b_M_noFault) (maxL := 2) (ret := (some .boolean)) (by decide) rfl (Nat.le_of_ble_eq_true rfl) ?_
  intro p e s m below meth c C0 hr hlk hnm
  have C := C0.sub
  refine ph_loc (l2 := [(0, .ref (o)), (1, .int (ph_i (x)))]) ⟨rfl, rfl, trivial⟩ ?_
  have hc := hV.c
  have hm := hs.ml.r
  refine ph_iload_n (pc := 0) C d_M_noFault_0 rfl ?_
  refine ph_iconst (pc := 1) C d_M_noFault_1 ?_
  refine ph_icmp_lt (pc := 2) (tgt := 13) C d_M_noFault_2 (by decide) (by omega) (by omega) (fun c2 => ?_) (fun c2 => ?_)
  · refine ph_iconst (pc := 13) C d_M_noFault_13 ?_
    refine ph_goto (pc := 14) (tgt := 18) C d_M_noFault_14 (by decide) ?_
    exact ph_iret (pc := 18) C d_M_noFault_18 hr hlk (by decide) (by decide) (by decide) ⟨rfl, rfl, rfl, (ph_bt (by omega))⟩
  · refine ph_iload_n (pc := 5) C d_M_noFault_5 rfl ?_
    refine ph_aload_n (pc := 6) C d_M_noFault_6 rfl ?_
    refine gt_M_97 (pc := 7) C d_M_noFault_7 hA.live hA.ob (z := S 0 0 5) hs.c16 ?_
    refine ph_icmp_le (pc := 10) (tgt := 17) C d_M_noFault_10 (by decide) (by omega) (by omega) (fun c10 => ?_) (fun c10 => ?_)
    · refine ph_iconst (pc := 17) C d_M_noFault_17 ?_
      exact ph_iret (pc := 18) C d_M_noFault_18 hr hlk (by decide) (by decide) (by decide) ⟨rfl, rfl, rfl, (ph_bf (by omega))⟩
    · refine ph_iconst (pc := 13) C d_M_noFault_13 ?_
      refine ph_goto (pc := 14) (tgt := 18) C d_M_noFault_14 (by decide) ?_
      exact ph_iret (pc := 18) C d_M_noFault_18 hr hlk (by decide) (by decide) (by decide) ⟨rfl, rfl, rfl, (ph_bt (by omega))⟩
set_option maxHeartbeats 4000000 in
set_option maxRecDepth 100000 in
theorem c_M_stands (l : Launch) (D : va_G) (dT : Nat → ClassId) (A : Nat → Prop) (KX : State → Prop) (L : Nat → Nat → Prop) (ad : Nat → Nat → Nat) (τ : ph_T) (S : ph_T) (o : Nat) (hA : MA o L ad τ) (hs : MS S τ) (hV : IV S)  : ph_M l y_M_stands (.code y_M_stands b_M_stands 4 (some .boolean) :: TB) ({ frames := 0, cells := 0, slots := 0, locals := 0 } : Room) D CLs (TY dT) dT kd A KX [.ref (o)] L ad τ (fun r L' ad' τ' => L' = L ∧ ad' = ad ∧ τ' = τ ∧ r = some (.int (ph_i (ph_b (¬ runs S))))) 0 0 := by
  refine ph_M.of (cc := b_M_stands) (maxL := 4) (ret := (some .boolean)) (by decide) rfl (Nat.le_of_ble_eq_true rfl) ?_
  intro p e s m below meth c C0 hr hlk hnm
  have C := C0.sub
  refine ph_loc (l2 := [(0, .ref (o))]) ⟨rfl, trivial⟩ ?_
  have hc := hV.c
  have hm := hs.ml.r
  have loop : ∀ (n : Nat) (f : Nat) (op : Int), 1 ≤ f → S 0 0 5 = (f : Int) + n - 1 → ((f : Int) - 1 ≤ S 0 0 6 → op = 0) → (S 0 0 6 ≤ (f : Int) - 1 → op = (f : Int) - 1 - S 0 0 6) → ph_W p l e ({ frames := 0, cells := 0, slots := 0, locals := 0 } : Room) s m [.ref (o)].toArray below meth c D CLs dT kd A 4 (MQ below (ph_Q D CLs dT kd A (fun r L' ad' τ' => L' = L ∧ ad' = ad ∧ τ' = τ ∧ r = some (.int (ph_i (ph_b (¬ runs S)))))) [.ref (o)].toArray s 0 0 A) L ad τ 0 0 6 (ph_mk [(0, .ref (o)), (1, .int (ph_i (op))), (2, .int (ph_i (ph_b (stE S f)))), (3, .int (ph_i ((f : Int))))]) [] := by
    intro n
    induction n with
    | zero =>
      intro f op h0 h1 h2 h3
      refine ph_iload_n (pc := 6) C d_M_stands_6 rfl ?_
      refine ph_aload_n (pc := 7) C d_M_stands_7 rfl ?_
      refine gt_M_97 (pc := 8) C d_M_stands_8 hA.live hA.ob (z := S 0 0 5) hs.c16 ?_
      refine ph_icmp_gt (pc := 11) (tgt := 65) C d_M_stands_11 (by decide) (by first | omega | (have := hV.f (show LC S 3 f by simp only [LC]; omega); omega)) (by first | omega | (have := hV.f (show LC S 3 f by simp only [LC]; omega); omega)) (fun c11 => ?_) (fun c11 => ?_)
      · refine ph_iload_n (pc := 65) C d_M_stands_65 rfl ?_
        refine ph_bif_ne (pc := 66) (tgt := 74) C d_M_stands_66 (by decide) (fun c66 => ?_) (fun c66 => ?_)
        · refine ph_iconst (pc := 74) C d_M_stands_74 ?_
          refine ph_goto (pc := 75) (tgt := 79) C d_M_stands_75 (by decide) ?_
          exact ph_iret (pc := 79) C d_M_stands_79 hr hlk (by decide) (by decide) (by decide) ⟨rfl, rfl, rfl, (ph_bt (by first | exact st_t (f := f) (by omega) (by assumption) | exact st_o (by omega)))⟩
        · refine ph_iload_n (pc := 69) C d_M_stands_69 rfl ?_
          refine ph_iconst (pc := 70) C d_M_stands_70 ?_
          refine ph_icmp_le (pc := 71) (tgt := 78) C d_M_stands_71 (by decide) (by first | omega | (have := hV.f (show LC S 3 f by simp only [LC]; omega); omega)) (by first | omega | (have := hV.f (show LC S 3 f by simp only [LC]; omega); omega)) (fun c71 => ?_) (fun c71 => ?_)
          · refine ph_iconst (pc := 78) C d_M_stands_78 ?_
            exact ph_iret (pc := 79) C d_M_stands_79 hr hlk (by decide) (by decide) (by decide) ⟨rfl, rfl, rfl, (ph_bf (st_f (f := f) (by omega) (by assumption) (by omega)))⟩
          · refine ph_iconst (pc := 74) C d_M_stands_74 ?_
            refine ph_goto (pc := 75) (tgt := 79) C d_M_stands_75 (by decide) ?_
            exact ph_iret (pc := 79) C d_M_stands_79 hr hlk (by decide) (by decide) (by decide) ⟨rfl, rfl, rfl, (ph_bt (by first | exact st_t (f := f) (by omega) (by assumption) | exact st_o (by omega)))⟩
      · exfalso; omega
    | succ n ih =>
      intro f op h0 h1 h2 h3
      refine ph_iload_n (pc := 6) C d_M_stands_6 rfl ?_
      refine ph_aload_n (pc := 7) C d_M_stands_7 rfl ?_
      refine gt_M_97 (pc := 8) C d_M_stands_8 hA.live hA.ob (z := S 0 0 5) hs.c16 ?_
      refine ph_icmp_gt (pc := 11) (tgt := 65) C d_M_stands_11 (by decide) (by first | omega | (have := hV.f (show LC S 3 f by simp only [LC]; omega); omega)) (by first | omega | (have := hV.f (show LC S 3 f by simp only [LC]; omega); omega)) (fun c11 => ?_) (fun c11 => ?_)
      · exfalso; omega
      · refine ph_aload_n (pc := 14) C d_M_stands_14 rfl ?_
        refine gt_M_72 (pc := 15) C d_M_stands_15 hA.live hA.ob (hA.rf (k := 24) rfl) ?_
        refine ph_iload_n (pc := 18) C d_M_stands_18 rfl ?_
        refine ph_zald (pc := 19) C d_M_stands_19 (hA.ar (k := 24) rfl) rfl rfl rfl f rfl (by have := (show LC S 3 f by simp only [LC]; omega); simp only [LC] at this; omega) (by decide) ?_
        refine ph_ti (y := ph_b (((f : Nat) : Int) ≤ S 0 0 6)) (hs.f45 (show LC S 3 f by simp only [LC]; omega)) ?_
        refine ph_bif_eq (pc := 20) (tgt := 27) C d_M_stands_20 (by decide) (fun c20 => ?_) (fun c20 => ?_)
        · refine ph_iload_n (pc := 27) C d_M_stands_27 rfl ?_
          refine ph_iconst (pc := 28) C d_M_stands_28 ?_
          refine ph_iadd (pc := 29) C d_M_stands_29 ?_
          refine ph_istore_n (pc := 30) C d_M_stands_30 (by decide) rfl ?_
          refine ph_iload_n (pc := 31) C d_M_stands_31 rfl ?_
          refine ph_bif_ne (pc := 32) (tgt := 53) C d_M_stands_32 (by decide) (fun c32 => ?_) (fun c32 => ?_)
          · refine ph_iconst (pc := 53) C d_M_stands_53 ?_
            refine ph_goto (pc := 54) (tgt := 58) C d_M_stands_54 (by decide) ?_
            refine ph_istore_n (pc := 58) C d_M_stands_58 (by decide) rfl ?_
            refine ph_iinc (pc := 59) C d_M_stands_59 rfl rfl ?_
            refine ph_goto (pc := 62) (tgt := 6) C d_M_stands_62 (by decide) ?_
            refine ph_loc (l2 := [(0, .ref (o)), (1, .int (ph_i ((op) + (1)))), (2, .int (ph_i (ph_b (stE S (f + 1))))), (3, .int (ph_i (((f + 1 : Nat) : Int))))]) ⟨rfl, rfl, (congrArg (fun z => some (Value.int (ph_i z))) (ph_b1 (by first | exact stE_t (by assumption) | exact stE_n (by omega) (by assumption))).symm), rfl, trivial⟩ ?_
            exact ih (f + 1) ((op) + (1)) (by omega) (by omega) (by omega) (by omega)
          · refine ph_aload_n (pc := 35) C d_M_stands_35 rfl ?_
            refine gt_M_60 (pc := 36) C d_M_stands_36 hA.live hA.ob (hA.rf (k := 20) rfl) ?_
            refine ph_iload_n (pc := 39) C d_M_stands_39 rfl ?_
            refine ph_zald (pc := 40) C d_M_stands_40 (hA.ar (k := 20) rfl) rfl rfl rfl f rfl (by have := (show LC S 3 f by simp only [LC]; omega); simp only [LC] at this; omega) (by decide) ?_
            refine ph_ti (y := S 3 f 4) (hs.f41 (show LC S 3 f by simp only [LC]; omega)) ?_
            refine ph_if_eq (pc := 41) (tgt := 57) C d_M_stands_41 (by decide) (by first | omega | (have := hV.f (show LC S 3 f by simp only [LC]; omega); omega)) (fun c41 => ?_) (fun c41 => ?_)
            · refine ph_iconst (pc := 57) C d_M_stands_57 ?_
              refine ph_istore_n (pc := 58) C d_M_stands_58 (by decide) rfl ?_
              refine ph_iinc (pc := 59) C d_M_stands_59 rfl rfl ?_
              refine ph_goto (pc := 62) (tgt := 6) C d_M_stands_62 (by decide) ?_
              refine ph_loc (l2 := [(0, .ref (o)), (1, .int (ph_i ((op) + (1)))), (2, .int (ph_i (ph_b (stE S (f + 1))))), (3, .int (ph_i (((f + 1 : Nat) : Int))))]) ⟨rfl, rfl, (congrArg (fun z => some (Value.int (ph_i z))) (ph_b0 (stE_f (by assumption) (by first | exact Or.inl (by assumption) | exact Or.inr (by assumption)))).symm), rfl, trivial⟩ ?_
              exact ih (f + 1) ((op) + (1)) (by omega) (by omega) (by omega) (by omega)
            · refine ph_aload_n (pc := 44) C d_M_stands_44 rfl ?_
              refine gt_M_72 (pc := 45) C d_M_stands_45 hA.live hA.ob (hA.rf (k := 24) rfl) ?_
              refine ph_iload_n (pc := 48) C d_M_stands_48 rfl ?_
              refine ph_zald (pc := 49) C d_M_stands_49 (hA.ar (k := 24) rfl) rfl rfl rfl f rfl (by have := (show LC S 3 f by simp only [LC]; omega); simp only [LC] at this; omega) (by decide) ?_
              refine ph_ti (y := ph_b (((f : Nat) : Int) ≤ S 0 0 6)) (hs.f45 (show LC S 3 f by simp only [LC]; omega)) ?_
              refine ph_bif_ne (pc := 50) (tgt := 57) C d_M_stands_50 (by decide) (fun c50 => ?_) (fun c50 => ?_)
              · refine ph_iconst (pc := 57) C d_M_stands_57 ?_
                refine ph_istore_n (pc := 58) C d_M_stands_58 (by decide) rfl ?_
                refine ph_iinc (pc := 59) C d_M_stands_59 rfl rfl ?_
                refine ph_goto (pc := 62) (tgt := 6) C d_M_stands_62 (by decide) ?_
                refine ph_loc (l2 := [(0, .ref (o)), (1, .int (ph_i ((op) + (1)))), (2, .int (ph_i (ph_b (stE S (f + 1))))), (3, .int (ph_i (((f + 1 : Nat) : Int))))]) ⟨rfl, rfl, (congrArg (fun z => some (Value.int (ph_i z))) (ph_b0 (stE_f (by assumption) (by first | exact Or.inl (by assumption) | exact Or.inr (by assumption)))).symm), rfl, trivial⟩ ?_
                exact ih (f + 1) ((op) + (1)) (by omega) (by omega) (by omega) (by omega)
              · refine ph_iconst (pc := 53) C d_M_stands_53 ?_
                refine ph_goto (pc := 54) (tgt := 58) C d_M_stands_54 (by decide) ?_
                refine ph_istore_n (pc := 58) C d_M_stands_58 (by decide) rfl ?_
                refine ph_iinc (pc := 59) C d_M_stands_59 rfl rfl ?_
                refine ph_goto (pc := 62) (tgt := 6) C d_M_stands_62 (by decide) ?_
                refine ph_loc (l2 := [(0, .ref (o)), (1, .int (ph_i ((op) + (1)))), (2, .int (ph_i (ph_b (stE S (f + 1))))), (3, .int (ph_i (((f + 1 : Nat) : Int))))]) ⟨rfl, rfl, (congrArg (fun z => some (Value.int (ph_i z))) (ph_b1 (by first | exact stE_t (by assumption) | exact stE_n (by omega) (by assumption))).symm), rfl, trivial⟩ ?_
                exact ih (f + 1) ((op) + (1)) (by omega) (by omega) (by omega) (by omega)
        · refine ph_iload_n (pc := 23) C d_M_stands_23 rfl ?_
          refine ph_goto (pc := 24) (tgt := 30) C d_M_stands_24 (by decide) ?_
          refine ph_istore_n (pc := 30) C d_M_stands_30 (by decide) rfl ?_
          refine ph_iload_n (pc := 31) C d_M_stands_31 rfl ?_
          refine ph_bif_ne (pc := 32) (tgt := 53) C d_M_stands_32 (by decide) (fun c32 => ?_) (fun c32 => ?_)
          · refine ph_iconst (pc := 53) C d_M_stands_53 ?_
            refine ph_goto (pc := 54) (tgt := 58) C d_M_stands_54 (by decide) ?_
            refine ph_istore_n (pc := 58) C d_M_stands_58 (by decide) rfl ?_
            refine ph_iinc (pc := 59) C d_M_stands_59 rfl rfl ?_
            refine ph_goto (pc := 62) (tgt := 6) C d_M_stands_62 (by decide) ?_
            refine ph_loc (l2 := [(0, .ref (o)), (1, .int (ph_i (op))), (2, .int (ph_i (ph_b (stE S (f + 1))))), (3, .int (ph_i (((f + 1 : Nat) : Int))))]) ⟨rfl, rfl, (congrArg (fun z => some (Value.int (ph_i z))) (ph_b1 (by first | exact stE_t (by assumption) | exact stE_n (by omega) (by assumption))).symm), rfl, trivial⟩ ?_
            exact ih (f + 1) (op) (by omega) (by omega) (by omega) (by omega)
          · refine ph_aload_n (pc := 35) C d_M_stands_35 rfl ?_
            refine gt_M_60 (pc := 36) C d_M_stands_36 hA.live hA.ob (hA.rf (k := 20) rfl) ?_
            refine ph_iload_n (pc := 39) C d_M_stands_39 rfl ?_
            refine ph_zald (pc := 40) C d_M_stands_40 (hA.ar (k := 20) rfl) rfl rfl rfl f rfl (by have := (show LC S 3 f by simp only [LC]; omega); simp only [LC] at this; omega) (by decide) ?_
            refine ph_ti (y := S 3 f 4) (hs.f41 (show LC S 3 f by simp only [LC]; omega)) ?_
            refine ph_if_eq (pc := 41) (tgt := 57) C d_M_stands_41 (by decide) (by first | omega | (have := hV.f (show LC S 3 f by simp only [LC]; omega); omega)) (fun c41 => ?_) (fun c41 => ?_)
            · refine ph_iconst (pc := 57) C d_M_stands_57 ?_
              refine ph_istore_n (pc := 58) C d_M_stands_58 (by decide) rfl ?_
              refine ph_iinc (pc := 59) C d_M_stands_59 rfl rfl ?_
              refine ph_goto (pc := 62) (tgt := 6) C d_M_stands_62 (by decide) ?_
              refine ph_loc (l2 := [(0, .ref (o)), (1, .int (ph_i (op))), (2, .int (ph_i (ph_b (stE S (f + 1))))), (3, .int (ph_i (((f + 1 : Nat) : Int))))]) ⟨rfl, rfl, (congrArg (fun z => some (Value.int (ph_i z))) (ph_b0 (stE_f (by assumption) (by first | exact Or.inl (by assumption) | exact Or.inr (by assumption)))).symm), rfl, trivial⟩ ?_
              exact ih (f + 1) (op) (by omega) (by omega) (by omega) (by omega)
            · refine ph_aload_n (pc := 44) C d_M_stands_44 rfl ?_
              refine gt_M_72 (pc := 45) C d_M_stands_45 hA.live hA.ob (hA.rf (k := 24) rfl) ?_
              refine ph_iload_n (pc := 48) C d_M_stands_48 rfl ?_
              refine ph_zald (pc := 49) C d_M_stands_49 (hA.ar (k := 24) rfl) rfl rfl rfl f rfl (by have := (show LC S 3 f by simp only [LC]; omega); simp only [LC] at this; omega) (by decide) ?_
              refine ph_ti (y := ph_b (((f : Nat) : Int) ≤ S 0 0 6)) (hs.f45 (show LC S 3 f by simp only [LC]; omega)) ?_
              refine ph_bif_ne (pc := 50) (tgt := 57) C d_M_stands_50 (by decide) (fun c50 => ?_) (fun c50 => ?_)
              · refine ph_iconst (pc := 57) C d_M_stands_57 ?_
                refine ph_istore_n (pc := 58) C d_M_stands_58 (by decide) rfl ?_
                refine ph_iinc (pc := 59) C d_M_stands_59 rfl rfl ?_
                refine ph_goto (pc := 62) (tgt := 6) C d_M_stands_62 (by decide) ?_
                refine ph_loc (l2 := [(0, .ref (o)), (1, .int (ph_i (op))), (2, .int (ph_i (ph_b (stE S (f + 1))))), (3, .int (ph_i (((f + 1 : Nat) : Int))))]) ⟨rfl, rfl, (congrArg (fun z => some (Value.int (ph_i z))) (ph_b0 (stE_f (by assumption) (by first | exact Or.inl (by assumption) | exact Or.inr (by assumption)))).symm), rfl, trivial⟩ ?_
                exact ih (f + 1) (op) (by omega) (by omega) (by omega) (by omega)
              · refine ph_iconst (pc := 53) C d_M_stands_53 ?_
                refine ph_goto (pc := 54) (tgt := 58) C d_M_stands_54 (by decide) ?_
                refine ph_istore_n (pc := 58) C d_M_stands_58 (by decide) rfl ?_
                refine ph_iinc (pc := 59) C d_M_stands_59 rfl rfl ?_
                refine ph_goto (pc := 62) (tgt := 6) C d_M_stands_62 (by decide) ?_
                refine ph_loc (l2 := [(0, .ref (o)), (1, .int (ph_i (op))), (2, .int (ph_i (ph_b (stE S (f + 1))))), (3, .int (ph_i (((f + 1 : Nat) : Int))))]) ⟨rfl, rfl, (congrArg (fun z => some (Value.int (ph_i z))) (ph_b1 (by first | exact stE_t (by assumption) | exact stE_n (by omega) (by assumption))).symm), rfl, trivial⟩ ?_
                exact ih (f + 1) (op) (by omega) (by omega) (by omega) (by omega)
  refine ph_iconst (pc := 0) C d_M_stands_0 ?_
  refine ph_istore_n (pc := 1) C d_M_stands_1 (by decide) rfl ?_
  refine ph_iconst (pc := 2) C d_M_stands_2 ?_
  refine ph_istore_n (pc := 3) C d_M_stands_3 (by decide) rfl ?_
  refine ph_iconst (pc := 4) C d_M_stands_4 ?_
  refine ph_istore_n (pc := 5) C d_M_stands_5 (by decide) rfl ?_
  refine ph_loc (l2 := [(0, .ref (o)), (1, .int (ph_i (0))), (2, .int (ph_i (ph_b (stE S 1)))), (3, .int (ph_i (((1 : Nat) : Int))))]) ⟨rfl, rfl, (congrArg (fun z => some (Value.int (ph_i z))) (ph_b0 (stE_1.resolve_right (by omega))).symm), rfl, trivial⟩ ?_
  exact loop (S 0 0 5).toNat 1 0 (by omega) (by omega) (by omega) (by omega)
set_option maxHeartbeats 4000000 in
set_option maxRecDepth 100000 in
theorem c_M_goesOn (l : Launch) (D : va_G) (dT : Nat → ClassId) (A : Nat → Prop) (KX : State → Prop) (L : Nat → Nat → Prop) (ad : Nat → Nat → Nat) (τ : ph_T) (S : ph_T) (o : Nat) (hA : MA o L ad τ) (hs : MS S τ) (hV : IV S)  : ph_M l y_M_goesOn (.code y_M_goesOn b_M_goesOn 1 (some .boolean) :: TB) ({ frames := 1, cells := 0, slots := 0, locals := 23 } : Room) D CLs (TY dT) dT kd A KX [.ref (o)] L ad τ (fun r L' ad' τ' => L' = L ∧ ad' = ad ∧ τ' = τ ∧ r = some (.int (ph_i (ph_b (runs S))))) 0 0 := by
  refine ph_M.of (cc := b_M_goesOn) (maxL := 1) (ret := (some .boolean)) (by decide) rfl (Nat.le_of_ble_eq_true rfl) ?_
  intro p e s m below meth c C0 hr hlk hnm
  have C := C0.sub
  refine ph_loc (l2 := [(0, .ref (o))]) ⟨rfl, trivial⟩ ?_
  have hc := hV.c
  have hm := hs.ml.r
  refine ph_aload_n (pc := 0) C d_M_goesOn_0 rfl ?_
  refine ph_callV (pc := 1) (rest := []) C d_M_goesOn_1 (c_M_stands l D dT A KX L ad τ S o hA hs hV) (cwV 0 C.hts (gdV tw_499 tw_501 se_26 tw_2 tw_502) rfl rfl rfl ⟨rfl, by decide, by decide, by decide⟩ ⟨by decide, by decide⟩) hA.live hA.ob rfl rfl rfl rfl rfl (Nat.le_of_ble_eq_true rfl) ⟨by decide, by decide⟩ ?_
  rintro r1 L1 ad1 τ1 ⟨g1, g2, g3, g4⟩; obtain rfl := g1.symm; obtain rfl := g2.symm; obtain rfl := g3.symm; subst g4
  refine ph_bif_ne (pc := 4) (tgt := 11) C d_M_goesOn_4 (by decide) (fun c4 => ?_) (fun c4 => ?_)
  · refine ph_iconst (pc := 11) C d_M_goesOn_11 ?_
    exact ph_iret (pc := 12) C d_M_goesOn_12 hr hlk (by decide) (by decide) (by decide) ⟨rfl, rfl, rfl, (ph_bf (by assumption))⟩
  · refine ph_iconst (pc := 7) C d_M_goesOn_7 ?_
    refine ph_goto (pc := 8) (tgt := 12) C d_M_goesOn_8 (by decide) ?_
    exact ph_iret (pc := 12) C d_M_goesOn_12 hr hlk (by decide) (by decide) (by decide) ⟨rfl, rfl, rfl, (ph_bt (Classical.not_not.mp (by assumption)))⟩
set_option maxHeartbeats 4000000 in
set_option maxRecDepth 100000 in
theorem c_M_count (l : Launch) (D : va_G) (dT : Nat → ClassId) (A : Nat → Prop) (KX : State → Prop) (L : Nat → Nat → Prop) (ad : Nat → Nat → Nat) (τ : ph_T) (S : ph_T) (o : Nat) (hA : MA o L ad τ) (hs : MS S τ) (hV : IV S) (x : Int) (hx : ph_ri x) : ph_M l y_M_count (.code y_M_count b_M_count 2 (some .int) :: TB) ({ frames := 1, cells := 0, slots := 0, locals := 21 } : Room) D CLs (TY dT) dT kd A KX [.ref (o), .int (ph_i (x))] L ad τ (fun r L' ad' τ' => L' = L ∧ ad' = ad ∧ τ' = τ ∧ r = some (.int (ph_i (countv S x)))) 0 0 := by
  refine ph_M.of (cc := b_M_count) (maxL := 2) (ret := (some .int)) (by decide) rfl (Nat.le_of_ble_eq_true rfl) ?_
  intro p e s m below meth c C0 hr hlk hnm
  have C := C0.sub
  refine ph_loc (l2 := [(0, .ref (o)), (1, .int (ph_i (x)))]) ⟨rfl, rfl, trivial⟩ ?_
  have hc := hV.c
  have hm := hs.ml.r
  refine ph_aload_n (pc := 0) C d_M_count_0 rfl ?_
  refine ph_iload_n (pc := 1) C d_M_count_1 rfl ?_
  refine ph_callV (pc := 2) (rest := []) C d_M_count_2 (c_M_noSensor l D dT A KX L ad τ S o hA hs hV x hx) (cwV 1 C.hts (gdV tw_507 tw_509 se_27 tw_2 tw_510) rfl rfl rfl ⟨rfl, by decide, by decide, by decide⟩ ⟨by decide, by decide⟩) hA.live hA.ob rfl rfl rfl rfl rfl (Nat.le_of_ble_eq_true rfl) ⟨by decide, by decide⟩ ?_
  rintro r1 L1 ad1 τ1 ⟨g1, g2, g3, g4⟩; obtain rfl := g1.symm; obtain rfl := g2.symm; obtain rfl := g3.symm; subst g4
  refine ph_bif_eq (pc := 5) (tgt := 13) C d_M_count_5 (by decide) (fun c5 => ?_) (fun c5 => ?_)
  · refine ph_aload_n (pc := 13) C d_M_count_13 rfl ?_
    refine gt_M_17 (pc := 14) C d_M_count_14 hA.live hA.ob (hA.rf (k := 3) rfl) ?_
    refine ph_iload_n (pc := 17) C d_M_count_17 rfl ?_
    refine ph_iald (pc := 18) C d_M_count_18 (hA.ar (k := 3) rfl) rfl rfl rfl x.toNat (by omega) (by have := (show LC S 1 x.toNat by simp only [LC]; omega); simp only [LC] at this; omega) (by decide) ?_
    refine ph_ti (y := S 1 x.toNat 1) (hs.s24 (show LC S 1 x.toNat by simp only [LC]; omega)) ?_
    exact ph_iret (pc := 19) C d_M_count_19 hr hlk rfl (by decide) (by decide) ⟨rfl, rfl, rfl, (by rw [countv, if_pos (Classical.not_not.mp (by assumption))])⟩
  · refine ph_bipush (pc := 8) C d_M_count_8 (by decide) ?_
    refine ph_goto (pc := 10) (tgt := 19) C d_M_count_10 (by decide) ?_
    exact ph_iret (pc := 19) C d_M_count_19 hr hlk rfl (by decide) (by decide) ⟨rfl, rfl, rfl, (by rw [countv, if_neg (by assumption)])⟩
set_option maxHeartbeats 4000000 in
set_option maxRecDepth 100000 in
theorem c_M_listed (l : Launch) (D : va_G) (dT : Nat → ClassId) (A : Nat → Prop) (KX : State → Prop) (L : Nat → Nat → Prop) (ad : Nat → Nat → Nat) (τ : ph_T) (S : ph_T) (o : Nat) (hA : MA o L ad τ) (hs : MS S τ) (hV : IV S) (x : Int) (hx : ph_ri x) : ph_M l y_M_listed (.code y_M_listed b_M_listed 2 (some .int) :: TB) ({ frames := 0, cells := 0, slots := 0, locals := 0 } : Room) D CLs (TY dT) dT kd A KX [.ref (o), .int (ph_i (x))] L ad τ (fun r L' ad' τ' => L' = L ∧ ad' = ad ∧ τ' = τ ∧ r = some (.int (ph_i (if 0 ≤ x ∧ x < τ 20 0 15 then τ 35 0 x.toNat else -1)))) 0 0 := by
  refine ph_M.of (cc := b_M_listed) (maxL := 2) (ret := (some .int)) (by decide) rfl (Nat.le_of_ble_eq_true rfl) ?_
  intro p e s m below meth c C0 hr hlk hnm
  have C := C0.sub
  refine ph_loc (l2 := [(0, .ref (o)), (1, .int (ph_i (x)))]) ⟨rfl, rfl, trivial⟩ ?_
  have hc := hV.c
  have hm := hs.ml.r
  refine ph_iload_n (pc := 0) C d_M_listed_0 rfl ?_
  refine ph_if_lt (pc := 1) (tgt := 21) C d_M_listed_1 (by decide) (by omega) (fun c1 => ?_) (fun c1 => ?_)
  · refine ph_iconst (pc := 21) C d_M_listed_21 ?_
    exact ph_iret (pc := 22) C d_M_listed_22 hr hlk rfl (by decide) (by decide) ⟨rfl, rfl, rfl, (by rw [if_neg (by omega)])⟩
  · refine ph_iload_n (pc := 4) C d_M_listed_4 rfl ?_
    refine ph_aload_n (pc := 5) C d_M_listed_5 rfl ?_
    refine gt_M_178 (pc := 6) C d_M_listed_6 hA.live hA.ob (z := τ 20 0 15) rfl ?_
    refine ph_icmp_ge (pc := 9) (tgt := 21) C d_M_listed_9 (by decide) (by omega) (by omega) (fun c9 => ?_) (fun c9 => ?_)
    · refine ph_iconst (pc := 21) C d_M_listed_21 ?_
      exact ph_iret (pc := 22) C d_M_listed_22 hr hlk rfl (by decide) (by decide) ⟨rfl, rfl, rfl, (by rw [if_neg (by omega)])⟩
    · refine ph_aload_n (pc := 12) C d_M_listed_12 rfl ?_
      refine gt_M_48 (pc := 13) C d_M_listed_13 hA.live hA.ob (hA.rf (k := 14) rfl) ?_
      refine ph_iload_n (pc := 16) C d_M_listed_16 rfl ?_
      refine ph_iald (pc := 17) C d_M_listed_17 (hA.ar (k := 14) rfl) rfl rfl rfl x.toNat (by omega) (by omega) (by decide) ?_
      refine ph_ti (y := τ 35 0 x.toNat) (rfl) ?_
      refine ph_goto (pc := 18) (tgt := 22) C d_M_listed_18 (by decide) ?_
      exact ph_iret (pc := 22) C d_M_listed_22 hr hlk rfl (by decide) (by decide) ⟨rfl, rfl, rfl, (by rw [if_pos (by omega)])⟩
set_option maxHeartbeats 4000000 in
set_option maxRecDepth 100000 in
theorem c_M_rankOf (l : Launch) (D : va_G) (dT : Nat → ClassId) (A : Nat → Prop) (KX : State → Prop) (L : Nat → Nat → Prop) (ad : Nat → Nat → Nat) (τ : ph_T) (S : ph_T) (o : Nat) (hA : MA o L ad τ) (hs : MS S τ) (hV : IV S) (f : Nat) (hf : LC S 3 f) : ph_M l y_M_rankOf (.code y_M_rankOf b_M_rankOf 2 (some .int) :: TB) ({ frames := 0, cells := 0, slots := 0, locals := 0 } : Room) D CLs (TY dT) dT kd A KX [.ref (o), .int (ph_i ((f : Int)))] L ad τ (fun r L' ad' τ' => L' = L ∧ ad' = ad ∧ τ' = τ ∧ r = some (.int (ph_i (rnk S f)))) 0 0 := by
  refine ph_M.of (cc := b_M_rankOf) (maxL := 2) (ret := (some .int)) (by decide) rfl (Nat.le_of_ble_eq_true rfl) ?_
  intro p e s m below meth c C0 hr hlk hnm
  have C := C0.sub
  refine ph_loc (l2 := [(0, .ref (o)), (1, .int (ph_i ((f : Int))))]) ⟨rfl, rfl, trivial⟩ ?_
  have hc := hV.c
  have hm := hs.ml.r
  have h9 := hV.f hf
  refine ph_aload_n (pc := 0) C d_M_rankOf_0 rfl ?_
  refine gt_M_63 (pc := 1) C d_M_rankOf_1 hA.live hA.ob (hA.rf (k := 21) rfl) ?_
  refine ph_iload_n (pc := 4) C d_M_rankOf_4 rfl ?_
  refine ph_zald (pc := 5) C d_M_rankOf_5 (hA.ar (k := 21) rfl) rfl rfl rfl f rfl (by have := hf; simp only [LC] at this; omega) (by decide) ?_
  refine ph_ti (y := S 3 f 3) (hs.f42 hf) ?_
  refine ph_if_eq (pc := 6) (tgt := 14) C d_M_rankOf_6 (by decide) (by omega) (fun c6 => ?_) (fun c6 => ?_)
  · refine ph_aload_n (pc := 14) C d_M_rankOf_14 rfl ?_
    refine gt_M_84 (pc := 15) C d_M_rankOf_15 hA.live hA.ob (hA.rf (k := 28) rfl) ?_
    refine ph_aload_n (pc := 18) C d_M_rankOf_18 rfl ?_
    refine gt_M_51 (pc := 19) C d_M_rankOf_19 hA.live hA.ob (hA.rf (k := 17) rfl) ?_
    refine ph_iload_n (pc := 22) C d_M_rankOf_22 rfl ?_
    refine ph_iald (pc := 23) C d_M_rankOf_23 (hA.ar (k := 17) rfl) rfl rfl rfl f rfl (by have := hf; simp only [LC] at this; omega) (by decide) ?_
    refine ph_ti (y := S 3 f 0) (hs.f38 hf) ?_
    refine ph_iald (pc := 24) C d_M_rankOf_24 (hA.ar (k := 28) rfl) rfl rfl rfl (S 3 f 0).toNat (by omega) (by omega) (by decide) ?_
    refine ph_ti (y := rkT (S 3 f 0).toNat) (hs.t49 (by omega)) ?_
    exact ph_iret (pc := 25) C d_M_rankOf_25 hr hlk rfl (by decide) (by decide) ⟨rfl, rfl, rfl, (by unfold rnk rankv; rw [if_pos (by assumption)])⟩
  · refine ph_bipush (pc := 9) C d_M_rankOf_9 (by decide) ?_
    refine ph_goto (pc := 11) (tgt := 25) C d_M_rankOf_11 (by decide) ?_
    exact ph_iret (pc := 25) C d_M_rankOf_25 hr hlk rfl (by decide) (by decide) ⟨rfl, rfl, rfl, (by unfold rnk rankv; rw [if_neg (by assumption)])⟩
set_option maxHeartbeats 4000000 in
set_option maxRecDepth 100000 in
theorem c_M_isSeen (l : Launch) (D : va_G) (dT : Nat → ClassId) (A : Nat → Prop) (KX : State → Prop) (L : Nat → Nat → Prop) (ad : Nat → Nat → Nat) (τ : ph_T) (S : ph_T) (o : Nat) (hA : MA o L ad τ) (hs : MS S τ) (hV : IV S) (i s0 : Nat) (hi : LC S 2 i) (hs8 : s0 < 8) : ph_M l y_M_isSeen (.code y_M_isSeen b_M_isSeen 3 (some .boolean) :: TB) ({ frames := 0, cells := 0, slots := 0, locals := 0 } : Room) D CLs (TY dT) dT kd A KX [.ref (o), .int (ph_i ((i : Int))), .int (ph_i ((s0 : Int)))] L ad τ (fun r L' ad' τ' => L' = L ∧ ad' = ad ∧ τ' = τ ∧ r = some (.int (ph_i (ph_b (seenb S i s0))))) 0 0 := by
  refine ph_M.of (cc := b_M_isSeen) (maxL := 3) (ret := (some .boolean)) (by decide) rfl (Nat.le_of_ble_eq_true rfl) ?_
  intro p e s m below meth c C0 hr hlk hnm
  have C := C0.sub
  refine ph_loc (l2 := [(0, .ref (o)), (1, .int (ph_i ((i : Int)))), (2, .int (ph_i ((s0 : Int))))]) ⟨rfl, rfl, rfl, trivial⟩ ?_
  have hc := hV.c
  have hm := hs.ml.r
  have hi8 := id hi
  simp only [LC] at hi8
  refine ph_aload_n (pc := 0) C d_M_isSeen_0 rfl ?_
  refine gt_M_39 (pc := 1) C d_M_isSeen_1 hA.live hA.ob (hA.rf (k := 11) rfl) ?_
  refine ph_bipush (pc := 4) C d_M_isSeen_4 (by decide) ?_
  refine ph_iload_n (pc := 6) C d_M_isSeen_6 rfl ?_
  refine ph_imul (pc := 7) C d_M_isSeen_7 ?_
  refine ph_iload_n (pc := 8) C d_M_isSeen_8 rfl ?_
  refine ph_iadd (pc := 9) C d_M_isSeen_9 ?_
  refine ph_zald (pc := 10) C d_M_isSeen_10 (hA.ar (k := 11) rfl) rfl rfl rfl (8 * i + s0) (by omega) (by omega) (by decide) ?_
  refine ph_ti (y := ph_b (seenb S i s0)) (hs.i32 hi hs8) ?_
  exact ph_iret (pc := 11) C d_M_isSeen_11 hr hlk (ph_nb _) (by decide) (by decide) ⟨rfl, rfl, rfl, rfl⟩
set_option maxHeartbeats 4000000 in
set_option maxRecDepth 100000 in
theorem c_M_isDoubt (l : Launch) (D : va_G) (dT : Nat → ClassId) (A : Nat → Prop) (KX : State → Prop) (L : Nat → Nat → Prop) (ad : Nat → Nat → Nat) (τ : ph_T) (S : ph_T) (o : Nat) (hA : MA o L ad τ) (hs : MS S τ) (hV : IV S) (i s0 : Nat) (hi : LC S 2 i) (hl : LC S 1 s0) (t : Int) (ht : t = S 0 0 11) : ph_M l y_M_isDoubt (.code y_M_isDoubt b_M_isDoubt 7 (some .boolean) :: TB) ({ frames := 1, cells := 0, slots := 0, locals := 22 } : Room) D CLs (TY dT) dT kd A KX [.ref (o), .int (ph_i ((i : Int))), .int (ph_i ((s0 : Int))), .long (ph_l (t))] L ad τ (fun r L' ad' τ' => L' = L ∧ ad' = ad ∧ τ' = τ ∧ r = some (.int (ph_i (ph_b (inD S i s0))))) 0 0 := by
  refine ph_M.of (cc := b_M_isDoubt) (maxL := 7) (ret := (some .boolean)) (by decide) rfl (Nat.le_of_ble_eq_true rfl) ?_
  intro p e s m below meth c C0 hr hlk hnm
  have C := C0.sub
  refine ph_loc (l2 := [(0, .ref (o)), (1, .int (ph_i ((i : Int)))), (2, .int (ph_i ((s0 : Int)))), (3, .long (ph_l (t)))]) ⟨rfl, rfl, rfl, rfl, trivial⟩ ?_
  have hc := hV.c
  have hm := hs.ml.r
  have hi8 := id hi
  have hs8 := id hl
  simp only [LC] at hi8 hs8
  have h9 := hV.i hi
  have h7 := hV.s hl
  have hst := stm_0 (z := S 2 i 5) (by omega)
  have hsr := stm_r (z := S 2 i 5) (by omega)
  refine ph_aload_n (pc := 0) C d_M_isDoubt_0 rfl ?_
  refine gt_M_36 (pc := 1) C d_M_isDoubt_1 hA.live hA.ob (hA.rf (k := 10) rfl) ?_
  refine ph_iload_n (pc := 4) C d_M_isDoubt_4 rfl ?_
  refine ph_iald (pc := 5) C d_M_isDoubt_5 (hA.ar (k := 10) rfl) rfl rfl rfl i rfl (by have := hi; simp only [LC] at this; omega) (by decide) ?_
  refine ph_ti (y := stm (S 2 i 5)) (hs.i31 hi) ?_
  refine ph_if_eq (pc := 6) (tgt := 11) C d_M_isDoubt_6 (by decide) (by omega) (fun c6 => ?_) (fun c6 => ?_)
  · refine ph_iload_n (pc := 11) C d_M_isDoubt_11 rfl ?_
    refine ph_if_ne (pc := 12) (tgt := 34) C d_M_isDoubt_12 (by decide) (by omega) (fun c12 => ?_) (fun c12 => ?_)
    · refine ph_aload_n (pc := 34) C d_M_isDoubt_34 rfl ?_
      refine ph_iload_n (pc := 35) C d_M_isDoubt_35 rfl ?_
      refine ph_iload_n (pc := 36) C d_M_isDoubt_36 rfl ?_
      refine ph_iconst (pc := 37) C d_M_isDoubt_37 ?_
      refine ph_isub (pc := 38) C d_M_isDoubt_38 ?_
      refine ph_ti (y := ((s0 - 1 : Nat) : Int)) (by omega) ?_
      refine ph_callV (pc := 39) (rest := []) C d_M_isDoubt_39 (c_M_isSeen l D dT A KX L ad τ S o hA hs hV i (s0 - 1) hi (by omega)) (cwV 2 C.hts (gdV tw_524 tw_526 se_31 tw_2 tw_527) rfl rfl rfl ⟨rfl, by decide, by decide, by decide⟩ ⟨by decide, by decide⟩) hA.live hA.ob rfl rfl rfl rfl rfl (Nat.le_of_ble_eq_true rfl) ⟨by decide, by decide⟩ ?_
      rintro r1 L1 ad1 τ1 ⟨g1, g2, g3, g4⟩; obtain rfl := g1.symm; obtain rfl := g2.symm; obtain rfl := g3.symm; subst g4
      refine ph_istore (pc := 42) C d_M_isDoubt_42 (by decide) rfl ?_
      refine ph_aload_n (pc := 44) C d_M_isDoubt_44 rfl ?_
      refine ph_iload_n (pc := 45) C d_M_isDoubt_45 rfl ?_
      refine ph_iload_n (pc := 46) C d_M_isDoubt_46 rfl ?_
      refine ph_callV (pc := 47) (rest := []) C d_M_isDoubt_47 (c_M_isSeen l D dT A KX L ad τ S o hA hs hV i s0 hi (by omega)) (cwV 2 C.hts (gdV tw_524 tw_526 se_31 tw_2 tw_527) rfl rfl rfl ⟨rfl, by decide, by decide, by decide⟩ ⟨by decide, by decide⟩) hA.live hA.ob rfl rfl rfl rfl rfl (Nat.le_of_ble_eq_true rfl) ⟨by decide, by decide⟩ ?_
      rintro r1 L1 ad1 τ1 ⟨g1, g2, g3, g4⟩; obtain rfl := g1.symm; obtain rfl := g2.symm; obtain rfl := g3.symm; subst g4
      refine ph_bif_eq (pc := 50) (tgt := 72) C d_M_isDoubt_50 (by decide) (fun c50 => ?_) (fun c50 => ?_)
      · refine ph_iconst (pc := 72) C d_M_isDoubt_72 ?_
        refine ph_goto (pc := 73) (tgt := 77) C d_M_isDoubt_73 (by decide) ?_
        refine ph_istore (pc := 77) C d_M_isDoubt_77 (by decide) rfl ?_
        refine ph_iload (pc := 79) C d_M_isDoubt_79 rfl ?_
        refine ph_if_eq (pc := 81) (tgt := 102) C d_M_isDoubt_81 (by decide) (by omega) (fun c81 => ?_) (fun c81 => ?_)
        · exact absurd c81 (by decide)
        · refine ph_iload (pc := 84) C d_M_isDoubt_84 rfl ?_
          refine ph_bif_ne (pc := 86) (tgt := 98) C d_M_isDoubt_86 (by decide) (fun c86 => ?_) (fun c86 => ?_)
          · refine ph_iconst (pc := 98) C d_M_isDoubt_98 ?_
            refine ph_goto (pc := 99) (tgt := 103) C d_M_isDoubt_99 (by decide) ?_
            exact ph_iret (pc := 103) C d_M_isDoubt_103 hr hlk (by decide) (by decide) (by decide) ⟨rfl, rfl, rfl, (ph_bt (by unfold inD; grind))⟩
          · refine ph_aload_n (pc := 89) C d_M_isDoubt_89 rfl ?_
            refine ph_iload_n (pc := 90) C d_M_isDoubt_90 rfl ?_
            refine ph_iload_n (pc := 91) C d_M_isDoubt_91 rfl ?_
            refine ph_callV (pc := 92) (rest := []) C d_M_isDoubt_92 (c_M_isSeen l D dT A KX L ad τ S o hA hs hV i s0 hi (by omega)) (cwV 2 C.hts (gdV tw_524 tw_526 se_31 tw_2 tw_527) rfl rfl rfl ⟨rfl, by decide, by decide, by decide⟩ ⟨by decide, by decide⟩) hA.live hA.ob rfl rfl rfl rfl rfl (Nat.le_of_ble_eq_true rfl) ⟨by decide, by decide⟩ ?_
            rintro r1 L1 ad1 τ1 ⟨g1, g2, g3, g4⟩; obtain rfl := g1.symm; obtain rfl := g2.symm; obtain rfl := g3.symm; subst g4
            refine ph_bif_eq (pc := 95) (tgt := 102) C d_M_isDoubt_95 (by decide) (fun c95 => ?_) (fun c95 => ?_)
            · refine ph_iconst (pc := 102) C d_M_isDoubt_102 ?_
              exact ph_iret (pc := 103) C d_M_isDoubt_103 hr hlk (by decide) (by decide) (by decide) ⟨rfl, rfl, rfl, (ph_bf (by unfold inD; grind))⟩
            · refine ph_iconst (pc := 98) C d_M_isDoubt_98 ?_
              refine ph_goto (pc := 99) (tgt := 103) C d_M_isDoubt_99 (by decide) ?_
              exact ph_iret (pc := 103) C d_M_isDoubt_103 hr hlk (by decide) (by decide) (by decide) ⟨rfl, rfl, rfl, (ph_bt (by unfold inD; grind))⟩
      · refine ph_aload_n (pc := 53) C d_M_isDoubt_53 rfl ?_
        refine gt_M_13 (pc := 54) C d_M_isDoubt_54 hA.live hA.ob (hA.rf (k := 2) rfl) ?_
        refine ph_iload_n (pc := 57) C d_M_isDoubt_57 rfl ?_
        refine ph_zald (pc := 58) C d_M_isDoubt_58 (hA.ar (k := 2) rfl) rfl rfl rfl s0 rfl (by have := hl; simp only [LC] at this; omega) (by decide) ?_
        refine ph_ti (y := S 1 s0 2) (hs.s23 hl) ?_
        refine ph_if_eq (pc := 59) (tgt := 76) C d_M_isDoubt_59 (by decide) (by omega) (fun c59 => ?_) (fun c59 => ?_)
        · refine ph_iconst (pc := 76) C d_M_isDoubt_76 ?_
          refine ph_istore (pc := 77) C d_M_isDoubt_77 (by decide) rfl ?_
          refine ph_iload (pc := 79) C d_M_isDoubt_79 rfl ?_
          refine ph_if_eq (pc := 81) (tgt := 102) C d_M_isDoubt_81 (by decide) (by omega) (fun c81 => ?_) (fun c81 => ?_)
          · refine ph_iconst (pc := 102) C d_M_isDoubt_102 ?_
            exact ph_iret (pc := 103) C d_M_isDoubt_103 hr hlk (by decide) (by decide) (by decide) ⟨rfl, rfl, rfl, (ph_bf (by unfold inD; grind))⟩
          · exact absurd rfl c81
        · refine ph_aload_n (pc := 62) C d_M_isDoubt_62 rfl ?_
          refine gt_M_24 (pc := 63) C d_M_isDoubt_63 hA.live hA.ob (hA.rf (k := 5) rfl) ?_
          refine ph_iload_n (pc := 66) C d_M_isDoubt_66 rfl ?_
          refine ph_iald (pc := 67) C d_M_isDoubt_67 (hA.ar (k := 5) rfl) rfl rfl rfl s0 rfl (by have := hl; simp only [LC] at this; omega) (by decide) ?_
          refine ph_ti (y := S 1 s0 3) (hs.s26 hl) ?_
          refine ph_iload_n (pc := 68) C d_M_isDoubt_68 rfl ?_
          refine ph_icmp_ne (pc := 69) (tgt := 76) C d_M_isDoubt_69 (by decide) (by omega) (by omega) (fun c69 => ?_) (fun c69 => ?_)
          · refine ph_iconst (pc := 76) C d_M_isDoubt_76 ?_
            refine ph_istore (pc := 77) C d_M_isDoubt_77 (by decide) rfl ?_
            refine ph_iload (pc := 79) C d_M_isDoubt_79 rfl ?_
            refine ph_if_eq (pc := 81) (tgt := 102) C d_M_isDoubt_81 (by decide) (by omega) (fun c81 => ?_) (fun c81 => ?_)
            · refine ph_iconst (pc := 102) C d_M_isDoubt_102 ?_
              exact ph_iret (pc := 103) C d_M_isDoubt_103 hr hlk (by decide) (by decide) (by decide) ⟨rfl, rfl, rfl, (ph_bf (by unfold inD; grind))⟩
            · exact absurd rfl c81
          · refine ph_iconst (pc := 72) C d_M_isDoubt_72 ?_
            refine ph_goto (pc := 73) (tgt := 77) C d_M_isDoubt_73 (by decide) ?_
            refine ph_istore (pc := 77) C d_M_isDoubt_77 (by decide) rfl ?_
            refine ph_iload (pc := 79) C d_M_isDoubt_79 rfl ?_
            refine ph_if_eq (pc := 81) (tgt := 102) C d_M_isDoubt_81 (by decide) (by omega) (fun c81 => ?_) (fun c81 => ?_)
            · exact absurd c81 (by decide)
            · refine ph_iload (pc := 84) C d_M_isDoubt_84 rfl ?_
              refine ph_bif_ne (pc := 86) (tgt := 98) C d_M_isDoubt_86 (by decide) (fun c86 => ?_) (fun c86 => ?_)
              · refine ph_iconst (pc := 98) C d_M_isDoubt_98 ?_
                refine ph_goto (pc := 99) (tgt := 103) C d_M_isDoubt_99 (by decide) ?_
                exact ph_iret (pc := 103) C d_M_isDoubt_103 hr hlk (by decide) (by decide) (by decide) ⟨rfl, rfl, rfl, (ph_bt (by unfold inD; grind))⟩
              · refine ph_aload_n (pc := 89) C d_M_isDoubt_89 rfl ?_
                refine ph_iload_n (pc := 90) C d_M_isDoubt_90 rfl ?_
                refine ph_iload_n (pc := 91) C d_M_isDoubt_91 rfl ?_
                refine ph_callV (pc := 92) (rest := []) C d_M_isDoubt_92 (c_M_isSeen l D dT A KX L ad τ S o hA hs hV i s0 hi (by omega)) (cwV 2 C.hts (gdV tw_524 tw_526 se_31 tw_2 tw_527) rfl rfl rfl ⟨rfl, by decide, by decide, by decide⟩ ⟨by decide, by decide⟩) hA.live hA.ob rfl rfl rfl rfl rfl (Nat.le_of_ble_eq_true rfl) ⟨by decide, by decide⟩ ?_
                rintro r1 L1 ad1 τ1 ⟨g1, g2, g3, g4⟩; obtain rfl := g1.symm; obtain rfl := g2.symm; obtain rfl := g3.symm; subst g4
                refine ph_bif_eq (pc := 95) (tgt := 102) C d_M_isDoubt_95 (by decide) (fun c95 => ?_) (fun c95 => ?_)
                · refine ph_iconst (pc := 102) C d_M_isDoubt_102 ?_
                  exact ph_iret (pc := 103) C d_M_isDoubt_103 hr hlk (by decide) (by decide) (by decide) ⟨rfl, rfl, rfl, (ph_bf (by unfold inD; grind))⟩
                · refine ph_iconst (pc := 98) C d_M_isDoubt_98 ?_
                  refine ph_goto (pc := 99) (tgt := 103) C d_M_isDoubt_99 (by decide) ?_
                  exact ph_iret (pc := 103) C d_M_isDoubt_103 hr hlk (by decide) (by decide) (by decide) ⟨rfl, rfl, rfl, (ph_bt (by unfold inD; grind))⟩
    · refine ph_aload_n (pc := 15) C d_M_isDoubt_15 rfl ?_
      refine gt_M_33 (pc := 16) C d_M_isDoubt_16 hA.live hA.ob (hA.rf (k := 9) rfl) ?_
      refine ph_iload_n (pc := 19) C d_M_isDoubt_19 rfl ?_
      refine ph_lald (pc := 20) C d_M_isDoubt_20 (hA.ar (k := 9) rfl) rfl rfl rfl i rfl (by have := hi; simp only [LC] at this; omega) (by decide) ?_
      refine ph_tl (y := S 2 i 1) (hs.i30 hi) ?_
      refine ph_lload_n (pc := 21) C d_M_isDoubt_21 rfl ?_
      refine ph_l_gt (pc := 22) (tgt := 30) C d_M_isDoubt_22 d_M_isDoubt_23 (by decide) (by omega) (by omega) (fun c22 => ?_) (fun c22 => ?_)
      · refine ph_iconst (pc := 30) C d_M_isDoubt_30 ?_
        refine ph_goto (pc := 31) (tgt := 42) C d_M_isDoubt_31 (by decide) ?_
        refine ph_istore (pc := 42) C d_M_isDoubt_42 (by decide) rfl ?_
        refine ph_aload_n (pc := 44) C d_M_isDoubt_44 rfl ?_
        refine ph_iload_n (pc := 45) C d_M_isDoubt_45 rfl ?_
        refine ph_iload_n (pc := 46) C d_M_isDoubt_46 rfl ?_
        refine ph_callV (pc := 47) (rest := []) C d_M_isDoubt_47 (c_M_isSeen l D dT A KX L ad τ S o hA hs hV i s0 hi (by omega)) (cwV 2 C.hts (gdV tw_524 tw_526 se_31 tw_2 tw_527) rfl rfl rfl ⟨rfl, by decide, by decide, by decide⟩ ⟨by decide, by decide⟩) hA.live hA.ob rfl rfl rfl rfl rfl (Nat.le_of_ble_eq_true rfl) ⟨by decide, by decide⟩ ?_
        rintro r1 L1 ad1 τ1 ⟨g1, g2, g3, g4⟩; obtain rfl := g1.symm; obtain rfl := g2.symm; obtain rfl := g3.symm; subst g4
        refine ph_bif_eq (pc := 50) (tgt := 72) C d_M_isDoubt_50 (by decide) (fun c50 => ?_) (fun c50 => ?_)
        · refine ph_iconst (pc := 72) C d_M_isDoubt_72 ?_
          refine ph_goto (pc := 73) (tgt := 77) C d_M_isDoubt_73 (by decide) ?_
          refine ph_istore (pc := 77) C d_M_isDoubt_77 (by decide) rfl ?_
          refine ph_iload (pc := 79) C d_M_isDoubt_79 rfl ?_
          refine ph_if_eq (pc := 81) (tgt := 102) C d_M_isDoubt_81 (by decide) (by omega) (fun c81 => ?_) (fun c81 => ?_)
          · exact absurd c81 (by decide)
          · refine ph_iload (pc := 84) C d_M_isDoubt_84 rfl ?_
            refine ph_if_ne (pc := 86) (tgt := 98) C d_M_isDoubt_86 (by decide) (by omega) (fun c86 => ?_) (fun c86 => ?_)
            · exact absurd rfl c86
            · refine ph_aload_n (pc := 89) C d_M_isDoubt_89 rfl ?_
              refine ph_iload_n (pc := 90) C d_M_isDoubt_90 rfl ?_
              refine ph_iload_n (pc := 91) C d_M_isDoubt_91 rfl ?_
              refine ph_callV (pc := 92) (rest := []) C d_M_isDoubt_92 (c_M_isSeen l D dT A KX L ad τ S o hA hs hV i s0 hi (by omega)) (cwV 2 C.hts (gdV tw_524 tw_526 se_31 tw_2 tw_527) rfl rfl rfl ⟨rfl, by decide, by decide, by decide⟩ ⟨by decide, by decide⟩) hA.live hA.ob rfl rfl rfl rfl rfl (Nat.le_of_ble_eq_true rfl) ⟨by decide, by decide⟩ ?_
              rintro r1 L1 ad1 τ1 ⟨g1, g2, g3, g4⟩; obtain rfl := g1.symm; obtain rfl := g2.symm; obtain rfl := g3.symm; subst g4
              refine ph_bif_eq (pc := 95) (tgt := 102) C d_M_isDoubt_95 (by decide) (fun c95 => ?_) (fun c95 => ?_)
              · refine ph_iconst (pc := 102) C d_M_isDoubt_102 ?_
                exact ph_iret (pc := 103) C d_M_isDoubt_103 hr hlk (by decide) (by decide) (by decide) ⟨rfl, rfl, rfl, (ph_bf (by unfold inD; grind))⟩
              · refine ph_iconst (pc := 98) C d_M_isDoubt_98 ?_
                refine ph_goto (pc := 99) (tgt := 103) C d_M_isDoubt_99 (by decide) ?_
                exact ph_iret (pc := 103) C d_M_isDoubt_103 hr hlk (by decide) (by decide) (by decide) ⟨rfl, rfl, rfl, (ph_bt (by unfold inD; grind))⟩
        · refine ph_aload_n (pc := 53) C d_M_isDoubt_53 rfl ?_
          refine gt_M_13 (pc := 54) C d_M_isDoubt_54 hA.live hA.ob (hA.rf (k := 2) rfl) ?_
          refine ph_iload_n (pc := 57) C d_M_isDoubt_57 rfl ?_
          refine ph_zald (pc := 58) C d_M_isDoubt_58 (hA.ar (k := 2) rfl) rfl rfl rfl s0 rfl (by have := hl; simp only [LC] at this; omega) (by decide) ?_
          refine ph_ti (y := S 1 s0 2) (hs.s23 hl) ?_
          refine ph_if_eq (pc := 59) (tgt := 76) C d_M_isDoubt_59 (by decide) (by omega) (fun c59 => ?_) (fun c59 => ?_)
          · refine ph_iconst (pc := 76) C d_M_isDoubt_76 ?_
            refine ph_istore (pc := 77) C d_M_isDoubt_77 (by decide) rfl ?_
            refine ph_iload (pc := 79) C d_M_isDoubt_79 rfl ?_
            refine ph_if_eq (pc := 81) (tgt := 102) C d_M_isDoubt_81 (by decide) (by omega) (fun c81 => ?_) (fun c81 => ?_)
            · refine ph_iconst (pc := 102) C d_M_isDoubt_102 ?_
              exact ph_iret (pc := 103) C d_M_isDoubt_103 hr hlk (by decide) (by decide) (by decide) ⟨rfl, rfl, rfl, (ph_bf (by unfold inD; grind))⟩
            · exact absurd rfl c81
          · refine ph_aload_n (pc := 62) C d_M_isDoubt_62 rfl ?_
            refine gt_M_24 (pc := 63) C d_M_isDoubt_63 hA.live hA.ob (hA.rf (k := 5) rfl) ?_
            refine ph_iload_n (pc := 66) C d_M_isDoubt_66 rfl ?_
            refine ph_iald (pc := 67) C d_M_isDoubt_67 (hA.ar (k := 5) rfl) rfl rfl rfl s0 rfl (by have := hl; simp only [LC] at this; omega) (by decide) ?_
            refine ph_ti (y := S 1 s0 3) (hs.s26 hl) ?_
            refine ph_iload_n (pc := 68) C d_M_isDoubt_68 rfl ?_
            refine ph_icmp_ne (pc := 69) (tgt := 76) C d_M_isDoubt_69 (by decide) (by omega) (by omega) (fun c69 => ?_) (fun c69 => ?_)
            · refine ph_iconst (pc := 76) C d_M_isDoubt_76 ?_
              refine ph_istore (pc := 77) C d_M_isDoubt_77 (by decide) rfl ?_
              refine ph_iload (pc := 79) C d_M_isDoubt_79 rfl ?_
              refine ph_if_eq (pc := 81) (tgt := 102) C d_M_isDoubt_81 (by decide) (by omega) (fun c81 => ?_) (fun c81 => ?_)
              · refine ph_iconst (pc := 102) C d_M_isDoubt_102 ?_
                exact ph_iret (pc := 103) C d_M_isDoubt_103 hr hlk (by decide) (by decide) (by decide) ⟨rfl, rfl, rfl, (ph_bf (by unfold inD; grind))⟩
              · exact absurd rfl c81
            · refine ph_iconst (pc := 72) C d_M_isDoubt_72 ?_
              refine ph_goto (pc := 73) (tgt := 77) C d_M_isDoubt_73 (by decide) ?_
              refine ph_istore (pc := 77) C d_M_isDoubt_77 (by decide) rfl ?_
              refine ph_iload (pc := 79) C d_M_isDoubt_79 rfl ?_
              refine ph_if_eq (pc := 81) (tgt := 102) C d_M_isDoubt_81 (by decide) (by omega) (fun c81 => ?_) (fun c81 => ?_)
              · exact absurd c81 (by decide)
              · refine ph_iload (pc := 84) C d_M_isDoubt_84 rfl ?_
                refine ph_if_ne (pc := 86) (tgt := 98) C d_M_isDoubt_86 (by decide) (by omega) (fun c86 => ?_) (fun c86 => ?_)
                · exact absurd rfl c86
                · refine ph_aload_n (pc := 89) C d_M_isDoubt_89 rfl ?_
                  refine ph_iload_n (pc := 90) C d_M_isDoubt_90 rfl ?_
                  refine ph_iload_n (pc := 91) C d_M_isDoubt_91 rfl ?_
                  refine ph_callV (pc := 92) (rest := []) C d_M_isDoubt_92 (c_M_isSeen l D dT A KX L ad τ S o hA hs hV i s0 hi (by omega)) (cwV 2 C.hts (gdV tw_524 tw_526 se_31 tw_2 tw_527) rfl rfl rfl ⟨rfl, by decide, by decide, by decide⟩ ⟨by decide, by decide⟩) hA.live hA.ob rfl rfl rfl rfl rfl (Nat.le_of_ble_eq_true rfl) ⟨by decide, by decide⟩ ?_
                  rintro r1 L1 ad1 τ1 ⟨g1, g2, g3, g4⟩; obtain rfl := g1.symm; obtain rfl := g2.symm; obtain rfl := g3.symm; subst g4
                  refine ph_bif_eq (pc := 95) (tgt := 102) C d_M_isDoubt_95 (by decide) (fun c95 => ?_) (fun c95 => ?_)
                  · refine ph_iconst (pc := 102) C d_M_isDoubt_102 ?_
                    exact ph_iret (pc := 103) C d_M_isDoubt_103 hr hlk (by decide) (by decide) (by decide) ⟨rfl, rfl, rfl, (ph_bf (by unfold inD; grind))⟩
                  · refine ph_iconst (pc := 98) C d_M_isDoubt_98 ?_
                    refine ph_goto (pc := 99) (tgt := 103) C d_M_isDoubt_99 (by decide) ?_
                    exact ph_iret (pc := 103) C d_M_isDoubt_103 hr hlk (by decide) (by decide) (by decide) ⟨rfl, rfl, rfl, (ph_bt (by unfold inD; grind))⟩
      · refine ph_iconst (pc := 26) C d_M_isDoubt_26 ?_
        refine ph_goto (pc := 27) (tgt := 42) C d_M_isDoubt_27 (by decide) ?_
        refine ph_istore (pc := 42) C d_M_isDoubt_42 (by decide) rfl ?_
        refine ph_aload_n (pc := 44) C d_M_isDoubt_44 rfl ?_
        refine ph_iload_n (pc := 45) C d_M_isDoubt_45 rfl ?_
        refine ph_iload_n (pc := 46) C d_M_isDoubt_46 rfl ?_
        refine ph_callV (pc := 47) (rest := []) C d_M_isDoubt_47 (c_M_isSeen l D dT A KX L ad τ S o hA hs hV i s0 hi (by omega)) (cwV 2 C.hts (gdV tw_524 tw_526 se_31 tw_2 tw_527) rfl rfl rfl ⟨rfl, by decide, by decide, by decide⟩ ⟨by decide, by decide⟩) hA.live hA.ob rfl rfl rfl rfl rfl (Nat.le_of_ble_eq_true rfl) ⟨by decide, by decide⟩ ?_
        rintro r1 L1 ad1 τ1 ⟨g1, g2, g3, g4⟩; obtain rfl := g1.symm; obtain rfl := g2.symm; obtain rfl := g3.symm; subst g4
        refine ph_bif_eq (pc := 50) (tgt := 72) C d_M_isDoubt_50 (by decide) (fun c50 => ?_) (fun c50 => ?_)
        · refine ph_iconst (pc := 72) C d_M_isDoubt_72 ?_
          refine ph_goto (pc := 73) (tgt := 77) C d_M_isDoubt_73 (by decide) ?_
          refine ph_istore (pc := 77) C d_M_isDoubt_77 (by decide) rfl ?_
          refine ph_iload (pc := 79) C d_M_isDoubt_79 rfl ?_
          refine ph_if_eq (pc := 81) (tgt := 102) C d_M_isDoubt_81 (by decide) (by omega) (fun c81 => ?_) (fun c81 => ?_)
          · exact absurd c81 (by decide)
          · refine ph_iload (pc := 84) C d_M_isDoubt_84 rfl ?_
            refine ph_if_ne (pc := 86) (tgt := 98) C d_M_isDoubt_86 (by decide) (by omega) (fun c86 => ?_) (fun c86 => ?_)
            · refine ph_iconst (pc := 98) C d_M_isDoubt_98 ?_
              refine ph_goto (pc := 99) (tgt := 103) C d_M_isDoubt_99 (by decide) ?_
              exact ph_iret (pc := 103) C d_M_isDoubt_103 hr hlk (by decide) (by decide) (by decide) ⟨rfl, rfl, rfl, (ph_bt (by unfold inD; grind))⟩
            · exact absurd c86 (by decide)
        · refine ph_aload_n (pc := 53) C d_M_isDoubt_53 rfl ?_
          refine gt_M_13 (pc := 54) C d_M_isDoubt_54 hA.live hA.ob (hA.rf (k := 2) rfl) ?_
          refine ph_iload_n (pc := 57) C d_M_isDoubt_57 rfl ?_
          refine ph_zald (pc := 58) C d_M_isDoubt_58 (hA.ar (k := 2) rfl) rfl rfl rfl s0 rfl (by have := hl; simp only [LC] at this; omega) (by decide) ?_
          refine ph_ti (y := S 1 s0 2) (hs.s23 hl) ?_
          refine ph_if_eq (pc := 59) (tgt := 76) C d_M_isDoubt_59 (by decide) (by omega) (fun c59 => ?_) (fun c59 => ?_)
          · refine ph_iconst (pc := 76) C d_M_isDoubt_76 ?_
            refine ph_istore (pc := 77) C d_M_isDoubt_77 (by decide) rfl ?_
            refine ph_iload (pc := 79) C d_M_isDoubt_79 rfl ?_
            refine ph_if_eq (pc := 81) (tgt := 102) C d_M_isDoubt_81 (by decide) (by omega) (fun c81 => ?_) (fun c81 => ?_)
            · refine ph_iconst (pc := 102) C d_M_isDoubt_102 ?_
              exact ph_iret (pc := 103) C d_M_isDoubt_103 hr hlk (by decide) (by decide) (by decide) ⟨rfl, rfl, rfl, (ph_bf (by unfold inD; grind))⟩
            · exact absurd rfl c81
          · refine ph_aload_n (pc := 62) C d_M_isDoubt_62 rfl ?_
            refine gt_M_24 (pc := 63) C d_M_isDoubt_63 hA.live hA.ob (hA.rf (k := 5) rfl) ?_
            refine ph_iload_n (pc := 66) C d_M_isDoubt_66 rfl ?_
            refine ph_iald (pc := 67) C d_M_isDoubt_67 (hA.ar (k := 5) rfl) rfl rfl rfl s0 rfl (by have := hl; simp only [LC] at this; omega) (by decide) ?_
            refine ph_ti (y := S 1 s0 3) (hs.s26 hl) ?_
            refine ph_iload_n (pc := 68) C d_M_isDoubt_68 rfl ?_
            refine ph_icmp_ne (pc := 69) (tgt := 76) C d_M_isDoubt_69 (by decide) (by omega) (by omega) (fun c69 => ?_) (fun c69 => ?_)
            · refine ph_iconst (pc := 76) C d_M_isDoubt_76 ?_
              refine ph_istore (pc := 77) C d_M_isDoubt_77 (by decide) rfl ?_
              refine ph_iload (pc := 79) C d_M_isDoubt_79 rfl ?_
              refine ph_if_eq (pc := 81) (tgt := 102) C d_M_isDoubt_81 (by decide) (by omega) (fun c81 => ?_) (fun c81 => ?_)
              · refine ph_iconst (pc := 102) C d_M_isDoubt_102 ?_
                exact ph_iret (pc := 103) C d_M_isDoubt_103 hr hlk (by decide) (by decide) (by decide) ⟨rfl, rfl, rfl, (ph_bf (by unfold inD; grind))⟩
              · exact absurd rfl c81
            · refine ph_iconst (pc := 72) C d_M_isDoubt_72 ?_
              refine ph_goto (pc := 73) (tgt := 77) C d_M_isDoubt_73 (by decide) ?_
              refine ph_istore (pc := 77) C d_M_isDoubt_77 (by decide) rfl ?_
              refine ph_iload (pc := 79) C d_M_isDoubt_79 rfl ?_
              refine ph_if_eq (pc := 81) (tgt := 102) C d_M_isDoubt_81 (by decide) (by omega) (fun c81 => ?_) (fun c81 => ?_)
              · exact absurd c81 (by decide)
              · refine ph_iload (pc := 84) C d_M_isDoubt_84 rfl ?_
                refine ph_if_ne (pc := 86) (tgt := 98) C d_M_isDoubt_86 (by decide) (by omega) (fun c86 => ?_) (fun c86 => ?_)
                · refine ph_iconst (pc := 98) C d_M_isDoubt_98 ?_
                  refine ph_goto (pc := 99) (tgt := 103) C d_M_isDoubt_99 (by decide) ?_
                  exact ph_iret (pc := 103) C d_M_isDoubt_103 hr hlk (by decide) (by decide) (by decide) ⟨rfl, rfl, rfl, (ph_bt (by unfold inD; grind))⟩
                · exact absurd c86 (by decide)
  · refine ph_iconst (pc := 9) C d_M_isDoubt_9 ?_
    exact ph_iret (pc := 10) C d_M_isDoubt_10 hr hlk (by decide) (by decide) (by decide) ⟨rfl, rfl, rfl, (ph_bf (by unfold inD; grind))⟩
