/-! ===== more reads of the class ===== -/
set_option maxHeartbeats 4000000 in
set_option maxRecDepth 100000 in
theorem c_J_goesOn (l : Launch) (D : va_G) (dT : Nat → ClassId) (A : Nat → Prop) (KX : State → Prop) (L : Nat → Nat → Prop) (ad : Nat → Nat → Nat) (τ : ph_T) (S : ph_T) (o : Nat) (hI : JR S o L ad τ) (hV : IV S)  : ph_M l y_J_goesOn (.code y_J_goesOn b_J_goesOn 2 (some .boolean) :: TB) ({ frames := 0, cells := 0, slots := 0, locals := 0 } : Room) D CLs (TY dT) dT kd A KX [.ref (o)] L ad τ (fun r L' ad' τ' => L' = L ∧ ad' = ad ∧ τ' = τ ∧ r = some (.int (ph_i (ph_b (runs S))))) 0 0 := by
  refine ph_M.of (cc := b_J_goesOn) (maxL := 2) (ret := (some .boolean)) (by decide) rfl (Nat.le_of_ble_eq_true rfl) ?_
  intro p e s m below meth c C0 hr hlk hnm
  have C := C0.sub
  refine ph_loc (l2 := [(0, .ref (o))]) ⟨rfl, trivial⟩ ?_
  have hc := hV.c
  have loop : ∀ (n : Nat) (i : Nat), S 0 0 5 - S 0 0 6 ≤ 5 → S 0 0 6 < (i : Int) → S 0 0 5 = (i : Int) + n - 1 → (∀ f : Nat, S 0 0 6 < (f : Int) → (f : Int) < (i : Int) → S 3 f 4 = 0) → ph_W p l e ({ frames := 0, cells := 0, slots := 0, locals := 0 } : Room) s m [.ref (o)].toArray below meth c D CLs dT kd A 2 (MQ below (ph_Q D CLs dT kd A (fun r L' ad' τ' => L' = L ∧ ad' = ad ∧ τ' = τ ∧ r = some (.int (ph_i (ph_b (runs S)))))) [.ref (o)].toArray s 0 0 A) L ad τ 0 0 22 (ph_mk [(0, .ref (o)), (1, .int (ph_i ((i : Int))))]) [] := by
    intro n
    induction n with
    | zero =>
      intro i h0 h1 h2 h3
      refine ph_iload_n (pc := 22) C d_J_goesOn_22 rfl ?_
      refine ph_aload_n (pc := 23) C d_J_goesOn_23 rfl ?_
      refine gt_J_34 (pc := 24) C d_J_goesOn_24 (hI.live (g := 0) (i := 0) rfl) hI.ob (hI.dat rfl rfl) ?_
      refine ph_icmp_gt (pc := 27) (tgt := 50) C d_J_goesOn_27 (by decide) (by first | omega | (have := hV.f (show LC S 3 i by simp only [LC]; omega); omega)) (by first | omega | (have := hV.f (show LC S 3 i by simp only [LC]; omega); omega)) (fun c27 => ?_) (fun c27 => ?_)
      · refine ph_iconst (pc := 50) C d_J_goesOn_50 ?_
        exact ph_iret (pc := 51) C d_J_goesOn_51 hr hlk (by decide) (by decide) (by decide) ⟨rfl, rfl, rfl, (ph_bt (⟨by omega, fun f h1 h2 => by first | exact h3 f h1 (by omega) | omega⟩))⟩
      · exfalso; omega
    | succ n ih =>
      intro i h0 h1 h2 h3
      refine ph_iload_n (pc := 22) C d_J_goesOn_22 rfl ?_
      refine ph_aload_n (pc := 23) C d_J_goesOn_23 rfl ?_
      refine gt_J_34 (pc := 24) C d_J_goesOn_24 (hI.live (g := 0) (i := 0) rfl) hI.ob (hI.dat rfl rfl) ?_
      refine ph_icmp_gt (pc := 27) (tgt := 50) C d_J_goesOn_27 (by decide) (by first | omega | (have := hV.f (show LC S 3 i by simp only [LC]; omega); omega)) (by first | omega | (have := hV.f (show LC S 3 i by simp only [LC]; omega); omega)) (fun c27 => ?_) (fun c27 => ?_)
      · exfalso; omega
      · refine ph_aload_n (pc := 30) C d_J_goesOn_30 rfl ?_
        refine gt_J_30 (pc := 31) C d_J_goesOn_31 (hI.live (g := 0) (i := 0) rfl) hI.ob hI.r4 ?_
        refine ph_iload_n (pc := 34) C d_J_goesOn_34 rfl ?_
        refine ph_aald (pc := 35) (t := 2) C d_J_goesOn_35 (hI.live (g := 6) (i := 0) rfl) rfl rfl rfl i rfl (by have := (show LC S 3 i by simp only [LC]; omega); simp only [LC] at this; omega) (by decide) (ph_vr (hI.e6 (show LC S 3 i by simp only [LC]; omega))) ?_
        refine gt_J_169 (pc := 36) C d_J_goesOn_36 (hI.live (show LC S 3 i by simp only [LC]; omega)) rfl (hI.dat (show LC S 3 i by simp only [LC]; omega) rfl) ?_
        refine ph_if_eq (pc := 39) (tgt := 44) C d_J_goesOn_39 (by decide) (by first | omega | (have := hV.f (show LC S 3 i by simp only [LC]; omega); omega)) (fun c39 => ?_) (fun c39 => ?_)
        · refine ph_iinc (pc := 44) C d_J_goesOn_44 rfl rfl ?_
          refine ph_goto (pc := 47) (tgt := 22) C d_J_goesOn_47 (by decide) ?_
          refine ph_loc (l2 := [(0, .ref (o)), (1, .int (ph_i (((i + 1 : Nat) : Int))))]) ⟨rfl, rfl, trivial⟩ ?_
          exact ih (i + 1) h0 (by omega) (by omega) (fun f q1 q2 => (Nat.lt_or_ge f i).elim (fun q => h3 f q1 (by omega)) (fun q => by rw [show f = i by omega]; assumption))
        · refine ph_iconst (pc := 42) C d_J_goesOn_42 ?_
          exact ph_iret (pc := 43) C d_J_goesOn_43 hr hlk (by decide) (by decide) (by decide) ⟨rfl, rfl, rfl, (ph_bf (fun h => by first | (have := h.1; omega) | exact absurd (h.2 i (by omega) (by omega)) (by assumption)))⟩
  refine ph_aload_n (pc := 0) C d_J_goesOn_0 rfl ?_
  refine gt_J_34 (pc := 1) C d_J_goesOn_1 (hI.live (g := 0) (i := 0) rfl) hI.ob (hI.dat rfl rfl) ?_
  refine ph_aload_n (pc := 4) C d_J_goesOn_4 rfl ?_
  refine gt_J_37 (pc := 5) C d_J_goesOn_5 (hI.live (g := 0) (i := 0) rfl) hI.ob (hI.dat rfl rfl) ?_
  refine ph_isub (pc := 8) C d_J_goesOn_8 ?_
  refine ph_iconst (pc := 9) C d_J_goesOn_9 ?_
  refine ph_icmp_le (pc := 10) (tgt := 15) C d_J_goesOn_10 (by decide) (by omega) (by omega) (fun c10 => ?_) (fun c10 => ?_)
  · refine ph_aload_n (pc := 15) C d_J_goesOn_15 rfl ?_
    refine gt_J_37 (pc := 16) C d_J_goesOn_16 (hI.live (g := 0) (i := 0) rfl) hI.ob (hI.dat rfl rfl) ?_
    refine ph_iconst (pc := 19) C d_J_goesOn_19 ?_
    refine ph_iadd (pc := 20) C d_J_goesOn_20 ?_
    refine ph_istore_n (pc := 21) C d_J_goesOn_21 (by decide) rfl ?_
    refine ph_loc (l2 := [(0, .ref (o)), (1, .int (ph_i ((((S 0 0 6).toNat + 1 : Nat) : Int))))]) ⟨rfl, (congrArg (fun z => some (Value.int (ph_i z))) (show (S 0 0 6 + 1 : Int) = (((S 0 0 6).toNat + 1 : Nat) : Int) by omega)), trivial⟩ ?_
    exact loop (S 0 0 5 - S 0 0 6).toNat ((S 0 0 6).toNat + 1) (by omega) (by omega) (by omega) (fun f q1 q2 => by omega)
  · refine ph_iconst (pc := 13) C d_J_goesOn_13 ?_
    exact ph_iret (pc := 14) C d_J_goesOn_14 hr hlk (by decide) (by decide) (by decide) ⟨rfl, rfl, rfl, (ph_bf (fun h => by first | (have := h.1; omega) | exact absurd (h.2 i (by omega) (by omega)) (by assumption)))⟩
set_option maxHeartbeats 4000000 in
set_option maxRecDepth 100000 in
theorem c_J_cameAgain (l : Launch) (D : va_G) (dT : Nat → ClassId) (A : Nat → Prop) (KX : State → Prop) (L : Nat → Nat → Prop) (ad : Nat → Nat → Nat) (τ : ph_T) (S : ph_T) (o : Nat) (hI : JR S o L ad τ) (hV : IV S) (f0 : Nat) (hf : LC S 3 f0) : ph_M l y_J_cameAgain (.code y_J_cameAgain b_J_cameAgain 4 (some .boolean) :: TB) ({ frames := 1, cells := 0, slots := 0, locals := 21 } : Room) D CLs (TY dT) dT kd A KX [.ref (o), .int (ph_i ((f0 : Int)))] L ad τ (fun r L' ad' τ' => L' = L ∧ ad' = ad ∧ τ' = τ ∧ r = some (.int (ph_i (ph_b (again S f0))))) 0 0 := by
  refine ph_M.of (cc := b_J_cameAgain) (maxL := 4) (ret := (some .boolean)) (by decide) rfl (Nat.le_of_ble_eq_true rfl) ?_
  intro p e s m below meth c C0 hr hlk hnm
  have C := C0.sub
  refine ph_loc (l2 := [(0, .ref (o)), (1, .int (ph_i ((f0 : Int))))]) ⟨rfl, rfl, trivial⟩ ?_
  have hc := hV.c
  have hf9 := hV.f hf
  have hf8 := id hf
  simp only [LC] at hf8
  have loop : ∀ (n : Nat) (i : Nat), 1 ≤ i → (f0 : Int) = (i : Int) + n → (∀ e9 : Nat, 1 ≤ e9 → e9 < i → ¬ (S 3 f0 2 - S 3 e9 2 ≤ 10000 ∧ sameT S e9 f0)) → ph_W p l e ({ frames := 1, cells := 0, slots := 0, locals := 21 } : Room) s m [.ref (o), .int (ph_i ((f0 : Int)))].toArray below meth c D CLs dT kd A 4 (MQ below (ph_Q D CLs dT kd A (fun r L' ad' τ' => L' = L ∧ ad' = ad ∧ τ' = τ ∧ r = some (.int (ph_i (ph_b (again S f0)))))) [.ref (o), .int (ph_i ((f0 : Int)))].toArray s 0 0 A) L ad τ 0 0 9 (ph_mk [(0, .ref (o)), (1, .int (ph_i ((f0 : Int)))), (2, .ref (ad 3 f0)), (3, .int (ph_i ((i : Int))))]) [] := by
    intro n
    induction n with
    | zero =>
      intro i h1 h2 h3
      refine ph_iload_n (pc := 9) C d_J_cameAgain_9 rfl ?_
      refine ph_iload_n (pc := 10) C d_J_cameAgain_10 rfl ?_
      refine ph_icmp_ge (pc := 11) (tgt := 56) C d_J_cameAgain_11 (by decide) (by first | omega | (have := hV.f (show LC S 3 i by have := hf; simp only [LC] at this ⊢; omega); omega)) (by first | omega | (have := hV.f (show LC S 3 i by have := hf; simp only [LC] at this ⊢; omega); omega)) (fun c11 => ?_) (fun c11 => ?_)
      · refine ph_iconst (pc := 56) C d_J_cameAgain_56 ?_
        exact ph_iret (pc := 57) C d_J_cameAgain_57 hr hlk (by decide) (by decide) (by decide) ⟨rfl, rfl, rfl, (ph_bf (fun h => by first | (obtain ⟨e9, q1, q2, q3, q4⟩ := h; exact h3 e9 q1 (by omega) ⟨q3, q4⟩) | (exfalso; omega)))⟩
      · exfalso; omega
    | succ n ih =>
      intro i h1 h2 h3
      refine ph_iload_n (pc := 9) C d_J_cameAgain_9 rfl ?_
      refine ph_iload_n (pc := 10) C d_J_cameAgain_10 rfl ?_
      refine ph_icmp_ge (pc := 11) (tgt := 56) C d_J_cameAgain_11 (by decide) (by first | omega | (have := hV.f (show LC S 3 i by have := hf; simp only [LC] at this ⊢; omega); omega)) (by first | omega | (have := hV.f (show LC S 3 i by have := hf; simp only [LC] at this ⊢; omega); omega)) (fun c11 => ?_) (fun c11 => ?_)
      · exfalso; omega
      · refine ph_aload_n (pc := 14) C d_J_cameAgain_14 rfl ?_
        refine gt_J_163 (pc := 15) C d_J_cameAgain_15 (hI.live hf) rfl (hI.dat hf rfl) ?_
        refine ph_aload_n (pc := 18) C d_J_cameAgain_18 rfl ?_
        refine gt_J_30 (pc := 19) C d_J_cameAgain_19 (hI.live (g := 0) (i := 0) rfl) hI.ob hI.r4 ?_
        refine ph_iload_n (pc := 22) C d_J_cameAgain_22 rfl ?_
        refine ph_aald (pc := 23) (t := 2) C d_J_cameAgain_23 (hI.live (g := 6) (i := 0) rfl) rfl rfl rfl i rfl (by have := (show LC S 3 i by have := hf; simp only [LC] at this ⊢; omega); simp only [LC] at this; omega) (by decide) (ph_vr (hI.e6 (show LC S 3 i by have := hf; simp only [LC] at this ⊢; omega))) ?_
        refine gt_J_163 (pc := 24) C d_J_cameAgain_24 (hI.live (show LC S 3 i by have := hf; simp only [LC] at this ⊢; omega)) rfl (hI.dat (show LC S 3 i by have := hf; simp only [LC] at this ⊢; omega) rfl) ?_
        refine ph_lsub (pc := 27) C d_J_cameAgain_27 ?_
        refine ph_ldc2 (pc := 28) C d_J_cameAgain_28 (10000) (by decide) tw_296 ?_
        refine ph_l_gt (pc := 31) (tgt := 50) C d_J_cameAgain_31 d_J_cameAgain_32 (by decide) (by first | omega | (have := hV.f (show LC S 3 i by have := hf; simp only [LC] at this ⊢; omega); omega)) (by first | omega | (have := hV.f (show LC S 3 i by have := hf; simp only [LC] at this ⊢; omega); omega)) (fun c31 => ?_) (fun c31 => ?_)
        · refine ph_iinc (pc := 50) C d_J_cameAgain_50 rfl rfl ?_
          refine ph_goto (pc := 53) (tgt := 9) C d_J_cameAgain_53 (by decide) ?_
          refine ph_loc (l2 := [(0, .ref (o)), (1, .int (ph_i ((f0 : Int)))), (2, .ref (ad 3 f0)), (3, .int (ph_i (((i + 1 : Nat) : Int))))]) ⟨rfl, rfl, rfl, rfl, trivial⟩ ?_
          exact ih (i + 1) (by omega) (by omega) (fun e9 q1 q2 q3 => (Nat.lt_or_ge e9 i).elim (fun q => h3 e9 q1 q q3) (fun q => by (have e8 : e9 = i := (by omega)); subst e8; first | exact absurd q3.2 (by assumption) | omega))
        · refine ph_aload_n (pc := 35) C d_J_cameAgain_35 rfl ?_
          refine gt_J_30 (pc := 36) C d_J_cameAgain_36 (hI.live (g := 0) (i := 0) rfl) hI.ob hI.r4 ?_
          refine ph_iload_n (pc := 39) C d_J_cameAgain_39 rfl ?_
          refine ph_aald (pc := 40) (t := 2) C d_J_cameAgain_40 (hI.live (g := 6) (i := 0) rfl) rfl rfl rfl i rfl (by have := (show LC S 3 i by have := hf; simp only [LC] at this ⊢; omega); simp only [LC] at this; omega) (by decide) (ph_vr (hI.e6 (show LC S 3 i by have := hf; simp only [LC] at this ⊢; omega))) ?_
          refine ph_aload_n (pc := 41) C d_J_cameAgain_41 rfl ?_
          refine ph_callS (pc := 42) (rest := []) C d_J_cameAgain_42 (c_J_isSameTrouble l D dT A KX L ad τ S o hI hV i f0 (show LC S 3 i by have := hf; simp only [LC] at this ⊢; omega) hf) (cwS 2 C.hts (gdS tw_297 tw_298 tw_1 tw_299) rfl rfl rfl ⟨rfl, by decide, by decide, by decide⟩ ⟨by decide, by decide⟩) rfl rfl (Nat.le_of_ble_eq_true rfl) ⟨by decide, by decide⟩ ?_
          rintro r1 L1 ad1 τ1 ⟨g1, g2, g3, g4⟩; obtain rfl := g1.symm; obtain rfl := g2.symm; obtain rfl := g3.symm; subst g4
          refine ph_bif_eq (pc := 45) (tgt := 50) C d_J_cameAgain_45 (by decide) (fun c45 => ?_) (fun c45 => ?_)
          · refine ph_iinc (pc := 50) C d_J_cameAgain_50 rfl rfl ?_
            refine ph_goto (pc := 53) (tgt := 9) C d_J_cameAgain_53 (by decide) ?_
            refine ph_loc (l2 := [(0, .ref (o)), (1, .int (ph_i ((f0 : Int)))), (2, .ref (ad 3 f0)), (3, .int (ph_i (((i + 1 : Nat) : Int))))]) ⟨rfl, rfl, rfl, rfl, trivial⟩ ?_
            exact ih (i + 1) (by omega) (by omega) (fun e9 q1 q2 q3 => (Nat.lt_or_ge e9 i).elim (fun q => h3 e9 q1 q q3) (fun q => by (have e8 : e9 = i := (by omega)); subst e8; first | exact absurd q3.2 (by assumption) | omega))
          · refine ph_iconst (pc := 48) C d_J_cameAgain_48 ?_
            exact ph_iret (pc := 49) C d_J_cameAgain_49 hr hlk (by decide) (by decide) (by decide) ⟨rfl, rfl, rfl, (ph_bt (⟨i, by omega, by omega, by omega, by assumption⟩))⟩
  refine ph_aload_n (pc := 0) C d_J_cameAgain_0 rfl ?_
  refine gt_J_30 (pc := 1) C d_J_cameAgain_1 (hI.live (g := 0) (i := 0) rfl) hI.ob hI.r4 ?_
  refine ph_iload_n (pc := 4) C d_J_cameAgain_4 rfl ?_
  refine ph_aald (pc := 5) (t := 2) C d_J_cameAgain_5 (hI.live (g := 6) (i := 0) rfl) rfl rfl rfl f0 rfl (by have := hf; simp only [LC] at this; omega) (by decide) (ph_vr (hI.e6 hf)) ?_
  refine ph_astore_n (pc := 6) C d_J_cameAgain_6 (by decide) rfl ?_
  refine ph_iconst (pc := 7) C d_J_cameAgain_7 ?_
  refine ph_istore_n (pc := 8) C d_J_cameAgain_8 (by decide) rfl ?_
  refine ph_loc (l2 := [(0, .ref (o)), (1, .int (ph_i ((f0 : Int)))), (2, .ref (ad 3 f0)), (3, .int (ph_i (((1 : Nat) : Int))))]) ⟨rfl, rfl, rfl, rfl, trivial⟩ ?_
  exact loop (f0 - 1) 1 (by omega) (by omega) (fun e9 q1 q2 => by omega)
set_option maxHeartbeats 4000000 in
set_option maxRecDepth 100000 in
theorem c_J_doubtAt (l : Launch) (D : va_G) (dT : Nat → ClassId) (A : Nat → Prop) (KX : State → Prop) (L : Nat → Nat → Prop) (ad : Nat → Nat → Nat) (τ : ph_T) (S : ph_T) (o : Nat) (hI : JR S o L ad τ) (hV : IV S) (s0 : Nat) (hs : LC S 1 s0) : ph_M l y_J_doubtAt (.code y_J_doubtAt b_J_doubtAt 5 (some .long) :: TB) ({ frames := 2, cells := 0, slots := 0, locals := 44 } : Room) D CLs (TY dT) dT kd A KX [.ref (o), .int (ph_i ((s0 : Int)))] L ad τ (fun r L' ad' τ' => L' = L ∧ ad' = ad ∧ τ' = τ ∧ r = some (.long (ph_l ((dbm S s0 : Nat) : Int)))) 0 0 := by
  refine ph_M.of (cc := b_J_doubtAt) (maxL := 5) (ret := (some .long)) (by decide) rfl (Nat.le_of_ble_eq_true rfl) ?_
  intro p e s m below meth c C0 hr hlk hnm
  have C := C0.sub
  refine ph_loc (l2 := [(0, .ref (o)), (1, .int (ph_i ((s0 : Int))))]) ⟨rfl, rfl, trivial⟩ ?_
  have hc := hV.c
  have hs9 := id hs
  simp only [LC] at hs9
  have loop : ∀ (n : Nat) (i acc : Nat), 1 ≤ i → S 0 0 3 = (i : Int) + n - 1 → dbF S s0 n i acc = dbm S s0 → ph_W p l e ({ frames := 2, cells := 0, slots := 0, locals := 44 } : Room) s m [.ref (o), .int (ph_i ((s0 : Int)))].toArray below meth c D CLs dT kd A 5 (MQ below (ph_Q D CLs dT kd A (fun r L' ad' τ' => L' = L ∧ ad' = ad ∧ τ' = τ ∧ r = some (.long (ph_l ((dbm S s0 : Nat) : Int))))) [.ref (o), .int (ph_i ((s0 : Int)))].toArray s 0 0 A) L ad τ 0 0 13 (ph_mk [(0, .ref (o)), (1, .int (ph_i ((s0 : Int)))), (2, .long (ph_l ((acc : Int)))), (4, .int (ph_i ((i : Int))))]) [] := by
    intro n
    induction n with
    | zero =>
      intro i acc h1 h2 h3
      refine ph_iload (pc := 13) C d_J_doubtAt_13 rfl ?_
      refine ph_aload_n (pc := 15) C d_J_doubtAt_15 rfl ?_
      refine gt_J_25 (pc := 16) C d_J_doubtAt_16 (hI.live (g := 0) (i := 0) rfl) hI.ob (hI.dat rfl rfl) ?_
      refine ph_icmp_gt (pc := 19) (tgt := 45) C d_J_doubtAt_19 (by decide) (by omega) (by omega) (fun c19 => ?_) (fun c19 => ?_)
      · refine ph_lload_n (pc := 45) C d_J_doubtAt_45 rfl ?_
        exact ph_lret (pc := 46) C d_J_doubtAt_46 hr hlk (by decide) (by decide) ⟨rfl, rfl, rfl, by first | (rw [← h3]; rfl) | (exfalso; omega)⟩
      · exfalso; omega
    | succ n ih =>
      intro i acc h1 h2 h3
      refine ph_iload (pc := 13) C d_J_doubtAt_13 rfl ?_
      refine ph_aload_n (pc := 15) C d_J_doubtAt_15 rfl ?_
      refine gt_J_25 (pc := 16) C d_J_doubtAt_16 (hI.live (g := 0) (i := 0) rfl) hI.ob (hI.dat rfl rfl) ?_
      refine ph_icmp_gt (pc := 19) (tgt := 45) C d_J_doubtAt_19 (by decide) (by omega) (by omega) (fun c19 => ?_) (fun c19 => ?_)
      · exfalso; omega
      · refine ph_aload_n (pc := 22) C d_J_doubtAt_22 rfl ?_
        refine ph_iload (pc := 23) C d_J_doubtAt_23 rfl ?_
        refine ph_iload_n (pc := 25) C d_J_doubtAt_25 rfl ?_
        refine ph_callV (pc := 26) (rest := []) C d_J_doubtAt_26 (c_J_isInDoubt l D dT A KX L ad τ S o hI hV i s0 (show LC S 2 i by simp only [LC]; omega) hs) (cwV 2 C.hts (gdV tw_210 tw_212 se_8 tw_1 tw_213) rfl rfl rfl ⟨rfl, by decide, by decide, by decide⟩ ⟨by decide, by decide⟩) (hI.live (g := 0) (i := 0) rfl) hI.ob rfl rfl rfl rfl rfl (Nat.le_of_ble_eq_true rfl) ⟨by decide, by decide⟩ ?_
        rintro r1 L1 ad1 τ1 ⟨g1, g2, g3, g4⟩; obtain rfl := g1.symm; obtain rfl := g2.symm; obtain rfl := g3.symm; subst g4
        refine ph_bif_eq (pc := 29) (tgt := 39) C d_J_doubtAt_29 (by decide) (fun c29 => ?_) (fun c29 => ?_)
        · refine ph_iinc (pc := 39) C d_J_doubtAt_39 rfl rfl ?_
          refine ph_goto (pc := 42) (tgt := 13) C d_J_doubtAt_42 (by decide) ?_
          refine ph_loc (l2 := [(0, .ref (o)), (1, .int (ph_i ((s0 : Int)))), (2, .long (ph_l ((acc : Int)))), (4, .int (ph_i (((i + 1 : Nat) : Int))))]) ⟨rfl, rfl, rfl, rfl, trivial⟩ ?_
          exact ih (i + 1) acc (by omega) (by omega) (by rw [← h3, dbF_f (by assumption)])
        · refine ph_lload_n (pc := 32) C d_J_doubtAt_32 rfl ?_
          refine ph_lconst (pc := 33) C d_J_doubtAt_33 1 (by decide) ?_
          refine ph_iload (pc := 34) C d_J_doubtAt_34 rfl ?_
          refine ph_lshl (pc := 36) C d_J_doubtAt_36 ((2 ^ i : Nat) : Int) (pb_lshl1 (by omega)) ?_
          refine ph_lor (pc := 37) C d_J_doubtAt_37 ((acc ||| 2 ^ i : Nat) : Int) (pb_lor acc (2 ^ i)) ?_
          refine ph_lstore_n (pc := 38) C d_J_doubtAt_38 (by decide) rfl ?_
          refine ph_iinc (pc := 39) C d_J_doubtAt_39 rfl rfl ?_
          refine ph_goto (pc := 42) (tgt := 13) C d_J_doubtAt_42 (by decide) ?_
          refine ph_loc (l2 := [(0, .ref (o)), (1, .int (ph_i ((s0 : Int)))), (2, .long (ph_l (((acc ||| 2 ^ i : Nat) : Int)))), (4, .int (ph_i (((i + 1 : Nat) : Int))))]) ⟨rfl, rfl, rfl, rfl, trivial⟩ ?_
          exact ih (i + 1) (acc ||| 2 ^ i) (by omega) (by omega) (by rw [← h3, dbF_t (by assumption)])
  refine ph_lconst (pc := 0) C d_J_doubtAt_0 0 (by decide) ?_
  refine ph_lstore_n (pc := 1) C d_J_doubtAt_1 (by decide) rfl ?_
  refine ph_aload_n (pc := 2) C d_J_doubtAt_2 rfl ?_
  refine ph_iload_n (pc := 3) C d_J_doubtAt_3 rfl ?_
  refine ph_callV (pc := 4) (rest := []) C d_J_doubtAt_4 (c_J_isSensor l D dT A KX L ad τ S o hI hV (s0 : Int) (by omega)) (cwV 1 C.hts (gdV tw_151 tw_153 se_2 tw_1 tw_154) rfl rfl rfl ⟨rfl, by decide, by decide, by decide⟩ ⟨by decide, by decide⟩) (hI.live (g := 0) (i := 0) rfl) hI.ob rfl rfl rfl rfl rfl (Nat.le_of_ble_eq_true rfl) ⟨by decide, by decide⟩ ?_
  rintro r1 L1 ad1 τ1 ⟨g1, g2, g3, g4⟩; obtain rfl := g1.symm; obtain rfl := g2.symm; obtain rfl := g3.symm; subst g4
  refine ph_bif_eq (pc := 7) (tgt := 45) C d_J_doubtAt_7 (by decide) (fun c7 => ?_) (fun c7 => ?_)
  · refine ph_lload_n (pc := 45) C d_J_doubtAt_45 rfl ?_
    exact ph_lret (pc := 46) C d_J_doubtAt_46 hr hlk (by decide) (by decide) ⟨rfl, rfl, rfl, by first | (rw [← h3]; rfl) | (exfalso; omega)⟩
  · refine ph_iconst (pc := 10) C d_J_doubtAt_10 ?_
    refine ph_istore (pc := 11) C d_J_doubtAt_11 (by decide) rfl ?_
    refine ph_loc (l2 := [(0, .ref (o)), (1, .int (ph_i ((s0 : Int)))), (2, .long (ph_l (((0 : Nat) : Int)))), (4, .int (ph_i (((1 : Nat) : Int))))]) ⟨rfl, rfl, rfl, rfl, trivial⟩ ?_
    exact loop (S 0 0 3).toNat 1 0 (by omega) (by omega) rfl
set_option maxHeartbeats 4000000 in
set_option maxRecDepth 100000 in
theorem c_J_doubtAtN (l : Launch) (D : va_G) (dT : Nat → ClassId) (A : Nat → Prop) (KX : State → Prop) (L : Nat → Nat → Prop) (ad : Nat → Nat → Nat) (τ : ph_T) (S : ph_T) (o : Nat) (hI : JR S o L ad τ) (hV : IV S) (x : Int) (hx : ph_ri x) (hn : ¬ (0 ≤ x ∧ x < S 0 0 1)) : ph_M l y_J_doubtAt (.code y_J_doubtAt b_J_doubtAt 5 (some .long) :: TB) ({ frames := 2, cells := 0, slots := 0, locals := 44 } : Room) D CLs (TY dT) dT kd A KX [.ref (o), .int (ph_i (x))] L ad τ (fun r L' ad' τ' => L' = L ∧ ad' = ad ∧ τ' = τ ∧ r = some (.long (ph_l 0))) 0 0 := by
  refine ph_M.of (cc := b_J_doubtAt) (maxL := 5) (ret := (some .long)) (by decide) rfl (Nat.le_of_ble_eq_true rfl) ?_
  intro p e s m below meth c C0 hr hlk hnm
  have C := C0.sub
  refine ph_loc (l2 := [(0, .ref (o)), (1, .int (ph_i (x)))]) ⟨rfl, rfl, trivial⟩ ?_
  have hc := hV.c
  refine ph_lconst (pc := 0) C d_J_doubtAt_0 0 (by decide) ?_
  refine ph_lstore_n (pc := 1) C d_J_doubtAt_1 (by decide) rfl ?_
  refine ph_aload_n (pc := 2) C d_J_doubtAt_2 rfl ?_
  refine ph_iload_n (pc := 3) C d_J_doubtAt_3 rfl ?_
  refine ph_callV (pc := 4) (rest := []) C d_J_doubtAt_4 (c_J_isSensor l D dT A KX L ad τ S o hI hV x hx) (cwV 1 C.hts (gdV tw_151 tw_153 se_2 tw_1 tw_154) rfl rfl rfl ⟨rfl, by decide, by decide, by decide⟩ ⟨by decide, by decide⟩) (hI.live (g := 0) (i := 0) rfl) hI.ob rfl rfl rfl rfl rfl (Nat.le_of_ble_eq_true rfl) ⟨by decide, by decide⟩ ?_
  rintro r1 L1 ad1 τ1 ⟨g1, g2, g3, g4⟩; obtain rfl := g1.symm; obtain rfl := g2.symm; obtain rfl := g3.symm; subst g4
  refine ph_bif_eq (pc := 7) (tgt := 45) C d_J_doubtAt_7 (by decide) (fun c7 => ?_) (fun c7 => ?_)
  · refine ph_lload_n (pc := 45) C d_J_doubtAt_45 rfl ?_
    exact ph_lret (pc := 46) C d_J_doubtAt_46 hr hlk (by decide) (by decide) ⟨rfl, rfl, rfl, rfl⟩
  · exact absurd c7 hn
set_option maxHeartbeats 4000000 in
set_option maxRecDepth 100000 in
theorem c_J_listed (l : Launch) (D : va_G) (dT : Nat → ClassId) (A : Nat → Prop) (KX : State → Prop) (L : Nat → Nat → Prop) (ad : Nat → Nat → Nat) (τ : ph_T) (S : ph_T) (o : Nat) (hI : JR S o L ad τ) (hV : IV S) (x : Int) (hx : ph_ri x) : ph_M l y_J_listed (.code y_J_listed b_J_listed 2 (some .int) :: TB) ({ frames := 0, cells := 0, slots := 0, locals := 0 } : Room) D CLs (TY dT) dT kd A KX [.ref (o), .int (ph_i (x))] L ad τ (fun r L' ad' τ' => L' = L ∧ ad' = ad ∧ τ' = τ ∧ r = some (.int (ph_i (listv S x)))) 0 0 := by
  refine ph_M.of (cc := b_J_listed) (maxL := 2) (ret := (some .int)) (by decide) rfl (Nat.le_of_ble_eq_true rfl) ?_
  intro p e s m below meth c C0 hr hlk hnm
  have C := C0.sub
  refine ph_loc (l2 := [(0, .ref (o)), (1, .int (ph_i (x)))]) ⟨rfl, rfl, trivial⟩ ?_
  have hc := hV.c
  refine ph_iload_n (pc := 0) C d_J_listed_0 rfl ?_
  refine ph_if_lt (pc := 1) (tgt := 21) C d_J_listed_1 (by decide) (by omega) (fun c1 => ?_) (fun c1 => ?_)
  · refine ph_iconst (pc := 21) C d_J_listed_21 ?_
    exact ph_iret (pc := 22) C d_J_listed_22 hr hlk (by rfl) (by decide) (by decide) ⟨rfl, rfl, rfl, (by rw [listv, if_neg (by omega)])⟩
  · refine ph_iload_n (pc := 4) C d_J_listed_4 rfl ?_
    refine ph_aload_n (pc := 5) C d_J_listed_5 rfl ?_
    refine gt_J_51 (pc := 6) C d_J_listed_6 (hI.live (g := 0) (i := 0) rfl) hI.ob (hI.dat rfl rfl) ?_
    refine ph_icmp_ge (pc := 9) (tgt := 21) C d_J_listed_9 (by decide) (by omega) (by omega) (fun c9 => ?_) (fun c9 => ?_)
    · refine ph_iconst (pc := 21) C d_J_listed_21 ?_
      exact ph_iret (pc := 22) C d_J_listed_22 hr hlk (by rfl) (by decide) (by decide) ⟨rfl, rfl, rfl, (by rw [listv, if_neg (by omega)])⟩
    · refine ph_aload_n (pc := 12) C d_J_listed_12 rfl ?_
      refine gt_J_47 (pc := 13) C d_J_listed_13 (hI.live (g := 0) (i := 0) rfl) hI.ob hI.r9 ?_
      refine ph_iload_n (pc := 16) C d_J_listed_16 rfl ?_
      refine ph_iald (pc := 17) C d_J_listed_17 (hI.live (g := 9) (i := 0) rfl) rfl rfl rfl x.toNat (by omega) (by omega) (by decide) ?_
      rw [hI.dat (g := 9) (i := 0) (k := x.toNat) rfl rfl]
      refine ph_goto (pc := 18) (tgt := 22) C d_J_listed_18 (by decide) ?_
      exact ph_iret (pc := 22) C d_J_listed_22 hr hlk (by rfl) (by decide) (by decide) ⟨rfl, rfl, rfl, (by rw [listv, if_pos (by omega)])⟩
set_option maxHeartbeats 4000000 in
set_option maxRecDepth 100000 in
theorem c_J_count (l : Launch) (D : va_G) (dT : Nat → ClassId) (A : Nat → Prop) (KX : State → Prop) (L : Nat → Nat → Prop) (ad : Nat → Nat → Nat) (τ : ph_T) (S : ph_T) (o : Nat) (hI : JR S o L ad τ) (hV : IV S) (x : Int) (hx : ph_ri x) : ph_M l y_J_count (.code y_J_count b_J_count 2 (some .int) :: TB) ({ frames := 1, cells := 0, slots := 0, locals := 21 } : Room) D CLs (TY dT) dT kd A KX [.ref (o), .int (ph_i (x))] L ad τ (fun r L' ad' τ' => L' = L ∧ ad' = ad ∧ τ' = τ ∧ r = some (.int (ph_i (countv S x)))) 0 0 := by
  refine ph_M.of (cc := b_J_count) (maxL := 2) (ret := (some .int)) (by decide) rfl (Nat.le_of_ble_eq_true rfl) ?_
  intro p e s m below meth c C0 hr hlk hnm
  have C := C0.sub
  refine ph_loc (l2 := [(0, .ref (o)), (1, .int (ph_i (x)))]) ⟨rfl, rfl, trivial⟩ ?_
  have hc := hV.c
  refine ph_aload_n (pc := 0) C d_J_count_0 rfl ?_
  refine ph_iload_n (pc := 1) C d_J_count_1 rfl ?_
  refine ph_callV (pc := 2) (rest := []) C d_J_count_2 (c_J_isSensor l D dT A KX L ad τ S o hI hV x hx) (cwV 1 C.hts (gdV tw_151 tw_153 se_2 tw_1 tw_154) rfl rfl rfl ⟨rfl, by decide, by decide, by decide⟩ ⟨by decide, by decide⟩) (hI.live (g := 0) (i := 0) rfl) hI.ob rfl rfl rfl rfl rfl (Nat.le_of_ble_eq_true rfl) ⟨by decide, by decide⟩ ?_
  rintro r1 L1 ad1 τ1 ⟨g1, g2, g3, g4⟩; obtain rfl := g1.symm; obtain rfl := g2.symm; obtain rfl := g3.symm; subst g4
  refine ph_bif_eq (pc := 5) (tgt := 20) C d_J_count_5 (by decide) (fun c5 => ?_) (fun c5 => ?_)
  · refine ph_bipush (pc := 20) C d_J_count_20 (by decide) ?_
    exact ph_iret (pc := 22) C d_J_count_22 hr hlk (by rfl) (by decide) (by decide) ⟨rfl, rfl, rfl, (by rw [countv, if_neg (by assumption)])⟩
  · refine ph_aload_n (pc := 8) C d_J_count_8 rfl ?_
    refine gt_J_11 (pc := 9) C d_J_count_9 (hI.live (g := 0) (i := 0) rfl) hI.ob hI.r0 ?_
    refine ph_iload_n (pc := 12) C d_J_count_12 rfl ?_
    refine ph_aald (pc := 13) (t := 0) C d_J_count_13 (hI.live (g := 4) (i := 0) rfl) rfl rfl rfl x.toNat (by omega) (by have := (show LC S 1 x.toNat by simp only [LC]; omega); simp only [LC] at this; omega) (by decide) (ph_vr (hI.e4 (show LC S 1 x.toNat by simp only [LC]; omega))) ?_
    refine gt_J_166 (pc := 14) C d_J_count_14 (hI.live (show LC S 1 x.toNat by simp only [LC]; omega)) rfl (hI.dat (show LC S 1 x.toNat by simp only [LC]; omega) rfl) ?_
    refine ph_goto (pc := 17) (tgt := 22) C d_J_count_17 (by decide) ?_
    exact ph_iret (pc := 22) C d_J_count_22 hr hlk (by rfl) (by decide) (by decide) ⟨rfl, rfl, rfl, (by rw [countv, if_pos (by assumption)])⟩
