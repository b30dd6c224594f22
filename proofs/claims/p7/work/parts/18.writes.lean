/-! ===== writes of the class: the list, clearing ===== -/
set_option maxHeartbeats 4000000 in
set_option maxRecDepth 100000 in
theorem c_J_putOnList (l : Launch) (D : va_G) (dT : Nat → ClassId) (A : Nat → Prop) (KX : State → Prop) (L : Nat → Nat → Prop) (ad : Nat → Nat → Nat) (τ : ph_T) (S : ph_T) (o : Nat) (hI : JR S o L ad τ) (hV : IV S) (i : Nat) (hi : LC S 2 i) : ph_M l y_J_putOnList (.code y_J_putOnList b_J_putOnList 2 none :: TB) ({ frames := 0, cells := 0, slots := 0, locals := 0 } : Room) D CLs (TY dT) dT kd A KX [.ref (o), .int (ph_i ((i : Int)))] L ad τ (fun r L' ad' τ' => L' = L ∧ ad' = ad ∧ JR (putS S i) o L ad τ' ∧ r = none) 0 0 := by
  refine ph_M.of (cc := b_J_putOnList) (maxL := 2) (ret := none) (by decide) rfl (Nat.le_of_ble_eq_true rfl) ?_
  intro p e s m below meth c C0 hr hlk hnm
  have C := C0.sub
  refine ph_loc (l2 := [(0, .ref (o)), (1, .int (ph_i ((i : Int))))]) ⟨rfl, rfl, trivial⟩ ?_
  have hc := hV.c
  have hi9 := hV.i hi
  refine ph_aload_n (pc := 0) C d_J_putOnList_0 rfl ?_
  refine gt_J_21 (pc := 1) C d_J_putOnList_1 (hI.live (g := 0) (i := 0) rfl) hI.ob hI.r2 ?_
  refine ph_iload_n (pc := 4) C d_J_putOnList_4 rfl ?_
  refine ph_aald (pc := 5) (t := 1) C d_J_putOnList_5 (hI.live (g := 5) (i := 0) rfl) rfl rfl rfl i rfl (by have := hi; simp only [LC] at this; omega) (by decide) (ph_vr (hI.e5 hi)) ?_
  refine gt_J_142 (pc := 6) C d_J_putOnList_6 (hI.live hi) rfl (z := S 2 i 3) (hI.dat hi rfl) ?_
  refine ph_if_ne (pc := 9) (tgt := 51) C d_J_putOnList_9 (by decide) (by omega) (fun c9 => ?_) (fun c9 => ?_)
  · exact ph_vret (pc := 51) C d_J_putOnList_51 hr hlk (by decide) (by decide) ⟨rfl, rfl, (by unfold putS; rw [if_neg (by omega)]; exact hI), rfl⟩
  · refine ph_aload_n (pc := 12) C d_J_putOnList_12 rfl ?_
    refine gt_J_51 (pc := 13) C d_J_putOnList_13 (hI.live (g := 0) (i := 0) rfl) hI.ob (z := S 0 0 10) (hI.dat rfl rfl) ?_
    refine ph_bipush (pc := 16) C d_J_putOnList_16 (by decide) ?_
    refine ph_icmp_ge (pc := 18) (tgt := 51) C d_J_putOnList_18 (by decide) (by omega) (by omega) (fun c18 => ?_) (fun c18 => ?_)
    · exact ph_vret (pc := 51) C d_J_putOnList_51 hr hlk (by decide) (by decide) ⟨rfl, rfl, (by unfold putS; rw [if_neg (by omega)]; exact hI), rfl⟩
    · refine ph_aload_n (pc := 21) C d_J_putOnList_21 rfl ?_
      refine gt_J_21 (pc := 22) C d_J_putOnList_22 (hI.live (g := 0) (i := 0) rfl) hI.ob hI.r2 ?_
      refine ph_iload_n (pc := 25) C d_J_putOnList_25 rfl ?_
      refine ph_aald (pc := 26) (t := 1) C d_J_putOnList_26 (hI.live (g := 5) (i := 0) rfl) rfl rfl rfl i rfl (by have := hi; simp only [LC] at this; omega) (by decide) (ph_vr (hI.e5 hi)) ?_
      refine ph_iconst (pc := 27) C d_J_putOnList_27 ?_
      refine pt_J_142 (pc := 28) C d_J_putOnList_28 (by omega) (hI.live hi) rfl ?_
      have hI := hI.put (g := 2) (i := i) (k := 3) (1) rfl (by omega)
      generalize ph_up τ 2 i 3 (1) = τ at hI ⊢
      refine ph_aload_n (pc := 31) C d_J_putOnList_31 rfl ?_
      refine gt_J_47 (pc := 32) C d_J_putOnList_32 (hI.live (g := 0) (i := 0) rfl) hI.ob hI.r9 ?_
      refine ph_aload_n (pc := 35) C d_J_putOnList_35 rfl ?_
      refine gt_J_51 (pc := 36) C d_J_putOnList_36 (hI.live (g := 0) (i := 0) rfl) hI.ob (z := S 0 0 10) (hI.dat rfl rfl) ?_
      refine ph_iload_n (pc := 39) C d_J_putOnList_39 rfl ?_
      refine ph_iast (pc := 40) C d_J_putOnList_40 (hI.live (g := 9) (i := 0) rfl) rfl rfl rfl (S 0 0 10).toNat (by omega) (by omega) (by decide) ?_
      have hI := hI.put (g := 9) (i := 0) (k := (S 0 0 10).toNat) ((i : Int)) rfl (by omega)
      generalize ph_up τ 9 0 (S 0 0 10).toNat ((i : Int)) = τ at hI ⊢
      refine ph_aload_n (pc := 41) C d_J_putOnList_41 rfl ?_
      refine ph_dup (pc := 42) C d_J_putOnList_42 rfl ?_
      refine gt_J_51 (pc := 43) C d_J_putOnList_43 (hI.live (g := 0) (i := 0) rfl) hI.ob (z := S 0 0 10) (hI.dat rfl rfl) ?_
      refine ph_iconst (pc := 46) C d_J_putOnList_46 ?_
      refine ph_iadd (pc := 47) C d_J_putOnList_47 ?_
      refine pt_J_51 (pc := 48) C d_J_putOnList_48 (hI.live (g := 0) (i := 0) rfl) hI.ob ?_
      have hI := hI.put (g := 0) (i := 0) (k := 10) ((S 0 0 10) + (1)) rfl (by omega)
      generalize ph_up τ 0 0 10 ((S 0 0 10) + (1)) = τ at hI ⊢
      exact ph_vret (pc := 51) C d_J_putOnList_51 hr hlk (by decide) (by decide) ⟨rfl, rfl, (by unfold putS; rw [if_pos (by omega)]; exact hI), rfl⟩
set_option maxHeartbeats 4000000 in
set_option maxRecDepth 100000 in
theorem c_J_listOffBy (l : Launch) (D : va_G) (dT : Nat → ClassId) (A : Nat → Prop) (KX : State → Prop) (L : Nat → Nat → Prop) (ad : Nat → Nat → Nat) (τ : ph_T) (S : ph_T) (o : Nat) (hI : JR S o L ad τ) (hV : IV S) (f : Int) (hf : ph_ri f) : ph_M l y_J_listOffBy (.code y_J_listOffBy b_J_listOffBy 3 none :: TB) ({ frames := 1, cells := 0, slots := 0, locals := 21 } : Room) D CLs (TY dT) dT kd A KX [.ref (o), .int (ph_i (f))] L ad τ (fun r L' ad' τ' => L' = L ∧ ad' = ad ∧ JR (listS S f) o L ad τ' ∧ r = none) 0 0 := by
  refine ph_M.of (cc := b_J_listOffBy) (maxL := 3) (ret := none) (by decide) rfl (Nat.le_of_ble_eq_true rfl) ?_
  intro p e s m below meth c C0 hr hlk hnm
  have C := C0.sub
  refine ph_loc (l2 := [(0, .ref (o)), (1, .int (ph_i (f)))]) ⟨rfl, rfl, trivial⟩ ?_
  have hc := hV.c
  have loop : ∀ (n : Nat) (i : Nat) (S1 τ : ph_T), JR S1 o L ad τ → IV S1 → 1 ≤ i → S 0 0 3 = (i : Int) + n - 1 → S1 0 0 3 = S 0 0 3 → loF f n i S1 = listS S f → ph_W p l e ({ frames := 1, cells := 0, slots := 0, locals := 21 } : Room) s m [.ref (o), .int (ph_i (f))].toArray below meth c D CLs dT kd A 3 (MQ below (ph_Q D CLs dT kd A (fun r L' ad' τ' => L' = L ∧ ad' = ad ∧ JR (listS S f) o L ad τ' ∧ r = none)) [.ref (o), .int (ph_i (f))].toArray s 0 0 A) L ad τ 0 0 2 (ph_mk [(0, .ref (o)), (1, .int (ph_i (f))), (2, .int (ph_i ((i : Int))))]) [] := by
    intro n
    induction n with
    | zero =>
      intro i S1 τ hI hV h0 h1 h2 h3
      have hc := hV.c
      refine ph_iload_n (pc := 2) C d_J_listOffBy_2 rfl ?_
      refine ph_aload_n (pc := 3) C d_J_listOffBy_3 rfl ?_
      refine gt_J_25 (pc := 4) C d_J_listOffBy_4 (hI.live (g := 0) (i := 0) rfl) hI.ob (z := S1 0 0 3) (hI.dat rfl rfl) ?_
      refine ph_icmp_gt (pc := 7) (tgt := 46) C d_J_listOffBy_7 (by decide) (by first | omega | (have := hV.i (show LC S1 2 i by simp only [LC]; omega); omega)) (by first | omega | (have := hV.i (show LC S1 2 i by simp only [LC]; omega); omega)) (fun c7 => ?_) (fun c7 => ?_)
      · exact ph_vret (pc := 46) C d_J_listOffBy_46 hr hlk (by decide) (by decide) ⟨rfl, rfl, (by rw [← h3]; exact hI), rfl⟩
      · exfalso; omega
    | succ n ih =>
      intro i S1 τ hI hV h0 h1 h2 h3
      have hc := hV.c
      refine ph_iload_n (pc := 2) C d_J_listOffBy_2 rfl ?_
      refine ph_aload_n (pc := 3) C d_J_listOffBy_3 rfl ?_
      refine gt_J_25 (pc := 4) C d_J_listOffBy_4 (hI.live (g := 0) (i := 0) rfl) hI.ob (z := S1 0 0 3) (hI.dat rfl rfl) ?_
      refine ph_icmp_gt (pc := 7) (tgt := 46) C d_J_listOffBy_7 (by decide) (by first | omega | (have := hV.i (show LC S1 2 i by simp only [LC]; omega); omega)) (by first | omega | (have := hV.i (show LC S1 2 i by simp only [LC]; omega); omega)) (fun c7 => ?_) (fun c7 => ?_)
      · exfalso; omega
      · refine ph_aload_n (pc := 10) C d_J_listOffBy_10 rfl ?_
        refine gt_J_21 (pc := 11) C d_J_listOffBy_11 (hI.live (g := 0) (i := 0) rfl) hI.ob hI.r2 ?_
        refine ph_iload_n (pc := 14) C d_J_listOffBy_14 rfl ?_
        refine ph_aald (pc := 15) (t := 1) C d_J_listOffBy_15 (hI.live (g := 5) (i := 0) rfl) rfl rfl rfl i rfl (by have := (show LC S1 2 i by simp only [LC]; omega); simp only [LC] at this; omega) (by decide) (ph_vr (hI.e5 (show LC S1 2 i by simp only [LC]; omega))) ?_
        refine ph_callV (pc := 16) (rest := []) C d_J_listOffBy_16 (c_I_isOff l D dT A KX L ad τ i (ad 2 i) (hI.live (show LC S1 2 i by simp only [LC]; omega)) rfl (S1 2 i 5) (hI.dat (show LC S1 2 i by simp only [LC]; omega) rfl) (by have := hV.i (show LC S1 2 i by simp only [LC]; omega); omega)) (cwV 0 C.hts (gdV tw_321 tw_322 tw_323 tw_4 tw_324) rfl rfl rfl ⟨rfl, by decide, by decide, by decide⟩ ⟨by decide, by decide⟩) (hI.live (show LC S1 2 i by simp only [LC]; omega)) rfl rfl rfl rfl rfl rfl (Nat.le_of_ble_eq_true rfl) ⟨by decide, by decide⟩ ?_
        rintro r1 L1 ad1 τ1 ⟨g1, g2, g3, g4⟩; obtain rfl := g1.symm; obtain rfl := g2.symm; obtain rfl := g3.symm; subst g4
        refine ph_bif_eq (pc := 19) (tgt := 40) C d_J_listOffBy_19 (by decide) (fun c19 => ?_) (fun c19 => ?_)
        · refine ph_iinc (pc := 40) C d_J_listOffBy_40 rfl rfl ?_
          refine ph_goto (pc := 43) (tgt := 2) C d_J_listOffBy_43 (by decide) ?_
          refine ph_loc (l2 := [(0, .ref (o)), (1, .int (ph_i (f))), (2, .int (ph_i (((i + 1 : Nat) : Int))))]) ⟨rfl, rfl, rfl, trivial⟩ ?_
          exact ih (i + 1) S1 τ hI hV (by omega) (by omega) h2 (by rw [← h3, loF_f (by omega)])
        · refine ph_aload_n (pc := 22) C d_J_listOffBy_22 rfl ?_
          refine gt_J_21 (pc := 23) C d_J_listOffBy_23 (hI.live (g := 0) (i := 0) rfl) hI.ob hI.r2 ?_
          refine ph_iload_n (pc := 26) C d_J_listOffBy_26 rfl ?_
          refine ph_aald (pc := 27) (t := 1) C d_J_listOffBy_27 (hI.live (g := 5) (i := 0) rfl) rfl rfl rfl i rfl (by have := (show LC S1 2 i by simp only [LC]; omega); simp only [LC] at this; omega) (by decide) (ph_vr (hI.e5 (show LC S1 2 i by simp only [LC]; omega))) ?_
          refine gt_J_278 (pc := 28) C d_J_listOffBy_28 (hI.live (show LC S1 2 i by simp only [LC]; omega)) rfl (z := S1 2 i 2) (hI.dat (show LC S1 2 i by simp only [LC]; omega) rfl) ?_
          refine ph_iload_n (pc := 31) C d_J_listOffBy_31 rfl ?_
          refine ph_icmp_ne (pc := 32) (tgt := 40) C d_J_listOffBy_32 (by decide) (by first | omega | (have := hV.i (show LC S1 2 i by simp only [LC]; omega); omega)) (by first | omega | (have := hV.i (show LC S1 2 i by simp only [LC]; omega); omega)) (fun c32 => ?_) (fun c32 => ?_)
          · refine ph_iinc (pc := 40) C d_J_listOffBy_40 rfl rfl ?_
            refine ph_goto (pc := 43) (tgt := 2) C d_J_listOffBy_43 (by decide) ?_
            refine ph_loc (l2 := [(0, .ref (o)), (1, .int (ph_i (f))), (2, .int (ph_i (((i + 1 : Nat) : Int))))]) ⟨rfl, rfl, rfl, trivial⟩ ?_
            exact ih (i + 1) S1 τ hI hV (by omega) (by omega) h2 (by rw [← h3, loF_f (by omega)])
          · refine ph_aload_n (pc := 35) C d_J_listOffBy_35 rfl ?_
            refine ph_iload_n (pc := 36) C d_J_listOffBy_36 rfl ?_
            refine ph_callV (pc := 37) (rest := []) C d_J_listOffBy_37 (c_J_putOnList l D dT A KX L ad τ S1 o hI hV i (show LC S1 2 i by simp only [LC]; omega)) (cwV 1 C.hts (gdV tw_325 tw_327 se_22 tw_1 tw_328) rfl rfl rfl ⟨rfl, by decide, by decide, by decide⟩ ⟨by decide, by decide⟩) (hI.live (g := 0) (i := 0) rfl) hI.ob rfl rfl rfl rfl rfl (Nat.le_of_ble_eq_true rfl) ⟨by decide, by decide⟩ ?_
            rintro r1 L1 ad1 τ ⟨g1, g2, hI, g4⟩; obtain rfl := g1.symm; obtain rfl := g2.symm; subst g4
            obtain ⟨S2, e_S2⟩ : ∃ z, z = putS S1 i := ⟨_, rfl⟩
            rw [← e_S2] at hI
            have hV : IV S2 := by rw [e_S2]; exact hV.putS (show LC S1 2 i by simp only [LC]; omega)
            have hc := hV.c
            refine ph_iinc (pc := 40) C d_J_listOffBy_40 rfl rfl ?_
            refine ph_goto (pc := 43) (tgt := 2) C d_J_listOffBy_43 (by decide) ?_
            refine ph_loc (l2 := [(0, .ref (o)), (1, .int (ph_i (f))), (2, .int (ph_i (((i + 1 : Nat) : Int))))]) ⟨rfl, rfl, rfl, trivial⟩ ?_
            exact ih (i + 1) S2 τ hI hV (by omega) (by omega) (by rw [e_S2, putS_0 (by decide)]; exact h2) (by rw [e_S2, ← h3, loF_t ⟨by assumption, by assumption⟩])
  refine ph_iconst (pc := 0) C d_J_listOffBy_0 ?_
  refine ph_istore_n (pc := 1) C d_J_listOffBy_1 (by decide) rfl ?_
  refine ph_loc (l2 := [(0, .ref (o)), (1, .int (ph_i (f))), (2, .int (ph_i (((1 : Nat) : Int))))]) ⟨rfl, rfl, rfl, trivial⟩ ?_
  exact loop (S 0 0 3).toNat 1 S τ hI hV (by omega) (by omega) rfl rfl
set_option maxHeartbeats 4000000 in
set_option maxRecDepth 100000 in
theorem c_J_resetCounts (l : Launch) (D : va_G) (dT : Nat → ClassId) (A : Nat → Prop) (KX : State → Prop) (L : Nat → Nat → Prop) (ad : Nat → Nat → Nat) (τ : ph_T) (S : ph_T) (o : Nat) (hI : JR S o L ad τ) (hV : IV S)  : ph_M l y_J_resetCounts (.code y_J_resetCounts b_J_resetCounts 2 none :: TB) ({ frames := 0, cells := 0, slots := 0, locals := 0 } : Room) D CLs (TY dT) dT kd A KX [.ref (o)] L ad τ (fun r L' ad' τ' => L' = L ∧ ad' = ad ∧ JR (resetS S) o L ad τ' ∧ r = none) 0 0 := by
  refine ph_M.of (cc := b_J_resetCounts) (maxL := 2) (ret := none) (by decide) rfl (Nat.le_of_ble_eq_true rfl) ?_
  intro p e s m below meth c C0 hr hlk hnm
  have C := C0.sub
  refine ph_loc (l2 := [(0, .ref (o))]) ⟨rfl, trivial⟩ ?_
  have hc := hV.c
  have loop : ∀ (n : Nat) (i : Nat) (S1 τ : ph_T), JR S1 o L ad τ → IV S1 → S 0 0 1 = (i : Int) + n → S1 0 0 1 = S 0 0 1 → rcF n i S1 = resetS S → ph_W p l e ({ frames := 0, cells := 0, slots := 0, locals := 0 } : Room) s m [.ref (o)].toArray below meth c D CLs dT kd A 2 (MQ below (ph_Q D CLs dT kd A (fun r L' ad' τ' => L' = L ∧ ad' = ad ∧ JR (resetS S) o L ad τ' ∧ r = none)) [.ref (o)].toArray s 0 0 A) L ad τ 0 0 2 (ph_mk [(0, .ref (o)), (1, .int (ph_i ((i : Int))))]) [] := by
    intro n
    induction n with
    | zero =>
      intro i S1 τ hI hV h1 h2 h3
      have hc := hV.c
      refine ph_iload_n (pc := 2) C d_J_resetCounts_2 rfl ?_
      refine ph_aload_n (pc := 3) C d_J_resetCounts_3 rfl ?_
      refine gt_J_15 (pc := 4) C d_J_resetCounts_4 (hI.live (g := 0) (i := 0) rfl) hI.ob (z := S1 0 0 1) (hI.dat rfl rfl) ?_
      refine ph_icmp_ge (pc := 7) (tgt := 26) C d_J_resetCounts_7 (by decide) (by omega) (by omega) (fun c7 => ?_) (fun c7 => ?_)
      · exact ph_vret (pc := 26) C d_J_resetCounts_26 hr hlk (by decide) (by decide) ⟨rfl, rfl, (by rw [← h3]; exact hI), rfl⟩
      · exfalso; omega
    | succ n ih =>
      intro i S1 τ hI hV h1 h2 h3
      have hc := hV.c
      refine ph_iload_n (pc := 2) C d_J_resetCounts_2 rfl ?_
      refine ph_aload_n (pc := 3) C d_J_resetCounts_3 rfl ?_
      refine gt_J_15 (pc := 4) C d_J_resetCounts_4 (hI.live (g := 0) (i := 0) rfl) hI.ob (z := S1 0 0 1) (hI.dat rfl rfl) ?_
      refine ph_icmp_ge (pc := 7) (tgt := 26) C d_J_resetCounts_7 (by decide) (by omega) (by omega) (fun c7 => ?_) (fun c7 => ?_)
      · exfalso; omega
      · refine ph_aload_n (pc := 10) C d_J_resetCounts_10 rfl ?_
        refine gt_J_11 (pc := 11) C d_J_resetCounts_11 (hI.live (g := 0) (i := 0) rfl) hI.ob hI.r0 ?_
        refine ph_iload_n (pc := 14) C d_J_resetCounts_14 rfl ?_
        refine ph_aald (pc := 15) (t := 0) C d_J_resetCounts_15 (hI.live (g := 4) (i := 0) rfl) rfl rfl rfl i rfl (by have := (show LC S1 1 i by simp only [LC]; omega); simp only [LC] at this; omega) (by decide) (ph_vr (hI.e4 (show LC S1 1 i by simp only [LC]; omega))) ?_
        refine ph_iconst (pc := 16) C d_J_resetCounts_16 ?_
        refine pt_J_166 (pc := 17) C d_J_resetCounts_17 (hI.live (show LC S1 1 i by simp only [LC]; omega)) rfl ?_
        have hI := hI.put (g := 1) (i := i) (k := 1) (0) rfl (by omega)
        generalize ph_up τ 1 i 1 (0) = τ at hI ⊢
        refine ph_iinc (pc := 20) C d_J_resetCounts_20 rfl rfl ?_
        refine ph_goto (pc := 23) (tgt := 2) C d_J_resetCounts_23 (by decide) ?_
        refine ph_loc (l2 := [(0, .ref (o)), (1, .int (ph_i (((i + 1 : Nat) : Int))))]) ⟨rfl, rfl, trivial⟩ ?_
        exact ih (i + 1) (ph_up S1 1 i 1 (0)) τ hI (hV.upS (by omega) (by omega) (by omega) (by omega) (by omega)) (by omega) (by rw [up_ne _ (by decide)]; exact h2) (by rw [← h3, rcF_s])
  refine ph_iconst (pc := 0) C d_J_resetCounts_0 ?_
  refine ph_istore_n (pc := 1) C d_J_resetCounts_1 (by decide) rfl ?_
  refine ph_loc (l2 := [(0, .ref (o)), (1, .int (ph_i (((0 : Nat) : Int))))]) ⟨rfl, rfl, trivial⟩ ?_
  exact loop (S 0 0 1).toNat 0 S τ hI hV (by omega) rfl rfl
