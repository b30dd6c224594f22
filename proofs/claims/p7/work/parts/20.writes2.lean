/-! ===== writes of the class: emptying, clearing ===== -/
set_option maxHeartbeats 4000000 in
set_option maxRecDepth 100000 in
theorem c_J_emptyBelt (l : Launch) (D : va_G) (dT : Nat → ClassId) (A : Nat → Prop) (KX : State → Prop) (L : Nat → Nat → Prop) (ad : Nat → Nat → Nat) (τ : ph_T) (S : ph_T) (o : Nat) (hI : JR S o L ad τ) (hV : IV S) (f : Int) (hf : 0 ≤ f ∧ f ≤ 40) : ph_M l y_J_emptyBelt (.code y_J_emptyBelt b_J_emptyBelt 3 none :: TB) ({ frames := 1, cells := 0, slots := 0, locals := 21 } : Room) D CLs (TY dT) dT kd A KX [.ref (o), .int (ph_i (f))] L ad τ (fun r L' ad' τ' => L' = L ∧ ad' = ad ∧ JR (emptyS S f) o L ad τ' ∧ r = none) 0 0 := by
  refine ph_M.of (cc := b_J_emptyBelt) (maxL := 3) (ret := none) (by decide) rfl (Nat.le_of_ble_eq_true rfl) ?_
  intro p e s m below meth c C0 hr hlk hnm
  have C := C0.sub
  refine ph_loc (l2 := [(0, .ref (o)), (1, .int (ph_i (f)))]) ⟨rfl, rfl, trivial⟩ ?_
  have hc := hV.c
  have loop2 : ∀ (n : Nat) (i : Nat) (S1 τ : ph_T), JR S1 o L ad τ → IV S1 → S 0 0 1 = (i : Int) + n → S1 0 0 1 = S 0 0 1 → liF n i S1 = emptyS S f → ph_W p l e ({ frames := 1, cells := 0, slots := 0, locals := 21 } : Room) s m [.ref (o), .int (ph_i (f))].toArray below meth c D CLs dT kd A 3 (MQ below (ph_Q D CLs dT kd A (fun r L' ad' τ' => L' = L ∧ ad' = ad ∧ JR (emptyS S f) o L ad τ' ∧ r = none)) [.ref (o), .int (ph_i (f))].toArray s 0 0 A) L ad τ 0 0 40 (ph_mk [(0, .ref (o)), (1, .int (ph_i (f))), (2, .int (ph_i ((i : Int))))]) [] := by
    intro n
    induction n with
    | zero =>
      intro i S1 τ hI hV h1 h2 h3
      have hc := hV.c
      refine ph_iload_n (pc := 40) C d_J_emptyBelt_40 rfl ?_
      refine ph_aload_n (pc := 41) C d_J_emptyBelt_41 rfl ?_
      refine gt_J_15 (pc := 42) C d_J_emptyBelt_42 (hI.live (g := 0) (i := 0) rfl) hI.ob (z := S1 0 0 1) (hI.dat rfl rfl) ?_
      refine ph_icmp_ge (pc := 45) (tgt := 63) C d_J_emptyBelt_45 (by decide) (by omega) (by omega) (fun c45 => ?_) (fun c45 => ?_)
      · exact ph_vret (pc := 63) C d_J_emptyBelt_63 hr hlk (by decide) (by decide) ⟨rfl, rfl, (by rw [← h3]; exact hI), rfl⟩
      · exfalso; omega
    | succ n ih =>
      intro i S1 τ hI hV h1 h2 h3
      have hc := hV.c
      refine ph_iload_n (pc := 40) C d_J_emptyBelt_40 rfl ?_
      refine ph_aload_n (pc := 41) C d_J_emptyBelt_41 rfl ?_
      refine gt_J_15 (pc := 42) C d_J_emptyBelt_42 (hI.live (g := 0) (i := 0) rfl) hI.ob (z := S1 0 0 1) (hI.dat rfl rfl) ?_
      refine ph_icmp_ge (pc := 45) (tgt := 63) C d_J_emptyBelt_45 (by decide) (by omega) (by omega) (fun c45 => ?_) (fun c45 => ?_)
      · exfalso; omega
      · refine ph_aload_n (pc := 48) C d_J_emptyBelt_48 rfl ?_
        refine gt_J_11 (pc := 49) C d_J_emptyBelt_49 (hI.live (g := 0) (i := 0) rfl) hI.ob hI.r0 ?_
        refine ph_iload_n (pc := 52) C d_J_emptyBelt_52 rfl ?_
        refine ph_aald (pc := 53) (t := 0) C d_J_emptyBelt_53 (hI.live (g := 4) (i := 0) rfl) rfl rfl rfl i rfl (by have := (show LC S1 1 i by simp only [LC]; omega); simp only [LC] at this; omega) (by decide) (ph_vr (hI.e4 (show LC S1 1 i by simp only [LC]; omega))) ?_
        refine ph_callV (pc := 54) (rest := []) C d_J_emptyBelt_54 (c_S_lighten l D dT A KX L ad τ i (ad 1 i) (hI.live (show LC S1 1 i by simp only [LC]; omega)) rfl) (cwV 0 C.hts (gdV tw_272 tw_273 tw_274 tw_3 tw_275) rfl rfl rfl ⟨rfl, by decide, by decide, by decide⟩ ⟨by decide, by decide⟩) (hI.live (show LC S1 1 i by simp only [LC]; omega)) rfl rfl rfl rfl rfl rfl (Nat.le_of_ble_eq_true rfl) ⟨by decide, by decide⟩ ?_
        rintro r1 L1 ad1 τ2 ⟨g1, g2, g3, g4⟩; obtain rfl := g1.symm; obtain rfl := g2.symm; subst g4
        have hI := hI.light i
        rw [← g3] at hI
        clear g3
        obtain ⟨τ, rfl⟩ : ∃ z, z = τ2 := ⟨_, rfl⟩
        obtain ⟨S2, e_S2⟩ : ∃ z, z = lightS S1 i := ⟨_, rfl⟩
        rw [← e_S2] at hI
        have hV : IV S2 := by rw [e_S2]; exact hV.lightS
        have hc := hV.c
        refine ph_iinc (pc := 57) C d_J_emptyBelt_57 rfl rfl ?_
        refine ph_goto (pc := 60) (tgt := 40) C d_J_emptyBelt_60 (by decide) ?_
        refine ph_loc (l2 := [(0, .ref (o)), (1, .int (ph_i (f))), (2, .int (ph_i (((i + 1 : Nat) : Int))))]) ⟨rfl, rfl, rfl, trivial⟩ ?_
        exact ih (i + 1) S2 τ hI hV (by omega) (by rw [e_S2, lightS_g (by decide)]; exact h2) (by rw [e_S2, ← h3, liF_s])
  have loop1 : ∀ (n : Nat) (i : Nat) (S1 τ : ph_T), JR S1 o L ad τ → IV S1 → 1 ≤ i → S 0 0 3 = (i : Int) + n - 1 → S1 0 0 3 = S 0 0 3 → S1 0 0 1 = S 0 0 1 → ebF f n i S1 = ebF f (S 0 0 3).toNat 1 S → ph_W p l e ({ frames := 1, cells := 0, slots := 0, locals := 21 } : Room) s m [.ref (o), .int (ph_i (f))].toArray below meth c D CLs dT kd A 3 (MQ below (ph_Q D CLs dT kd A (fun r L' ad' τ' => L' = L ∧ ad' = ad ∧ JR (emptyS S f) o L ad τ' ∧ r = none)) [.ref (o), .int (ph_i (f))].toArray s 0 0 A) L ad τ 0 0 2 (ph_mk [(0, .ref (o)), (1, .int (ph_i (f))), (2, .int (ph_i ((i : Int))))]) [] := by
    intro n
    induction n with
    | zero =>
      intro i S1 τ hI hV h0 h1 h2 h3 h4
      have hc := hV.c
      refine ph_iload_n (pc := 2) C d_J_emptyBelt_2 rfl ?_
      refine ph_aload_n (pc := 3) C d_J_emptyBelt_3 rfl ?_
      refine gt_J_25 (pc := 4) C d_J_emptyBelt_4 (hI.live (g := 0) (i := 0) rfl) hI.ob (z := S1 0 0 3) (hI.dat rfl rfl) ?_
      refine ph_icmp_gt (pc := 7) (tgt := 38) C d_J_emptyBelt_7 (by decide) (by omega) (by omega) (fun c7 => ?_) (fun c7 => ?_)
      · refine ph_iconst (pc := 38) C d_J_emptyBelt_38 ?_
        refine ph_istore_n (pc := 39) C d_J_emptyBelt_39 (by decide) rfl ?_
        refine ph_loc (l2 := [(0, .ref (o)), (1, .int (ph_i (f))), (2, .int (ph_i (((0 : Nat) : Int))))]) ⟨rfl, rfl, rfl, trivial⟩ ?_
        exact loop2 (S 0 0 1).toNat 0 S1 τ hI hV (by omega) h3 (by rw [emptyS, ← h4]; rfl)
      · exfalso; omega
    | succ n ih =>
      intro i S1 τ hI hV h0 h1 h2 h3 h4
      have hc := hV.c
      refine ph_iload_n (pc := 2) C d_J_emptyBelt_2 rfl ?_
      refine ph_aload_n (pc := 3) C d_J_emptyBelt_3 rfl ?_
      refine gt_J_25 (pc := 4) C d_J_emptyBelt_4 (hI.live (g := 0) (i := 0) rfl) hI.ob (z := S1 0 0 3) (hI.dat rfl rfl) ?_
      refine ph_icmp_gt (pc := 7) (tgt := 38) C d_J_emptyBelt_7 (by decide) (by omega) (by omega) (fun c7 => ?_) (fun c7 => ?_)
      · exfalso; omega
      · refine ph_aload_n (pc := 10) C d_J_emptyBelt_10 rfl ?_
        refine gt_J_21 (pc := 11) C d_J_emptyBelt_11 (hI.live (g := 0) (i := 0) rfl) hI.ob hI.r2 ?_
        refine ph_iload_n (pc := 14) C d_J_emptyBelt_14 rfl ?_
        refine ph_aald (pc := 15) (t := 1) C d_J_emptyBelt_15 (hI.live (g := 5) (i := 0) rfl) rfl rfl rfl i rfl (by have := (show LC S1 2 i by simp only [LC]; omega); simp only [LC] at this; omega) (by decide) (ph_vr (hI.e5 (show LC S1 2 i by simp only [LC]; omega))) ?_
        refine ph_callV (pc := 16) (rest := []) C d_J_emptyBelt_16 (c_I_isOnBelt l D dT A KX L ad τ i (ad 2 i) (hI.live (show LC S1 2 i by simp only [LC]; omega)) rfl (S1 2 i 5) (hI.dat (show LC S1 2 i by simp only [LC]; omega) rfl) (by have := hV.i (show LC S1 2 i by simp only [LC]; omega); omega)) (cwV 0 C.hts (gdV tw_214 tw_215 tw_216 tw_4 tw_217) rfl rfl rfl ⟨rfl, by decide, by decide, by decide⟩ ⟨by decide, by decide⟩) (hI.live (show LC S1 2 i by simp only [LC]; omega)) rfl rfl rfl rfl rfl rfl (Nat.le_of_ble_eq_true rfl) ⟨by decide, by decide⟩ ?_
        rintro r1 L1 ad1 τ1 ⟨g1, g2, g3, g4⟩; obtain rfl := g1.symm; obtain rfl := g2.symm; obtain rfl := g3.symm; subst g4
        refine ph_bif_eq (pc := 19) (tgt := 32) C d_J_emptyBelt_19 (by decide) (fun c19 => ?_) (fun c19 => ?_)
        · refine ph_iinc (pc := 32) C d_J_emptyBelt_32 rfl rfl ?_
          refine ph_goto (pc := 35) (tgt := 2) C d_J_emptyBelt_35 (by decide) ?_
          refine ph_loc (l2 := [(0, .ref (o)), (1, .int (ph_i (f))), (2, .int (ph_i (((i + 1 : Nat) : Int))))]) ⟨rfl, rfl, rfl, trivial⟩ ?_
          exact ih (i + 1) S1 τ hI hV (by omega) (by omega) h2 h3 (by rw [← h4, ebF_f (by assumption)])
        · refine ph_aload_n (pc := 22) C d_J_emptyBelt_22 rfl ?_
          refine gt_J_21 (pc := 23) C d_J_emptyBelt_23 (hI.live (g := 0) (i := 0) rfl) hI.ob hI.r2 ?_
          refine ph_iload_n (pc := 26) C d_J_emptyBelt_26 rfl ?_
          refine ph_aald (pc := 27) (t := 1) C d_J_emptyBelt_27 (hI.live (g := 5) (i := 0) rfl) rfl rfl rfl i rfl (by have := (show LC S1 2 i by simp only [LC]; omega); simp only [LC] at this; omega) (by decide) (ph_vr (hI.e5 (show LC S1 2 i by simp only [LC]; omega))) ?_
          refine ph_iload_n (pc := 28) C d_J_emptyBelt_28 rfl ?_
          refine ph_callV (pc := 29) (rest := []) C d_J_emptyBelt_29 (c_I_takeOffBelt l D dT A KX L ad τ i (ad 2 i) (hI.live (show LC S1 2 i by simp only [LC]; omega)) rfl (S1 2 i 5) (hI.dat (show LC S1 2 i by simp only [LC]; omega) rfl) (by have := hV.i (show LC S1 2 i by simp only [LC]; omega); omega) f) (cwV 1 C.hts (gdV tw_239 tw_240 tw_241 tw_4 tw_242) rfl rfl rfl ⟨rfl, by decide, by decide, by decide⟩ ⟨by decide, by decide⟩) (hI.live (show LC S1 2 i by simp only [LC]; omega)) rfl rfl rfl rfl rfl rfl (Nat.le_of_ble_eq_true rfl) ⟨by decide, by decide⟩ ?_
          rintro r1 L1 ad1 τ2 ⟨g1, g2, g3, g4⟩; obtain rfl := g1.symm; obtain rfl := g2.symm; subst g4
          have hI := hI.take i f
          rw [← g3] at hI
          clear g3
          obtain ⟨τ, rfl⟩ : ∃ z, z = τ2 := ⟨_, rfl⟩
          obtain ⟨S2, e_S2⟩ : ∃ z, z = takeS S1 i f := ⟨_, rfl⟩
          rw [← e_S2] at hI
          have hV : IV S2 := by rw [e_S2]; exact hV.takeS hf
          have hc := hV.c
          refine ph_iinc (pc := 32) C d_J_emptyBelt_32 rfl rfl ?_
          refine ph_goto (pc := 35) (tgt := 2) C d_J_emptyBelt_35 (by decide) ?_
          refine ph_loc (l2 := [(0, .ref (o)), (1, .int (ph_i (f))), (2, .int (ph_i (((i + 1 : Nat) : Int))))]) ⟨rfl, rfl, rfl, trivial⟩ ?_
          exact ih (i + 1) S2 τ hI hV (by omega) (by omega) (by rw [e_S2, takeS_g (by decide)]; exact h2) (by rw [e_S2, takeS_g (by decide)]; exact h3) (by rw [e_S2, ← h4, ebF_t (by assumption)])
  refine ph_iconst (pc := 0) C d_J_emptyBelt_0 ?_
  refine ph_istore_n (pc := 1) C d_J_emptyBelt_1 (by decide) rfl ?_
  refine ph_loc (l2 := [(0, .ref (o)), (1, .int (ph_i (f))), (2, .int (ph_i (((1 : Nat) : Int))))]) ⟨rfl, rfl, rfl, trivial⟩ ?_
  exact loop1 (S 0 0 3).toNat 1 S τ hI hV (by omega) (by omega) rfl rfl rfl
