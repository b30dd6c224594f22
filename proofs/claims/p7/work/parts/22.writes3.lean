/-! ===== clear, rule, feed, step ===== -/
set_option maxHeartbeats 4000000 in
set_option maxRecDepth 100000 in
theorem c_J_clear (l : Launch) (D : va_G) (dT : Nat → ClassId) (A : Nat → Prop) (KX : State → Prop) (L : Nat → Nat → Prop) (ad : Nat → Nat → Nat) (τ : ph_T) (S : ph_T) (o : Nat) (hI : JR S o L ad τ) (hV : IV S) (f0 : Nat) (hf : LC S 3 f0) : ph_M l y_J_clear (.code y_J_clear b_J_clear 4 none :: TB) ({ frames := 2, cells := 0, slots := 0, locals := 43 } : Room) D CLs (TY dT) dT kd A KX [.ref (o), .int (ph_i ((f0 : Int)))] L ad τ (fun r L' ad' τ' => L' = L ∧ ad' = ad ∧ JR (clearS S f0) o L ad τ' ∧ r = none) 0 0 := by
  refine ph_M.of (cc := b_J_clear) (maxL := 4) (ret := none) (by decide) rfl (Nat.le_of_ble_eq_true rfl) ?_
  intro p e s m below meth c C0 hr hlk hnm
  have C := C0.sub
  refine ph_loc (l2 := [(0, .ref (o)), (1, .int (ph_i ((f0 : Int))))]) ⟨rfl, rfl, trivial⟩ ?_
  have hc := hV.c
  have hf8 := id hf
  simp only [LC] at hf8
  have hf9 := hV.f hf
  have loop : ∀ (n : Nat) (i : Nat) (S1 τ : ph_T), JR S1 o L ad τ → IV S1 → LC S1 3 f0 → 1 ≤ i → S 0 0 3 = (i : Int) + n - 1 → S1 0 0 3 = S 0 0 3 → S1 3 f0 4 = S 3 f0 4 → clF f0 n i S1 = clrB S f0 → ph_W p l e ({ frames := 2, cells := 0, slots := 0, locals := 43 } : Room) s m [.ref (o), .int (ph_i ((f0 : Int)))].toArray below meth c D CLs dT kd A 4 (MQ below (ph_Q D CLs dT kd A (fun r L' ad' τ' => L' = L ∧ ad' = ad ∧ JR (clearS S f0) o L ad τ' ∧ r = none)) [.ref (o), .int (ph_i ((f0 : Int)))].toArray s 0 0 A) L ad τ 0 0 26 (ph_mk [(0, .ref (o)), (1, .int (ph_i ((f0 : Int)))), (2, .ref (ad 3 f0)), (3, .int (ph_i ((i : Int))))]) [] := by
    intro n
    induction n with
    | zero =>
      intro i S1 τ hI hV hf h0 h1 h2 h3 h5
      have hc := hV.c
      refine ph_iload_n (pc := 26) C d_J_clear_26 rfl ?_
      refine ph_aload_n (pc := 27) C d_J_clear_27 rfl ?_
      refine gt_J_25 (pc := 28) C d_J_clear_28 (hI.live (g := 0) (i := 0) rfl) hI.ob (z := S1 0 0 3) (hI.dat rfl rfl) ?_
      refine ph_icmp_gt (pc := 31) (tgt := 65) C d_J_clear_31 (by decide) (by first | omega | (have := hV.f hf; omega)) (by first | omega | (have := hV.f hf; omega)) (fun c31 => ?_) (fun c31 => ?_)
      · refine ph_aload_n (pc := 65) C d_J_clear_65 rfl ?_
        refine gt_J_169 (pc := 66) C d_J_clear_66 (hI.live hf) rfl (z := S1 3 f0 4) (hI.dat hf rfl) ?_
        refine ph_if_eq (pc := 69) (tgt := 77) C d_J_clear_69 (by decide) (by first | omega | (have := hV.f hf; omega)) (fun c69 => ?_) (fun c69 => ?_)
        · exact ph_vret (pc := 77) C d_J_clear_77 hr hlk (by decide) (by decide) ⟨rfl, rfl, (by unfold clearS; rw [if_pos (by omega), ← h5]; exact hI), rfl⟩
        · refine ph_aload_n (pc := 72) C d_J_clear_72 rfl ?_
          refine ph_iload_n (pc := 73) C d_J_clear_73 rfl ?_
          refine ph_callV (pc := 74) (rest := []) C d_J_clear_74 (c_J_listOffBy l D dT A KX L ad τ S1 o hI hV (f0 : Int) (by omega)) (cwV 1 C.hts (gdV tw_329 tw_331 se_23 tw_1 tw_332) rfl rfl rfl ⟨rfl, by decide, by decide, by decide⟩ ⟨by decide, by decide⟩) (hI.live (g := 0) (i := 0) rfl) hI.ob rfl rfl rfl rfl rfl (Nat.le_of_ble_eq_true rfl) ⟨by decide, by decide⟩ ?_
          rintro r1 L1 ad1 τ ⟨g1, g2, hI, g4⟩; obtain rfl := g1.symm; obtain rfl := g2.symm; subst g4
          obtain ⟨S3, e_S3⟩ : ∃ z, z = listS S1 (f0 : Int) := ⟨_, rfl⟩
          rw [← e_S3] at hI
          have hV : IV S3 := by rw [e_S3]; exact hV.listS
          have hc := hV.c
          exact ph_vret (pc := 77) C d_J_clear_77 hr hlk (by decide) (by decide) ⟨rfl, rfl, (by rw [e_S3] at hI; unfold clearS; rw [if_neg (by omega), ← h5]; exact hI), rfl⟩
      · exfalso; omega
    | succ n ih =>
      intro i S1 τ hI hV hf h0 h1 h2 h3 h5
      have hc := hV.c
      refine ph_iload_n (pc := 26) C d_J_clear_26 rfl ?_
      refine ph_aload_n (pc := 27) C d_J_clear_27 rfl ?_
      refine gt_J_25 (pc := 28) C d_J_clear_28 (hI.live (g := 0) (i := 0) rfl) hI.ob (z := S1 0 0 3) (hI.dat rfl rfl) ?_
      refine ph_icmp_gt (pc := 31) (tgt := 65) C d_J_clear_31 (by decide) (by first | omega | (have := hV.f hf; omega)) (by first | omega | (have := hV.f hf; omega)) (fun c31 => ?_) (fun c31 => ?_)
      · exfalso; omega
      · refine ph_aload_n (pc := 34) C d_J_clear_34 rfl ?_
        refine ph_iload_n (pc := 35) C d_J_clear_35 rfl ?_
        refine ph_callV (pc := 36) (rest := []) C d_J_clear_36 (c_F_doubts l D dT A KX L ad τ f0 (ad 3 f0) (hI.live hf) rfl (S1 3 f0 5).toNat i (by rw [hI.dat hf rfl]; have := hV.f hf; omega) (by have := hV.f hf; omega) (by omega)) (cwV 1 C.hts (gdV tw_284 tw_285 tw_286 tw_5 tw_287) rfl rfl rfl ⟨rfl, by decide, by decide, by decide⟩ ⟨by decide, by decide⟩) (hI.live hf) rfl rfl rfl rfl rfl rfl (Nat.le_of_ble_eq_true rfl) ⟨by decide, by decide⟩ ?_
        rintro r1 L1 ad1 τ1 ⟨g1, g2, g3, g4⟩; obtain rfl := g1.symm; obtain rfl := g2.symm; obtain rfl := g3.symm; subst g4
        refine ph_bif_eq (pc := 39) (tgt := 59) C d_J_clear_39 (by decide) (fun c39 => ?_) (fun c39 => ?_)
        · refine ph_iinc (pc := 59) C d_J_clear_59 rfl rfl ?_
          refine ph_goto (pc := 62) (tgt := 26) C d_J_clear_62 (by decide) ?_
          refine ph_loc (l2 := [(0, .ref (o)), (1, .int (ph_i ((f0 : Int)))), (2, .ref (ad 3 f0)), (3, .int (ph_i (((i + 1 : Nat) : Int))))]) ⟨rfl, rfl, rfl, rfl, trivial⟩ ?_
          exact ih (i + 1) S1 τ hI hV hf (by omega) (by omega) h2 h3 (by rw [← h5, clF_f (fun q => by first | exact absurd q.1 (by assumption) | exact absurd q.2 (by assumption))])
        · refine ph_aload_n (pc := 42) C d_J_clear_42 rfl ?_
          refine gt_J_21 (pc := 43) C d_J_clear_43 (hI.live (g := 0) (i := 0) rfl) hI.ob hI.r2 ?_
          refine ph_iload_n (pc := 46) C d_J_clear_46 rfl ?_
          refine ph_aald (pc := 47) (t := 1) C d_J_clear_47 (hI.live (g := 5) (i := 0) rfl) rfl rfl rfl i rfl (by have := (show LC S1 2 i by simp only [LC]; omega); simp only [LC] at this; omega) (by decide) (ph_vr (hI.e5 (show LC S1 2 i by simp only [LC]; omega))) ?_
          refine ph_callV (pc := 48) (rest := []) C d_J_clear_48 (c_I_isOff l D dT A KX L ad τ i (ad 2 i) (hI.live (show LC S1 2 i by simp only [LC]; omega)) rfl (S1 2 i 5) (hI.dat (show LC S1 2 i by simp only [LC]; omega) rfl) (by have := hV.i (show LC S1 2 i by simp only [LC]; omega); omega)) (cwV 0 C.hts (gdV tw_321 tw_322 tw_323 tw_4 tw_324) rfl rfl rfl ⟨rfl, by decide, by decide, by decide⟩ ⟨by decide, by decide⟩) (hI.live (show LC S1 2 i by simp only [LC]; omega)) rfl rfl rfl rfl rfl rfl (Nat.le_of_ble_eq_true rfl) ⟨by decide, by decide⟩ ?_
          rintro r1 L1 ad1 τ1 ⟨g1, g2, g3, g4⟩; obtain rfl := g1.symm; obtain rfl := g2.symm; obtain rfl := g3.symm; subst g4
          refine ph_bif_eq (pc := 51) (tgt := 59) C d_J_clear_51 (by decide) (fun c51 => ?_) (fun c51 => ?_)
          · refine ph_iinc (pc := 59) C d_J_clear_59 rfl rfl ?_
            refine ph_goto (pc := 62) (tgt := 26) C d_J_clear_62 (by decide) ?_
            refine ph_loc (l2 := [(0, .ref (o)), (1, .int (ph_i ((f0 : Int)))), (2, .ref (ad 3 f0)), (3, .int (ph_i (((i + 1 : Nat) : Int))))]) ⟨rfl, rfl, rfl, rfl, trivial⟩ ?_
            exact ih (i + 1) S1 τ hI hV hf (by omega) (by omega) h2 h3 (by rw [← h5, clF_f (fun q => by first | exact absurd q.1 (by assumption) | exact absurd q.2 (by assumption))])
          · refine ph_aload_n (pc := 54) C d_J_clear_54 rfl ?_
            refine ph_iload_n (pc := 55) C d_J_clear_55 rfl ?_
            refine ph_callV (pc := 56) (rest := []) C d_J_clear_56 (c_J_putOnList l D dT A KX L ad τ S1 o hI hV i (show LC S1 2 i by simp only [LC]; omega)) (cwV 1 C.hts (gdV tw_325 tw_327 se_22 tw_1 tw_328) rfl rfl rfl ⟨rfl, by decide, by decide, by decide⟩ ⟨by decide, by decide⟩) (hI.live (g := 0) (i := 0) rfl) hI.ob rfl rfl rfl rfl rfl (Nat.le_of_ble_eq_true rfl) ⟨by decide, by decide⟩ ?_
            rintro r1 L1 ad1 τ ⟨g1, g2, hI, g4⟩; obtain rfl := g1.symm; obtain rfl := g2.symm; subst g4
            obtain ⟨S2, e_S2⟩ : ∃ z, z = putS S1 i := ⟨_, rfl⟩
            rw [← e_S2] at hI
            have hV : IV S2 := by rw [e_S2]; exact hV.putS (show LC S1 2 i by simp only [LC]; omega)
            have hc := hV.c
            have hf : LC S2 3 f0 := by rw [e_S2]; exact (putS_L 3 f0).mpr hf
            refine ph_iinc (pc := 59) C d_J_clear_59 rfl rfl ?_
            refine ph_goto (pc := 62) (tgt := 26) C d_J_clear_62 (by decide) ?_
            refine ph_loc (l2 := [(0, .ref (o)), (1, .int (ph_i ((f0 : Int)))), (2, .ref (ad 3 f0)), (3, .int (ph_i (((i + 1 : Nat) : Int))))]) ⟨rfl, rfl, rfl, rfl, trivial⟩ ?_
            exact ih (i + 1) S2 τ hI hV hf (by omega) (by omega) (by rw [e_S2, putS_0 (by decide)]; exact h2) (by rw [e_S2, putS_g (by decide) (by decide)]; exact h3) (by rw [e_S2, ← h5, clF_t ⟨by assumption, by assumption⟩])
  refine ph_aload_n (pc := 0) C d_J_clear_0 rfl ?_
  refine gt_J_30 (pc := 1) C d_J_clear_1 (hI.live (g := 0) (i := 0) rfl) hI.ob hI.r4 ?_
  refine ph_iload_n (pc := 4) C d_J_clear_4 rfl ?_
  refine ph_aald (pc := 5) (t := 2) C d_J_clear_5 (hI.live (g := 6) (i := 0) rfl) rfl rfl rfl f0 rfl (by have := hf; simp only [LC] at this; omega) (by decide) (ph_vr (hI.e6 hf)) ?_
  refine ph_astore_n (pc := 6) C d_J_clear_6 (by decide) rfl ?_
  refine ph_aload_n (pc := 7) C d_J_clear_7 rfl ?_
  refine ph_iload_n (pc := 8) C d_J_clear_8 rfl ?_
  refine pt_J_37 (pc := 9) C d_J_clear_9 (hI.live (g := 0) (i := 0) rfl) hI.ob ?_
  have hI := hI.put (g := 0) (i := 0) (k := 6) ((f0 : Int)) rfl (by omega)
  generalize ph_up τ 0 0 6 ((f0 : Int)) = τ at hI ⊢
  refine ph_aload_n (pc := 12) C d_J_clear_12 rfl ?_
  refine gt_J_169 (pc := 13) C d_J_clear_13 (hI.live hf) rfl (z := S 3 f0 4) (hI.dat hf rfl) ?_
  refine ph_if_eq (pc := 16) (tgt := 24) C d_J_clear_16 (by decide) (by first | omega | (have := hV.f hf; omega)) (fun c16 => ?_) (fun c16 => ?_)
  · refine ph_iconst (pc := 24) C d_J_clear_24 ?_
    refine ph_istore_n (pc := 25) C d_J_clear_25 (by decide) rfl ?_
    refine ph_loc (l2 := [(0, .ref (o)), (1, .int (ph_i ((f0 : Int)))), (2, .ref (ad 3 f0)), (3, .int (ph_i (((1 : Nat) : Int))))]) ⟨rfl, rfl, rfl, rfl, trivial⟩ ?_
    exact loop (S 0 0 3).toNat 1 (ph_up S 0 0 6 ((f0 : Int))) τ hI (hV.up0 (k := 6) (z := (f0 : Int)) (by omega) (by omega) (by omega) (by omega)) hf (by omega) (by omega) rfl rfl (by rw [clrB, clrA, if_pos (by assumption)])
  · refine ph_aload_n (pc := 19) C d_J_clear_19 rfl ?_
    refine ph_iload_n (pc := 20) C d_J_clear_20 rfl ?_
    refine ph_callV (pc := 21) (rest := []) C d_J_clear_21 (c_J_emptyBelt l D dT A KX L ad τ (ph_up S 0 0 6 ((f0 : Int))) o hI (hV.up0 (k := 6) (z := (f0 : Int)) (by omega) (by omega) (by omega) (by omega)) (f0 : Int) (by omega)) (cwV 1 C.hts (gdV tw_317 tw_319 se_21 tw_1 tw_320) rfl rfl rfl ⟨rfl, by decide, by decide, by decide⟩ ⟨by decide, by decide⟩) (hI.live (g := 0) (i := 0) rfl) hI.ob rfl rfl rfl rfl rfl (Nat.le_of_ble_eq_true rfl) ⟨by decide, by decide⟩ ?_
    rintro r1 L1 ad1 τ ⟨g1, g2, hI, g4⟩; obtain rfl := g1.symm; obtain rfl := g2.symm; subst g4
    obtain ⟨S2, e_S2⟩ : ∃ z, z = emptyS (ph_up S 0 0 6 ((f0 : Int))) (f0 : Int) := ⟨_, rfl⟩
    rw [← e_S2] at hI
    have hV : IV S2 := by rw [e_S2]; exact (hV.up0 (k := 6) (z := (f0 : Int)) (by omega) (by omega) (by omega) (by omega)).emptyS (by omega)
    have hc := hV.c
    have hf : LC S2 3 f0 := (LC_eq (S := S) (by rw [e_S2, emptyS_g (by decide)]; rfl) (by rw [e_S2, emptyS_g (by decide)]; rfl) (by rw [e_S2, emptyS_g (by decide)]; rfl) 3 f0).mpr hf
    refine ph_iconst (pc := 24) C d_J_clear_24 ?_
    refine ph_istore_n (pc := 25) C d_J_clear_25 (by decide) rfl ?_
    refine ph_loc (l2 := [(0, .ref (o)), (1, .int (ph_i ((f0 : Int)))), (2, .ref (ad 3 f0)), (3, .int (ph_i (((1 : Nat) : Int))))]) ⟨rfl, rfl, rfl, rfl, trivial⟩ ?_
    exact loop (S 0 0 3).toNat 1 S2 τ hI hV hf (by omega) (by omega) (by rw [e_S2, emptyS_g (by decide)]; rfl) (by rw [e_S2, emptyS_g (by decide)]; rfl) (by rw [e_S2, clrB, clrA, if_neg (by assumption)])
set_option maxHeartbeats 4000000 in
set_option maxRecDepth 100000 in
theorem c_J_rule (l : Launch) (D : va_G) (dT : Nat → ClassId) (A : Nat → Prop) (KX : State → Prop) (L : Nat → Nat → Prop) (ad : Nat → Nat → Nat) (τ : ph_T) (S : ph_T) (o : Nat) (hI : JR S o L ad τ) (hV : IV S) (x y t : Int) (hx : ph_ri x) (hy : ph_ri y) (ht : t = 0 ∨ t = 1) : ph_M l y_J_rule (.code y_J_rule b_J_rule 5 (some .int) :: TB) ({ frames := 1, cells := 0, slots := 0, locals := 20 } : Room) D CLs (TY dT) dT kd A KX [.ref (o), .int (ph_i (x)), .int (ph_i (y)), .int (ph_i (t))] L ad τ (fun r L' ad' τ' => L' = L ∧ ad' = ad ∧ JR (ruleS S x y t) o L ad τ' ∧ r = some (.int (ph_i (rulev S x y)))) 0 0 := by
  refine ph_M.of (cc := b_J_rule) (maxL := 5) (ret := (some .int)) (by decide) rfl (Nat.le_of_ble_eq_true rfl) ?_
  intro p e s m below meth c C0 hr hlk hnm
  have C := C0.sub
  refine ph_loc (l2 := [(0, .ref (o)), (1, .int (ph_i (x))), (2, .int (ph_i (y))), (3, .int (ph_i (t)))]) ⟨rfl, rfl, rfl, rfl, trivial⟩ ?_
  have hc := hV.c
  refine ph_iload_n (pc := 0) C d_J_rule_0 rfl ?_
  refine ph_callS (pc := 1) (rest := []) C d_J_rule_1 (c_J_isKind l D dT A KX L ad τ x hx) (cwS 1 C.hts (gdS tw_349 tw_350 tw_1 tw_351) rfl rfl rfl ⟨rfl, by decide, by decide, by decide⟩ ⟨by decide, by decide⟩) rfl rfl (Nat.le_of_ble_eq_true rfl) ⟨by decide, by decide⟩ ?_
  rintro r1 L1 ad1 τ1 ⟨g1, g2, g3, g4⟩; obtain rfl := g1.symm; obtain rfl := g2.symm; obtain rfl := g3.symm; subst g4
  refine ph_bif_eq (pc := 4) (tgt := 16) C d_J_rule_4 (by decide) (fun c4 => ?_) (fun c4 => ?_)
  · refine ph_bipush (pc := 16) C d_J_rule_16 (by decide) ?_
    exact ph_iret (pc := 18) C d_J_rule_18 hr hlk rfl (by decide) (by decide) ⟨rfl, rfl, (by unfold ruleS; rw [if_neg (fun q => by first | exact absurd q.1 (by assumption) | (have := q.2; omega))]; exact hI), (by unfold rulev; rw [if_neg (fun q => by first | exact absurd q.1 (by assumption) | (have := q.2; omega))])⟩
  · refine ph_iload_n (pc := 7) C d_J_rule_7 rfl ?_
    refine ph_if_lt (pc := 8) (tgt := 16) C d_J_rule_8 (by decide) (by first | omega | (have := hV.r (k := x.toNat) (by omega); omega)) (fun c8 => ?_) (fun c8 => ?_)
    · refine ph_bipush (pc := 16) C d_J_rule_16 (by decide) ?_
      exact ph_iret (pc := 18) C d_J_rule_18 hr hlk rfl (by decide) (by decide) ⟨rfl, rfl, (by unfold ruleS; rw [if_neg (fun q => by first | exact absurd q.1 (by assumption) | (have := q.2; omega))]; exact hI), (by unfold rulev; rw [if_neg (fun q => by first | exact absurd q.1 (by assumption) | (have := q.2; omega))])⟩
    · refine ph_iload_n (pc := 11) C d_J_rule_11 rfl ?_
      refine ph_iconst (pc := 12) C d_J_rule_12 ?_
      refine ph_icmp_le (pc := 13) (tgt := 19) C d_J_rule_13 (by decide) (by first | omega | (have := hV.r (k := x.toNat) (by omega); omega)) (by first | omega | (have := hV.r (k := x.toNat) (by omega); omega)) (fun c13 => ?_) (fun c13 => ?_)
      · refine ph_aload_n (pc := 19) C d_J_rule_19 rfl ?_
        refine gt_J_40 (pc := 20) C d_J_rule_20 (hI.live (g := 0) (i := 0) rfl) hI.ob hI.r7 ?_
        refine ph_iload_n (pc := 23) C d_J_rule_23 rfl ?_
        refine ph_zald (pc := 24) C d_J_rule_24 (hI.live (g := 7) (i := 0) rfl) rfl rfl rfl x.toNat (by omega) (by omega) (by decide) ?_
        rw [hI.dat (g := 7) (i := 0) (k := x.toNat) rfl rfl]
        refine ph_if_eq (pc := 25) (tgt := 32) C d_J_rule_25 (by decide) (by first | omega | (have := hV.r (k := x.toNat) (by omega); omega)) (fun c25 => ?_) (fun c25 => ?_)
        · refine ph_iconst (pc := 32) C d_J_rule_32 ?_
          refine ph_istore (pc := 33) C d_J_rule_33 (by decide) rfl ?_
          refine ph_aload_n (pc := 35) C d_J_rule_35 rfl ?_
          refine gt_J_40 (pc := 36) C d_J_rule_36 (hI.live (g := 0) (i := 0) rfl) hI.ob hI.r7 ?_
          refine ph_iload_n (pc := 39) C d_J_rule_39 rfl ?_
          refine ph_iload_n (pc := 40) C d_J_rule_40 rfl ?_
          refine ph_iconst (pc := 41) C d_J_rule_41 ?_
          refine ph_icmp_ne (pc := 42) (tgt := 49) C d_J_rule_42 (by decide) (by first | omega | (have := hV.r (k := x.toNat) (by omega); omega)) (by first | omega | (have := hV.r (k := x.toNat) (by omega); omega)) (fun c42 => ?_) (fun c42 => ?_)
          · refine ph_iconst (pc := 49) C d_J_rule_49 ?_
            refine ph_zast (pc := 50) C d_J_rule_50 (by omega) (hI.live (g := 7) (i := 0) rfl) rfl rfl rfl x.toNat (by omega) (by omega) (by decide) ?_
            have hI := hI.put (g := 7) (i := 0) (k := x.toNat) (0) rfl (by omega)
            generalize ph_up τ 7 0 x.toNat (0) = τ at hI ⊢
            refine ph_aload_n (pc := 51) C d_J_rule_51 rfl ?_
            refine gt_J_44 (pc := 52) C d_J_rule_52 (hI.live (g := 0) (i := 0) rfl) hI.ob hI.r8 ?_
            refine ph_iload_n (pc := 55) C d_J_rule_55 rfl ?_
            refine ph_iload_n (pc := 56) C d_J_rule_56 rfl ?_
            refine ph_zast (pc := 57) C d_J_rule_57 (by omega) (hI.live (g := 8) (i := 0) rfl) rfl rfl rfl x.toNat (by omega) (by omega) (by decide) ?_
            have hI := hI.put (g := 8) (i := 0) (k := x.toNat) (t) rfl (by omega)
            generalize ph_up τ 8 0 x.toNat (t) = τ at hI ⊢
            refine ph_iload (pc := 58) C d_J_rule_58 rfl ?_
            exact ph_iret (pc := 60) C d_J_rule_60 hr hlk rfl (by decide) (by decide) ⟨rfl, rfl, (by unfold ruleS; rw [if_pos ⟨by assumption, by omega, by omega⟩]; first | (rw [if_pos (by assumption)]; exact hI) | (rw [if_neg (by assumption)]; exact hI)), (by unfold rulev; rw [if_pos ⟨by assumption, by omega, by omega⟩]; first | rw [if_pos (by assumption)] | rw [if_neg (by assumption)])⟩
          · refine ph_iconst (pc := 45) C d_J_rule_45 ?_
            refine ph_goto (pc := 46) (tgt := 50) C d_J_rule_46 (by decide) ?_
            refine ph_zast (pc := 50) C d_J_rule_50 (by omega) (hI.live (g := 7) (i := 0) rfl) rfl rfl rfl x.toNat (by omega) (by omega) (by decide) ?_
            have hI := hI.put (g := 7) (i := 0) (k := x.toNat) (1) rfl (by omega)
            generalize ph_up τ 7 0 x.toNat (1) = τ at hI ⊢
            refine ph_aload_n (pc := 51) C d_J_rule_51 rfl ?_
            refine gt_J_44 (pc := 52) C d_J_rule_52 (hI.live (g := 0) (i := 0) rfl) hI.ob hI.r8 ?_
            refine ph_iload_n (pc := 55) C d_J_rule_55 rfl ?_
            refine ph_iload_n (pc := 56) C d_J_rule_56 rfl ?_
            refine ph_zast (pc := 57) C d_J_rule_57 (by omega) (hI.live (g := 8) (i := 0) rfl) rfl rfl rfl x.toNat (by omega) (by omega) (by decide) ?_
            have hI := hI.put (g := 8) (i := 0) (k := x.toNat) (t) rfl (by omega)
            generalize ph_up τ 8 0 x.toNat (t) = τ at hI ⊢
            refine ph_iload (pc := 58) C d_J_rule_58 rfl ?_
            exact ph_iret (pc := 60) C d_J_rule_60 hr hlk rfl (by decide) (by decide) ⟨rfl, rfl, (by unfold ruleS; rw [if_pos ⟨by assumption, by omega, by omega⟩]; first | (rw [if_pos (by assumption)]; exact hI) | (rw [if_neg (by assumption)]; exact hI)), (by unfold rulev; rw [if_pos ⟨by assumption, by omega, by omega⟩]; first | rw [if_pos (by assumption)] | rw [if_neg (by assumption)])⟩
        · refine ph_iconst (pc := 28) C d_J_rule_28 ?_
          refine ph_goto (pc := 29) (tgt := 33) C d_J_rule_29 (by decide) ?_
          refine ph_istore (pc := 33) C d_J_rule_33 (by decide) rfl ?_
          refine ph_aload_n (pc := 35) C d_J_rule_35 rfl ?_
          refine gt_J_40 (pc := 36) C d_J_rule_36 (hI.live (g := 0) (i := 0) rfl) hI.ob hI.r7 ?_
          refine ph_iload_n (pc := 39) C d_J_rule_39 rfl ?_
          refine ph_iload_n (pc := 40) C d_J_rule_40 rfl ?_
          refine ph_iconst (pc := 41) C d_J_rule_41 ?_
          refine ph_icmp_ne (pc := 42) (tgt := 49) C d_J_rule_42 (by decide) (by first | omega | (have := hV.r (k := x.toNat) (by omega); omega)) (by first | omega | (have := hV.r (k := x.toNat) (by omega); omega)) (fun c42 => ?_) (fun c42 => ?_)
          · refine ph_iconst (pc := 49) C d_J_rule_49 ?_
            refine ph_zast (pc := 50) C d_J_rule_50 (by omega) (hI.live (g := 7) (i := 0) rfl) rfl rfl rfl x.toNat (by omega) (by omega) (by decide) ?_
            have hI := hI.put (g := 7) (i := 0) (k := x.toNat) (0) rfl (by omega)
            generalize ph_up τ 7 0 x.toNat (0) = τ at hI ⊢
            refine ph_aload_n (pc := 51) C d_J_rule_51 rfl ?_
            refine gt_J_44 (pc := 52) C d_J_rule_52 (hI.live (g := 0) (i := 0) rfl) hI.ob hI.r8 ?_
            refine ph_iload_n (pc := 55) C d_J_rule_55 rfl ?_
            refine ph_iload_n (pc := 56) C d_J_rule_56 rfl ?_
            refine ph_zast (pc := 57) C d_J_rule_57 (by omega) (hI.live (g := 8) (i := 0) rfl) rfl rfl rfl x.toNat (by omega) (by omega) (by decide) ?_
            have hI := hI.put (g := 8) (i := 0) (k := x.toNat) (t) rfl (by omega)
            generalize ph_up τ 8 0 x.toNat (t) = τ at hI ⊢
            refine ph_iload (pc := 58) C d_J_rule_58 rfl ?_
            exact ph_iret (pc := 60) C d_J_rule_60 hr hlk rfl (by decide) (by decide) ⟨rfl, rfl, (by unfold ruleS; rw [if_pos ⟨by assumption, by omega, by omega⟩]; first | (rw [if_pos (by assumption)]; exact hI) | (rw [if_neg (by assumption)]; exact hI)), (by unfold rulev; rw [if_pos ⟨by assumption, by omega, by omega⟩]; first | rw [if_pos (by assumption)] | rw [if_neg (by assumption)])⟩
          · refine ph_iconst (pc := 45) C d_J_rule_45 ?_
            refine ph_goto (pc := 46) (tgt := 50) C d_J_rule_46 (by decide) ?_
            refine ph_zast (pc := 50) C d_J_rule_50 (by omega) (hI.live (g := 7) (i := 0) rfl) rfl rfl rfl x.toNat (by omega) (by omega) (by decide) ?_
            have hI := hI.put (g := 7) (i := 0) (k := x.toNat) (1) rfl (by omega)
            generalize ph_up τ 7 0 x.toNat (1) = τ at hI ⊢
            refine ph_aload_n (pc := 51) C d_J_rule_51 rfl ?_
            refine gt_J_44 (pc := 52) C d_J_rule_52 (hI.live (g := 0) (i := 0) rfl) hI.ob hI.r8 ?_
            refine ph_iload_n (pc := 55) C d_J_rule_55 rfl ?_
            refine ph_iload_n (pc := 56) C d_J_rule_56 rfl ?_
            refine ph_zast (pc := 57) C d_J_rule_57 (by omega) (hI.live (g := 8) (i := 0) rfl) rfl rfl rfl x.toNat (by omega) (by omega) (by decide) ?_
            have hI := hI.put (g := 8) (i := 0) (k := x.toNat) (t) rfl (by omega)
            generalize ph_up τ 8 0 x.toNat (t) = τ at hI ⊢
            refine ph_iload (pc := 58) C d_J_rule_58 rfl ?_
            exact ph_iret (pc := 60) C d_J_rule_60 hr hlk rfl (by decide) (by decide) ⟨rfl, rfl, (by unfold ruleS; rw [if_pos ⟨by assumption, by omega, by omega⟩]; first | (rw [if_pos (by assumption)]; exact hI) | (rw [if_neg (by assumption)]; exact hI)), (by unfold rulev; rw [if_pos ⟨by assumption, by omega, by omega⟩]; first | rw [if_pos (by assumption)] | rw [if_neg (by assumption)])⟩
      · refine ph_bipush (pc := 16) C d_J_rule_16 (by decide) ?_
        exact ph_iret (pc := 18) C d_J_rule_18 hr hlk rfl (by decide) (by decide) ⟨rfl, rfl, (by unfold ruleS; rw [if_neg (fun q => by first | exact absurd q.1 (by assumption) | (have := q.2; omega))]; exact hI), (by unfold rulev; rw [if_neg (fun q => by first | exact absurd q.1 (by assumption) | (have := q.2; omega))])⟩
set_option maxHeartbeats 4000000 in
set_option maxRecDepth 100000 in
theorem c_J_takeOffList (l : Launch) (D : va_G) (dT : Nat → ClassId) (A : Nat → Prop) (KX : State → Prop) (L : Nat → Nat → Prop) (ad : Nat → Nat → Nat) (τ : ph_T) (S : ph_T) (o : Nat) (hI : JR S o L ad τ) (hV : IV S) (x : Int) (hx : ph_ri x) : ph_M l y_J_takeOffList (.code y_J_takeOffList b_J_takeOffList 4 none :: TB) ({ frames := 0, cells := 0, slots := 0, locals := 0 } : Room) D CLs (TY dT) dT kd A KX [.ref (o), .int (ph_i (x))] L ad τ (fun r L' ad' τ' => L' = L ∧ ad' = ad ∧ JR (dropS S x) o L ad τ' ∧ r = none) 0 0 := by
  refine ph_M.of (cc := b_J_takeOffList) (maxL := 4) (ret := none) (by decide) rfl (Nat.le_of_ble_eq_true rfl) ?_
  intro p e s m below meth c C0 hr hlk hnm
  have C := C0.sub
  refine ph_loc (l2 := [(0, .ref (o)), (1, .int (ph_i (x)))]) ⟨rfl, rfl, trivial⟩ ?_
  have hc := hV.c
  have loop : ∀ (n : Nat) (i kp : Nat) (S1 τ : ph_T), JR S1 o L ad τ → IV S1 → kp ≤ i → S 0 0 10 = (i : Int) + n → S1 0 0 10 = S 0 0 10 → tlF x n i kp S1 = dropS S x → ph_W p l e ({ frames := 0, cells := 0, slots := 0, locals := 0 } : Room) s m [.ref (o), .int (ph_i (x))].toArray below meth c D CLs dT kd A 4 (MQ below (ph_Q D CLs dT kd A (fun r L' ad' τ' => L' = L ∧ ad' = ad ∧ JR (dropS S x) o L ad τ' ∧ r = none)) [.ref (o), .int (ph_i (x))].toArray s 0 0 A) L ad τ 0 0 4 (ph_mk [(0, .ref (o)), (1, .int (ph_i (x))), (2, .int (ph_i ((kp : Int)))), (3, .int (ph_i ((i : Int))))]) [] := by
    intro n
    induction n with
    | zero =>
      intro i kp S1 τ hI hV h0 h1 h2 h3
      have hc := hV.c
      refine ph_iload_n (pc := 4) C d_J_takeOffList_4 rfl ?_
      refine ph_aload_n (pc := 5) C d_J_takeOffList_5 rfl ?_
      refine gt_J_51 (pc := 6) C d_J_takeOffList_6 (hI.live (g := 0) (i := 0) rfl) hI.ob (z := S1 0 0 10) (hI.dat rfl rfl) ?_
      refine ph_icmp_ge (pc := 9) (tgt := 43) C d_J_takeOffList_9 (by decide) (by first | omega | (have := hV.l (k := i) (by omega); omega)) (by first | omega | (have := hV.l (k := i) (by omega); omega)) (fun c9 => ?_) (fun c9 => ?_)
      · refine ph_aload_n (pc := 43) C d_J_takeOffList_43 rfl ?_
        refine ph_iload_n (pc := 44) C d_J_takeOffList_44 rfl ?_
        refine pt_J_51 (pc := 45) C d_J_takeOffList_45 (hI.live (g := 0) (i := 0) rfl) hI.ob ?_
        have hI := hI.put (g := 0) (i := 0) (k := 10) ((kp : Int)) rfl (by omega)
        generalize ph_up τ 0 0 10 ((kp : Int)) = τ at hI ⊢
        exact ph_vret (pc := 48) C d_J_takeOffList_48 hr hlk (by decide) (by decide) ⟨rfl, rfl, (by rw [← h3]; exact hI), rfl⟩
      · exfalso; omega
    | succ n ih =>
      intro i kp S1 τ hI hV h0 h1 h2 h3
      have hc := hV.c
      refine ph_iload_n (pc := 4) C d_J_takeOffList_4 rfl ?_
      refine ph_aload_n (pc := 5) C d_J_takeOffList_5 rfl ?_
      refine gt_J_51 (pc := 6) C d_J_takeOffList_6 (hI.live (g := 0) (i := 0) rfl) hI.ob (z := S1 0 0 10) (hI.dat rfl rfl) ?_
      refine ph_icmp_ge (pc := 9) (tgt := 43) C d_J_takeOffList_9 (by decide) (by first | omega | (have := hV.l (k := i) (by omega); omega)) (by first | omega | (have := hV.l (k := i) (by omega); omega)) (fun c9 => ?_) (fun c9 => ?_)
      · exfalso; omega
      · refine ph_aload_n (pc := 12) C d_J_takeOffList_12 rfl ?_
        refine gt_J_47 (pc := 13) C d_J_takeOffList_13 (hI.live (g := 0) (i := 0) rfl) hI.ob hI.r9 ?_
        refine ph_iload_n (pc := 16) C d_J_takeOffList_16 rfl ?_
        refine ph_iald (pc := 17) C d_J_takeOffList_17 (hI.live (g := 9) (i := 0) rfl) rfl rfl rfl i rfl (by omega) (by decide) ?_
        rw [hI.dat (g := 9) (i := 0) (k := i) rfl rfl]
        refine ph_iload_n (pc := 18) C d_J_takeOffList_18 rfl ?_
        refine ph_icmp_eq (pc := 19) (tgt := 37) C d_J_takeOffList_19 (by decide) (by first | omega | (have := hV.l (k := i) (by omega); omega)) (by first | omega | (have := hV.l (k := i) (by omega); omega)) (fun c19 => ?_) (fun c19 => ?_)
        · refine ph_iinc (pc := 37) C d_J_takeOffList_37 rfl rfl ?_
          refine ph_goto (pc := 40) (tgt := 4) C d_J_takeOffList_40 (by decide) ?_
          refine ph_loc (l2 := [(0, .ref (o)), (1, .int (ph_i (x))), (2, .int (ph_i ((kp : Int)))), (3, .int (ph_i (((i + 1 : Nat) : Int))))]) ⟨rfl, rfl, rfl, rfl, trivial⟩ ?_
          exact ih (i + 1) kp S1 τ hI hV (by omega) (by omega) h2 (by rw [← h3, tlF_t (by assumption)])
        · refine ph_aload_n (pc := 22) C d_J_takeOffList_22 rfl ?_
          refine gt_J_47 (pc := 23) C d_J_takeOffList_23 (hI.live (g := 0) (i := 0) rfl) hI.ob hI.r9 ?_
          refine ph_iload_n (pc := 26) C d_J_takeOffList_26 rfl ?_
          refine ph_aload_n (pc := 27) C d_J_takeOffList_27 rfl ?_
          refine gt_J_47 (pc := 28) C d_J_takeOffList_28 (hI.live (g := 0) (i := 0) rfl) hI.ob hI.r9 ?_
          refine ph_iload_n (pc := 31) C d_J_takeOffList_31 rfl ?_
          refine ph_iald (pc := 32) C d_J_takeOffList_32 (hI.live (g := 9) (i := 0) rfl) rfl rfl rfl i rfl (by omega) (by decide) ?_
          rw [hI.dat (g := 9) (i := 0) (k := i) rfl rfl]
          refine ph_iast (pc := 33) C d_J_takeOffList_33 (hI.live (g := 9) (i := 0) rfl) rfl rfl rfl kp rfl (by omega) (by decide) ?_
          have hI := hI.put (g := 9) (i := 0) (k := kp) (S1 9 0 i) rfl (by omega)
          generalize ph_up τ 9 0 kp (S1 9 0 i) = τ at hI ⊢
          refine ph_iinc (pc := 34) C d_J_takeOffList_34 rfl rfl ?_
          refine ph_iinc (pc := 37) C d_J_takeOffList_37 rfl rfl ?_
          refine ph_goto (pc := 40) (tgt := 4) C d_J_takeOffList_40 (by decide) ?_
          refine ph_loc (l2 := [(0, .ref (o)), (1, .int (ph_i (x))), (2, .int (ph_i (((kp + 1 : Nat) : Int)))), (3, .int (ph_i (((i + 1 : Nat) : Int))))]) ⟨rfl, rfl, rfl, rfl, trivial⟩ ?_
          exact ih (i + 1) (kp + 1) (ph_up S1 9 0 kp (S1 9 0 i)) τ hI (hV.upL (hV.l (by omega))) (by omega) (by omega) (by rw [up_ne _ (by decide)]; exact h2) (by rw [← h3, tlF_f (by assumption)])
  refine ph_iconst (pc := 0) C d_J_takeOffList_0 ?_
  refine ph_istore_n (pc := 1) C d_J_takeOffList_1 (by decide) rfl ?_
  refine ph_iconst (pc := 2) C d_J_takeOffList_2 ?_
  refine ph_istore_n (pc := 3) C d_J_takeOffList_3 (by decide) rfl ?_
  refine ph_loc (l2 := [(0, .ref (o)), (1, .int (ph_i (x))), (2, .int (ph_i (((0 : Nat) : Int)))), (3, .int (ph_i (((0 : Nat) : Int))))]) ⟨rfl, rfl, rfl, rfl, trivial⟩ ?_
  exact loop (S 0 0 10).toNat 0 0 S τ hI hV (by omega) (by omega) rfl rfl
set_option maxHeartbeats 4000000 in
set_option maxRecDepth 100000 in
theorem c_J_feed (l : Launch) (D : va_G) (dT : Nat → ClassId) (A : Nat → Prop) (KX : State → Prop) (L : Nat → Nat → Prop) (ad : Nat → Nat → Nat) (τ : ph_T) (S : ph_T) (o : Nat) (hI : JR S o L ad τ) (hV : IV S) (x : Int) (hx : ph_ri x) : ph_M l y_J_feed (.code y_J_feed b_J_feed 3 (some .int) :: TB) ({ frames := 1, cells := 0, slots := 0, locals := 23 } : Room) D CLs (TY dT) dT kd A KX [.ref (o), .int (ph_i (x))] L ad τ (fun r L' ad' τ' => L' = L ∧ ad' = ad ∧ JR (feedS S x) o L ad τ' ∧ r = some (.int (ph_i (feedv S x)))) 0 0 := by
  refine ph_M.of (cc := b_J_feed) (maxL := 3) (ret := (some .int)) (by decide) rfl (Nat.le_of_ble_eq_true rfl) ?_
  intro p e s m below meth c C0 hr hlk hnm
  have C := C0.sub
  refine ph_loc (l2 := [(0, .ref (o)), (1, .int (ph_i (x)))]) ⟨rfl, rfl, trivial⟩ ?_
  have hc := hV.c
  refine ph_aload_n (pc := 0) C d_J_feed_0 rfl ?_
  refine ph_iload_n (pc := 1) C d_J_feed_1 rfl ?_
  refine ph_callV (pc := 2) (rest := []) C d_J_feed_2 (c_J_isItem l D dT A KX L ad τ S o hI hV x hx) (cwV 1 C.hts (gdV tw_164 tw_166 se_5 tw_1 tw_167) rfl rfl rfl ⟨rfl, by decide, by decide, by decide⟩ ⟨by decide, by decide⟩) (hI.live (g := 0) (i := 0) rfl) hI.ob rfl rfl rfl rfl rfl (Nat.le_of_ble_eq_true rfl) ⟨by decide, by decide⟩ ?_
  rintro r1 L1 ad1 τ1 ⟨g1, g2, g3, g4⟩; obtain rfl := g1.symm; obtain rfl := g2.symm; obtain rfl := g3.symm; subst g4
  refine ph_bif_ne (pc := 5) (tgt := 11) C d_J_feed_5 (by decide) (fun c5 => ?_) (fun c5 => ?_)
  · refine ph_aload_n (pc := 11) C d_J_feed_11 rfl ?_
    refine gt_J_21 (pc := 12) C d_J_feed_12 (hI.live (g := 0) (i := 0) rfl) hI.ob hI.r2 ?_
    refine ph_iload_n (pc := 15) C d_J_feed_15 rfl ?_
    refine ph_aald (pc := 16) (t := 1) C d_J_feed_16 (hI.live (g := 5) (i := 0) rfl) rfl rfl rfl x.toNat (by omega) (by have := (show LC S 2 x.toNat by simp only [LC]; omega); simp only [LC] at this; omega) (by decide) (ph_vr (hI.e5 (show LC S 2 x.toNat by simp only [LC]; omega))) ?_
    refine ph_astore_n (pc := 17) C d_J_feed_17 (by decide) rfl ?_
    refine ph_aload_n (pc := 18) C d_J_feed_18 rfl ?_
    refine gt_J_139 (pc := 19) C d_J_feed_19 (hI.live (show LC S 2 x.toNat by simp only [LC]; omega)) rfl (z := S 2 x.toNat 4) (hI.dat (show LC S 2 x.toNat by simp only [LC]; omega) rfl) ?_
    refine ph_if_eq (pc := 22) (tgt := 27) C d_J_feed_22 (by decide) (by first | omega | (have := hV.i (show LC S 2 x.toNat by simp only [LC]; omega); omega)) (fun c22 => ?_) (fun c22 => ?_)
    · refine ph_aload_n (pc := 27) C d_J_feed_27 rfl ?_
      refine gt_J_142 (pc := 28) C d_J_feed_28 (hI.live (show LC S 2 x.toNat by simp only [LC]; omega)) rfl (z := S 2 x.toNat 3) (hI.dat (show LC S 2 x.toNat by simp only [LC]; omega) rfl) ?_
      refine ph_if_ne (pc := 31) (tgt := 37) C d_J_feed_31 (by decide) (by first | omega | (have := hV.i (show LC S 2 x.toNat by simp only [LC]; omega); omega)) (fun c31 => ?_) (fun c31 => ?_)
      · refine ph_aload_n (pc := 37) C d_J_feed_37 rfl ?_
        refine ph_iconst (pc := 38) C d_J_feed_38 ?_
        refine pt_J_139 (pc := 39) C d_J_feed_39 (by omega) (hI.live (show LC S 2 x.toNat by simp only [LC]; omega)) rfl ?_
        have hI := hI.put (g := 2) (i := x.toNat) (k := 4) (1) rfl (by omega)
        generalize ph_up τ 2 x.toNat 4 (1) = τ at hI ⊢
        refine ph_aload_n (pc := 42) C d_J_feed_42 rfl ?_
        refine ph_iload_n (pc := 43) C d_J_feed_43 rfl ?_
        refine ph_callV (pc := 44) (rest := []) C d_J_feed_44 (c_J_takeOffList l D dT A KX L ad τ (ph_up S 2 x.toNat 4 1) o hI (hV.upI (i := x.toNat) (k := 4) (z := 1) (by omega) (by omega) (by omega) (by omega) (by omega) (by omega) (by omega)) x hx) (cwV 1 C.hts (gdV tw_337 tw_339 se_24 tw_1 tw_340) rfl rfl rfl ⟨rfl, by decide, by decide, by decide⟩ ⟨by decide, by decide⟩) (hI.live (g := 0) (i := 0) rfl) hI.ob rfl rfl rfl rfl rfl (Nat.le_of_ble_eq_true rfl) ⟨by decide, by decide⟩ ?_
        rintro r1 L1 ad1 τ ⟨g1, g2, hI, g4⟩; obtain rfl := g1.symm; obtain rfl := g2.symm; subst g4
        obtain ⟨S2, e_S2⟩ : ∃ z, z = dropS (ph_up S 2 x.toNat 4 1) x := ⟨_, rfl⟩
        rw [← e_S2] at hI
        have hV : IV S2 := by rw [e_S2]; exact (hV.upI (i := x.toNat) (k := 4) (z := 1) (by omega) (by omega) (by omega) (by omega) (by omega) (by omega) (by omega)).dropS
        have hc := hV.c
        refine ph_iconst (pc := 47) C d_J_feed_47 ?_
        exact ph_iret (pc := 48) C d_J_feed_48 hr hlk rfl (by decide) (by decide) ⟨rfl, rfl, (by rw [e_S2] at hI; unfold feedS; rw [if_pos ⟨by assumption, by omega, by omega⟩]; exact hI), (by rw [feedv, if_neg (not_not_intro (by assumption)), if_neg (by omega), if_neg (by omega)])⟩
      · refine ph_bipush (pc := 34) C d_J_feed_34 (by decide) ?_
        exact ph_iret (pc := 36) C d_J_feed_36 hr hlk rfl (by decide) (by decide) ⟨rfl, rfl, (by unfold feedS; rw [if_neg (fun q => by first | exact absurd q.1 (by assumption) | (have := q.2; omega))]; exact hI), (by rw [feedv, if_neg (not_not_intro (by assumption)), if_neg (by omega), if_pos (by assumption)])⟩
    · refine ph_iconst (pc := 25) C d_J_feed_25 ?_
      exact ph_iret (pc := 26) C d_J_feed_26 hr hlk rfl (by decide) (by decide) ⟨rfl, rfl, (by unfold feedS; rw [if_neg (fun q => by first | exact absurd q.1 (by assumption) | (have := q.2; omega))]; exact hI), (by rw [feedv, if_neg (not_not_intro (by assumption)), if_pos (by assumption)])⟩
  · refine ph_bipush (pc := 8) C d_J_feed_8 (by decide) ?_
    exact ph_iret (pc := 10) C d_J_feed_10 hr hlk rfl (by decide) (by decide) ⟨rfl, rfl, (by unfold feedS; rw [if_neg (fun q => by first | exact absurd q.1 (by assumption) | (have := q.2; omega))]; exact hI), (by rw [feedv, if_pos (by assumption)])⟩
