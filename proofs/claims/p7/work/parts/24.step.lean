/-! ===== step ===== -/
set_option maxHeartbeats 4000000 in
set_option maxRecDepth 100000 in
theorem c_J_step (l : Launch) (D : va_G) (dT : Nat → ClassId) (A : Nat → Prop) (KX : State → Prop) (L : Nat → Nat → Prop) (ad : Nat → Nat → Nat) (τ : ph_T) (S : ph_T) (o : Nat) (hI : JR S o L ad τ) (hV : IV S) (aR aT : Nat) (hX : ∀ U, KX U → KJ dT A aR aT U) (x y : Int) (hx : ph_ri x) (hy : ph_ri y) : ph_M l y_J_step (.code y_J_step b_J_step 4 (some .int) :: TB) ({ frames := 3, cells := 0, slots := 0, locals := 66 } : Room) D CLs (TY dT) dT kd A KX [.ref (o), .int (ph_i (x)), .int (ph_i (y))] L ad τ (fun r L' ad' τ' => L' = L ∧ ad' = ad ∧ JR (stepS S x y) o L ad τ' ∧ r = some (.int (ph_i (stepv S x y)))) 0 0 := by
  refine ph_M.of (cc := b_J_step) (maxL := 4) (ret := (some .int)) (by decide) rfl (Nat.le_of_ble_eq_true rfl) ?_
  intro p e s m below meth c C0 hr hlk hnm
  have C := C0.sub
  refine ph_loc (l2 := [(0, .ref (o)), (1, .int (ph_i (x))), (2, .int (ph_i (y)))]) ⟨rfl, rfl, rfl, trivial⟩ ?_
  have hc := hV.c
  refine ph_aload_n (pc := 0) C d_J_step_0 rfl ?_
  refine ph_iload_n (pc := 1) C d_J_step_1 rfl ?_
  refine ph_callV (pc := 2) (rest := []) C d_J_step_2 (c_J_isFault l D dT A KX L ad τ S o hI hV x hx) (cwV 1 C.hts (gdV tw_280 tw_282 se_17 tw_1 tw_283) rfl rfl rfl ⟨rfl, by decide, by decide, by decide⟩ ⟨by decide, by decide⟩) (hI.live (g := 0) (i := 0) rfl) hI.ob rfl rfl rfl rfl rfl (Nat.le_of_ble_eq_true rfl) ⟨by decide, by decide⟩ ?_
  rintro r1 L1 ad1 τ1 ⟨g1, g2, g3, g4⟩; obtain rfl := g1.symm; obtain rfl := g2.symm; obtain rfl := g3.symm; subst g4
  refine ph_bif_ne (pc := 5) (tgt := 11) C d_J_step_5 (by decide) (fun c5 => ?_) (fun c5 => ?_)
  · refine ph_iload_n (pc := 11) C d_J_step_11 rfl ?_
    refine ph_iconst (pc := 12) C d_J_step_12 ?_
    refine ph_icmp_lt (pc := 13) (tgt := 21) C d_J_step_13 (by decide) (by first | omega | (have := hV.f hf; omega)) (by first | omega | (have := hV.f hf; omega)) (fun c13 => ?_) (fun c13 => ?_)
    · refine ph_bipush (pc := 21) C d_J_step_21 (by decide) ?_
      exact ph_iret (pc := 23) C d_J_step_23 hr hlk rfl (by decide) (by decide) ⟨rfl, rfl, (by rw [stepS_f (fun q => by first | exact absurd q.1 (by assumption) | (have := q.2.1; omega) | (have := q.2.2.1; omega) | exact absurd q.2.2.2 (by assumption))]; exact hI), (by rw [stepv, if_neg (not_not_intro (by assumption)), if_pos (by omega)])⟩
    · refine ph_iload_n (pc := 16) C d_J_step_16 rfl ?_
      refine ph_iconst (pc := 17) C d_J_step_17 ?_
      refine ph_icmp_le (pc := 18) (tgt := 24) C d_J_step_18 (by decide) (by first | omega | (have := hV.f hf; omega)) (by first | omega | (have := hV.f hf; omega)) (fun c18 => ?_) (fun c18 => ?_)
      · refine ph_iload_n (pc := 24) C d_J_step_24 rfl ?_
        refine ph_aload_n (pc := 25) C d_J_step_25 rfl ?_
        refine gt_J_37 (pc := 26) C d_J_step_26 (hI.live (g := 0) (i := 0) rfl) hI.ob (z := S 0 0 6) (hI.dat rfl rfl) ?_
        refine ph_iconst (pc := 29) C d_J_step_29 ?_
        refine ph_iadd (pc := 30) C d_J_step_30 ?_
        refine ph_icmp_eq (pc := 31) (tgt := 37) C d_J_step_31 (by decide) (by first | omega | (have := hV.f hf; omega)) (by first | omega | (have := hV.f hf; omega)) (fun c31 => ?_) (fun c31 => ?_)
        · have hf : LC S 3 x.toNat := by simp only [LC]; omega
          refine ph_aload_n (pc := 37) C d_J_step_37 rfl ?_
          refine gt_J_30 (pc := 38) C d_J_step_38 (hI.live (g := 0) (i := 0) rfl) hI.ob hI.r4 ?_
          refine ph_iload_n (pc := 41) C d_J_step_41 rfl ?_
          refine ph_aald (pc := 42) (t := 2) C d_J_step_42 (hI.live (g := 6) (i := 0) rfl) rfl rfl rfl x.toNat (by omega) (by have := hf; simp only [LC] at this; omega) (by decide) (ph_vr (hI.e6 hf)) ?_
          refine ph_astore_n (pc := 43) C d_J_step_43 (by decide) rfl ?_
          refine ph_aload_n (pc := 44) C d_J_step_44 rfl ?_
          refine ph_callS (pc := 45) (rest := []) C d_J_step_45 (c_J_nextStep l D dT A KX L ad τ S o hI hV aR aT hX x.toNat hf) (cwS 1 C.hts (gdS tw_304 tw_305 tw_1 tw_306) rfl rfl rfl ⟨rfl, by decide, by decide, by decide⟩ ⟨by decide, by decide⟩) rfl rfl (Nat.le_of_ble_eq_true rfl) ⟨by decide, by decide⟩ ?_
          rintro r1 L1 ad1 τ1 ⟨g1, g2, g3, g4⟩; obtain rfl := g1.symm; obtain rfl := g2.symm; obtain rfl := g3.symm; subst g4
          have hn9 := nextv_r S x.toNat
          refine ph_iload_n (pc := 48) C d_J_step_48 rfl ?_
          refine ph_icmp_eq (pc := 49) (tgt := 54) C d_J_step_49 (by decide) (by first | omega | (have := hV.f hf; omega)) (by first | omega | (have := hV.f hf; omega)) (fun c49 => ?_) (fun c49 => ?_)
          · refine ph_aload_n (pc := 54) C d_J_step_54 rfl ?_
            refine ph_dup (pc := 55) C d_J_step_55 rfl ?_
            refine gt_J_127 (pc := 56) C d_J_step_56 (hI.live hf) rfl (z := S 3 x.toNat 6) (hI.dat hf rfl) ?_
            refine ph_iconst (pc := 59) C d_J_step_59 ?_
            refine ph_iadd (pc := 60) C d_J_step_60 ?_
            refine pt_J_127 (pc := 61) C d_J_step_61 (hI.live hf) rfl ?_
            have hI := hI.put (g := 3) (i := x.toNat) (k := 6) ((S 3 x.toNat 6) + (1)) rfl (by omega)
            generalize ph_up τ 3 x.toNat 6 ((S 3 x.toNat 6) + (1)) = τ at hI ⊢
            refine ph_iload_n (pc := 64) C d_J_step_64 rfl ?_
            refine ph_iconst (pc := 65) C d_J_step_65 ?_
            refine ph_icmp_ne (pc := 66) (tgt := 73) C d_J_step_66 (by decide) (by first | omega | (have := hV.f hf; omega)) (by first | omega | (have := hV.f hf; omega)) (fun c66 => ?_) (fun c66 => ?_)
            · obtain ⟨S3, e_S3⟩ : ∃ z, z = (ph_up S 3 x.toNat 6 ((S 3 x.toNat 6) + (1))) := ⟨_, rfl⟩
              rw [← e_S3] at hI
              have hV2 : IV S3 := by rw [e_S3]; exact (hV.upF (i := x.toNat) (k := 6) (z := (S 3 x.toNat 6) + (1)) (by omega) (by omega) (by omega) (by omega) (by omega) (by omega) (by have := hV.f hf; have := nextv_l (S := S) (f := x.toNat) (by omega); omega))
              have hf2 : LC S3 3 x.toNat := by rw [e_S3]; exact (LC_upn (by decide) 3 _).mpr hf
              have e_S2 : S3 = stA S x.toNat y := by rw [e_S3, stA, if_neg (by assumption)]
              replace hV := hV2
              replace hf := hf2
              refine ph_aload_n (pc := 73) C d_J_step_73 rfl ?_
              refine ph_callS (pc := 74) (rest := []) C d_J_step_74 (c_J_nextStep l D dT A KX L ad τ S3 o hI hV aR aT hX x.toNat hf) (cwS 1 C.hts (gdS tw_304 tw_305 tw_1 tw_306) rfl rfl rfl ⟨rfl, by decide, by decide, by decide⟩ ⟨by decide, by decide⟩) rfl rfl (Nat.le_of_ble_eq_true rfl) ⟨by decide, by decide⟩ ?_
              rintro r1 L1 ad1 τ1 ⟨g1, g2, g3, g4⟩; obtain rfl := g1.symm; obtain rfl := g2.symm; obtain rfl := g3.symm; subst g4
              have hn9 := nextv_r S3 x.toNat
              refine ph_if_ne (pc := 77) (tgt := 85) C d_J_step_77 (by decide) (by first | omega | (have := hV.f hf; omega)) (fun c77 => ?_) (fun c77 => ?_)
              · refine ph_iconst (pc := 85) C d_J_step_85 ?_
                exact ph_iret (pc := 86) C d_J_step_86 hr hlk rfl (by decide) (by decide) ⟨rfl, rfl, (by rw [e_S2] at hI; rw [stepS_t ⟨by assumption, by omega, by omega, by assumption⟩, stB, if_neg (by rw [← e_S2]; assumption)]; exact hI), (by rw [stepv, if_neg (not_not_intro (by assumption)), if_neg (by omega), if_neg (by omega), if_pos (by assumption)])⟩
              · refine ph_aload_n (pc := 80) C d_J_step_80 rfl ?_
                refine ph_iload_n (pc := 81) C d_J_step_81 rfl ?_
                refine ph_ti (y := ((x.toNat : Nat) : Int)) (by omega) ?_
                refine ph_callV (pc := 82) (rest := []) C d_J_step_82 (c_J_clear l D dT A KX L ad τ S3 o hI hV x.toNat hf) (cwV 1 C.hts (gdV tw_313 tw_315 se_20 tw_1 tw_316) rfl rfl rfl ⟨rfl, by decide, by decide, by decide⟩ ⟨by decide, by decide⟩) (hI.live (g := 0) (i := 0) rfl) hI.ob rfl rfl rfl rfl rfl (Nat.le_of_ble_eq_true rfl) ⟨by decide, by decide⟩ ?_
                rintro r1 L1 ad1 τ ⟨g1, g2, hI, g4⟩; obtain rfl := g1.symm; obtain rfl := g2.symm; subst g4
                obtain ⟨S5, e_S5⟩ : ∃ z, z = clearS S3 x.toNat := ⟨_, rfl⟩
                rw [← e_S5] at hI
                have hV : IV S5 := by rw [e_S5]; exact hV.clearS hf
                have hc := hV.c
                refine ph_iconst (pc := 85) C d_J_step_85 ?_
                exact ph_iret (pc := 86) C d_J_step_86 hr hlk rfl (by decide) (by decide) ⟨rfl, rfl, (by rw [e_S5, e_S2] at hI; rw [stepS_t ⟨by assumption, by omega, by omega, by assumption⟩, stB, if_pos (by rw [← e_S2]; assumption)]; exact hI), (by rw [stepv, if_neg (not_not_intro (by assumption)), if_neg (by omega), if_neg (by omega), if_pos (by assumption)])⟩
            · refine ph_aload_n (pc := 69) C d_J_step_69 rfl ?_
              refine ph_callV (pc := 70) (rest := []) C d_J_step_70 (c_J_resetCounts l D dT A KX L ad τ (ph_up S 3 x.toNat 6 ((S 3 x.toNat 6) + (1))) o hI (hV.upF (i := x.toNat) (k := 6) (z := (S 3 x.toNat 6) + (1)) (by omega) (by omega) (by omega) (by omega) (by omega) (by omega) (by have := hV.f hf; have := nextv_l (S := S) (f := x.toNat) (by omega); omega))) (cwV 0 C.hts (gdV tw_309 tw_311 se_19 tw_1 tw_312) rfl rfl rfl ⟨rfl, by decide, by decide, by decide⟩ ⟨by decide, by decide⟩) (hI.live (g := 0) (i := 0) rfl) hI.ob rfl rfl rfl rfl rfl (Nat.le_of_ble_eq_true rfl) ⟨by decide, by decide⟩ ?_
              rintro r1 L1 ad1 τ ⟨g1, g2, hI, g4⟩; obtain rfl := g1.symm; obtain rfl := g2.symm; subst g4
              obtain ⟨S4, e_S4⟩ : ∃ z, z = resetS (ph_up S 3 x.toNat 6 ((S 3 x.toNat 6) + (1))) := ⟨_, rfl⟩
              rw [← e_S4] at hI
              have hV : IV S4 := by rw [e_S4]; exact (hV.upF (i := x.toNat) (k := 6) (z := (S 3 x.toNat 6) + (1)) (by omega) (by omega) (by omega) (by omega) (by omega) (by omega) (by have := hV.f hf; have := nextv_l (S := S) (f := x.toNat) (by omega); omega)).resetS
              have hc := hV.c
              have hf : LC S4 3 x.toNat := (LC_eq (S := S) (by rw [e_S4, resetS_g (by decide)]; rfl) (by rw [e_S4, resetS_g (by decide)]; rfl) (by rw [e_S4, resetS_g (by decide)]; rfl) 3 x.toNat).mpr hf
              have e_S2 : S4 = stA S x.toNat y := by rw [e_S4, stA, if_pos (by assumption)]
              refine ph_aload_n (pc := 73) C d_J_step_73 rfl ?_
              refine ph_callS (pc := 74) (rest := []) C d_J_step_74 (c_J_nextStep l D dT A KX L ad τ S4 o hI hV aR aT hX x.toNat hf) (cwS 1 C.hts (gdS tw_304 tw_305 tw_1 tw_306) rfl rfl rfl ⟨rfl, by decide, by decide, by decide⟩ ⟨by decide, by decide⟩) rfl rfl (Nat.le_of_ble_eq_true rfl) ⟨by decide, by decide⟩ ?_
              rintro r1 L1 ad1 τ1 ⟨g1, g2, g3, g4⟩; obtain rfl := g1.symm; obtain rfl := g2.symm; obtain rfl := g3.symm; subst g4
              have hn9 := nextv_r S4 x.toNat
              refine ph_if_ne (pc := 77) (tgt := 85) C d_J_step_77 (by decide) (by first | omega | (have := hV.f hf; omega)) (fun c77 => ?_) (fun c77 => ?_)
              · refine ph_iconst (pc := 85) C d_J_step_85 ?_
                exact ph_iret (pc := 86) C d_J_step_86 hr hlk rfl (by decide) (by decide) ⟨rfl, rfl, (by rw [e_S2] at hI; rw [stepS_t ⟨by assumption, by omega, by omega, by assumption⟩, stB, if_neg (by rw [← e_S2]; assumption)]; exact hI), (by rw [stepv, if_neg (not_not_intro (by assumption)), if_neg (by omega), if_neg (by omega), if_pos (by assumption)])⟩
              · refine ph_aload_n (pc := 80) C d_J_step_80 rfl ?_
                refine ph_iload_n (pc := 81) C d_J_step_81 rfl ?_
                refine ph_ti (y := ((x.toNat : Nat) : Int)) (by omega) ?_
                refine ph_callV (pc := 82) (rest := []) C d_J_step_82 (c_J_clear l D dT A KX L ad τ S4 o hI hV x.toNat hf) (cwV 1 C.hts (gdV tw_313 tw_315 se_20 tw_1 tw_316) rfl rfl rfl ⟨rfl, by decide, by decide, by decide⟩ ⟨by decide, by decide⟩) (hI.live (g := 0) (i := 0) rfl) hI.ob rfl rfl rfl rfl rfl (Nat.le_of_ble_eq_true rfl) ⟨by decide, by decide⟩ ?_
                rintro r1 L1 ad1 τ ⟨g1, g2, hI, g4⟩; obtain rfl := g1.symm; obtain rfl := g2.symm; subst g4
                obtain ⟨S5, e_S5⟩ : ∃ z, z = clearS S4 x.toNat := ⟨_, rfl⟩
                rw [← e_S5] at hI
                have hV : IV S5 := by rw [e_S5]; exact hV.clearS hf
                have hc := hV.c
                refine ph_iconst (pc := 85) C d_J_step_85 ?_
                exact ph_iret (pc := 86) C d_J_step_86 hr hlk rfl (by decide) (by decide) ⟨rfl, rfl, (by rw [e_S5, e_S2] at hI; rw [stepS_t ⟨by assumption, by omega, by omega, by assumption⟩, stB, if_pos (by rw [← e_S2]; assumption)]; exact hI), (by rw [stepv, if_neg (not_not_intro (by assumption)), if_neg (by omega), if_neg (by omega), if_pos (by assumption)])⟩
          · refine ph_iconst (pc := 52) C d_J_step_52 ?_
            exact ph_iret (pc := 53) C d_J_step_53 hr hlk rfl (by decide) (by decide) ⟨rfl, rfl, (by rw [stepS_f (fun q => by first | exact absurd q.1 (by assumption) | (have := q.2.1; omega) | (have := q.2.2.1; omega) | exact absurd q.2.2.2 (by assumption))]; exact hI), (by rw [stepv, if_neg (not_not_intro (by assumption)), if_neg (by omega), if_neg (by omega), if_neg (by assumption)])⟩
        · refine ph_bipush (pc := 34) C d_J_step_34 (by decide) ?_
          exact ph_iret (pc := 36) C d_J_step_36 hr hlk rfl (by decide) (by decide) ⟨rfl, rfl, (by rw [stepS_f (fun q => by first | exact absurd q.1 (by assumption) | (have := q.2.1; omega) | (have := q.2.2.1; omega) | exact absurd q.2.2.2 (by assumption))]; exact hI), (by rw [stepv, if_neg (not_not_intro (by assumption)), if_neg (by omega), if_pos (by omega)])⟩
      · refine ph_bipush (pc := 21) C d_J_step_21 (by decide) ?_
        exact ph_iret (pc := 23) C d_J_step_23 hr hlk rfl (by decide) (by decide) ⟨rfl, rfl, (by rw [stepS_f (fun q => by first | exact absurd q.1 (by assumption) | (have := q.2.1; omega) | (have := q.2.2.1; omega) | exact absurd q.2.2.2 (by assumption))]; exact hI), (by rw [stepv, if_neg (not_not_intro (by assumption)), if_pos (by omega)])⟩
  · refine ph_bipush (pc := 8) C d_J_step_8 (by decide) ?_
    exact ph_iret (pc := 10) C d_J_step_10 hr hlk rfl (by decide) (by decide) ⟨rfl, rfl, (by rw [stepS_f (fun q => by first | exact absurd q.1 (by assumption) | (have := q.2.1; omega) | (have := q.2.2.1; omega) | exact absurd q.2.2.2 (by assumption))]; exact hI), (by rw [stepv, if_pos (by assumption)])⟩
