/-! ===== plant, jams, lost ones ===== -/
set_option maxHeartbeats 4000000 in
set_option maxRecDepth 100000 in
theorem c_J_plant (l : Launch) (D : va_G) (dT : Nat → ClassId) (A : Nat → Prop) (KX : State → Prop) (L : Nat → Nat → Prop) (ad : Nat → Nat → Nat) (τ : ph_T) (S : ph_T) (o : Nat) (hI : JR S o L ad τ) (hV : IV S) (hF : JF S L) (x t : Int) (hx : ph_ri x) (ht : ph_rl t) : ph_M l y_J_plant (.code y_J_plant b_J_plant 4 (some .int) :: TB) ({ frames := 4, cells := 1, slots := 7, locals := 92 } : Room) D CLs (TY dT) dT kd A KX [.ref (o), .int (ph_i (x)), .long (ph_l (t))] L ad τ (fun r L' ad' τ' => JR (plantS S x t) o L' ad' τ' ∧ JF (plantS S x t) L' ∧ r = some (.int (ph_i (plantv S x t)))) 1 7 := by
  refine ph_M.of (cc := b_J_plant) (maxL := 4) (ret := (some .int)) (by decide) rfl (Nat.le_of_ble_eq_true rfl) ?_
  intro p e s m below meth c C0 hr hlk hnm
  have C := C0.sub
  refine ph_loc (l2 := [(0, .ref (o)), (1, .int (ph_i (x))), (2, .long (ph_l (t)))]) ⟨rfl, rfl, rfl, trivial⟩ ?_
  have hc := hV.c
  refine ph_iload_n (pc := 0) C d_J_plant_0 rfl ?_
  refine ph_callS (pc := 1) (rest := []) C d_J_plant_1 (c_J_isKind l D dT A KX L ad τ x hx) (cwS 1 C.hts (gdS tw_349 tw_350 tw_1 tw_351) rfl rfl rfl ⟨rfl, by decide, by decide, by decide⟩ ⟨by decide, by decide⟩) rfl rfl (Nat.le_of_ble_eq_true rfl) ⟨by decide, by decide⟩ ?_
  rintro r1 L1 ad1 τ1 ⟨g1, g2, g3, g4⟩; obtain rfl := g1.symm; obtain rfl := g2.symm; obtain rfl := g3.symm; subst g4
  refine ph_bif_eq (pc := 4) (tgt := 15) C d_J_plant_4 (by decide) (fun c4 => ?_) (fun c4 => ?_)
  · refine ph_bipush (pc := 15) C d_J_plant_15 (by decide) ?_
    exact ph_iret (pc := 17) C d_J_plant_17 hr hlk rfl (by omega) (by omega) ⟨(by rw [plantS_f (fun q => by first | exact absurd q.1 (by assumption) | exact absurd q.2.1 (by assumption) | exact absurd q.2.2.1 (by assumption) | (have := q.2.2.2; omega))]; exact hI), (by rw [plantS_f (fun q => by first | exact absurd q.1 (by assumption) | exact absurd q.2.1 (by assumption) | exact absurd q.2.2.1 (by assumption) | (have := q.2.2.2; omega))]; exact hF), (by rw [plantv, if_pos (fun q => by first | exact absurd q.1 (by assumption) | exact absurd q.2 (by assumption))])⟩
  · refine ph_aload_n (pc := 7) C d_J_plant_7 rfl ?_
    refine ph_lload_n (pc := 8) C d_J_plant_8 rfl ?_
    refine ph_callV (pc := 9) (rest := []) C d_J_plant_9 (c_J_isTime l D dT A KX L ad τ S o hI hV t ht) (cwV 1 C.hts (gdV tw_101 tw_103 se_0 tw_1 tw_104) rfl rfl rfl ⟨rfl, by decide, by decide, by decide⟩ ⟨by decide, by decide⟩) (hI.live (g := 0) (i := 0) rfl) hI.ob rfl rfl rfl rfl rfl (Nat.le_of_ble_eq_true rfl) ⟨by decide, by decide⟩ ?_
    rintro r1 L1 ad1 τ1 ⟨g1, g2, g3, g4⟩; obtain rfl := g1.symm; obtain rfl := g2.symm; obtain rfl := g3.symm; subst g4
    refine ph_bif_ne (pc := 12) (tgt := 18) C d_J_plant_12 (by decide) (fun c12 => ?_) (fun c12 => ?_)
    · refine ph_aload_n (pc := 18) C d_J_plant_18 rfl ?_
      refine ph_callV (pc := 19) (rest := []) C d_J_plant_19 (c_J_goesOn l D dT A KX L ad τ S o hI hV) (cwV 0 C.hts (gdV tw_111 tw_112 tw_113 tw_1 tw_114) rfl rfl rfl ⟨rfl, by decide, by decide, by decide⟩ ⟨by decide, by decide⟩) (hI.live (g := 0) (i := 0) rfl) hI.ob rfl rfl rfl rfl rfl (Nat.le_of_ble_eq_true rfl) ⟨by decide, by decide⟩ ?_
      rintro r1 L1 ad1 τ1 ⟨g1, g2, g3, g4⟩; obtain rfl := g1.symm; obtain rfl := g2.symm; obtain rfl := g3.symm; subst g4
      refine ph_bif_ne (pc := 22) (tgt := 28) C d_J_plant_22 (by decide) (fun c22 => ?_) (fun c22 => ?_)
      · refine ph_aload_n (pc := 28) C d_J_plant_28 rfl ?_
        refine gt_J_34 (pc := 29) C d_J_plant_29 (hI.live (g := 0) (i := 0) rfl) hI.ob (z := S 0 0 5) (hI.dat rfl rfl) ?_
        refine ph_bipush (pc := 32) C d_J_plant_32 (by decide) ?_
        refine ph_icmp_lt (pc := 34) (tgt := 39) C d_J_plant_34 (by decide) (by omega) (by omega) (fun c34 => ?_) (fun c34 => ?_)
        · refine ph_aload_n (pc := 39) C d_J_plant_39 rfl ?_
          refine ph_lload_n (pc := 40) C d_J_plant_40 rfl ?_
          refine pt_J_54 (pc := 41) C d_J_plant_41 (hI.live (g := 0) (i := 0) rfl) hI.ob ?_
          have hI := hI.put (g := 0) (i := 0) (k := 11) (t) rfl (by omega)
          generalize ph_up τ 0 0 11 (t) = τ at hI ⊢
          refine ph_aload_n (pc := 44) C d_J_plant_44 rfl ?_
          refine ph_iload_n (pc := 45) C d_J_plant_45 rfl ?_
          refine ph_iconst (pc := 46) C d_J_plant_46 ?_
          refine ph_ti2 (y := ((x.toNat : Nat) : Int)) (by omega) ?_
          refine ph_callV (pc := 47) (rest := []) C d_J_plant_47 (c_J_tellN l D dT A KX L ad τ (ph_up S 0 0 11 (t)) o hI (hV.up0 (k := 11) (z := t) (by omega) (by omega) (by omega) (by omega)) (fun g i q1 q2 => (LC_up (by omega) g i).mpr (hF g i q1 q2)) x.toNat (by omega)) (cwV 2 C.hts (gdV tw_168 tw_170 se_6 tw_1 tw_171) rfl rfl rfl ⟨rfl, by decide, by decide, by decide⟩ ⟨by decide, by decide⟩) (hI.live (g := 0) (i := 0) rfl) hI.ob rfl rfl rfl rfl rfl (Nat.le_of_ble_eq_true rfl) ⟨by decide, by decide⟩ ?_
          rintro r1 L ad τ ⟨hI, hF, g4⟩; subst g4
          change JR (tellS (ph_up S 0 0 11 (t)) x.toNat (-1) 0) o L ad τ at hI; change JF (tellS (ph_up S 0 0 11 (t)) x.toNat (-1) 0) L at hF
          obtain ⟨S2, e_S2⟩ : ∃ z, z = tellS (ph_up S 0 0 11 (t)) x.toNat (-1) 0 := ⟨_, rfl⟩
          rw [← e_S2] at hI hF
          have hV : IV S2 := by rw [e_S2]; exact (hV.up0 (k := 11) (z := t) (by omega) (by omega) (by omega) (by omega)).tellS (by omega) (by omega) (by omega)
          have hc := hV.c
          exact ph_iret (pc := 50) C d_J_plant_50 hr hlk rfl (by omega) (by omega) ⟨(by rw [plantS_t ⟨by assumption, by assumption, by assumption, by omega⟩, ← e_S2]; exact hI), (by rw [plantS_t ⟨by assumption, by assumption, by assumption, by omega⟩, ← e_S2]; exact hF), (by rw [plantv, if_neg (not_not_intro ⟨by assumption, by assumption⟩), if_pos (by assumption), if_neg (by omega), tellv, if_neg (by rw [ph_up_no _ _ (by decide)]; omega), ph_up_no _ _ (by decide)])⟩
        · refine ph_iconst (pc := 37) C d_J_plant_37 ?_
          exact ph_iret (pc := 38) C d_J_plant_38 hr hlk rfl (by omega) (by omega) ⟨(by rw [plantS_f (fun q => by first | exact absurd q.1 (by assumption) | exact absurd q.2.1 (by assumption) | exact absurd q.2.2.1 (by assumption) | (have := q.2.2.2; omega))]; exact hI), (by rw [plantS_f (fun q => by first | exact absurd q.1 (by assumption) | exact absurd q.2.1 (by assumption) | exact absurd q.2.2.1 (by assumption) | (have := q.2.2.2; omega))]; exact hF), (by rw [plantv, if_neg (not_not_intro ⟨by assumption, by assumption⟩), if_pos (by assumption), if_pos (by omega)])⟩
      · refine ph_bipush (pc := 25) C d_J_plant_25 (by decide) ?_
        exact ph_iret (pc := 27) C d_J_plant_27 hr hlk rfl (by omega) (by omega) ⟨(by rw [plantS_f (fun q => by first | exact absurd q.1 (by assumption) | exact absurd q.2.1 (by assumption) | exact absurd q.2.2.1 (by assumption) | (have := q.2.2.2; omega))]; exact hI), (by rw [plantS_f (fun q => by first | exact absurd q.1 (by assumption) | exact absurd q.2.1 (by assumption) | exact absurd q.2.2.1 (by assumption) | (have := q.2.2.2; omega))]; exact hF), (by rw [plantv, if_neg (not_not_intro ⟨by assumption, by assumption⟩), if_neg (by assumption)])⟩
    · refine ph_bipush (pc := 15) C d_J_plant_15 (by decide) ?_
      exact ph_iret (pc := 17) C d_J_plant_17 hr hlk rfl (by omega) (by omega) ⟨(by rw [plantS_f (fun q => by first | exact absurd q.1 (by assumption) | exact absurd q.2.1 (by assumption) | exact absurd q.2.2.1 (by assumption) | (have := q.2.2.2; omega))]; exact hI), (by rw [plantS_f (fun q => by first | exact absurd q.1 (by assumption) | exact absurd q.2.1 (by assumption) | exact absurd q.2.2.1 (by assumption) | (have := q.2.2.2; omega))]; exact hF), (by rw [plantv, if_pos (fun q => by first | exact absurd q.1 (by assumption) | exact absurd q.2 (by assumption))])⟩
set_option maxHeartbeats 4000000 in
set_option maxRecDepth 100000 in
theorem c_J_tellJams (l : Launch) (D : va_G) (dT : Nat → ClassId) (A : Nat → Prop) (KX : State → Prop) (L : Nat → Nat → Prop) (ad : Nat → Nat → Nat) (τ : ph_T) (S : ph_T) (o : Nat) (hI : JR S o L ad τ) (hV : IV S) (hF : JF S L) : ph_M l y_J_tellJams (.code y_J_tellJams b_J_tellJams 3 none :: TB) ({ frames := 4, cells := 8, slots := 56, locals := 92 } : Room) D CLs (TY dT) dT kd A KX [.ref (o)] L ad τ (fun r L' ad' τ' => JR (jamsS S) o L' ad' τ' ∧ JF (jamsS S) L' ∧ r = none) 8 56 := by
  refine ph_M.of (cc := b_J_tellJams) (maxL := 3) (ret := none) (by decide) rfl (Nat.le_of_ble_eq_true rfl) ?_
  intro p e s m below meth c C0 hr hlk hnm
  have C := C0.sub
  refine ph_loc (l2 := [(0, .ref (o))]) ⟨rfl, trivial⟩ ?_
  have hc := hV.c
  have loop : ∀ (n : Nat) (i : Nat) (S1 : ph_T) (L : Nat → Nat → Prop) (ad : Nat → Nat → Nat) (τ : ph_T) (cs sl : Nat), JR S1 o L ad τ → IV S1 → JF S1 L → S 0 0 1 = (i : Int) + n → S1 0 0 1 = S 0 0 1 → cs + n ≤ 8 → sl + 7 * n ≤ 56 → tjF n i S1 = jamsS S → ph_W p l e ({ frames := 4, cells := 8, slots := 56, locals := 92 } : Room) s m [.ref (o)].toArray below meth c D CLs dT kd A 3 (MQ below (ph_Q D CLs dT kd A (fun r L' ad' τ' => JR (jamsS S) o L' ad' τ' ∧ JF (jamsS S) L' ∧ r = none)) [.ref (o)].toArray s 8 56 A) L ad τ cs sl 2 (ph_mk [(0, .ref (o)), (1, .int (ph_i ((i : Int))))]) [] := by
    intro n
    induction n with
    | zero =>
      intro i S1 L ad τ cs sl hI hV hF h1 h2 hcs hsl h3
      have hc := hV.c
      refine ph_iload_n (pc := 2) C d_J_tellJams_2 rfl ?_
      refine ph_aload_n (pc := 3) C d_J_tellJams_3 rfl ?_
      refine gt_J_15 (pc := 4) C d_J_tellJams_4 (hI.live (g := 0) (i := 0) rfl) hI.ob (z := S1 0 0 1) (hI.dat rfl rfl) ?_
      refine ph_icmp_ge (pc := 7) (tgt := 71) C d_J_tellJams_7 (by decide) (by first | omega | (have := hV.s (show LC S1 1 i by simp only [LC]; omega); have := lenAt_r hV i; omega)) (by first | omega | (have := hV.s (show LC S1 1 i by simp only [LC]; omega); have := lenAt_r hV i; omega)) (fun c7 => ?_) (fun c7 => ?_)
      · exact ph_vret (pc := 71) C d_J_tellJams_71 hr hlk (by omega) (by omega) ⟨(by rw [← h3]; exact hI), (by rw [← h3]; exact hF), rfl⟩
      · exfalso; omega
    | succ n ih =>
      intro i S1 L ad τ cs sl hI hV hF h1 h2 hcs hsl h3
      have hc := hV.c
      refine ph_iload_n (pc := 2) C d_J_tellJams_2 rfl ?_
      refine ph_aload_n (pc := 3) C d_J_tellJams_3 rfl ?_
      refine gt_J_15 (pc := 4) C d_J_tellJams_4 (hI.live (g := 0) (i := 0) rfl) hI.ob (z := S1 0 0 1) (hI.dat rfl rfl) ?_
      refine ph_icmp_ge (pc := 7) (tgt := 71) C d_J_tellJams_7 (by decide) (by first | omega | (have := hV.s (show LC S1 1 i by simp only [LC]; omega); have := lenAt_r hV i; omega)) (by first | omega | (have := hV.s (show LC S1 1 i by simp only [LC]; omega); have := lenAt_r hV i; omega)) (fun c7 => ?_) (fun c7 => ?_)
      · exfalso; omega
      · refine ph_aload_n (pc := 10) C d_J_tellJams_10 rfl ?_
        refine gt_J_11 (pc := 11) C d_J_tellJams_11 (hI.live (g := 0) (i := 0) rfl) hI.ob hI.r0 ?_
        refine ph_iload_n (pc := 14) C d_J_tellJams_14 rfl ?_
        refine ph_aald (pc := 15) (t := 0) C d_J_tellJams_15 (hI.live (g := 4) (i := 0) rfl) rfl rfl rfl i rfl (by have := (show LC S1 1 i by simp only [LC]; omega); simp only [LC] at this; omega) (by decide) (ph_vr (hI.e4 (show LC S1 1 i by simp only [LC]; omega))) ?_
        refine ph_astore_n (pc := 16) C d_J_tellJams_16 (by decide) rfl ?_
        refine ph_aload_n (pc := 17) C d_J_tellJams_17 rfl ?_
        refine gt_J_91 (pc := 18) C d_J_tellJams_18 (hI.live (show LC S1 1 i by simp only [LC]; omega)) rfl (z := S1 1 i 2) (hI.dat (show LC S1 1 i by simp only [LC]; omega) rfl) ?_
        refine ph_if_eq (pc := 21) (tgt := 65) C d_J_tellJams_21 (by decide) (by first | omega | (have := hV.s (show LC S1 1 i by simp only [LC]; omega); have := lenAt_r hV i; omega)) (fun c21 => ?_) (fun c21 => ?_)
        · refine ph_iinc (pc := 65) C d_J_tellJams_65 rfl rfl ?_
          refine ph_goto (pc := 68) (tgt := 2) C d_J_tellJams_68 (by decide) ?_
          refine ph_loc (l2 := [(0, .ref (o)), (1, .int (ph_i (((i + 1 : Nat) : Int))))]) ⟨rfl, rfl, trivial⟩ ?_
          exact ih (i + 1) S1 L ad τ cs sl hI hV hF (by omega) h2 (by omega) (by omega) (by rw [← h3, tjF_s, jamS_f (fun q => by have := q.1; have := q.2.1; have := q.2.2; omega)])
        · refine ph_aload_n (pc := 24) C d_J_tellJams_24 rfl ?_
          refine gt_J_182 (pc := 25) C d_J_tellJams_25 (hI.live (show LC S1 1 i by simp only [LC]; omega)) rfl (z := S1 1 i 5) (hI.dat (show LC S1 1 i by simp only [LC]; omega) rfl) ?_
          refine ph_if_ne (pc := 28) (tgt := 65) C d_J_tellJams_28 (by decide) (by first | omega | (have := hV.s (show LC S1 1 i by simp only [LC]; omega); have := lenAt_r hV i; omega)) (fun c28 => ?_) (fun c28 => ?_)
          · refine ph_iinc (pc := 65) C d_J_tellJams_65 rfl rfl ?_
            refine ph_goto (pc := 68) (tgt := 2) C d_J_tellJams_68 (by decide) ?_
            refine ph_loc (l2 := [(0, .ref (o)), (1, .int (ph_i (((i + 1 : Nat) : Int))))]) ⟨rfl, rfl, trivial⟩ ?_
            exact ih (i + 1) S1 L ad τ cs sl hI hV hF (by omega) h2 (by omega) (by omega) (by rw [← h3, tjF_s, jamS_f (fun q => by have := q.1; have := q.2.1; have := q.2.2; omega)])
          · refine ph_aload_n (pc := 31) C d_J_tellJams_31 rfl ?_
            refine gt_J_54 (pc := 32) C d_J_tellJams_32 (hI.live (g := 0) (i := 0) rfl) hI.ob (z := S1 0 0 11) (hI.dat rfl rfl) ?_
            refine ph_aload_n (pc := 35) C d_J_tellJams_35 rfl ?_
            refine gt_J_185 (pc := 36) C d_J_tellJams_36 (hI.live (show LC S1 1 i by simp only [LC]; omega)) rfl (z := S1 1 i 4) (hI.dat (show LC S1 1 i by simp only [LC]; omega) rfl) ?_
            refine ph_lsub (pc := 39) C d_J_tellJams_39 ?_
            refine ph_ldc2 (pc := 40) C d_J_tellJams_40 (500) (by decide) tw_159 ?_
            refine ph_aload_n (pc := 43) C d_J_tellJams_43 rfl ?_
            refine ph_aload_n (pc := 44) C d_J_tellJams_44 rfl ?_
            refine ph_callV (pc := 45) (rest := [.long (ph_l (500)), .long (ph_l ((S1 0 0 11) - (S1 1 i 4)))]) C d_J_tellJams_45 (c_J_lengthAt l D dT A KX L ad τ S1 o hI hV i (show LC S1 1 i by simp only [LC]; omega)) (cwV 1 C.hts (gdV tw_160 tw_162 se_4 tw_1 tw_163) rfl rfl rfl ⟨rfl, by decide, by decide, by decide⟩ ⟨by decide, by decide⟩) (hI.live (g := 0) (i := 0) rfl) hI.ob rfl rfl rfl rfl rfl (Nat.le_of_ble_eq_true rfl) ⟨by show _ + _ ≤ (8 : Nat); omega, by show _ + _ ≤ (56 : Nat); omega⟩ ?_
            rintro r1 L1 ad1 τ1 ⟨g1, g2, g3, g4⟩; obtain rfl := g1.symm; obtain rfl := g2.symm; obtain rfl := g3.symm; subst g4
            refine ph_ladd (pc := 48) C d_J_tellJams_48 ?_
            refine ph_l_le (pc := 49) (tgt := 65) C d_J_tellJams_49 d_J_tellJams_50 (by decide) (by first | omega | (have := hV.s (show LC S1 1 i by simp only [LC]; omega); have := lenAt_r hV i; omega)) (by first | omega | (have := hV.s (show LC S1 1 i by simp only [LC]; omega); have := lenAt_r hV i; omega)) (fun c49 => ?_) (fun c49 => ?_)
            · refine ph_iinc (pc := 65) C d_J_tellJams_65 rfl rfl ?_
              refine ph_goto (pc := 68) (tgt := 2) C d_J_tellJams_68 (by decide) ?_
              refine ph_loc (l2 := [(0, .ref (o)), (1, .int (ph_i (((i + 1 : Nat) : Int))))]) ⟨rfl, rfl, trivial⟩ ?_
              exact ih (i + 1) S1 L ad τ cs sl hI hV hF (by omega) h2 (by omega) (by omega) (by rw [← h3, tjF_s, jamS_f (fun q => by have := q.1; have := q.2.1; have := q.2.2; omega)])
            · refine ph_aload_n (pc := 53) C d_J_tellJams_53 rfl ?_
              refine ph_iconst (pc := 54) C d_J_tellJams_54 ?_
              refine pt_J_182 (pc := 55) C d_J_tellJams_55 (by omega) (hI.live (show LC S1 1 i by simp only [LC]; omega)) rfl ?_
              have hI := hI.put (g := 1) (i := i) (k := 5) (1) rfl (by omega)
              generalize ph_up τ 1 i 5 (1) = τ at hI ⊢
              refine ph_aload_n (pc := 58) C d_J_tellJams_58 rfl ?_
              refine ph_iconst (pc := 59) C d_J_tellJams_59 ?_
              refine ph_iload_n (pc := 60) C d_J_tellJams_60 rfl ?_
              refine ph_callV (pc := 61) (rest := []) C d_J_tellJams_61 (c_J_tell l D dT A KX L ad τ (ph_up S1 1 i 5 (1)) o hI (hV.upS (i := i) (k := 5) (z := 1) (by omega) (by omega) (by omega) (by omega) (by omega)) (fun g j q1 q2 => (LC_upn (by decide) g j).mpr (hF g j q1 q2)) 5 (by omega) i ((LC_upn (by decide) 1 i).mpr (show LC S1 1 i by simp only [LC]; omega))) (cwV 2 C.hts (gdV tw_168 tw_170 se_6 tw_1 tw_171) rfl rfl rfl ⟨rfl, by decide, by decide, by decide⟩ ⟨by decide, by decide⟩) (hI.live (g := 0) (i := 0) rfl) hI.ob rfl rfl rfl rfl rfl (Nat.le_of_ble_eq_true rfl) ⟨by show _ + _ ≤ (8 : Nat); omega, by show _ + _ ≤ (56 : Nat); omega⟩ ?_
              rintro r1 L ad τ ⟨hI, hF, g4⟩; subst g4
              change JR (tellS (ph_up S1 1 i 5 (1)) 5 (i : Int) ((dbm (ph_up S1 1 i 5 (1)) i : Nat) : Int)) o L ad τ at hI; change JF (tellS (ph_up S1 1 i 5 (1)) 5 (i : Int) ((dbm (ph_up S1 1 i 5 (1)) i : Nat) : Int)) L at hF
              obtain ⟨S2, e_S2⟩ : ∃ z, z = tellS (ph_up S1 1 i 5 (1)) 5 (i : Int) ((dbm (ph_up S1 1 i 5 (1)) i : Nat) : Int) := ⟨_, rfl⟩
              rw [← e_S2] at hI hF
              have hV : IV S2 := by rw [e_S2]; exact (hV.upS (i := i) (k := 5) (z := 1) (by omega) (by omega) (by omega) (by omega) (by omega)).tellS (by omega) (by omega) (by have := dbm_lt (hV.upS (i := i) (k := 5) (z := 1) (by omega) (by omega) (by omega) (by omega) (by omega)) i; omega)
              have hc := hV.c
              refine ph_pop (pc := 64) C d_J_tellJams_64 rfl ?_
              refine ph_iinc (pc := 65) C d_J_tellJams_65 rfl rfl ?_
              refine ph_goto (pc := 68) (tgt := 2) C d_J_tellJams_68 (by decide) ?_
              refine ph_loc (l2 := [(0, .ref (o)), (1, .int (ph_i (((i + 1 : Nat) : Int))))]) ⟨rfl, rfl, trivial⟩ ?_
              exact ih (i + 1) S2 L ad τ (cs + 1) (sl + 7) hI hV hF (by omega) (by rw [e_S2, tellS_0 (by decide), up_ne _ (by decide)]; exact h2) (by omega) (by omega) (by rw [e_S2, ← h3, tjF_s, jamS_t ⟨by omega, by omega, by omega⟩])
  refine ph_iconst (pc := 0) C d_J_tellJams_0 ?_
  refine ph_istore_n (pc := 1) C d_J_tellJams_1 (by decide) rfl ?_
  refine ph_loc (l2 := [(0, .ref (o)), (1, .int (ph_i (((0 : Nat) : Int))))]) ⟨rfl, rfl, trivial⟩ ?_
  exact loop (S 0 0 1).toNat 0 S L ad τ 0 0 hI hV hF (by omega) rfl (by omega) (by omega) rfl
set_option maxHeartbeats 4000000 in
set_option maxRecDepth 100000 in
theorem c_J_loseLateItems (l : Launch) (D : va_G) (dT : Nat → ClassId) (A : Nat → Prop) (KX : State → Prop) (L : Nat → Nat → Prop) (ad : Nat → Nat → Nat) (τ : ph_T) (S : ph_T) (o : Nat) (hI : JR S o L ad τ) (hV : IV S) (hF : JF S L) (s0 : Nat) (hs : LC S 1 s0) : ph_M l y_J_loseLateItems (.code y_J_loseLateItems b_J_loseLateItems 4 none :: TB) ({ frames := 4, cells := 60, slots := 420, locals := 92 } : Room) D CLs (TY dT) dT kd A KX [.ref (o), .int (ph_i ((s0 : Int)))] L ad τ (fun r L' ad' τ' => JR (losesS S s0) o L' ad' τ' ∧ JF (losesS S s0) L' ∧ r = none) 60 420 := by
  refine ph_M.of (cc := b_J_loseLateItems) (maxL := 4) (ret := none) (by decide) rfl (Nat.le_of_ble_eq_true rfl) ?_
  intro p e s m below meth c C0 hr hlk hnm
  have C := C0.sub
  refine ph_loc (l2 := [(0, .ref (o)), (1, .int (ph_i ((s0 : Int))))]) ⟨rfl, rfl, trivial⟩ ?_
  have hc := hV.c
  have loop : ∀ (n : Nat) (i : Nat) (S1 : ph_T) (L : Nat → Nat → Prop) (ad : Nat → Nat → Nat) (τ : ph_T) (cs sl : Nat), JR S1 o L ad τ → IV S1 → JF S1 L → LC S1 1 s0 → 1 ≤ i → S 0 0 3 = (i : Int) + n - 1 → S1 0 0 3 = S 0 0 3 → cs + n ≤ 60 → sl + 7 * n ≤ 420 → lsF s0 n i S1 = losesS S s0 → ph_W p l e ({ frames := 4, cells := 60, slots := 420, locals := 92 } : Room) s m [.ref (o), .int (ph_i ((s0 : Int)))].toArray below meth c D CLs dT kd A 4 (MQ below (ph_Q D CLs dT kd A (fun r L' ad' τ' => JR (losesS S s0) o L' ad' τ' ∧ JF (losesS S s0) L' ∧ r = none)) [.ref (o), .int (ph_i ((s0 : Int)))].toArray s 60 420 A) L ad τ cs sl 2 (ph_mk [(0, .ref (o)), (1, .int (ph_i ((s0 : Int)))), (2, .int (ph_i ((i : Int))))]) [] := by
    intro n
    induction n with
    | zero =>
      intro i S1 L ad τ cs sl hI hV hF hs h0 h1 h2 hcs hsl h3
      have hc := hV.c
      refine ph_iload_n (pc := 2) C d_J_loseLateItems_2 rfl ?_
      refine ph_aload_n (pc := 3) C d_J_loseLateItems_3 rfl ?_
      refine gt_J_25 (pc := 4) C d_J_loseLateItems_4 (hI.live (g := 0) (i := 0) rfl) hI.ob (z := S1 0 0 3) (hI.dat rfl rfl) ?_
      refine ph_icmp_gt (pc := 7) (tgt := 60) C d_J_loseLateItems_7 (by decide) (by first | omega | (have := hV.i (show LC S1 2 i by simp only [LC]; omega); have := hV.s hs; omega)) (by first | omega | (have := hV.i (show LC S1 2 i by simp only [LC]; omega); have := hV.s hs; omega)) (fun c7 => ?_) (fun c7 => ?_)
      · exact ph_vret (pc := 60) C d_J_loseLateItems_60 hr hlk (by omega) (by omega) ⟨(by rw [← h3]; exact hI), (by rw [← h3]; exact hF), rfl⟩
      · exfalso; omega
    | succ n ih =>
      intro i S1 L ad τ cs sl hI hV hF hs h0 h1 h2 hcs hsl h3
      have hc := hV.c
      refine ph_iload_n (pc := 2) C d_J_loseLateItems_2 rfl ?_
      refine ph_aload_n (pc := 3) C d_J_loseLateItems_3 rfl ?_
      refine gt_J_25 (pc := 4) C d_J_loseLateItems_4 (hI.live (g := 0) (i := 0) rfl) hI.ob (z := S1 0 0 3) (hI.dat rfl rfl) ?_
      refine ph_icmp_gt (pc := 7) (tgt := 60) C d_J_loseLateItems_7 (by decide) (by first | omega | (have := hV.i (show LC S1 2 i by simp only [LC]; omega); have := hV.s hs; omega)) (by first | omega | (have := hV.i (show LC S1 2 i by simp only [LC]; omega); have := hV.s hs; omega)) (fun c7 => ?_) (fun c7 => ?_)
      · exfalso; omega
      · refine ph_aload_n (pc := 10) C d_J_loseLateItems_10 rfl ?_
        refine ph_iload_n (pc := 11) C d_J_loseLateItems_11 rfl ?_
        refine ph_iload_n (pc := 12) C d_J_loseLateItems_12 rfl ?_
        refine ph_callV (pc := 13) (rest := []) C d_J_loseLateItems_13 (c_J_isAwaited l D dT A KX L ad τ S1 o hI hV i s0 (show LC S1 2 i by simp only [LC]; omega) hs) (cwV 2 C.hts (gdV tw_230 tw_232 se_11 tw_1 tw_233) rfl rfl rfl ⟨rfl, by decide, by decide, by decide⟩ ⟨by decide, by decide⟩) (hI.live (g := 0) (i := 0) rfl) hI.ob rfl rfl rfl rfl rfl (Nat.le_of_ble_eq_true rfl) ⟨by show _ + _ ≤ (60 : Nat); omega, by show _ + _ ≤ (420 : Nat); omega⟩ ?_
        rintro r1 L1 ad1 τ1 ⟨g1, g2, g3, g4⟩; obtain rfl := g1.symm; obtain rfl := g2.symm; obtain rfl := g3.symm; subst g4
        refine ph_bif_eq (pc := 16) (tgt := 54) C d_J_loseLateItems_16 (by decide) (fun c16 => ?_) (fun c16 => ?_)
        · refine ph_iinc (pc := 54) C d_J_loseLateItems_54 rfl rfl ?_
          refine ph_goto (pc := 57) (tgt := 2) C d_J_loseLateItems_57 (by decide) ?_
          refine ph_loc (l2 := [(0, .ref (o)), (1, .int (ph_i ((s0 : Int)))), (2, .int (ph_i (((i + 1 : Nat) : Int))))]) ⟨rfl, rfl, rfl, trivial⟩ ?_
          exact ih (i + 1) S1 L ad τ cs sl hI hV hF hs (by omega) (by omega) h2 (by omega) (by omega) (by rw [← h3, lsF_s, lostS_f (fun q => by first | exact absurd q.1 (by assumption) | (have := q.2; unfold due at this; omega))])
        · refine ph_aload_n (pc := 19) C d_J_loseLateItems_19 rfl ?_
          refine gt_J_54 (pc := 20) C d_J_loseLateItems_20 (hI.live (g := 0) (i := 0) rfl) hI.ob (z := S1 0 0 11) (hI.dat rfl rfl) ?_
          refine ph_aload_n (pc := 23) C d_J_loseLateItems_23 rfl ?_
          refine ph_iload_n (pc := 24) C d_J_loseLateItems_24 rfl ?_
          refine ph_iload_n (pc := 25) C d_J_loseLateItems_25 rfl ?_
          refine ph_callV (pc := 26) (rest := [.long (ph_l (S1 0 0 11))]) C d_J_loseLateItems_26 (c_J_dueAt l D dT A KX L ad τ S1 o hI hV i s0 (show LC S1 2 i by simp only [LC]; omega) hs) (cwV 2 C.hts (gdV tw_234 tw_236 se_12 tw_1 tw_237) rfl rfl rfl ⟨rfl, by decide, by decide, by decide⟩ ⟨by decide, by decide⟩) (hI.live (g := 0) (i := 0) rfl) hI.ob rfl rfl rfl rfl rfl (Nat.le_of_ble_eq_true rfl) ⟨by show _ + _ ≤ (60 : Nat); omega, by show _ + _ ≤ (420 : Nat); omega⟩ ?_
          rintro r1 L1 ad1 τ1 ⟨g1, g2, g3, g4⟩; obtain rfl := g1.symm; obtain rfl := g2.symm; obtain rfl := g3.symm; subst g4
          refine ph_lsub (pc := 29) C d_J_loseLateItems_29 ?_
          refine ph_ldc2 (pc := 30) C d_J_loseLateItems_30 (15) (by decide) tw_238 ?_
          refine ph_l_le (pc := 33) (tgt := 54) C d_J_loseLateItems_33 d_J_loseLateItems_34 (by decide) (by first | omega | (have := hV.i (show LC S1 2 i by simp only [LC]; omega); have := hV.s hs; omega)) (by first | omega | (have := hV.i (show LC S1 2 i by simp only [LC]; omega); have := hV.s hs; omega)) (fun c33 => ?_) (fun c33 => ?_)
          · refine ph_iinc (pc := 54) C d_J_loseLateItems_54 rfl rfl ?_
            refine ph_goto (pc := 57) (tgt := 2) C d_J_loseLateItems_57 (by decide) ?_
            refine ph_loc (l2 := [(0, .ref (o)), (1, .int (ph_i ((s0 : Int)))), (2, .int (ph_i (((i + 1 : Nat) : Int))))]) ⟨rfl, rfl, rfl, trivial⟩ ?_
            exact ih (i + 1) S1 L ad τ cs sl hI hV hF hs (by omega) (by omega) h2 (by omega) (by omega) (by rw [← h3, lsF_s, lostS_f (fun q => by first | exact absurd q.1 (by assumption) | (have := q.2; unfold due at this; omega))])
          · refine ph_aload_n (pc := 37) C d_J_loseLateItems_37 rfl ?_
            refine ph_iconst (pc := 38) C d_J_loseLateItems_38 ?_
            refine ph_iload_n (pc := 39) C d_J_loseLateItems_39 rfl ?_
            have hVo := hV
            refine ph_callV (pc := 40) (rest := []) C d_J_loseLateItems_40 (c_J_tell l D dT A KX L ad τ S1 o hI hV hF 2 (by omega) s0 hs) (cwV 2 C.hts (gdV tw_168 tw_170 se_6 tw_1 tw_171) rfl rfl rfl ⟨rfl, by decide, by decide, by decide⟩ ⟨by decide, by decide⟩) (hI.live (g := 0) (i := 0) rfl) hI.ob rfl rfl rfl rfl rfl (Nat.le_of_ble_eq_true rfl) ⟨by show _ + _ ≤ (60 : Nat); omega, by show _ + _ ≤ (420 : Nat); omega⟩ ?_
            rintro r1 L ad τ ⟨hI, hF, g4⟩; subst g4
            change JR (tellS S1 2 (s0 : Int) ((dbm S1 s0 : Nat) : Int)) o L ad τ at hI; change JF (tellS S1 2 (s0 : Int) ((dbm S1 s0 : Nat) : Int)) L at hF
            obtain ⟨S2, e_S2⟩ : ∃ z, z = tellS S1 2 (s0 : Int) ((dbm S1 s0 : Nat) : Int) := ⟨_, rfl⟩
            rw [← e_S2] at hI hF
            have hV : IV S2 := by rw [e_S2]; exact hV.tellS (by omega) (by have := hs; simp only [LC] at this; omega) (by have := dbm_lt hV s0; omega)
            have hc := hV.c
            have hi2 : LC S2 2 i := by rw [e_S2]; exact (tellS_L (by decide)).mpr (by simp only [LC]; omega)
            have hs : LC S2 1 s0 := by rw [e_S2]; exact (tellS_L (by decide)).mpr hs
            have htv := tellv_r hVo
            refine ph_istore_n (pc := 43) C d_J_loseLateItems_43 (by decide) rfl ?_
            refine ph_aload_n (pc := 44) C d_J_loseLateItems_44 rfl ?_
            refine gt_J_21 (pc := 45) C d_J_loseLateItems_45 (hI.live (g := 0) (i := 0) rfl) hI.ob hI.r2 ?_
            refine ph_iload_n (pc := 48) C d_J_loseLateItems_48 rfl ?_
            refine ph_aald (pc := 49) (t := 1) C d_J_loseLateItems_49 (hI.live (g := 5) (i := 0) rfl) rfl rfl rfl i rfl (by have := hi2; simp only [LC] at this; omega) (by decide) (ph_vr (hI.e5 hi2)) ?_
            refine ph_iload_n (pc := 50) C d_J_loseLateItems_50 rfl ?_
            refine ph_callV (pc := 51) (rest := []) C d_J_loseLateItems_51 (c_I_takeOffBelt l D dT A KX L ad τ i (ad 2 i) (hI.live hi2) rfl (S2 2 i 5) (hI.dat hi2 rfl) (by have := hV.i hi2; omega) (tellv S1)) (cwV 1 C.hts (gdV tw_239 tw_240 tw_241 tw_4 tw_242) rfl rfl rfl ⟨rfl, by decide, by decide, by decide⟩ ⟨by decide, by decide⟩) (hI.live hi2) rfl rfl rfl rfl rfl rfl (Nat.le_of_ble_eq_true rfl) ⟨by show _ + _ ≤ (60 : Nat); omega, by show _ + _ ≤ (420 : Nat); omega⟩ ?_
            rintro r1 L1 ad1 τ2 ⟨g1, g2, g3, g4⟩; obtain rfl := g1.symm; obtain rfl := g2.symm; subst g4
            have hI := hI.take i (tellv S1)
            rw [← g3] at hI
            clear g3
            obtain ⟨τ, rfl⟩ : ∃ z, z = τ2 := ⟨_, rfl⟩
            obtain ⟨S3, e_S3⟩ : ∃ z, z = takeS S2 i (tellv S1) := ⟨_, rfl⟩
            rw [← e_S3] at hI
            have hV : IV S3 := by rw [e_S3]; exact hV.takeS htv
            have hc := hV.c
            have hF : JF S3 L := fun g j q1 q2 => by rw [e_S3]; exact (LC_eq (takeS_g (by decide)) (takeS_g (by decide)) (takeS_g (by decide)) g j).mpr (hF g j q1 q2)
            have hs : LC S3 1 s0 := by rw [e_S3]; exact (LC_eq (takeS_g (by decide)) (takeS_g (by decide)) (takeS_g (by decide)) 1 s0).mpr hs
            refine ph_iinc (pc := 54) C d_J_loseLateItems_54 rfl rfl ?_
            refine ph_goto (pc := 57) (tgt := 2) C d_J_loseLateItems_57 (by decide) ?_
            refine ph_loc (l2 := [(0, .ref (o)), (1, .int (ph_i ((s0 : Int)))), (2, .int (ph_i (((i + 1 : Nat) : Int))))]) ⟨rfl, rfl, rfl, trivial⟩ ?_
            exact ih (i + 1) S3 L ad τ (cs + 1) (sl + 7) hI hV hF hs (by omega) (by omega) (by rw [e_S3, takeS_g (by decide), e_S2, tellS_0 (by decide)]; exact h2) (by omega) (by omega) (by rw [e_S3, e_S2, ← h3, lsF_s, lostS_t ⟨by assumption, by unfold due; omega⟩])
  refine ph_iconst (pc := 0) C d_J_loseLateItems_0 ?_
  refine ph_istore_n (pc := 1) C d_J_loseLateItems_1 (by decide) rfl ?_
  refine ph_loc (l2 := [(0, .ref (o)), (1, .int (ph_i ((s0 : Int)))), (2, .int (ph_i (((1 : Nat) : Int))))]) ⟨rfl, rfl, rfl, trivial⟩ ?_
  exact loop (S 0 0 3).toNat 1 S L ad τ 0 0 hI hV hF hs (by omega) (by omega) rfl (by omega) (by omega) rfl
