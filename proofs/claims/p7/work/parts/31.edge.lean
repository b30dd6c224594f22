/-! ===== an edge ===== -/
set_option maxHeartbeats 4000000 in
set_option maxRecDepth 100000 in
theorem c_J_becomeDark (l : Launch) (D : va_G) (dT : Nat → ClassId) (A : Nat → Prop) (KX : State → Prop) (L : Nat → Nat → Prop) (ad : Nat → Nat → Nat) (τ : ph_T) (S : ph_T) (o : Nat) (hI : JR S o L ad τ) (hV : IV S) (hF : JF S L) (s0 : Nat) (hs : LC S 1 s0) : ph_M l y_J_becomeDark (.code y_J_becomeDark b_J_becomeDark 3 none :: TB) ({ frames := 5, cells := 61, slots := 427, locals := 115 } : Room) D CLs (TY dT) dT kd A KX [.ref (o), .int (ph_i ((s0 : Int)))] L ad τ (fun r L' ad' τ' => JR (bdS S s0) o L' ad' τ' ∧ JF (bdS S s0) L' ∧ r = none) 61 427 := by
  refine ph_M.of (cc := b_J_becomeDark) (maxL := 3) (ret := none) (by decide) rfl (Nat.le_of_ble_eq_true rfl) ?_
  intro p e s m below meth c C0 hr hlk hnm
  have C := C0.sub
  refine ph_loc (l2 := [(0, .ref (o)), (1, .int (ph_i ((s0 : Int))))]) ⟨rfl, rfl, trivial⟩ ?_
  have hc := hV.c
  refine ph_aload_n (pc := 0) C d_J_becomeDark_0 rfl ?_
  refine gt_J_11 (pc := 1) C d_J_becomeDark_1 (hI.live (g := 0) (i := 0) rfl) hI.ob hI.r0 ?_
  refine ph_iload_n (pc := 4) C d_J_becomeDark_4 rfl ?_
  refine ph_aald (pc := 5) (t := 0) C d_J_becomeDark_5 (hI.live (g := 4) (i := 0) rfl) rfl rfl rfl s0 rfl (by have := hs; simp only [LC] at this; omega) (by decide) (ph_vr (hI.e4 hs)) ?_
  refine ph_dup (pc := 6) C d_J_becomeDark_6 rfl ?_
  refine gt_J_166 (pc := 7) C d_J_becomeDark_7 (hI.live hs) rfl (z := S 1 s0 1) (hI.dat hs rfl) ?_
  refine ph_iconst (pc := 10) C d_J_becomeDark_10 ?_
  refine ph_iadd (pc := 11) C d_J_becomeDark_11 ?_
  refine pt_J_166 (pc := 12) C d_J_becomeDark_12 (hI.live hs) rfl ?_
  have hI := hI.put (g := 1) (i := s0) (k := 1) ((S 1 s0 1) + (1)) rfl (by omega)
  generalize ph_up τ 1 s0 1 ((S 1 s0 1) + (1)) = τ at hI ⊢
  refine ph_aload_n (pc := 15) C d_J_becomeDark_15 rfl ?_
  refine ph_iload_n (pc := 16) C d_J_becomeDark_16 rfl ?_
  refine ph_callV (pc := 17) (rest := []) C d_J_becomeDark_17 (c_J_loseLateItems l D dT A KX L ad τ (ph_up S 1 s0 1 ((S 1 s0 1) + (1))) o hI (hV.upS (i := s0) (k := 1) (z := (S 1 s0 1) + (1)) (by omega) (by omega) (by omega) (by omega) (by omega)) (fun g j q1 q2 => (LC_upn (by decide) g j).mpr (hF g j q1 q2)) s0 ((LC_upn (by decide) 1 s0).mpr hs)) (cwV 1 C.hts (gdV tw_226 tw_228 se_10 tw_1 tw_229) rfl rfl rfl ⟨rfl, by decide, by decide, by decide⟩ ⟨by decide, by decide⟩) (hI.live (g := 0) (i := 0) rfl) hI.ob rfl rfl rfl rfl rfl (Nat.le_of_ble_eq_true rfl) ⟨by decide, by decide⟩ ?_
  rintro r1 L ad τ ⟨hI, hF, g4⟩; subst g4
  change JR (dkA S s0) o L ad τ at hI; change JF (dkA S s0) L at hF
  obtain ⟨S2, e_S2⟩ : ∃ z, z = dkA S s0 := ⟨_, rfl⟩
  rw [← e_S2] at hI hF
  have hV : IV S2 := by rw [e_S2]; exact hV.dkA hs
  have hc := hV.c
  have hs : LC S2 1 s0 := LC1 (by rw [e_S2]; exact dkA_0 (by decide)) hs
  have hlu := lu_le hV s0
  refine ph_aload_n (pc := 20) C d_J_becomeDark_20 rfl ?_
  refine ph_iload_n (pc := 21) C d_J_becomeDark_21 rfl ?_
  refine ph_callV (pc := 22) (rest := []) C d_J_becomeDark_22 (c_J_leastUnseen l D dT A KX L ad τ S2 o hI hV s0 hs) (cwV 1 C.hts (gdV tw_243 tw_245 se_13 tw_1 tw_246) rfl rfl rfl ⟨rfl, by decide, by decide, by decide⟩ ⟨by decide, by decide⟩) (hI.live (g := 0) (i := 0) rfl) hI.ob rfl rfl rfl rfl rfl (Nat.le_of_ble_eq_true rfl) ⟨by decide, by decide⟩ ?_
  rintro r1 L1 ad1 τ1 ⟨g1, g2, g3, g4⟩; obtain rfl := g1.symm; obtain rfl := g2.symm; obtain rfl := g3.symm; subst g4
  refine ph_istore_n (pc := 25) C d_J_becomeDark_25 (by decide) rfl ?_
  refine ph_aload_n (pc := 26) C d_J_becomeDark_26 rfl ?_
  refine ph_iload_n (pc := 27) C d_J_becomeDark_27 rfl ?_
  refine ph_iload_n (pc := 28) C d_J_becomeDark_28 rfl ?_
  refine ph_callV (pc := 29) (rest := []) C d_J_becomeDark_29 (c_J_isComing l D dT A KX L ad τ S2 o hI hV ((lu S2 s0 : Nat) : Int) (by omega) s0 hs) (cwV 2 C.hts (gdV tw_247 tw_249 se_14 tw_1 tw_250) rfl rfl rfl ⟨rfl, by decide, by decide, by decide⟩ ⟨by decide, by decide⟩) (hI.live (g := 0) (i := 0) rfl) hI.ob rfl rfl rfl rfl rfl (Nat.le_of_ble_eq_true rfl) ⟨by decide, by decide⟩ ?_
  rintro r1 L1 ad1 τ1 ⟨g1, g2, g3, g4⟩; obtain rfl := g1.symm; obtain rfl := g2.symm; obtain rfl := g3.symm; subst g4
  refine ph_bif_eq (pc := 32) (tgt := 62) C d_J_becomeDark_32 (by decide) (fun c32 => ?_) (fun c32 => ?_)
  · refine ph_aload_n (pc := 62) C d_J_becomeDark_62 rfl ?_
    refine ph_iconst (pc := 63) C d_J_becomeDark_63 ?_
    refine ph_iload_n (pc := 64) C d_J_becomeDark_64 rfl ?_
    have hVo := hV
    refine ph_callV (pc := 65) (rest := []) C d_J_becomeDark_65 (c_J_tell l D dT A KX L ad τ S2 o hI hV hF 1 (by omega) s0 hs) (cwV 2 C.hts (gdV tw_168 tw_170 se_6 tw_1 tw_171) rfl rfl rfl ⟨rfl, by decide, by decide, by decide⟩ ⟨by decide, by decide⟩) (hI.live (g := 0) (i := 0) rfl) hI.ob rfl rfl rfl rfl rfl (Nat.le_of_ble_eq_true rfl) ⟨by decide, by decide⟩ ?_
    rintro r1 L ad τ ⟨hI, hF, g4⟩; subst g4
    change JR (tellS S2 1 (s0 : Int) ((dbm S2 s0 : Nat) : Int)) o L ad τ at hI; change JF (tellS S2 1 (s0 : Int) ((dbm S2 s0 : Nat) : Int)) L at hF
    obtain ⟨S5, e_S5⟩ : ∃ z, z = tellS S2 1 (s0 : Int) ((dbm S2 s0 : Nat) : Int) := ⟨_, rfl⟩
    rw [← e_S5] at hI hF
    have hV : IV S5 := by rw [e_S5]; exact hV.tellS (by omega) (by have := hs; simp only [LC] at this; omega) (by have := dbm_lt hV s0; omega)
    have hc := hV.c
    have htv := tellv_r hVo
    have hs : LC S5 1 s0 := by rw [e_S5]; exact (tellS_L (by decide)).mpr hs
    have hlu : 0 ≤ (0 : Int) ∧ (0 : Int) ≤ S5 0 0 3 := by omega
    refine ph_pop (pc := 68) C d_J_becomeDark_68 rfl ?_
    refine ph_aload_n (pc := 69) C d_J_becomeDark_69 rfl ?_
    refine gt_J_11 (pc := 70) C d_J_becomeDark_70 (hI.live (g := 0) (i := 0) rfl) hI.ob hI.r0 ?_
    refine ph_iload_n (pc := 73) C d_J_becomeDark_73 rfl ?_
    refine ph_aald (pc := 74) (t := 0) C d_J_becomeDark_74 (hI.live (g := 4) (i := 0) rfl) rfl rfl rfl s0 rfl (by have := hs; simp only [LC] at this; omega) (by decide) (ph_vr (hI.e4 hs)) ?_
    refine ph_iconst (pc := 75) C d_J_becomeDark_75 ?_
    refine ph_aload_n (pc := 76) C d_J_becomeDark_76 rfl ?_
    refine gt_J_54 (pc := 77) C d_J_becomeDark_77 (hI.live (g := 0) (i := 0) rfl) hI.ob (z := S5 0 0 11) (hI.dat rfl rfl) ?_
    refine ph_callV (pc := 80) (rest := []) C d_J_becomeDark_80 (c_S_darken l D dT A KX L ad τ s0 (ad 1 s0) (hI.live hs) rfl (0) (S5 0 0 11)) (cwV 2 C.hts (gdV tw_255 tw_256 tw_257 tw_3 tw_258) rfl rfl rfl ⟨rfl, by decide, by decide, by decide⟩ ⟨by decide, by decide⟩) (hI.live hs) rfl rfl rfl rfl rfl rfl (Nat.le_of_ble_eq_true rfl) ⟨by decide, by decide⟩ ?_
    rintro r1 L1 ad1 τ2 ⟨g1, g2, g3, g4⟩; obtain rfl := g1.symm; obtain rfl := g2.symm; subst g4
    have hI := hI.dark s0 (0) (S5 0 0 11)
    rw [← g3] at hI
    clear g3
    obtain ⟨τ, rfl⟩ : ∃ z, z = τ2 := ⟨_, rfl⟩
    obtain ⟨S6, e_S6⟩ : ∃ z, z = darkS S5 s0 (0) (S5 0 0 11) := ⟨_, rfl⟩
    rw [← e_S6] at hI
    have hV : IV S6 := by rw [e_S6]; exact hV.darkS (by have := hlu; omega) (by omega)
    have hc := hV.c
    have hF : JF S6 L := fun g j q1 q2 => by rw [e_S6]; exact (LC_eq (darkS_g (by decide)) (darkS_g (by decide)) (darkS_g (by decide)) g j).mpr (hF g j q1 q2)
    exact ph_vret (pc := 83) C d_J_becomeDark_83 hr hlk (by omega) (by omega) ⟨(by rw [bdS, ← e_S2, dkB_f (by assumption), dkN, ← e_S5, ← e_S6]; exact hI), (by rw [bdS, ← e_S2, dkB_f (by assumption), dkN, ← e_S5, ← e_S6]; exact hF), rfl⟩
  · have hl2 : LC S2 2 (lu S2 s0) := by have := c32.1; simp only [LC]; omega
    refine ph_aload_n (pc := 35) C d_J_becomeDark_35 rfl ?_
    refine gt_J_21 (pc := 36) C d_J_becomeDark_36 (hI.live (g := 0) (i := 0) rfl) hI.ob hI.r2 ?_
    refine ph_iload_n (pc := 39) C d_J_becomeDark_39 rfl ?_
    refine ph_aald (pc := 40) (t := 1) C d_J_becomeDark_40 (hI.live (g := 5) (i := 0) rfl) rfl rfl rfl (lu S2 s0) rfl (by have := hl2; simp only [LC] at this; omega) (by decide) (ph_vr (hI.e5 hl2)) ?_
    refine ph_iload_n (pc := 41) C d_J_becomeDark_41 rfl ?_
    refine ph_callV (pc := 42) (rest := []) C d_J_becomeDark_42 (c_I_beSeenBy l D dT A KX L ad τ (lu S2 s0) (ad 2 (lu S2 s0)) (hI.live hl2) rfl (S2 2 (lu S2 s0) 6).toNat s0 (by rw [hI.dat hl2 rfl]; have := hV.i hl2; omega) (by have := hV.i hl2; omega) (by have := hs; simp only [LC] at this; omega)) (cwV 1 C.hts (gdV tw_251 tw_252 tw_253 tw_4 tw_254) rfl rfl rfl ⟨rfl, by decide, by decide, by decide⟩ ⟨by decide, by decide⟩) (hI.live hl2) rfl rfl rfl rfl rfl rfl (Nat.le_of_ble_eq_true rfl) ⟨by decide, by decide⟩ ?_
    rintro r1 L1 ad1 τ2 ⟨g1, g2, g3, g4⟩; obtain rfl := g1.symm; obtain rfl := g2.symm; subst g4
    have hI := hI.see (lu S2 s0) s0
    rw [← g3] at hI
    clear g3
    obtain ⟨τ, rfl⟩ : ∃ z, z = τ2 := ⟨_, rfl⟩
    obtain ⟨S3, e_S3⟩ : ∃ z, z = seeS S2 (lu S2 s0) s0 := ⟨_, rfl⟩
    rw [← e_S3] at hI
    have hV : IV S3 := by rw [e_S3]; exact hV.seeS hl2 (by have := hs; simp only [LC] at this; omega)
    have hc := hV.c
    have hF : JF S3 L := fun g j q1 q2 => by rw [e_S3]; exact (LC_eq (seeS_g (by decide)) (seeS_g (by decide)) (seeS_g (by decide)) g j).mpr (hF g j q1 q2)
    have hs : LC S3 1 s0 := by rw [e_S3]; exact (LC_eq (seeS_g (by decide)) (seeS_g (by decide)) (seeS_g (by decide)) 1 s0).mpr hs
    have hlu : 0 ≤ ((lu S2 s0 : Nat) : Int) ∧ ((lu S2 s0 : Nat) : Int) ≤ S3 0 0 3 := by rw [e_S3, seeS_g (by decide)]; omega
    refine ph_aload_n (pc := 45) C d_J_becomeDark_45 rfl ?_
    refine gt_J_11 (pc := 46) C d_J_becomeDark_46 (hI.live (g := 0) (i := 0) rfl) hI.ob hI.r0 ?_
    refine ph_iload_n (pc := 49) C d_J_becomeDark_49 rfl ?_
    refine ph_aald (pc := 50) (t := 0) C d_J_becomeDark_50 (hI.live (g := 4) (i := 0) rfl) rfl rfl rfl s0 rfl (by have := hs; simp only [LC] at this; omega) (by decide) (ph_vr (hI.e4 hs)) ?_
    refine ph_iload_n (pc := 51) C d_J_becomeDark_51 rfl ?_
    refine ph_aload_n (pc := 52) C d_J_becomeDark_52 rfl ?_
    refine gt_J_54 (pc := 53) C d_J_becomeDark_53 (hI.live (g := 0) (i := 0) rfl) hI.ob (z := S3 0 0 11) (hI.dat rfl rfl) ?_
    refine ph_callV (pc := 56) (rest := []) C d_J_becomeDark_56 (c_S_darken l D dT A KX L ad τ s0 (ad 1 s0) (hI.live hs) rfl (((lu S2 s0 : Nat) : Int)) (S3 0 0 11)) (cwV 2 C.hts (gdV tw_255 tw_256 tw_257 tw_3 tw_258) rfl rfl rfl ⟨rfl, by decide, by decide, by decide⟩ ⟨by decide, by decide⟩) (hI.live hs) rfl rfl rfl rfl rfl rfl (Nat.le_of_ble_eq_true rfl) ⟨by decide, by decide⟩ ?_
    rintro r1 L1 ad1 τ2 ⟨g1, g2, g3, g4⟩; obtain rfl := g1.symm; obtain rfl := g2.symm; subst g4
    have hI := hI.dark s0 (((lu S2 s0 : Nat) : Int)) (S3 0 0 11)
    rw [← g3] at hI
    clear g3
    obtain ⟨τ, rfl⟩ : ∃ z, z = τ2 := ⟨_, rfl⟩
    obtain ⟨S4, e_S4⟩ : ∃ z, z = darkS S3 s0 (((lu S2 s0 : Nat) : Int)) (S3 0 0 11) := ⟨_, rfl⟩
    rw [← e_S4] at hI
    have hV : IV S4 := by rw [e_S4]; exact hV.darkS (by have := hlu; omega) (by omega)
    have hc := hV.c
    have hF : JF S4 L := fun g j q1 q2 => by rw [e_S4]; exact (LC_eq (darkS_g (by decide)) (darkS_g (by decide)) (darkS_g (by decide)) g j).mpr (hF g j q1 q2)
    refine ph_goto (pc := 59) (tgt := 83) C d_J_becomeDark_59 (by decide) ?_
    exact ph_vret (pc := 83) C d_J_becomeDark_83 hr hlk (by omega) (by omega) ⟨(by rw [bdS, ← e_S2, dkB_t (by assumption), dkT, ← e_S3, ← e_S4]; exact hI), (by rw [bdS, ← e_S2, dkB_t (by assumption), dkT, ← e_S3, ← e_S4]; exact hF), rfl⟩
set_option maxHeartbeats 4000000 in
set_option maxRecDepth 100000 in
theorem c_J_judgeLength (l : Launch) (D : va_G) (dT : Nat → ClassId) (A : Nat → Prop) (KX : State → Prop) (L : Nat → Nat → Prop) (ad : Nat → Nat → Nat) (τ : ph_T) (S : ph_T) (o : Nat) (hI : JR S o L ad τ) (hV : IV S) (hF : JF S L) (s0 i : Nat) (hs : LC S 1 s0) (hi : LC S 2 i) : ph_M l y_J_judgeLength (.code y_J_judgeLength b_J_judgeLength 7 none :: TB) ({ frames := 4, cells := 1, slots := 7, locals := 92 } : Room) D CLs (TY dT) dT kd A KX [.ref (o), .int (ph_i ((s0 : Int))), .int (ph_i ((i : Int)))] L ad τ (fun r L' ad' τ' => JR (judgeS S s0 i) o L' ad' τ' ∧ JF (judgeS S s0 i) L' ∧ r = none) 1 7 := by
  refine ph_M.of (cc := b_J_judgeLength) (maxL := 7) (ret := none) (by decide) rfl (Nat.le_of_ble_eq_true rfl) ?_
  intro p e s m below meth c C0 hr hlk hnm
  have C := C0.sub
  refine ph_loc (l2 := [(0, .ref (o)), (1, .int (ph_i ((s0 : Int)))), (2, .int (ph_i ((i : Int))))]) ⟨rfl, rfl, rfl, trivial⟩ ?_
  have hc := hV.c
  have hs9 := hV.s hs
  have hi9 := hV.i hi
  refine ph_aload_n (pc := 0) C d_J_judgeLength_0 rfl ?_
  refine gt_J_54 (pc := 1) C d_J_judgeLength_1 (hI.live (g := 0) (i := 0) rfl) hI.ob (z := S 0 0 11) (hI.dat rfl rfl) ?_
  refine ph_aload_n (pc := 4) C d_J_judgeLength_4 rfl ?_
  refine gt_J_11 (pc := 5) C d_J_judgeLength_5 (hI.live (g := 0) (i := 0) rfl) hI.ob hI.r0 ?_
  refine ph_iload_n (pc := 8) C d_J_judgeLength_8 rfl ?_
  refine ph_aald (pc := 9) (t := 0) C d_J_judgeLength_9 (hI.live (g := 4) (i := 0) rfl) rfl rfl rfl s0 rfl (by have := hs; simp only [LC] at this; omega) (by decide) (ph_vr (hI.e4 hs)) ?_
  refine gt_J_185 (pc := 10) C d_J_judgeLength_10 (hI.live hs) rfl (z := S 1 s0 4) (hI.dat hs rfl) ?_
  refine ph_lsub (pc := 13) C d_J_judgeLength_13 ?_
  refine ph_aload_n (pc := 14) C d_J_judgeLength_14 rfl ?_
  refine gt_J_21 (pc := 15) C d_J_judgeLength_15 (hI.live (g := 0) (i := 0) rfl) hI.ob hI.r2 ?_
  refine ph_iload_n (pc := 18) C d_J_judgeLength_18 rfl ?_
  refine ph_aald (pc := 19) (t := 1) C d_J_judgeLength_19 (hI.live (g := 5) (i := 0) rfl) rfl rfl rfl i rfl (by have := hi; simp only [LC] at this; omega) (by decide) (ph_vr (hI.e5 hi)) ?_
  refine gt_J_177 (pc := 20) C d_J_judgeLength_20 (hI.live hi) rfl (z := S 2 i 0) (hI.dat hi rfl) ?_
  refine ph_lsub (pc := 23) C d_J_judgeLength_23 ?_
  refine ph_lstore_n (pc := 24) C d_J_judgeLength_24 (by decide) rfl ?_
  refine ph_lload_n (pc := 25) C d_J_judgeLength_25 rfl ?_
  refine ph_ldc2 (pc := 26) C d_J_judgeLength_26 (15) (by decide) tw_238 ?_
  refine ph_l_le (pc := 29) (tgt := 84) C d_J_judgeLength_29 d_J_judgeLength_30 (by decide) (by omega) (by omega) (fun c29 => ?_) (fun c29 => ?_)
  · refine ph_lload_n (pc := 84) C d_J_judgeLength_84 rfl ?_
    refine ph_ldc2 (pc := 85) C d_J_judgeLength_85 (-15) (by decide) tw_267 ?_
    refine ph_l_ge (pc := 88) (tgt := 99) C d_J_judgeLength_88 d_J_judgeLength_89 (by decide) (by omega) (by omega) (fun c88 => ?_) (fun c88 => ?_)
    · exact ph_vret (pc := 99) C d_J_judgeLength_99 hr hlk (by omega) (by omega) ⟨(by rw [judgeS, if_neg (by unfold longer; omega), if_neg (by unfold longer; omega)]; exact hI), (by rw [judgeS, if_neg (by unfold longer; omega), if_neg (by unfold longer; omega)]; exact hF), rfl⟩
    · refine ph_aload_n (pc := 92) C d_J_judgeLength_92 rfl ?_
      refine ph_iconst (pc := 93) C d_J_judgeLength_93 ?_
      refine ph_iload_n (pc := 94) C d_J_judgeLength_94 rfl ?_
      have hVo := hV
      refine ph_callV (pc := 95) (rest := []) C d_J_judgeLength_95 (c_J_tell l D dT A KX L ad τ S o hI hV hF 4 (by omega) s0 hs) (cwV 2 C.hts (gdV tw_168 tw_170 se_6 tw_1 tw_171) rfl rfl rfl ⟨rfl, by decide, by decide, by decide⟩ ⟨by decide, by decide⟩) (hI.live (g := 0) (i := 0) rfl) hI.ob rfl rfl rfl rfl rfl (Nat.le_of_ble_eq_true rfl) ⟨by decide, by decide⟩ ?_
      rintro r1 L ad τ ⟨hI, hF, g4⟩; subst g4
      change JR (tellS S 4 (s0 : Int) ((dbm S s0 : Nat) : Int)) o L ad τ at hI; change JF (tellS S 4 (s0 : Int) ((dbm S s0 : Nat) : Int)) L at hF
      obtain ⟨S5, e_S5⟩ : ∃ z, z = tellS S 4 (s0 : Int) ((dbm S s0 : Nat) : Int) := ⟨_, rfl⟩
      rw [← e_S5] at hI hF
      have hV : IV S5 := by rw [e_S5]; exact hV.tellS (by omega) (by have := hs; simp only [LC] at this; omega) (by have := dbm_lt hV s0; omega)
      have hc := hV.c
      have htv := tellv_r hVo
      have hs : LC S5 1 s0 := by rw [e_S5]; exact (tellS_L (by decide)).mpr hs
      refine ph_pop (pc := 98) C d_J_judgeLength_98 rfl ?_
      exact ph_vret (pc := 99) C d_J_judgeLength_99 hr hlk (by omega) (by omega) ⟨(by rw [judgeS, if_neg (by unfold longer; omega), if_pos (by unfold longer; omega), ← e_S5]; exact hI), (by rw [judgeS, if_neg (by unfold longer; omega), if_pos (by unfold longer; omega), ← e_S5]; exact hF), rfl⟩
  · refine ph_aload_n (pc := 33) C d_J_judgeLength_33 rfl ?_
    refine ph_iconst (pc := 34) C d_J_judgeLength_34 ?_
    refine ph_iload_n (pc := 35) C d_J_judgeLength_35 rfl ?_
    have hVo := hV
    refine ph_callV (pc := 36) (rest := []) C d_J_judgeLength_36 (c_J_tell l D dT A KX L ad τ S o hI hV hF 3 (by omega) s0 hs) (cwV 2 C.hts (gdV tw_168 tw_170 se_6 tw_1 tw_171) rfl rfl rfl ⟨rfl, by decide, by decide, by decide⟩ ⟨by decide, by decide⟩) (hI.live (g := 0) (i := 0) rfl) hI.ob rfl rfl rfl rfl rfl (Nat.le_of_ble_eq_true rfl) ⟨by decide, by decide⟩ ?_
    rintro r1 L ad τ ⟨hI, hF, g4⟩; subst g4
    change JR (tellS S 3 (s0 : Int) ((dbm S s0 : Nat) : Int)) o L ad τ at hI; change JF (tellS S 3 (s0 : Int) ((dbm S s0 : Nat) : Int)) L at hF
    obtain ⟨S2, e_S2⟩ : ∃ z, z = tellS S 3 (s0 : Int) ((dbm S s0 : Nat) : Int) := ⟨_, rfl⟩
    rw [← e_S2] at hI hF
    have hV : IV S2 := by rw [e_S2]; exact hV.tellS (by omega) (by have := hs; simp only [LC] at this; omega) (by have := dbm_lt hV s0; omega)
    have hc := hV.c
    have htv := tellv_r hVo
    have hs : LC S2 1 s0 := by rw [e_S2]; exact (tellS_L (by decide)).mpr hs
    have hi : LC S2 2 i := by rw [e_S2]; exact (tellS_L (by decide)).mpr hi
    refine ph_istore (pc := 39) C d_J_judgeLength_39 (by decide) rfl ?_
    refine ph_aload_n (pc := 41) C d_J_judgeLength_41 rfl ?_
    refine gt_J_21 (pc := 42) C d_J_judgeLength_42 (hI.live (g := 0) (i := 0) rfl) hI.ob hI.r2 ?_
    refine ph_iload_n (pc := 45) C d_J_judgeLength_45 rfl ?_
    refine ph_aald (pc := 46) (t := 1) C d_J_judgeLength_46 (hI.live (g := 5) (i := 0) rfl) rfl rfl rfl i rfl (by have := hi; simp only [LC] at this; omega) (by decide) (ph_vr (hI.e5 hi)) ?_
    refine ph_iload (pc := 47) C d_J_judgeLength_47 rfl ?_
    refine ph_callV (pc := 49) (rest := []) C d_J_judgeLength_49 (c_I_takeOffBelt l D dT A KX L ad τ i (ad 2 i) (hI.live hi) rfl (S2 2 i 5) (hI.dat hi rfl) (by have := hV.i hi; omega) (tellv S)) (cwV 1 C.hts (gdV tw_239 tw_240 tw_241 tw_4 tw_242) rfl rfl rfl ⟨rfl, by decide, by decide, by decide⟩ ⟨by decide, by decide⟩) (hI.live hi) rfl rfl rfl rfl rfl rfl (Nat.le_of_ble_eq_true rfl) ⟨by decide, by decide⟩ ?_
    rintro r1 L1 ad1 τ2 ⟨g1, g2, g3, g4⟩; obtain rfl := g1.symm; obtain rfl := g2.symm; subst g4
    have hI := hI.take i (tellv S)
    rw [← g3] at hI
    clear g3
    obtain ⟨τ, rfl⟩ : ∃ z, z = τ2 := ⟨_, rfl⟩
    obtain ⟨S3, e_S3⟩ : ∃ z, z = takeS S2 i (tellv S) := ⟨_, rfl⟩
    rw [← e_S3] at hI
    have hV : IV S3 := by rw [e_S3]; exact hV.takeS htv
    have hc := hV.c
    have hF : JF S3 L := fun g j q1 q2 => by rw [e_S3]; exact (LC_eq (takeS_g (by decide)) (takeS_g (by decide)) (takeS_g (by decide)) g j).mpr (hF g j q1 q2)
    have hs : LC S3 1 s0 := by rw [e_S3]; exact (LC_eq (takeS_g (by decide)) (takeS_g (by decide)) (takeS_g (by decide)) 1 s0).mpr hs
    have hlu := lu_le hV s0
    refine ph_aload_n (pc := 52) C d_J_judgeLength_52 rfl ?_
    refine ph_iload_n (pc := 53) C d_J_judgeLength_53 rfl ?_
    refine ph_callV (pc := 54) (rest := []) C d_J_judgeLength_54 (c_J_leastUnseen l D dT A KX L ad τ S3 o hI hV s0 hs) (cwV 1 C.hts (gdV tw_243 tw_245 se_13 tw_1 tw_246) rfl rfl rfl ⟨rfl, by decide, by decide, by decide⟩ ⟨by decide, by decide⟩) (hI.live (g := 0) (i := 0) rfl) hI.ob rfl rfl rfl rfl rfl (Nat.le_of_ble_eq_true rfl) ⟨by decide, by decide⟩ ?_
    rintro r1 L1 ad1 τ1 ⟨g1, g2, g3, g4⟩; obtain rfl := g1.symm; obtain rfl := g2.symm; obtain rfl := g3.symm; subst g4
    refine ph_istore (pc := 57) C d_J_judgeLength_57 (by decide) rfl ?_
    refine ph_aload_n (pc := 59) C d_J_judgeLength_59 rfl ?_
    refine ph_iload (pc := 60) C d_J_judgeLength_60 rfl ?_
    refine ph_iload_n (pc := 62) C d_J_judgeLength_62 rfl ?_
    refine ph_callV (pc := 63) (rest := []) C d_J_judgeLength_63 (c_J_isComing l D dT A KX L ad τ S3 o hI hV ((lu S3 s0 : Nat) : Int) (by omega) s0 hs) (cwV 2 C.hts (gdV tw_247 tw_249 se_14 tw_1 tw_250) rfl rfl rfl ⟨rfl, by decide, by decide, by decide⟩ ⟨by decide, by decide⟩) (hI.live (g := 0) (i := 0) rfl) hI.ob rfl rfl rfl rfl rfl (Nat.le_of_ble_eq_true rfl) ⟨by decide, by decide⟩ ?_
    rintro r1 L1 ad1 τ1 ⟨g1, g2, g3, g4⟩; obtain rfl := g1.symm; obtain rfl := g2.symm; obtain rfl := g3.symm; subst g4
    refine ph_bif_eq (pc := 66) (tgt := 81) C d_J_judgeLength_66 (by decide) (fun c66 => ?_) (fun c66 => ?_)
    · refine ph_goto (pc := 81) (tgt := 99) C d_J_judgeLength_81 (by decide) ?_
      exact ph_vret (pc := 99) C d_J_judgeLength_99 hr hlk (by omega) (by omega) ⟨(by rw [judgeS, if_pos (by unfold longer; omega), jlA, ← e_S2, ← e_S3, jlB_f (by assumption)]; exact hI), (by rw [judgeS, if_pos (by unfold longer; omega), jlA, ← e_S2, ← e_S3, jlB_f (by assumption)]; exact hF), rfl⟩
    · have hl3 : LC S3 2 (lu S3 s0) := by have := c66.1; simp only [LC]; omega
      refine ph_aload_n (pc := 69) C d_J_judgeLength_69 rfl ?_
      refine gt_J_21 (pc := 70) C d_J_judgeLength_70 (hI.live (g := 0) (i := 0) rfl) hI.ob hI.r2 ?_
      refine ph_iload (pc := 73) C d_J_judgeLength_73 rfl ?_
      refine ph_aald (pc := 75) (t := 1) C d_J_judgeLength_75 (hI.live (g := 5) (i := 0) rfl) rfl rfl rfl (lu S3 s0) rfl (by have := hl3; simp only [LC] at this; omega) (by decide) (ph_vr (hI.e5 hl3)) ?_
      refine ph_iload (pc := 76) C d_J_judgeLength_76 rfl ?_
      refine ph_callV (pc := 78) (rest := []) C d_J_judgeLength_78 (c_I_takeOffBelt l D dT A KX L ad τ (lu S3 s0) (ad 2 (lu S3 s0)) (hI.live hl3) rfl (S3 2 (lu S3 s0) 5) (hI.dat hl3 rfl) (by have := hV.i hl3; omega) (tellv S)) (cwV 1 C.hts (gdV tw_239 tw_240 tw_241 tw_4 tw_242) rfl rfl rfl ⟨rfl, by decide, by decide, by decide⟩ ⟨by decide, by decide⟩) (hI.live hl3) rfl rfl rfl rfl rfl rfl (Nat.le_of_ble_eq_true rfl) ⟨by decide, by decide⟩ ?_
      rintro r1 L1 ad1 τ2 ⟨g1, g2, g3, g4⟩; obtain rfl := g1.symm; obtain rfl := g2.symm; subst g4
      have hI := hI.take (lu S3 s0) (tellv S)
      rw [← g3] at hI
      clear g3
      obtain ⟨τ, rfl⟩ : ∃ z, z = τ2 := ⟨_, rfl⟩
      obtain ⟨S4, e_S4⟩ : ∃ z, z = takeS S3 (lu S3 s0) (tellv S) := ⟨_, rfl⟩
      rw [← e_S4] at hI
      have hV : IV S4 := by rw [e_S4]; exact hV.takeS htv
      have hc := hV.c
      have hF : JF S4 L := fun g j q1 q2 => by rw [e_S4]; exact (LC_eq (takeS_g (by decide)) (takeS_g (by decide)) (takeS_g (by decide)) g j).mpr (hF g j q1 q2)
      refine ph_goto (pc := 81) (tgt := 99) C d_J_judgeLength_81 (by decide) ?_
      exact ph_vret (pc := 99) C d_J_judgeLength_99 hr hlk (by omega) (by omega) ⟨(by rw [judgeS, if_pos (by unfold longer; omega), jlA, ← e_S2, ← e_S3, jlB_t (by assumption), ← e_S4]; exact hI), (by rw [judgeS, if_pos (by unfold longer; omega), jlA, ← e_S2, ← e_S3, jlB_t (by assumption), ← e_S4]; exact hF), rfl⟩
set_option maxHeartbeats 4000000 in
set_option maxRecDepth 100000 in
theorem c_J_becomeLight (l : Launch) (D : va_G) (dT : Nat → ClassId) (A : Nat → Prop) (KX : State → Prop) (L : Nat → Nat → Prop) (ad : Nat → Nat → Nat) (τ : ph_T) (S : ph_T) (o : Nat) (hI : JR S o L ad τ) (hV : IV S) (hF : JF S L) (s0 : Nat) (hs : LC S 1 s0) : ph_M l y_J_becomeLight (.code y_J_becomeLight b_J_becomeLight 3 none :: TB) ({ frames := 5, cells := 1, slots := 7, locals := 118 } : Room) D CLs (TY dT) dT kd A KX [.ref (o), .int (ph_i ((s0 : Int)))] L ad τ (fun r L' ad' τ' => JR (blS S s0) o L' ad' τ' ∧ JF (blS S s0) L' ∧ r = none) 1 7 := by
  refine ph_M.of (cc := b_J_becomeLight) (maxL := 3) (ret := none) (by decide) rfl (Nat.le_of_ble_eq_true rfl) ?_
  intro p e s m below meth c C0 hr hlk hnm
  have C := C0.sub
  refine ph_loc (l2 := [(0, .ref (o)), (1, .int (ph_i ((s0 : Int))))]) ⟨rfl, rfl, trivial⟩ ?_
  have hc := hV.c
  have hs9 := hV.s hs
  have hs7 := id hs
  simp only [LC] at hs7
  refine ph_aload_n (pc := 0) C d_J_becomeLight_0 rfl ?_
  refine gt_J_11 (pc := 1) C d_J_becomeLight_1 (hI.live (g := 0) (i := 0) rfl) hI.ob hI.r0 ?_
  refine ph_iload_n (pc := 4) C d_J_becomeLight_4 rfl ?_
  refine ph_aald (pc := 5) (t := 0) C d_J_becomeLight_5 (hI.live (g := 4) (i := 0) rfl) rfl rfl rfl s0 rfl (by have := hs; simp only [LC] at this; omega) (by decide) (ph_vr (hI.e4 hs)) ?_
  refine gt_J_194 (pc := 6) C d_J_becomeLight_6 (hI.live hs) rfl (z := S 1 s0 3) (hI.dat hs rfl) ?_
  refine ph_istore_n (pc := 9) C d_J_becomeLight_9 (by decide) rfl ?_
  refine ph_aload_n (pc := 10) C d_J_becomeLight_10 rfl ?_
  refine ph_iload_n (pc := 11) C d_J_becomeLight_11 rfl ?_
  refine ph_callV (pc := 12) (rest := []) C d_J_becomeLight_12 (c_J_isItem l D dT A KX L ad τ S o hI hV (S 1 s0 3) (by omega)) (cwV 1 C.hts (gdV tw_164 tw_166 se_5 tw_1 tw_167) rfl rfl rfl ⟨rfl, by decide, by decide, by decide⟩ ⟨by decide, by decide⟩) (hI.live (g := 0) (i := 0) rfl) hI.ob rfl rfl rfl rfl rfl (Nat.le_of_ble_eq_true rfl) ⟨by decide, by decide⟩ ?_
  rintro r1 L1 ad1 τ1 ⟨g1, g2, g3, g4⟩; obtain rfl := g1.symm; obtain rfl := g2.symm; obtain rfl := g3.symm; subst g4
  refine ph_bif_eq (pc := 15) (tgt := 43) C d_J_becomeLight_15 (by decide) (fun c15 => ?_) (fun c15 => ?_)
  · refine ph_aload_n (pc := 43) C d_J_becomeLight_43 rfl ?_
    refine gt_J_11 (pc := 44) C d_J_becomeLight_44 (hI.live (g := 0) (i := 0) rfl) hI.ob hI.r0 ?_
    refine ph_iload_n (pc := 47) C d_J_becomeLight_47 rfl ?_
    refine ph_aald (pc := 48) (t := 0) C d_J_becomeLight_48 (hI.live (g := 4) (i := 0) rfl) rfl rfl rfl s0 rfl (by have := hs; simp only [LC] at this; omega) (by decide) (ph_vr (hI.e4 hs)) ?_
    refine ph_callV (pc := 49) (rest := []) C d_J_becomeLight_49 (c_S_lighten l D dT A KX L ad τ s0 (ad 1 s0) (hI.live hs) rfl) (cwV 0 C.hts (gdV tw_272 tw_273 tw_274 tw_3 tw_275) rfl rfl rfl ⟨rfl, by decide, by decide, by decide⟩ ⟨by decide, by decide⟩) (hI.live hs) rfl rfl rfl rfl rfl rfl (Nat.le_of_ble_eq_true rfl) ⟨by decide, by decide⟩ ?_
    rintro r1 L1 ad1 τ2 ⟨g1, g2, g3, g4⟩; obtain rfl := g1.symm; obtain rfl := g2.symm; subst g4
    have hI := hI.light s0
    rw [← g3] at hI
    clear g3
    obtain ⟨τ, rfl⟩ : ∃ z, z = τ2 := ⟨_, rfl⟩
    obtain ⟨S6, e_S6⟩ : ∃ z, z = lightS S s0 := ⟨_, rfl⟩
    rw [← e_S6] at hI
    have hV : IV S6 := by rw [e_S6]; exact hV.lightS
    have hc := hV.c
    have hF : JF S6 L := fun g j q1 q2 => by rw [e_S6]; exact (LC_eq (lightS_g (by decide)) (lightS_g (by decide)) (lightS_g (by decide)) g j).mpr (hF g j q1 q2)
    exact ph_vret (pc := 52) C d_J_becomeLight_52 hr hlk (by omega) (by omega) ⟨(by rw [blS, blA, if_neg (by assumption), ← e_S6]; exact hI), (by rw [blS, blA, if_neg (by assumption), ← e_S6]; exact hF), rfl⟩
  · refine ph_aload_n (pc := 18) C d_J_becomeLight_18 rfl ?_
    refine ph_iload_n (pc := 19) C d_J_becomeLight_19 rfl ?_
    refine ph_iload_n (pc := 20) C d_J_becomeLight_20 rfl ?_
    have hi : LC S 2 (S 1 s0 3).toNat := by simp only [LC]; omega
    refine ph_ti (y := (((S 1 s0 3).toNat : Nat) : Int)) (by omega) ?_
    refine ph_callV (pc := 21) (rest := []) C d_J_becomeLight_21 (c_J_judgeLength l D dT A KX L ad τ S o hI hV hF s0 (S 1 s0 3).toNat hs hi) (cwV 2 C.hts (gdV tw_263 tw_265 se_16 tw_1 tw_266) rfl rfl rfl ⟨rfl, by decide, by decide, by decide⟩ ⟨by decide, by decide⟩) (hI.live (g := 0) (i := 0) rfl) hI.ob rfl rfl rfl rfl rfl (Nat.le_of_ble_eq_true rfl) ⟨by decide, by decide⟩ ?_
    rintro r1 L ad τ ⟨hI, hF, g4⟩; subst g4
    change JR (judgeS S s0 (S 1 s0 3).toNat) o L ad τ at hI; change JF (judgeS S s0 (S 1 s0 3).toNat) L at hF
    obtain ⟨S2, e_S2⟩ : ∃ z, z = judgeS S s0 (S 1 s0 3).toNat := ⟨_, rfl⟩
    rw [← e_S2] at hI hF
    have hV : IV S2 := by rw [e_S2]; exact hV.judgeS hs
    have hc := hV.c
    have e1 : S2 0 0 1 = S 0 0 1 := by rw [e_S2]; exact judgeS_0 (by decide)
    have e3 : S2 0 0 3 = S 0 0 3 := by rw [e_S2]; exact judgeS_0 (by decide)
    have hs : LC S2 1 s0 := LC1 e1 hs
    have hi : LC S2 2 (S 1 s0 3).toNat := by simp only [LC]; omega
    refine ph_iload_n (pc := 24) C d_J_becomeLight_24 rfl ?_
    refine ph_aload_n (pc := 25) C d_J_becomeLight_25 rfl ?_
    refine gt_J_15 (pc := 26) C d_J_becomeLight_26 (hI.live (g := 0) (i := 0) rfl) hI.ob (z := S2 0 0 1) (hI.dat rfl rfl) ?_
    refine ph_iconst (pc := 29) C d_J_becomeLight_29 ?_
    refine ph_isub (pc := 30) C d_J_becomeLight_30 ?_
    refine ph_icmp_ne (pc := 31) (tgt := 43) C d_J_becomeLight_31 (by decide) (by omega) (by omega) (fun c31 => ?_) (fun c31 => ?_)
    · refine ph_aload_n (pc := 43) C d_J_becomeLight_43 rfl ?_
      refine gt_J_11 (pc := 44) C d_J_becomeLight_44 (hI.live (g := 0) (i := 0) rfl) hI.ob hI.r0 ?_
      refine ph_iload_n (pc := 47) C d_J_becomeLight_47 rfl ?_
      refine ph_aald (pc := 48) (t := 0) C d_J_becomeLight_48 (hI.live (g := 4) (i := 0) rfl) rfl rfl rfl s0 rfl (by have := hs; simp only [LC] at this; omega) (by decide) (ph_vr (hI.e4 hs)) ?_
      refine ph_callV (pc := 49) (rest := []) C d_J_becomeLight_49 (c_S_lighten l D dT A KX L ad τ s0 (ad 1 s0) (hI.live hs) rfl) (cwV 0 C.hts (gdV tw_272 tw_273 tw_274 tw_3 tw_275) rfl rfl rfl ⟨rfl, by decide, by decide, by decide⟩ ⟨by decide, by decide⟩) (hI.live hs) rfl rfl rfl rfl rfl rfl (Nat.le_of_ble_eq_true rfl) ⟨by decide, by decide⟩ ?_
      rintro r1 L1 ad1 τ2 ⟨g1, g2, g3, g4⟩; obtain rfl := g1.symm; obtain rfl := g2.symm; subst g4
      have hI := hI.light s0
      rw [← g3] at hI
      clear g3
      obtain ⟨τ, rfl⟩ : ∃ z, z = τ2 := ⟨_, rfl⟩
      obtain ⟨S5, e_S5⟩ : ∃ z, z = lightS S2 s0 := ⟨_, rfl⟩
      rw [← e_S5] at hI
      have hV : IV S5 := by rw [e_S5]; exact hV.lightS
      have hc := hV.c
      have hF : JF S5 L := fun g j q1 q2 => by rw [e_S5]; exact (LC_eq (lightS_g (by decide)) (lightS_g (by decide)) (lightS_g (by decide)) g j).mpr (hF g j q1 q2)
      exact ph_vret (pc := 52) C d_J_becomeLight_52 hr hlk (by omega) (by omega) ⟨(by rw [blS, blA, if_pos (by assumption), ← e_S2, blB, if_neg (by omega), ← e_S5]; exact hI), (by rw [blS, blA, if_pos (by assumption), ← e_S2, blB, if_neg (by omega), ← e_S5]; exact hF), rfl⟩
    · refine ph_aload_n (pc := 34) C d_J_becomeLight_34 rfl ?_
      refine gt_J_21 (pc := 35) C d_J_becomeLight_35 (hI.live (g := 0) (i := 0) rfl) hI.ob hI.r2 ?_
      refine ph_iload_n (pc := 38) C d_J_becomeLight_38 rfl ?_
      refine ph_aald (pc := 39) (t := 1) C d_J_becomeLight_39 (hI.live (g := 5) (i := 0) rfl) rfl rfl rfl (S 1 s0 3).toNat (by omega) (by have := hi; simp only [LC] at this; omega) (by decide) (ph_vr (hI.e5 hi)) ?_
      refine ph_callV (pc := 40) (rest := []) C d_J_becomeLight_40 (c_I_leaveBelt l D dT A KX L ad τ (S 1 s0 3).toNat (ad 2 (S 1 s0 3).toNat) (hI.live hi) rfl (S2 2 (S 1 s0 3).toNat 5) (hI.dat hi rfl) (by have := hV.i hi; omega)) (cwV 0 C.hts (gdV tw_268 tw_269 tw_270 tw_4 tw_271) rfl rfl rfl ⟨rfl, by decide, by decide, by decide⟩ ⟨by decide, by decide⟩) (hI.live hi) rfl rfl rfl rfl rfl rfl (Nat.le_of_ble_eq_true rfl) ⟨by decide, by decide⟩ ?_
      rintro r1 L1 ad1 τ2 ⟨g1, g2, g3, g4⟩; obtain rfl := g1.symm; obtain rfl := g2.symm; subst g4
      have hI := hI.leave (S 1 s0 3).toNat
      rw [← g3] at hI
      clear g3
      obtain ⟨τ, rfl⟩ : ∃ z, z = τ2 := ⟨_, rfl⟩
      obtain ⟨S3, e_S3⟩ : ∃ z, z = leaveS S2 (S 1 s0 3).toNat := ⟨_, rfl⟩
      rw [← e_S3] at hI
      have hV : IV S3 := by rw [e_S3]; exact hV.leaveS
      have hc := hV.c
      have hF : JF S3 L := fun g j q1 q2 => by rw [e_S3]; exact (LC_eq (leaveS_g (by decide)) (leaveS_g (by decide)) (leaveS_g (by decide)) g j).mpr (hF g j q1 q2)
      have hs : LC S3 1 s0 := by rw [e_S3]; exact (LC_eq (leaveS_g (by decide)) (leaveS_g (by decide)) (leaveS_g (by decide)) 1 s0).mpr hs
      refine ph_aload_n (pc := 43) C d_J_becomeLight_43 rfl ?_
      refine gt_J_11 (pc := 44) C d_J_becomeLight_44 (hI.live (g := 0) (i := 0) rfl) hI.ob hI.r0 ?_
      refine ph_iload_n (pc := 47) C d_J_becomeLight_47 rfl ?_
      refine ph_aald (pc := 48) (t := 0) C d_J_becomeLight_48 (hI.live (g := 4) (i := 0) rfl) rfl rfl rfl s0 rfl (by have := hs; simp only [LC] at this; omega) (by decide) (ph_vr (hI.e4 hs)) ?_
      refine ph_callV (pc := 49) (rest := []) C d_J_becomeLight_49 (c_S_lighten l D dT A KX L ad τ s0 (ad 1 s0) (hI.live hs) rfl) (cwV 0 C.hts (gdV tw_272 tw_273 tw_274 tw_3 tw_275) rfl rfl rfl ⟨rfl, by decide, by decide, by decide⟩ ⟨by decide, by decide⟩) (hI.live hs) rfl rfl rfl rfl rfl rfl (Nat.le_of_ble_eq_true rfl) ⟨by decide, by decide⟩ ?_
      rintro r1 L1 ad1 τ2 ⟨g1, g2, g3, g4⟩; obtain rfl := g1.symm; obtain rfl := g2.symm; subst g4
      have hI := hI.light s0
      rw [← g3] at hI
      clear g3
      obtain ⟨τ, rfl⟩ : ∃ z, z = τ2 := ⟨_, rfl⟩
      obtain ⟨S4, e_S4⟩ : ∃ z, z = lightS S3 s0 := ⟨_, rfl⟩
      rw [← e_S4] at hI
      have hV : IV S4 := by rw [e_S4]; exact hV.lightS
      have hc := hV.c
      have hF : JF S4 L := fun g j q1 q2 => by rw [e_S4]; exact (LC_eq (lightS_g (by decide)) (lightS_g (by decide)) (lightS_g (by decide)) g j).mpr (hF g j q1 q2)
      exact ph_vret (pc := 52) C d_J_becomeLight_52 hr hlk (by omega) (by omega) ⟨(by rw [blS, blA, if_pos (by assumption), ← e_S2, blB, if_pos (by omega), ← e_S3, ← e_S4]; exact hI), (by rw [blS, blA, if_pos (by assumption), ← e_S2, blB, if_pos (by omega), ← e_S3, ← e_S4]; exact hF), rfl⟩
