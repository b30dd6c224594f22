/-! ===== tell ===== -/
set_option maxHeartbeats 4000000 in
set_option maxRecDepth 100000 in
theorem c_J_tell (l : Launch) (D : va_G) (dT : Nat → ClassId) (A : Nat → Prop) (KX : State → Prop) (L : Nat → Nat → Prop) (ad : Nat → Nat → Nat) (τ : ph_T) (S : ph_T) (o : Nat) (hI : JR S o L ad τ) (hV : IV S) (hF : JF S L) (kd0 : Nat) (hk : 1 ≤ kd0 ∧ kd0 ≤ 6) (s0 : Nat) (hs : LC S 1 s0) : ph_M l y_J_tell (.code y_J_tell b_J_tell 5 (some .int) :: TB) ({ frames := 3, cells := 1, slots := 7, locals := 68 } : Room) D CLs (TY dT) dT kd A KX [.ref (o), .int (ph_i ((kd0 : Int))), .int (ph_i ((s0 : Int)))] L ad τ (fun r L' ad' τ' => JR (tellS S kd0 (s0 : Int) ((dbm S s0 : Nat) : Int)) o L' ad' τ' ∧ JF (tellS S kd0 (s0 : Int) ((dbm S s0 : Nat) : Int)) L' ∧ r = some (.int (ph_i (tellv S)))) 1 7 := by
  refine ph_M.of (cc := b_J_tell) (maxL := 5) (ret := (some .int)) (by decide) rfl (Nat.le_of_ble_eq_true rfl) ?_
  intro p e s m below meth c C0 hr hlk hnm
  have C := C0.sub
  refine ph_loc (l2 := [(0, .ref (o)), (1, .int (ph_i ((kd0 : Int)))), (2, .int (ph_i ((s0 : Int))))]) ⟨rfl, rfl, rfl, trivial⟩ ?_
  have hc := hV.c
  have hth := (hV.r (k := kd0) (by omega)).2
  refine ph_aload_n (pc := 0) C d_J_tell_0 rfl ?_
  refine gt_J_34 (pc := 1) C d_J_tell_1 (hI.live (g := 0) (i := 0) rfl) hI.ob (z := S 0 0 5) (hI.dat rfl rfl) ?_
  refine ph_bipush (pc := 4) C d_J_tell_4 (by decide) ?_
  refine ph_icmp_lt (pc := 6) (tgt := 11) C d_J_tell_6 (by decide) (by omega) (by omega) (fun c6 => ?_) (fun c6 => ?_)
  · refine ph_aload_n (pc := 11) C d_J_tell_11 rfl ?_
    refine gt_J_44 (pc := 12) C d_J_tell_12 (hI.live (g := 0) (i := 0) rfl) hI.ob hI.r8 ?_
    refine ph_iload_n (pc := 15) C d_J_tell_15 rfl ?_
    refine ph_zald (pc := 16) C d_J_tell_16 (hI.live (g := 8) (i := 0) rfl) rfl rfl rfl kd0 rfl (by omega) (by decide) ?_
    rw [hI.dat (g := 8) (i := 0) (k := kd0) rfl rfl]
    refine ph_istore_n (pc := 17) C d_J_tell_17 (by decide) rfl ?_
    refine ph_iload_n (pc := 18) C d_J_tell_18 rfl ?_
    refine ph_if_eq (pc := 19) (tgt := 36) C d_J_tell_19 (by decide) (by omega) (fun c19 => ?_) (fun c19 => ?_)
    · have e_S0 : S = thrS S kd0 := by rw [thrS, if_pos (by assumption)]
      have hI : JR (thrS S kd0) o L ad τ := by rw [← e_S0]; exact hI
      obtain ⟨S1, e_S1⟩ : ∃ z, z = thrS S kd0 := ⟨_, rfl⟩
      rw [← e_S1] at hI
      have hV1 : IV S1 := by rw [e_S1]; exact hV.thrS
      have hF1 : JF S1 L := fun g i q1 q2 => by rw [e_S1]; exact (thrS_L g i).mpr (hF g i q1 q2)
      have e0 : ∀ q, S1 0 0 q = S 0 0 q := fun q => by rw [e_S1]; exact thrS_g (by decide)
      have hs : LC S1 1 s0 := by rw [e_S1]; exact (thrS_L 1 s0).mpr hs
      have e05 := e0 5
      have e011 := e0 11
      obtain ⟨f, hf⟩ : ∃ f : Nat, (f : Int) = S1 0 0 5 + 1 := ⟨(S1 0 0 5 + 1).toNat, by omega⟩
      have hn : ¬ LC S1 3 f := by simp only [LC]; omega
      have hst := (hV1.r (k := kd0) (by omega)).1
      refine ph_new (pc := 36) (g := 3) C d_J_tell_36 f (fun q => hn (hF1 3 f (by omega) q)) rfl rfl in_F t_F_ok tw_18 tw_172 tw_5 (fun j hj => by rcases (show j = 0 ∨ j = 1 ∨ j = 2 ∨ j = 3 ∨ j = 4 ∨ j = 5 ∨ j = 6 by omega) with rfl | rfl | rfl | rfl | rfl | rfl | rfl <;> rfl) (by decide) (by decide) ?_
      intro a hfresh
      have hI := hI.new (g := 3) (i := f) a (ph_df [0, 0, 1, 0, 0, 1, 0]) (by omega) hn
      have hLf : ph_Ln L 3 f 3 f := Or.inr ⟨rfl, rfl⟩
      have haf : ph_an ad 3 f a 3 f = a := an_at ad 3 f a
      have hF2 := fun v => hF1.addF (by omega) v hf
      generalize ph_Ln L 3 f = L at hI hLf hF2 ⊢
      generalize ph_an ad 3 f a = ad at hI haf ⊢
      generalize ph_tn τ 3 f (ph_df [0, 0, 1, 0, 0, 1, 0]) = τ at hI ⊢
      replace hV := hV1
      have hc := hV.c
      refine ph_dup (pc := 39) C d_J_tell_39 rfl ?_
      refine ph_iload_n (pc := 40) C d_J_tell_40 rfl ?_
      refine ph_iload_n (pc := 41) C d_J_tell_41 rfl ?_
      refine ph_aload_n (pc := 42) C d_J_tell_42 rfl ?_
      refine gt_J_54 (pc := 43) C d_J_tell_43 (hI.live (g := 0) (i := 0) rfl) hI.ob (z := S1 0 0 11) (hI.dat rfl rfl) ?_
      refine ph_callI (pc := 46) (rest := [.ref (a)]) C d_J_tell_46 (c_F_init l D dT A KX L ad τ f a hLf haf ((kd0 : Int)) ((s0 : Int)) (S1 0 0 11)) (cwI 3 C.hts (gdI tw_175) rfl rfl rfl (C.hts _ tw_5) (C.hts _ tw_173) (C.hts _ tw_174) rfl (by decide) ⟨by decide, by decide⟩) rfl rfl (Nat.le_of_ble_eq_true rfl) ⟨by decide, by decide⟩ ?_
      rintro r1 L1 ad1 τ2 ⟨g1, g2, g3, g4⟩; obtain rfl := g1.symm; obtain rfl := g2.symm; subst g4
      have hI : JR S1 o L ad τ2 := by rw [g3]; exact ((((((hI.dead _ (by omega) hn).dead _ (by omega) hn).dead _ (by omega) hn).dead _ (by omega) hn).dead _ (by omega) hn).dead _ (by omega) hn).dead _ (by omega) hn
      have hv : ∀ q, q < 7 → τ2 3 f q = fvl (kd0 : Int) ((s0 : Int)) (S1 0 0 11) 0 0 0 q := fun q hq => by rw [g3]; rcases (show q = 0 ∨ q = 1 ∨ q = 2 ∨ q = 3 ∨ q = 4 ∨ q = 5 ∨ q = 6 by omega) with rfl | rfl | rfl | rfl | rfl | rfl | rfl <;> simp [ph_up, fvl]
      clear g3
      obtain ⟨τ, rfl⟩ : ∃ z, z = τ2 := ⟨_, rfl⟩
      refine ph_astore (pc := 49) C d_J_tell_49 (by decide) rfl ?_
      refine ph_aload (pc := 51) C d_J_tell_51 rfl ?_
      refine ph_iload_n (pc := 53) C d_J_tell_53 rfl ?_
      refine pt_J_117 (pc := 54) C d_J_tell_54 hth hLf haf ?_
      have hI := hI.dead (g := 3) (i := f) (k := 3) (S 8 0 kd0) (by omega) hn
      have hv := fvl3 (z := S 8 0 kd0) hv
      generalize ph_up τ 3 f 3 (S 8 0 kd0) = τ at hI hv ⊢
      refine ph_aload (pc := 57) C d_J_tell_57 rfl ?_
      refine ph_aload_n (pc := 59) C d_J_tell_59 rfl ?_
      refine gt_J_40 (pc := 60) C d_J_tell_60 (hI.live (g := 0) (i := 0) rfl) hI.ob hI.r7 ?_
      refine ph_iload_n (pc := 63) C d_J_tell_63 rfl ?_
      refine ph_zald (pc := 64) C d_J_tell_64 (hI.live (g := 7) (i := 0) rfl) rfl rfl rfl kd0 rfl (by omega) (by decide) ?_
      rw [hI.dat (g := 7) (i := 0) (k := kd0) rfl rfl]
      refine pt_J_169 (pc := 65) C d_J_tell_65 hst hLf haf ?_
      have hI := hI.dead (g := 3) (i := f) (k := 4) (S1 7 0 kd0) (by omega) hn
      have hv := fvl4 (z := S1 7 0 kd0) hv
      generalize ph_up τ 3 f 4 (S1 7 0 kd0) = τ at hI hv ⊢
      refine ph_aload (pc := 68) C d_J_tell_68 rfl ?_
      refine ph_aload_n (pc := 70) C d_J_tell_70 rfl ?_
      refine ph_iload_n (pc := 71) C d_J_tell_71 rfl ?_
      refine ph_callV (pc := 72) (rest := [.ref (a)]) C d_J_tell_72 (c_J_doubtAt l D dT A KX L ad τ S1 o hI hV s0 hs) (cwV 1 C.hts (gdV tw_206 tw_208 se_7 tw_1 tw_209) rfl rfl rfl ⟨rfl, by decide, by decide, by decide⟩ ⟨by decide, by decide⟩) (hI.live (g := 0) (i := 0) rfl) hI.ob rfl rfl rfl rfl rfl (Nat.le_of_ble_eq_true rfl) ⟨by decide, by decide⟩ ?_
      rintro r1 L1 ad1 τ1 ⟨g1, g2, g3, g4⟩; obtain rfl := g1.symm; obtain rfl := g2.symm; obtain rfl := g3.symm; subst g4
      refine pt_J_251 (pc := 75) C d_J_tell_75 hLf haf ?_
      have hI := hI.dead (g := 3) (i := f) (k := 5) (((dbm S1 s0 : Nat) : Int)) (by omega) hn
      have hv := fvl5 (z := ((dbm S1 s0 : Nat) : Int)) hv
      generalize ph_up τ 3 f 5 (((dbm S1 s0 : Nat) : Int)) = τ at hI hv ⊢
      refine ph_aload_n (pc := 78) C d_J_tell_78 rfl ?_
      refine ph_dup (pc := 79) C d_J_tell_79 rfl ?_
      refine gt_J_34 (pc := 80) C d_J_tell_80 (hI.live (g := 0) (i := 0) rfl) hI.ob (z := S1 0 0 5) (hI.dat rfl rfl) ?_
      refine ph_iconst (pc := 83) C d_J_tell_83 ?_
      refine ph_iadd (pc := 84) C d_J_tell_84 ?_
      refine pt_J_34 (pc := 85) C d_J_tell_85 (hI.live (g := 0) (i := 0) rfl) hI.ob ?_
      refine ph_aload_n (pc := 88) C d_J_tell_88 rfl ?_
      refine gt_J_30 (pc := 89) C d_J_tell_89 (hI.live (g := 0) (i := 0) rfl) hI.ob (by rw [ph_up_no _ _ (by decide)]; exact hI.r4) ?_
      refine ph_aload_n (pc := 92) C d_J_tell_92 rfl ?_
      refine gt_J_34 (pc := 93) C d_J_tell_93 (hI.live (g := 0) (i := 0) rfl) hI.ob (ph_up_at _ _ _ _ _) ?_
      refine ph_aload (pc := 96) C d_J_tell_96 rfl ?_
      refine ph_aast (pc := 98) (t := 2) C (hI.live (g := 6) (i := 0) rfl) rfl rfl rfl hLf haf rfl rfl f (by omega) (by omega) (by decide) d_J_tell_98 ?_
      have hI := hI.addF (by omega) hf hLf hv
      rw [haf] at hI
      generalize ph_up (ph_up τ 0 0 5 ((S1 0 0 5) + (1))) 6 0 f (a : Int) = τ at hI ⊢
      refine ph_aload_n (pc := 99) C d_J_tell_99 rfl ?_
      refine gt_J_34 (pc := 100) C d_J_tell_100 (hI.live (g := 0) (i := 0) rfl) hI.ob ((hI.dat (g := 0) (i := 0) (k := 5) rfl rfl).trans (addF_5 _ _)) ?_
      rw [(show addF S1 (fvl (kd0 : Int) ((s0 : Int)) (S1 0 0 11) (S 8 0 kd0) (S1 7 0 kd0) (((dbm S1 s0 : Nat) : Int))) = tellS S kd0 (s0 : Int) ((dbm S s0 : Nat) : Int) by rw [tellS, if_neg (by omega), ← e_S1, e011, e_S1, dbm_thr, ← e_S1])] at hI
      have hF3 := hF2 (fvl (kd0 : Int) ((s0 : Int)) (S1 0 0 11) (S 8 0 kd0) (S1 7 0 kd0) (((dbm S1 s0 : Nat) : Int)))
      rw [(show addF S1 (fvl (kd0 : Int) ((s0 : Int)) (S1 0 0 11) (S 8 0 kd0) (S1 7 0 kd0) (((dbm S1 s0 : Nat) : Int))) = tellS S kd0 (s0 : Int) ((dbm S s0 : Nat) : Int) by rw [tellS, if_neg (by omega), ← e_S1, e011, e_S1, dbm_thr, ← e_S1])] at hF3
      exact ph_iret (pc := 103) C d_J_tell_103 hr hlk rfl (by decide) (by decide) ⟨hI, hF3, by rw [tellv, if_neg (by omega), e05]⟩
    · refine ph_aload_n (pc := 22) C d_J_tell_22 rfl ?_
      refine gt_J_40 (pc := 23) C d_J_tell_23 (hI.live (g := 0) (i := 0) rfl) hI.ob hI.r7 ?_
      refine ph_iload_n (pc := 26) C d_J_tell_26 rfl ?_
      refine ph_iconst (pc := 27) C d_J_tell_27 ?_
      refine ph_zast (pc := 28) C d_J_tell_28 (by omega) (hI.live (g := 7) (i := 0) rfl) rfl rfl rfl kd0 rfl (by omega) (by decide) ?_
      have hI := hI.put (g := 7) (i := 0) (k := kd0) (1) rfl (by omega)
      generalize ph_up τ 7 0 kd0 (1) = τ at hI ⊢
      refine ph_aload_n (pc := 29) C d_J_tell_29 rfl ?_
      refine gt_J_44 (pc := 30) C d_J_tell_30 (hI.live (g := 0) (i := 0) rfl) hI.ob hI.r8 ?_
      refine ph_iload_n (pc := 33) C d_J_tell_33 rfl ?_
      refine ph_iconst (pc := 34) C d_J_tell_34 ?_
      refine ph_zast (pc := 35) C d_J_tell_35 (by omega) (hI.live (g := 8) (i := 0) rfl) rfl rfl rfl kd0 rfl (by omega) (by decide) ?_
      have hI := hI.put (g := 8) (i := 0) (k := kd0) (0) rfl (by omega)
      generalize ph_up τ 8 0 kd0 (0) = τ at hI ⊢
      have e_S0 : (ph_up (ph_up S 7 0 kd0 (1)) 8 0 kd0 (0)) = thrS S kd0 := by rw [thrS, if_neg (by assumption)]
      rw [e_S0] at hI
      obtain ⟨S1, e_S1⟩ : ∃ z, z = thrS S kd0 := ⟨_, rfl⟩
      rw [← e_S1] at hI
      have hV1 : IV S1 := by rw [e_S1]; exact hV.thrS
      have hF1 : JF S1 L := fun g i q1 q2 => by rw [e_S1]; exact (thrS_L g i).mpr (hF g i q1 q2)
      have e0 : ∀ q, S1 0 0 q = S 0 0 q := fun q => by rw [e_S1]; exact thrS_g (by decide)
      have hs : LC S1 1 s0 := by rw [e_S1]; exact (thrS_L 1 s0).mpr hs
      have e05 := e0 5
      have e011 := e0 11
      obtain ⟨f, hf⟩ : ∃ f : Nat, (f : Int) = S1 0 0 5 + 1 := ⟨(S1 0 0 5 + 1).toNat, by omega⟩
      have hn : ¬ LC S1 3 f := by simp only [LC]; omega
      have hst := (hV1.r (k := kd0) (by omega)).1
      refine ph_new (pc := 36) (g := 3) C d_J_tell_36 f (fun q => hn (hF1 3 f (by omega) q)) rfl rfl in_F t_F_ok tw_18 tw_172 tw_5 (fun j hj => by rcases (show j = 0 ∨ j = 1 ∨ j = 2 ∨ j = 3 ∨ j = 4 ∨ j = 5 ∨ j = 6 by omega) with rfl | rfl | rfl | rfl | rfl | rfl | rfl <;> rfl) (by decide) (by decide) ?_
      intro a hfresh
      have hI := hI.new (g := 3) (i := f) a (ph_df [0, 0, 1, 0, 0, 1, 0]) (by omega) hn
      have hLf : ph_Ln L 3 f 3 f := Or.inr ⟨rfl, rfl⟩
      have haf : ph_an ad 3 f a 3 f = a := an_at ad 3 f a
      have hF2 := fun v => hF1.addF (by omega) v hf
      generalize ph_Ln L 3 f = L at hI hLf hF2 ⊢
      generalize ph_an ad 3 f a = ad at hI haf ⊢
      generalize ph_tn τ 3 f (ph_df [0, 0, 1, 0, 0, 1, 0]) = τ at hI ⊢
      replace hV := hV1
      have hc := hV.c
      refine ph_dup (pc := 39) C d_J_tell_39 rfl ?_
      refine ph_iload_n (pc := 40) C d_J_tell_40 rfl ?_
      refine ph_iload_n (pc := 41) C d_J_tell_41 rfl ?_
      refine ph_aload_n (pc := 42) C d_J_tell_42 rfl ?_
      refine gt_J_54 (pc := 43) C d_J_tell_43 (hI.live (g := 0) (i := 0) rfl) hI.ob (z := S1 0 0 11) (hI.dat rfl rfl) ?_
      refine ph_callI (pc := 46) (rest := [.ref (a)]) C d_J_tell_46 (c_F_init l D dT A KX L ad τ f a hLf haf ((kd0 : Int)) ((s0 : Int)) (S1 0 0 11)) (cwI 3 C.hts (gdI tw_175) rfl rfl rfl (C.hts _ tw_5) (C.hts _ tw_173) (C.hts _ tw_174) rfl (by decide) ⟨by decide, by decide⟩) rfl rfl (Nat.le_of_ble_eq_true rfl) ⟨by decide, by decide⟩ ?_
      rintro r1 L1 ad1 τ2 ⟨g1, g2, g3, g4⟩; obtain rfl := g1.symm; obtain rfl := g2.symm; subst g4
      have hI : JR S1 o L ad τ2 := by rw [g3]; exact ((((((hI.dead _ (by omega) hn).dead _ (by omega) hn).dead _ (by omega) hn).dead _ (by omega) hn).dead _ (by omega) hn).dead _ (by omega) hn).dead _ (by omega) hn
      have hv : ∀ q, q < 7 → τ2 3 f q = fvl (kd0 : Int) ((s0 : Int)) (S1 0 0 11) 0 0 0 q := fun q hq => by rw [g3]; rcases (show q = 0 ∨ q = 1 ∨ q = 2 ∨ q = 3 ∨ q = 4 ∨ q = 5 ∨ q = 6 by omega) with rfl | rfl | rfl | rfl | rfl | rfl | rfl <;> simp [ph_up, fvl]
      clear g3
      obtain ⟨τ, rfl⟩ : ∃ z, z = τ2 := ⟨_, rfl⟩
      refine ph_astore (pc := 49) C d_J_tell_49 (by decide) rfl ?_
      refine ph_aload (pc := 51) C d_J_tell_51 rfl ?_
      refine ph_iload_n (pc := 53) C d_J_tell_53 rfl ?_
      refine pt_J_117 (pc := 54) C d_J_tell_54 hth hLf haf ?_
      have hI := hI.dead (g := 3) (i := f) (k := 3) (S 8 0 kd0) (by omega) hn
      have hv := fvl3 (z := S 8 0 kd0) hv
      generalize ph_up τ 3 f 3 (S 8 0 kd0) = τ at hI hv ⊢
      refine ph_aload (pc := 57) C d_J_tell_57 rfl ?_
      refine ph_aload_n (pc := 59) C d_J_tell_59 rfl ?_
      refine gt_J_40 (pc := 60) C d_J_tell_60 (hI.live (g := 0) (i := 0) rfl) hI.ob hI.r7 ?_
      refine ph_iload_n (pc := 63) C d_J_tell_63 rfl ?_
      refine ph_zald (pc := 64) C d_J_tell_64 (hI.live (g := 7) (i := 0) rfl) rfl rfl rfl kd0 rfl (by omega) (by decide) ?_
      rw [hI.dat (g := 7) (i := 0) (k := kd0) rfl rfl]
      refine pt_J_169 (pc := 65) C d_J_tell_65 hst hLf haf ?_
      have hI := hI.dead (g := 3) (i := f) (k := 4) (S1 7 0 kd0) (by omega) hn
      have hv := fvl4 (z := S1 7 0 kd0) hv
      generalize ph_up τ 3 f 4 (S1 7 0 kd0) = τ at hI hv ⊢
      refine ph_aload (pc := 68) C d_J_tell_68 rfl ?_
      refine ph_aload_n (pc := 70) C d_J_tell_70 rfl ?_
      refine ph_iload_n (pc := 71) C d_J_tell_71 rfl ?_
      refine ph_callV (pc := 72) (rest := [.ref (a)]) C d_J_tell_72 (c_J_doubtAt l D dT A KX L ad τ S1 o hI hV s0 hs) (cwV 1 C.hts (gdV tw_206 tw_208 se_7 tw_1 tw_209) rfl rfl rfl ⟨rfl, by decide, by decide, by decide⟩ ⟨by decide, by decide⟩) (hI.live (g := 0) (i := 0) rfl) hI.ob rfl rfl rfl rfl rfl (Nat.le_of_ble_eq_true rfl) ⟨by decide, by decide⟩ ?_
      rintro r1 L1 ad1 τ1 ⟨g1, g2, g3, g4⟩; obtain rfl := g1.symm; obtain rfl := g2.symm; obtain rfl := g3.symm; subst g4
      refine pt_J_251 (pc := 75) C d_J_tell_75 hLf haf ?_
      have hI := hI.dead (g := 3) (i := f) (k := 5) (((dbm S1 s0 : Nat) : Int)) (by omega) hn
      have hv := fvl5 (z := ((dbm S1 s0 : Nat) : Int)) hv
      generalize ph_up τ 3 f 5 (((dbm S1 s0 : Nat) : Int)) = τ at hI hv ⊢
      refine ph_aload_n (pc := 78) C d_J_tell_78 rfl ?_
      refine ph_dup (pc := 79) C d_J_tell_79 rfl ?_
      refine gt_J_34 (pc := 80) C d_J_tell_80 (hI.live (g := 0) (i := 0) rfl) hI.ob (z := S1 0 0 5) (hI.dat rfl rfl) ?_
      refine ph_iconst (pc := 83) C d_J_tell_83 ?_
      refine ph_iadd (pc := 84) C d_J_tell_84 ?_
      refine pt_J_34 (pc := 85) C d_J_tell_85 (hI.live (g := 0) (i := 0) rfl) hI.ob ?_
      refine ph_aload_n (pc := 88) C d_J_tell_88 rfl ?_
      refine gt_J_30 (pc := 89) C d_J_tell_89 (hI.live (g := 0) (i := 0) rfl) hI.ob (by rw [ph_up_no _ _ (by decide)]; exact hI.r4) ?_
      refine ph_aload_n (pc := 92) C d_J_tell_92 rfl ?_
      refine gt_J_34 (pc := 93) C d_J_tell_93 (hI.live (g := 0) (i := 0) rfl) hI.ob (ph_up_at _ _ _ _ _) ?_
      refine ph_aload (pc := 96) C d_J_tell_96 rfl ?_
      refine ph_aast (pc := 98) (t := 2) C (hI.live (g := 6) (i := 0) rfl) rfl rfl rfl hLf haf rfl rfl f (by omega) (by omega) (by decide) d_J_tell_98 ?_
      have hI := hI.addF (by omega) hf hLf hv
      rw [haf] at hI
      generalize ph_up (ph_up τ 0 0 5 ((S1 0 0 5) + (1))) 6 0 f (a : Int) = τ at hI ⊢
      refine ph_aload_n (pc := 99) C d_J_tell_99 rfl ?_
      refine gt_J_34 (pc := 100) C d_J_tell_100 (hI.live (g := 0) (i := 0) rfl) hI.ob ((hI.dat (g := 0) (i := 0) (k := 5) rfl rfl).trans (addF_5 _ _)) ?_
      rw [(show addF S1 (fvl (kd0 : Int) ((s0 : Int)) (S1 0 0 11) (S 8 0 kd0) (S1 7 0 kd0) (((dbm S1 s0 : Nat) : Int))) = tellS S kd0 (s0 : Int) ((dbm S s0 : Nat) : Int) by rw [tellS, if_neg (by omega), ← e_S1, e011, e_S1, dbm_thr, ← e_S1])] at hI
      have hF3 := hF2 (fvl (kd0 : Int) ((s0 : Int)) (S1 0 0 11) (S 8 0 kd0) (S1 7 0 kd0) (((dbm S1 s0 : Nat) : Int)))
      rw [(show addF S1 (fvl (kd0 : Int) ((s0 : Int)) (S1 0 0 11) (S 8 0 kd0) (S1 7 0 kd0) (((dbm S1 s0 : Nat) : Int))) = tellS S kd0 (s0 : Int) ((dbm S s0 : Nat) : Int) by rw [tellS, if_neg (by omega), ← e_S1, e011, e_S1, dbm_thr, ← e_S1])] at hF3
      exact ph_iret (pc := 103) C d_J_tell_103 hr hlk rfl (by decide) (by decide) ⟨hI, hF3, by rw [tellv, if_neg (by omega), e05]⟩
  · refine ph_iconst (pc := 9) C d_J_tell_9 ?_
    exact ph_iret (pc := 10) C d_J_tell_10 hr hlk rfl (by decide) (by decide) ⟨by rw [tellS, if_pos (by omega)]; exact hI, by rw [tellS, if_pos (by omega)]; exact hF, by rw [tellv, if_pos (by omega)]⟩
set_option maxHeartbeats 4000000 in
set_option maxRecDepth 100000 in
theorem c_J_tellN (l : Launch) (D : va_G) (dT : Nat → ClassId) (A : Nat → Prop) (KX : State → Prop) (L : Nat → Nat → Prop) (ad : Nat → Nat → Nat) (τ : ph_T) (S : ph_T) (o : Nat) (hI : JR S o L ad τ) (hV : IV S) (hF : JF S L) (kd0 : Nat) (hk : 1 ≤ kd0 ∧ kd0 ≤ 6)  : ph_M l y_J_tell (.code y_J_tell b_J_tell 5 (some .int) :: TB) ({ frames := 3, cells := 1, slots := 7, locals := 68 } : Room) D CLs (TY dT) dT kd A KX [.ref (o), .int (ph_i ((kd0 : Int))), .int (ph_i (-1))] L ad τ (fun r L' ad' τ' => JR (tellS S kd0 (-1) 0) o L' ad' τ' ∧ JF (tellS S kd0 (-1) 0) L' ∧ r = some (.int (ph_i (tellv S)))) 1 7 := by
  refine ph_M.of (cc := b_J_tell) (maxL := 5) (ret := (some .int)) (by decide) rfl (Nat.le_of_ble_eq_true rfl) ?_
  intro p e s m below meth c C0 hr hlk hnm
  have C := C0.sub
  refine ph_loc (l2 := [(0, .ref (o)), (1, .int (ph_i ((kd0 : Int)))), (2, .int (ph_i (-1)))]) ⟨rfl, rfl, rfl, trivial⟩ ?_
  have hc := hV.c
  have hth := (hV.r (k := kd0) (by omega)).2
  refine ph_aload_n (pc := 0) C d_J_tell_0 rfl ?_
  refine gt_J_34 (pc := 1) C d_J_tell_1 (hI.live (g := 0) (i := 0) rfl) hI.ob (z := S 0 0 5) (hI.dat rfl rfl) ?_
  refine ph_bipush (pc := 4) C d_J_tell_4 (by decide) ?_
  refine ph_icmp_lt (pc := 6) (tgt := 11) C d_J_tell_6 (by decide) (by omega) (by omega) (fun c6 => ?_) (fun c6 => ?_)
  · refine ph_aload_n (pc := 11) C d_J_tell_11 rfl ?_
    refine gt_J_44 (pc := 12) C d_J_tell_12 (hI.live (g := 0) (i := 0) rfl) hI.ob hI.r8 ?_
    refine ph_iload_n (pc := 15) C d_J_tell_15 rfl ?_
    refine ph_zald (pc := 16) C d_J_tell_16 (hI.live (g := 8) (i := 0) rfl) rfl rfl rfl kd0 rfl (by omega) (by decide) ?_
    rw [hI.dat (g := 8) (i := 0) (k := kd0) rfl rfl]
    refine ph_istore_n (pc := 17) C d_J_tell_17 (by decide) rfl ?_
    refine ph_iload_n (pc := 18) C d_J_tell_18 rfl ?_
    refine ph_if_eq (pc := 19) (tgt := 36) C d_J_tell_19 (by decide) (by omega) (fun c19 => ?_) (fun c19 => ?_)
    · have e_S0 : S = thrS S kd0 := by rw [thrS, if_pos (by assumption)]
      have hI : JR (thrS S kd0) o L ad τ := by rw [← e_S0]; exact hI
      obtain ⟨S1, e_S1⟩ : ∃ z, z = thrS S kd0 := ⟨_, rfl⟩
      rw [← e_S1] at hI
      have hV1 : IV S1 := by rw [e_S1]; exact hV.thrS
      have hF1 : JF S1 L := fun g i q1 q2 => by rw [e_S1]; exact (thrS_L g i).mpr (hF g i q1 q2)
      have e0 : ∀ q, S1 0 0 q = S 0 0 q := fun q => by rw [e_S1]; exact thrS_g (by decide)
      have e05 := e0 5
      have e011 := e0 11
      obtain ⟨f, hf⟩ : ∃ f : Nat, (f : Int) = S1 0 0 5 + 1 := ⟨(S1 0 0 5 + 1).toNat, by omega⟩
      have hn : ¬ LC S1 3 f := by simp only [LC]; omega
      have hst := (hV1.r (k := kd0) (by omega)).1
      refine ph_new (pc := 36) (g := 3) C d_J_tell_36 f (fun q => hn (hF1 3 f (by omega) q)) rfl rfl in_F t_F_ok tw_18 tw_172 tw_5 (fun j hj => by rcases (show j = 0 ∨ j = 1 ∨ j = 2 ∨ j = 3 ∨ j = 4 ∨ j = 5 ∨ j = 6 by omega) with rfl | rfl | rfl | rfl | rfl | rfl | rfl <;> rfl) (by decide) (by decide) ?_
      intro a hfresh
      have hI := hI.new (g := 3) (i := f) a (ph_df [0, 0, 1, 0, 0, 1, 0]) (by omega) hn
      have hLf : ph_Ln L 3 f 3 f := Or.inr ⟨rfl, rfl⟩
      have haf : ph_an ad 3 f a 3 f = a := an_at ad 3 f a
      have hF2 := fun v => hF1.addF (by omega) v hf
      generalize ph_Ln L 3 f = L at hI hLf hF2 ⊢
      generalize ph_an ad 3 f a = ad at hI haf ⊢
      generalize ph_tn τ 3 f (ph_df [0, 0, 1, 0, 0, 1, 0]) = τ at hI ⊢
      replace hV := hV1
      have hc := hV.c
      refine ph_dup (pc := 39) C d_J_tell_39 rfl ?_
      refine ph_iload_n (pc := 40) C d_J_tell_40 rfl ?_
      refine ph_iload_n (pc := 41) C d_J_tell_41 rfl ?_
      refine ph_aload_n (pc := 42) C d_J_tell_42 rfl ?_
      refine gt_J_54 (pc := 43) C d_J_tell_43 (hI.live (g := 0) (i := 0) rfl) hI.ob (z := S1 0 0 11) (hI.dat rfl rfl) ?_
      refine ph_callI (pc := 46) (rest := [.ref (a)]) C d_J_tell_46 (c_F_init l D dT A KX L ad τ f a hLf haf ((kd0 : Int)) (-1) (S1 0 0 11)) (cwI 3 C.hts (gdI tw_175) rfl rfl rfl (C.hts _ tw_5) (C.hts _ tw_173) (C.hts _ tw_174) rfl (by decide) ⟨by decide, by decide⟩) rfl rfl (Nat.le_of_ble_eq_true rfl) ⟨by decide, by decide⟩ ?_
      rintro r1 L1 ad1 τ2 ⟨g1, g2, g3, g4⟩; obtain rfl := g1.symm; obtain rfl := g2.symm; subst g4
      have hI : JR S1 o L ad τ2 := by rw [g3]; exact ((((((hI.dead _ (by omega) hn).dead _ (by omega) hn).dead _ (by omega) hn).dead _ (by omega) hn).dead _ (by omega) hn).dead _ (by omega) hn).dead _ (by omega) hn
      have hv : ∀ q, q < 7 → τ2 3 f q = fvl (kd0 : Int) (-1) (S1 0 0 11) 0 0 0 q := fun q hq => by rw [g3]; rcases (show q = 0 ∨ q = 1 ∨ q = 2 ∨ q = 3 ∨ q = 4 ∨ q = 5 ∨ q = 6 by omega) with rfl | rfl | rfl | rfl | rfl | rfl | rfl <;> simp [ph_up, fvl]
      clear g3
      obtain ⟨τ, rfl⟩ : ∃ z, z = τ2 := ⟨_, rfl⟩
      refine ph_astore (pc := 49) C d_J_tell_49 (by decide) rfl ?_
      refine ph_aload (pc := 51) C d_J_tell_51 rfl ?_
      refine ph_iload_n (pc := 53) C d_J_tell_53 rfl ?_
      refine pt_J_117 (pc := 54) C d_J_tell_54 hth hLf haf ?_
      have hI := hI.dead (g := 3) (i := f) (k := 3) (S 8 0 kd0) (by omega) hn
      have hv := fvl3 (z := S 8 0 kd0) hv
      generalize ph_up τ 3 f 3 (S 8 0 kd0) = τ at hI hv ⊢
      refine ph_aload (pc := 57) C d_J_tell_57 rfl ?_
      refine ph_aload_n (pc := 59) C d_J_tell_59 rfl ?_
      refine gt_J_40 (pc := 60) C d_J_tell_60 (hI.live (g := 0) (i := 0) rfl) hI.ob hI.r7 ?_
      refine ph_iload_n (pc := 63) C d_J_tell_63 rfl ?_
      refine ph_zald (pc := 64) C d_J_tell_64 (hI.live (g := 7) (i := 0) rfl) rfl rfl rfl kd0 rfl (by omega) (by decide) ?_
      rw [hI.dat (g := 7) (i := 0) (k := kd0) rfl rfl]
      refine pt_J_169 (pc := 65) C d_J_tell_65 hst hLf haf ?_
      have hI := hI.dead (g := 3) (i := f) (k := 4) (S1 7 0 kd0) (by omega) hn
      have hv := fvl4 (z := S1 7 0 kd0) hv
      generalize ph_up τ 3 f 4 (S1 7 0 kd0) = τ at hI hv ⊢
      refine ph_aload (pc := 68) C d_J_tell_68 rfl ?_
      refine ph_aload_n (pc := 70) C d_J_tell_70 rfl ?_
      refine ph_iload_n (pc := 71) C d_J_tell_71 rfl ?_
      refine ph_callV (pc := 72) (rest := [.ref (a)]) C d_J_tell_72 (c_J_doubtAtN l D dT A KX L ad τ S1 o hI hV (-1) (by omega) (by omega)) (cwV 1 C.hts (gdV tw_206 tw_208 se_7 tw_1 tw_209) rfl rfl rfl ⟨rfl, by decide, by decide, by decide⟩ ⟨by decide, by decide⟩) (hI.live (g := 0) (i := 0) rfl) hI.ob rfl rfl rfl rfl rfl (Nat.le_of_ble_eq_true rfl) ⟨by decide, by decide⟩ ?_
      rintro r1 L1 ad1 τ1 ⟨g1, g2, g3, g4⟩; obtain rfl := g1.symm; obtain rfl := g2.symm; obtain rfl := g3.symm; subst g4
      refine pt_J_251 (pc := 75) C d_J_tell_75 hLf haf ?_
      have hI := hI.dead (g := 3) (i := f) (k := 5) (0) (by omega) hn
      have hv := fvl5 (z := 0) hv
      generalize ph_up τ 3 f 5 (0) = τ at hI hv ⊢
      refine ph_aload_n (pc := 78) C d_J_tell_78 rfl ?_
      refine ph_dup (pc := 79) C d_J_tell_79 rfl ?_
      refine gt_J_34 (pc := 80) C d_J_tell_80 (hI.live (g := 0) (i := 0) rfl) hI.ob (z := S1 0 0 5) (hI.dat rfl rfl) ?_
      refine ph_iconst (pc := 83) C d_J_tell_83 ?_
      refine ph_iadd (pc := 84) C d_J_tell_84 ?_
      refine pt_J_34 (pc := 85) C d_J_tell_85 (hI.live (g := 0) (i := 0) rfl) hI.ob ?_
      refine ph_aload_n (pc := 88) C d_J_tell_88 rfl ?_
      refine gt_J_30 (pc := 89) C d_J_tell_89 (hI.live (g := 0) (i := 0) rfl) hI.ob (by rw [ph_up_no _ _ (by decide)]; exact hI.r4) ?_
      refine ph_aload_n (pc := 92) C d_J_tell_92 rfl ?_
      refine gt_J_34 (pc := 93) C d_J_tell_93 (hI.live (g := 0) (i := 0) rfl) hI.ob (ph_up_at _ _ _ _ _) ?_
      refine ph_aload (pc := 96) C d_J_tell_96 rfl ?_
      refine ph_aast (pc := 98) (t := 2) C (hI.live (g := 6) (i := 0) rfl) rfl rfl rfl hLf haf rfl rfl f (by omega) (by omega) (by decide) d_J_tell_98 ?_
      have hI := hI.addF (by omega) hf hLf hv
      rw [haf] at hI
      generalize ph_up (ph_up τ 0 0 5 ((S1 0 0 5) + (1))) 6 0 f (a : Int) = τ at hI ⊢
      refine ph_aload_n (pc := 99) C d_J_tell_99 rfl ?_
      refine gt_J_34 (pc := 100) C d_J_tell_100 (hI.live (g := 0) (i := 0) rfl) hI.ob ((hI.dat (g := 0) (i := 0) (k := 5) rfl rfl).trans (addF_5 _ _)) ?_
      rw [(show addF S1 (fvl (kd0 : Int) (-1) (S1 0 0 11) (S 8 0 kd0) (S1 7 0 kd0) (0)) = tellS S kd0 (-1) 0 by rw [tellS, if_neg (by omega), ← e_S1, e011])] at hI
      have hF3 := hF2 (fvl (kd0 : Int) (-1) (S1 0 0 11) (S 8 0 kd0) (S1 7 0 kd0) (0))
      rw [(show addF S1 (fvl (kd0 : Int) (-1) (S1 0 0 11) (S 8 0 kd0) (S1 7 0 kd0) (0)) = tellS S kd0 (-1) 0 by rw [tellS, if_neg (by omega), ← e_S1, e011])] at hF3
      exact ph_iret (pc := 103) C d_J_tell_103 hr hlk rfl (by decide) (by decide) ⟨hI, hF3, by rw [tellv, if_neg (by omega), e05]⟩
    · refine ph_aload_n (pc := 22) C d_J_tell_22 rfl ?_
      refine gt_J_40 (pc := 23) C d_J_tell_23 (hI.live (g := 0) (i := 0) rfl) hI.ob hI.r7 ?_
      refine ph_iload_n (pc := 26) C d_J_tell_26 rfl ?_
      refine ph_iconst (pc := 27) C d_J_tell_27 ?_
      refine ph_zast (pc := 28) C d_J_tell_28 (by omega) (hI.live (g := 7) (i := 0) rfl) rfl rfl rfl kd0 rfl (by omega) (by decide) ?_
      have hI := hI.put (g := 7) (i := 0) (k := kd0) (1) rfl (by omega)
      generalize ph_up τ 7 0 kd0 (1) = τ at hI ⊢
      refine ph_aload_n (pc := 29) C d_J_tell_29 rfl ?_
      refine gt_J_44 (pc := 30) C d_J_tell_30 (hI.live (g := 0) (i := 0) rfl) hI.ob hI.r8 ?_
      refine ph_iload_n (pc := 33) C d_J_tell_33 rfl ?_
      refine ph_iconst (pc := 34) C d_J_tell_34 ?_
      refine ph_zast (pc := 35) C d_J_tell_35 (by omega) (hI.live (g := 8) (i := 0) rfl) rfl rfl rfl kd0 rfl (by omega) (by decide) ?_
      have hI := hI.put (g := 8) (i := 0) (k := kd0) (0) rfl (by omega)
      generalize ph_up τ 8 0 kd0 (0) = τ at hI ⊢
      have e_S0 : (ph_up (ph_up S 7 0 kd0 (1)) 8 0 kd0 (0)) = thrS S kd0 := by rw [thrS, if_neg (by assumption)]
      rw [e_S0] at hI
      obtain ⟨S1, e_S1⟩ : ∃ z, z = thrS S kd0 := ⟨_, rfl⟩
      rw [← e_S1] at hI
      have hV1 : IV S1 := by rw [e_S1]; exact hV.thrS
      have hF1 : JF S1 L := fun g i q1 q2 => by rw [e_S1]; exact (thrS_L g i).mpr (hF g i q1 q2)
      have e0 : ∀ q, S1 0 0 q = S 0 0 q := fun q => by rw [e_S1]; exact thrS_g (by decide)
      have e05 := e0 5
      have e011 := e0 11
      obtain ⟨f, hf⟩ : ∃ f : Nat, (f : Int) = S1 0 0 5 + 1 := ⟨(S1 0 0 5 + 1).toNat, by omega⟩
      have hn : ¬ LC S1 3 f := by simp only [LC]; omega
      have hst := (hV1.r (k := kd0) (by omega)).1
      refine ph_new (pc := 36) (g := 3) C d_J_tell_36 f (fun q => hn (hF1 3 f (by omega) q)) rfl rfl in_F t_F_ok tw_18 tw_172 tw_5 (fun j hj => by rcases (show j = 0 ∨ j = 1 ∨ j = 2 ∨ j = 3 ∨ j = 4 ∨ j = 5 ∨ j = 6 by omega) with rfl | rfl | rfl | rfl | rfl | rfl | rfl <;> rfl) (by decide) (by decide) ?_
      intro a hfresh
      have hI := hI.new (g := 3) (i := f) a (ph_df [0, 0, 1, 0, 0, 1, 0]) (by omega) hn
      have hLf : ph_Ln L 3 f 3 f := Or.inr ⟨rfl, rfl⟩
      have haf : ph_an ad 3 f a 3 f = a := an_at ad 3 f a
      have hF2 := fun v => hF1.addF (by omega) v hf
      generalize ph_Ln L 3 f = L at hI hLf hF2 ⊢
      generalize ph_an ad 3 f a = ad at hI haf ⊢
      generalize ph_tn τ 3 f (ph_df [0, 0, 1, 0, 0, 1, 0]) = τ at hI ⊢
      replace hV := hV1
      have hc := hV.c
      refine ph_dup (pc := 39) C d_J_tell_39 rfl ?_
      refine ph_iload_n (pc := 40) C d_J_tell_40 rfl ?_
      refine ph_iload_n (pc := 41) C d_J_tell_41 rfl ?_
      refine ph_aload_n (pc := 42) C d_J_tell_42 rfl ?_
      refine gt_J_54 (pc := 43) C d_J_tell_43 (hI.live (g := 0) (i := 0) rfl) hI.ob (z := S1 0 0 11) (hI.dat rfl rfl) ?_
      refine ph_callI (pc := 46) (rest := [.ref (a)]) C d_J_tell_46 (c_F_init l D dT A KX L ad τ f a hLf haf ((kd0 : Int)) (-1) (S1 0 0 11)) (cwI 3 C.hts (gdI tw_175) rfl rfl rfl (C.hts _ tw_5) (C.hts _ tw_173) (C.hts _ tw_174) rfl (by decide) ⟨by decide, by decide⟩) rfl rfl (Nat.le_of_ble_eq_true rfl) ⟨by decide, by decide⟩ ?_
      rintro r1 L1 ad1 τ2 ⟨g1, g2, g3, g4⟩; obtain rfl := g1.symm; obtain rfl := g2.symm; subst g4
      have hI : JR S1 o L ad τ2 := by rw [g3]; exact ((((((hI.dead _ (by omega) hn).dead _ (by omega) hn).dead _ (by omega) hn).dead _ (by omega) hn).dead _ (by omega) hn).dead _ (by omega) hn).dead _ (by omega) hn
      have hv : ∀ q, q < 7 → τ2 3 f q = fvl (kd0 : Int) (-1) (S1 0 0 11) 0 0 0 q := fun q hq => by rw [g3]; rcases (show q = 0 ∨ q = 1 ∨ q = 2 ∨ q = 3 ∨ q = 4 ∨ q = 5 ∨ q = 6 by omega) with rfl | rfl | rfl | rfl | rfl | rfl | rfl <;> simp [ph_up, fvl]
      clear g3
      obtain ⟨τ, rfl⟩ : ∃ z, z = τ2 := ⟨_, rfl⟩
      refine ph_astore (pc := 49) C d_J_tell_49 (by decide) rfl ?_
      refine ph_aload (pc := 51) C d_J_tell_51 rfl ?_
      refine ph_iload_n (pc := 53) C d_J_tell_53 rfl ?_
      refine pt_J_117 (pc := 54) C d_J_tell_54 hth hLf haf ?_
      have hI := hI.dead (g := 3) (i := f) (k := 3) (S 8 0 kd0) (by omega) hn
      have hv := fvl3 (z := S 8 0 kd0) hv
      generalize ph_up τ 3 f 3 (S 8 0 kd0) = τ at hI hv ⊢
      refine ph_aload (pc := 57) C d_J_tell_57 rfl ?_
      refine ph_aload_n (pc := 59) C d_J_tell_59 rfl ?_
      refine gt_J_40 (pc := 60) C d_J_tell_60 (hI.live (g := 0) (i := 0) rfl) hI.ob hI.r7 ?_
      refine ph_iload_n (pc := 63) C d_J_tell_63 rfl ?_
      refine ph_zald (pc := 64) C d_J_tell_64 (hI.live (g := 7) (i := 0) rfl) rfl rfl rfl kd0 rfl (by omega) (by decide) ?_
      rw [hI.dat (g := 7) (i := 0) (k := kd0) rfl rfl]
      refine pt_J_169 (pc := 65) C d_J_tell_65 hst hLf haf ?_
      have hI := hI.dead (g := 3) (i := f) (k := 4) (S1 7 0 kd0) (by omega) hn
      have hv := fvl4 (z := S1 7 0 kd0) hv
      generalize ph_up τ 3 f 4 (S1 7 0 kd0) = τ at hI hv ⊢
      refine ph_aload (pc := 68) C d_J_tell_68 rfl ?_
      refine ph_aload_n (pc := 70) C d_J_tell_70 rfl ?_
      refine ph_iload_n (pc := 71) C d_J_tell_71 rfl ?_
      refine ph_callV (pc := 72) (rest := [.ref (a)]) C d_J_tell_72 (c_J_doubtAtN l D dT A KX L ad τ S1 o hI hV (-1) (by omega) (by omega)) (cwV 1 C.hts (gdV tw_206 tw_208 se_7 tw_1 tw_209) rfl rfl rfl ⟨rfl, by decide, by decide, by decide⟩ ⟨by decide, by decide⟩) (hI.live (g := 0) (i := 0) rfl) hI.ob rfl rfl rfl rfl rfl (Nat.le_of_ble_eq_true rfl) ⟨by decide, by decide⟩ ?_
      rintro r1 L1 ad1 τ1 ⟨g1, g2, g3, g4⟩; obtain rfl := g1.symm; obtain rfl := g2.symm; obtain rfl := g3.symm; subst g4
      refine pt_J_251 (pc := 75) C d_J_tell_75 hLf haf ?_
      have hI := hI.dead (g := 3) (i := f) (k := 5) (0) (by omega) hn
      have hv := fvl5 (z := 0) hv
      generalize ph_up τ 3 f 5 (0) = τ at hI hv ⊢
      refine ph_aload_n (pc := 78) C d_J_tell_78 rfl ?_
      refine ph_dup (pc := 79) C d_J_tell_79 rfl ?_
      refine gt_J_34 (pc := 80) C d_J_tell_80 (hI.live (g := 0) (i := 0) rfl) hI.ob (z := S1 0 0 5) (hI.dat rfl rfl) ?_
      refine ph_iconst (pc := 83) C d_J_tell_83 ?_
      refine ph_iadd (pc := 84) C d_J_tell_84 ?_
      refine pt_J_34 (pc := 85) C d_J_tell_85 (hI.live (g := 0) (i := 0) rfl) hI.ob ?_
      refine ph_aload_n (pc := 88) C d_J_tell_88 rfl ?_
      refine gt_J_30 (pc := 89) C d_J_tell_89 (hI.live (g := 0) (i := 0) rfl) hI.ob (by rw [ph_up_no _ _ (by decide)]; exact hI.r4) ?_
      refine ph_aload_n (pc := 92) C d_J_tell_92 rfl ?_
      refine gt_J_34 (pc := 93) C d_J_tell_93 (hI.live (g := 0) (i := 0) rfl) hI.ob (ph_up_at _ _ _ _ _) ?_
      refine ph_aload (pc := 96) C d_J_tell_96 rfl ?_
      refine ph_aast (pc := 98) (t := 2) C (hI.live (g := 6) (i := 0) rfl) rfl rfl rfl hLf haf rfl rfl f (by omega) (by omega) (by decide) d_J_tell_98 ?_
      have hI := hI.addF (by omega) hf hLf hv
      rw [haf] at hI
      generalize ph_up (ph_up τ 0 0 5 ((S1 0 0 5) + (1))) 6 0 f (a : Int) = τ at hI ⊢
      refine ph_aload_n (pc := 99) C d_J_tell_99 rfl ?_
      refine gt_J_34 (pc := 100) C d_J_tell_100 (hI.live (g := 0) (i := 0) rfl) hI.ob ((hI.dat (g := 0) (i := 0) (k := 5) rfl rfl).trans (addF_5 _ _)) ?_
      rw [(show addF S1 (fvl (kd0 : Int) (-1) (S1 0 0 11) (S 8 0 kd0) (S1 7 0 kd0) (0)) = tellS S kd0 (-1) 0 by rw [tellS, if_neg (by omega), ← e_S1, e011])] at hI
      have hF3 := hF2 (fvl (kd0 : Int) (-1) (S1 0 0 11) (S 8 0 kd0) (S1 7 0 kd0) (0))
      rw [(show addF S1 (fvl (kd0 : Int) (-1) (S1 0 0 11) (S 8 0 kd0) (S1 7 0 kd0) (0)) = tellS S kd0 (-1) 0 by rw [tellS, if_neg (by omega), ← e_S1, e011])] at hF3
      exact ph_iret (pc := 103) C d_J_tell_103 hr hlk rfl (by decide) (by decide) ⟨hI, hF3, by rw [tellv, if_neg (by omega), e05]⟩
  · refine ph_iconst (pc := 9) C d_J_tell_9 ?_
    exact ph_iret (pc := 10) C d_J_tell_10 hr hlk rfl (by decide) (by decide) ⟨by rw [tellS, if_pos (by omega)]; exact hI, by rw [tellS, if_pos (by omega)]; exact hF, by rw [tellv, if_pos (by omega)]⟩
