/-! ===== sensor, item ===== -/
set_option maxHeartbeats 4000000 in
set_option maxRecDepth 100000 in
theorem c_J_sensor (l : Launch) (D : va_G) (dT : Nat → ClassId) (A : Nat → Prop) (KX : State → Prop) (L : Nat → Nat → Prop) (ad : Nat → Nat → Nat) (τ : ph_T) (S : ph_T) (o : Nat) (hI : JR S o L ad τ) (hV : IV S) (hF : JF S L) (x : Int) (hx : ph_rl x) : ph_M l y_J_sensor (.code y_J_sensor b_J_sensor 5 (some .int) :: TB) ({ frames := 2, cells := 1, slots := 6, locals := 34 } : Room) D CLs (TY dT) dT kd A KX [.ref (o), .long (ph_l (x))] L ad τ (fun r L' ad' τ' => JR (senS S x) o L' ad' τ' ∧ JF (senS S x) L' ∧ r = some (.int (ph_i (senv S x)))) 1 6 := by
  refine ph_M.of (cc := b_J_sensor) (maxL := 5) (ret := (some .int)) (by decide) rfl (Nat.le_of_ble_eq_true rfl) ?_
  intro p e s m below meth c C0 hr hlk hnm
  have C := C0.sub
  refine ph_loc (l2 := [(0, .ref (o)), (1, .long (ph_l (x)))]) ⟨rfl, rfl, trivial⟩ ?_
  have hc := hV.c
  have hbr := bef_r hV
  refine ph_aload_n (pc := 0) C d_J_sensor_0 rfl ?_
  refine gt_J_15 (pc := 1) C d_J_sensor_1 (hI.live (g := 0) (i := 0) rfl) hI.ob (z := S 0 0 1) (hI.dat rfl rfl) ?_
  refine ph_if_ne (pc := 4) (tgt := 11) C d_J_sensor_4 (by decide) (by omega) (fun c4 => ?_) (fun c4 => ?_)
  · refine ph_aload_n (pc := 11) C d_J_sensor_11 rfl ?_
    refine gt_J_11 (pc := 12) C d_J_sensor_12 (hI.live (g := 0) (i := 0) rfl) hI.ob hI.r0 ?_
    refine ph_aload_n (pc := 15) C d_J_sensor_15 rfl ?_
    refine gt_J_15 (pc := 16) C d_J_sensor_16 (hI.live (g := 0) (i := 0) rfl) hI.ob (z := S 0 0 1) (hI.dat rfl rfl) ?_
    refine ph_iconst (pc := 19) C d_J_sensor_19 ?_
    refine ph_isub (pc := 20) C d_J_sensor_20 ?_
    refine ph_aald (pc := 21) (t := 0) C d_J_sensor_21 (hI.live (g := 4) (i := 0) rfl) rfl rfl rfl (S 0 0 1 - 1).toNat (by omega) (by have := (show LC S 1 (S 0 0 1 - 1).toNat by simp only [LC]; omega); simp only [LC] at this; omega) (by decide) (ph_vr (hI.e4 (show LC S 1 (S 0 0 1 - 1).toNat by simp only [LC]; omega))) ?_
    refine gt_J_58 (pc := 22) C d_J_sensor_22 (hI.live (show LC S 1 (S 0 0 1 - 1).toNat by simp only [LC]; omega)) rfl (z := S 1 (S 0 0 1 - 1).toNat 0) (hI.dat (show LC S 1 (S 0 0 1 - 1).toNat by simp only [LC]; omega) rfl) ?_
    have hbe : bef S = S 1 (S 0 0 1 - 1).toNat 0 := by first | rw [bef, if_pos (by assumption)] | rw [bef, if_neg (by assumption)]
    refine ph_lstore_n (pc := 25) C d_J_sensor_25 (by decide) rfl ?_
    refine ph_lload_n (pc := 26) C d_J_sensor_26 rfl ?_
    refine ph_lload_n (pc := 27) C d_J_sensor_27 rfl ?_
    refine ph_ldc2 (pc := 28) C d_J_sensor_28 (100) (by decide) tw_63 ?_
    refine ph_ladd (pc := 31) C d_J_sensor_31 ?_
    refine ph_l_lt (pc := 32) (tgt := 44) C d_J_sensor_32 d_J_sensor_33 (by decide) (by omega) (by omega) (fun c32 => ?_) (fun c32 => ?_)
    · refine ph_bipush (pc := 44) C d_J_sensor_44 (by decide) ?_
      exact ph_iret (pc := 46) C d_J_sensor_46 hr hlk rfl (by omega) (by omega) ⟨(by rw [senS_f (fun q => by have q1 := q.1; have q2 := q.2.1; have q3 := q.2.2.1; have q4 := q.2.2.2; omega)]; exact hI), (by rw [senS_f (fun q => by have q1 := q.1; have q2 := q.2.1; have q3 := q.2.2.1; have q4 := q.2.2.2; omega)]; exact hF), (by rw [senv, if_pos (by omega)])⟩
    · refine ph_lload_n (pc := 36) C d_J_sensor_36 rfl ?_
      refine ph_ldc2 (pc := 37) C d_J_sensor_37 (100000) (by decide) tw_64 ?_
      refine ph_l_le (pc := 40) (tgt := 47) C d_J_sensor_40 d_J_sensor_41 (by decide) (by omega) (by omega) (fun c40 => ?_) (fun c40 => ?_)
      · refine ph_aload_n (pc := 47) C d_J_sensor_47 rfl ?_
        refine gt_J_25 (pc := 48) C d_J_sensor_48 (hI.live (g := 0) (i := 0) rfl) hI.ob (z := S 0 0 3) (hI.dat rfl rfl) ?_
        refine ph_if_le (pc := 51) (tgt := 57) C d_J_sensor_51 (by decide) (by omega) (fun c51 => ?_) (fun c51 => ?_)
        · refine ph_aload_n (pc := 57) C d_J_sensor_57 rfl ?_
          refine gt_J_15 (pc := 58) C d_J_sensor_58 (hI.live (g := 0) (i := 0) rfl) hI.ob (z := S 0 0 1) (hI.dat rfl rfl) ?_
          refine ph_bipush (pc := 61) C d_J_sensor_61 (by decide) ?_
          refine ph_icmp_lt (pc := 63) (tgt := 69) C d_J_sensor_63 (by decide) (by omega) (by omega) (fun c63 => ?_) (fun c63 => ?_)
          · refine ph_aload_n (pc := 69) C d_J_sensor_69 rfl ?_
            refine gt_J_11 (pc := 70) C d_J_sensor_70 (hI.live (g := 0) (i := 0) rfl) hI.ob hI.r0 ?_
            refine ph_aload_n (pc := 73) C d_J_sensor_73 rfl ?_
            refine gt_J_15 (pc := 74) C d_J_sensor_74 (hI.live (g := 0) (i := 0) rfl) hI.ob (z := S 0 0 1) (hI.dat rfl rfl) ?_
            obtain ⟨f, hf⟩ : ∃ f : Nat, (f : Int) = S 0 0 1 := ⟨(S 0 0 1).toNat, by omega⟩
            have hn : ¬ LC S 1 f := by simp only [LC]; omega
            refine ph_new (pc := 77) (g := 1) C d_J_sensor_77 f (fun q => hn (hF 1 f (by omega) q)) rfl rfl in_S t_S_ok tw_14 tw_65 tw_3 (fun j hj => by rcases (show j = 0 ∨ j = 1 ∨ j = 2 ∨ j = 3 ∨ j = 4 ∨ j = 5 by omega) with rfl | rfl | rfl | rfl | rfl | rfl <;> rfl) (by decide) (by decide) ?_
            intro a hfresh
            have hLf : ph_Ln L 1 f 1 f := Or.inr ⟨rfl, rfl⟩
            have haf : ph_an ad 1 f a 1 f = a := an_at ad 1 f a
            have h40 : ph_an ad 1 f a 4 0 = ad 4 0 := an_ne _ _ (by omega)
            have h00 : ph_an ad 1 f a 0 0 = o := by rw [an_ne _ _ (by omega)]; exact hI.ob
            have hl0 : ph_Ln L 1 f 0 0 := Or.inl (hI.live (g := 0) (i := 0) rfl)
            refine ph_dup (pc := 80) C d_J_sensor_80 rfl ?_
            refine ph_lload_n (pc := 81) C d_J_sensor_81 rfl ?_
            refine ph_callI (pc := 82) (rest := [.ref a, .int (ph_i (S 0 0 1)), .ref (ad 4 0)]) C d_J_sensor_82 (c_S_init l D dT A KX (ph_Ln L 1 f) (ph_an ad 1 f a) (ph_tn τ 1 f (ph_df [1, 0, 0, 0, 1, 0])) f a hLf haf x) (cwI 1 C.hts (gdI tw_68) rfl rfl rfl (C.hts _ tw_3) (C.hts _ tw_66) (C.hts _ tw_67) rfl (by decide) ⟨by decide, by decide⟩) rfl rfl (Nat.le_of_ble_eq_true rfl) ⟨by decide, by decide⟩ ?_
            rintro r1 L1 ad1 τ2 ⟨g1, g2, g3, g4⟩; subst g1; subst g2; subst g4
            have hq : ∀ g i q, ¬ (g = 1 ∧ i = f) → τ2 g i q = τ g i q := fun g i q hz => by rw [g3, ph_up_no _ _ (by omega), ph_up_no _ _ (by omega), ph_up_no _ _ (by omega), ph_up_no _ _ (by omega), ph_up_no _ _ (by omega), ph_up_no _ _ (by omega), tn_ne _ _ hz]
            have hv : ∀ q, q < 6 → τ2 1 f q = svl x q := fun q hq2 => by rw [g3]; rcases (show q = 0 ∨ q = 1 ∨ q = 2 ∨ q = 3 ∨ q = 4 ∨ q = 5 by omega) with rfl | rfl | rfl | rfl | rfl | rfl <;> simp [ph_up, svl]
            refine ph_aast (pc := 85) (t := 0) C (Or.inl (hI.live (g := 4) (i := 0) rfl)) h40 rfl rfl hLf haf rfl rfl f hf.symm (by omega) (by decide) d_J_sensor_85 ?_
            refine ph_aload_n (pc := 86) C d_J_sensor_86 rfl ?_
            refine ph_dup (pc := 87) C d_J_sensor_87 rfl ?_
            refine gt_J_15 (pc := 88) (z := S 0 0 1) C d_J_sensor_88 hl0 h00 (by rw [up_ne _ (by decide), hq _ _ _ (by omega)]; exact hI.dat rfl rfl) ?_
            refine ph_iconst (pc := 91) C d_J_sensor_91 ?_
            refine ph_iadd (pc := 92) C d_J_sensor_92 ?_
            refine pt_J_15 (pc := 93) C d_J_sensor_93 hl0 h00 ?_
            refine ph_aload_n (pc := 96) C d_J_sensor_96 rfl ?_
            refine gt_J_15 (pc := 97) C d_J_sensor_97 hl0 h00 (ph_up_at _ _ _ _ _) ?_
            refine ph_iconst (pc := 100) C d_J_sensor_100 ?_
            refine ph_isub (pc := 101) C d_J_sensor_101 ?_
            exact ph_iret (pc := 102) C d_J_sensor_102 hr hlk rfl (by decide) (by decide) ⟨(by rw [senS_t ⟨by omega, by omega, by omega, by omega⟩]; exact hI.addS (by omega) hf (fun g i q => Or.inl q) (fun g i q => an_ne _ _ (fun z => hn (by obtain ⟨rfl, rfl⟩ := z; exact q))) hLf (fun g i q z1 z2 z3 => by rw [ph_up_no _ _ z1, ph_up_no _ _ z2, hq g i q z3]) (ph_up_at _ _ _ _ _) (by rw [up_ne _ (by decide), ph_up_at, haf]) (fun q hq2 => by rw [up_ne _ (by decide), up_ne _ (by decide)]; exact hv q hq2)), (by rw [senS_t ⟨by omega, by omega, by omega, by omega⟩]; exact hF.addS (by omega) _ hf), (by rw [senv, if_neg (by omega), if_neg (by omega), if_neg (by omega), show S 0 0 1 + 1 - 1 = S 0 0 1 by omega])⟩
          · refine ph_bipush (pc := 66) C d_J_sensor_66 (by decide) ?_
            exact ph_iret (pc := 68) C d_J_sensor_68 hr hlk rfl (by omega) (by omega) ⟨(by rw [senS_f (fun q => by have q1 := q.1; have q2 := q.2.1; have q3 := q.2.2.1; have q4 := q.2.2.2; omega)]; exact hI), (by rw [senS_f (fun q => by have q1 := q.1; have q2 := q.2.1; have q3 := q.2.2.1; have q4 := q.2.2.2; omega)]; exact hF), (by rw [senv, if_neg (by omega), if_neg (by omega), if_pos (by omega)])⟩
        · refine ph_bipush (pc := 54) C d_J_sensor_54 (by decide) ?_
          exact ph_iret (pc := 56) C d_J_sensor_56 hr hlk rfl (by omega) (by omega) ⟨(by rw [senS_f (fun q => by have q1 := q.1; have q2 := q.2.1; have q3 := q.2.2.1; have q4 := q.2.2.2; omega)]; exact hI), (by rw [senS_f (fun q => by have q1 := q.1; have q2 := q.2.1; have q3 := q.2.2.1; have q4 := q.2.2.2; omega)]; exact hF), (by rw [senv, if_neg (by omega), if_pos (by omega)])⟩
      · refine ph_bipush (pc := 44) C d_J_sensor_44 (by decide) ?_
        exact ph_iret (pc := 46) C d_J_sensor_46 hr hlk rfl (by omega) (by omega) ⟨(by rw [senS_f (fun q => by have q1 := q.1; have q2 := q.2.1; have q3 := q.2.2.1; have q4 := q.2.2.2; omega)]; exact hI), (by rw [senS_f (fun q => by have q1 := q.1; have q2 := q.2.1; have q3 := q.2.2.1; have q4 := q.2.2.2; omega)]; exact hF), (by rw [senv, if_pos (by omega)])⟩
  · refine ph_lconst (pc := 7) C d_J_sensor_7 0 (by decide) ?_
    refine ph_goto (pc := 8) (tgt := 25) C d_J_sensor_8 (by decide) ?_
    have hbe : bef S = 0 := by first | rw [bef, if_pos (by assumption)] | rw [bef, if_neg (by assumption)]
    refine ph_lstore_n (pc := 25) C d_J_sensor_25 (by decide) rfl ?_
    refine ph_lload_n (pc := 26) C d_J_sensor_26 rfl ?_
    refine ph_lload_n (pc := 27) C d_J_sensor_27 rfl ?_
    refine ph_ldc2 (pc := 28) C d_J_sensor_28 (100) (by decide) tw_63 ?_
    refine ph_ladd (pc := 31) C d_J_sensor_31 ?_
    refine ph_l_lt (pc := 32) (tgt := 44) C d_J_sensor_32 d_J_sensor_33 (by decide) (by omega) (by omega) (fun c32 => ?_) (fun c32 => ?_)
    · refine ph_bipush (pc := 44) C d_J_sensor_44 (by decide) ?_
      exact ph_iret (pc := 46) C d_J_sensor_46 hr hlk rfl (by omega) (by omega) ⟨(by rw [senS_f (fun q => by have q1 := q.1; have q2 := q.2.1; have q3 := q.2.2.1; have q4 := q.2.2.2; omega)]; exact hI), (by rw [senS_f (fun q => by have q1 := q.1; have q2 := q.2.1; have q3 := q.2.2.1; have q4 := q.2.2.2; omega)]; exact hF), (by rw [senv, if_pos (by omega)])⟩
    · refine ph_lload_n (pc := 36) C d_J_sensor_36 rfl ?_
      refine ph_ldc2 (pc := 37) C d_J_sensor_37 (100000) (by decide) tw_64 ?_
      refine ph_l_le (pc := 40) (tgt := 47) C d_J_sensor_40 d_J_sensor_41 (by decide) (by omega) (by omega) (fun c40 => ?_) (fun c40 => ?_)
      · refine ph_aload_n (pc := 47) C d_J_sensor_47 rfl ?_
        refine gt_J_25 (pc := 48) C d_J_sensor_48 (hI.live (g := 0) (i := 0) rfl) hI.ob (z := S 0 0 3) (hI.dat rfl rfl) ?_
        refine ph_if_le (pc := 51) (tgt := 57) C d_J_sensor_51 (by decide) (by omega) (fun c51 => ?_) (fun c51 => ?_)
        · refine ph_aload_n (pc := 57) C d_J_sensor_57 rfl ?_
          refine gt_J_15 (pc := 58) C d_J_sensor_58 (hI.live (g := 0) (i := 0) rfl) hI.ob (z := S 0 0 1) (hI.dat rfl rfl) ?_
          refine ph_bipush (pc := 61) C d_J_sensor_61 (by decide) ?_
          refine ph_icmp_lt (pc := 63) (tgt := 69) C d_J_sensor_63 (by decide) (by omega) (by omega) (fun c63 => ?_) (fun c63 => ?_)
          · refine ph_aload_n (pc := 69) C d_J_sensor_69 rfl ?_
            refine gt_J_11 (pc := 70) C d_J_sensor_70 (hI.live (g := 0) (i := 0) rfl) hI.ob hI.r0 ?_
            refine ph_aload_n (pc := 73) C d_J_sensor_73 rfl ?_
            refine gt_J_15 (pc := 74) C d_J_sensor_74 (hI.live (g := 0) (i := 0) rfl) hI.ob (z := S 0 0 1) (hI.dat rfl rfl) ?_
            obtain ⟨f, hf⟩ : ∃ f : Nat, (f : Int) = S 0 0 1 := ⟨(S 0 0 1).toNat, by omega⟩
            have hn : ¬ LC S 1 f := by simp only [LC]; omega
            refine ph_new (pc := 77) (g := 1) C d_J_sensor_77 f (fun q => hn (hF 1 f (by omega) q)) rfl rfl in_S t_S_ok tw_14 tw_65 tw_3 (fun j hj => by rcases (show j = 0 ∨ j = 1 ∨ j = 2 ∨ j = 3 ∨ j = 4 ∨ j = 5 by omega) with rfl | rfl | rfl | rfl | rfl | rfl <;> rfl) (by decide) (by decide) ?_
            intro a hfresh
            have hLf : ph_Ln L 1 f 1 f := Or.inr ⟨rfl, rfl⟩
            have haf : ph_an ad 1 f a 1 f = a := an_at ad 1 f a
            have h40 : ph_an ad 1 f a 4 0 = ad 4 0 := an_ne _ _ (by omega)
            have h00 : ph_an ad 1 f a 0 0 = o := by rw [an_ne _ _ (by omega)]; exact hI.ob
            have hl0 : ph_Ln L 1 f 0 0 := Or.inl (hI.live (g := 0) (i := 0) rfl)
            refine ph_dup (pc := 80) C d_J_sensor_80 rfl ?_
            refine ph_lload_n (pc := 81) C d_J_sensor_81 rfl ?_
            refine ph_callI (pc := 82) (rest := [.ref a, .int (ph_i (S 0 0 1)), .ref (ad 4 0)]) C d_J_sensor_82 (c_S_init l D dT A KX (ph_Ln L 1 f) (ph_an ad 1 f a) (ph_tn τ 1 f (ph_df [1, 0, 0, 0, 1, 0])) f a hLf haf x) (cwI 1 C.hts (gdI tw_68) rfl rfl rfl (C.hts _ tw_3) (C.hts _ tw_66) (C.hts _ tw_67) rfl (by decide) ⟨by decide, by decide⟩) rfl rfl (Nat.le_of_ble_eq_true rfl) ⟨by decide, by decide⟩ ?_
            rintro r1 L1 ad1 τ2 ⟨g1, g2, g3, g4⟩; subst g1; subst g2; subst g4
            have hq : ∀ g i q, ¬ (g = 1 ∧ i = f) → τ2 g i q = τ g i q := fun g i q hz => by rw [g3, ph_up_no _ _ (by omega), ph_up_no _ _ (by omega), ph_up_no _ _ (by omega), ph_up_no _ _ (by omega), ph_up_no _ _ (by omega), ph_up_no _ _ (by omega), tn_ne _ _ hz]
            have hv : ∀ q, q < 6 → τ2 1 f q = svl x q := fun q hq2 => by rw [g3]; rcases (show q = 0 ∨ q = 1 ∨ q = 2 ∨ q = 3 ∨ q = 4 ∨ q = 5 by omega) with rfl | rfl | rfl | rfl | rfl | rfl <;> simp [ph_up, svl]
            refine ph_aast (pc := 85) (t := 0) C (Or.inl (hI.live (g := 4) (i := 0) rfl)) h40 rfl rfl hLf haf rfl rfl f hf.symm (by omega) (by decide) d_J_sensor_85 ?_
            refine ph_aload_n (pc := 86) C d_J_sensor_86 rfl ?_
            refine ph_dup (pc := 87) C d_J_sensor_87 rfl ?_
            refine gt_J_15 (pc := 88) (z := S 0 0 1) C d_J_sensor_88 hl0 h00 (by rw [up_ne _ (by decide), hq _ _ _ (by omega)]; exact hI.dat rfl rfl) ?_
            refine ph_iconst (pc := 91) C d_J_sensor_91 ?_
            refine ph_iadd (pc := 92) C d_J_sensor_92 ?_
            refine pt_J_15 (pc := 93) C d_J_sensor_93 hl0 h00 ?_
            refine ph_aload_n (pc := 96) C d_J_sensor_96 rfl ?_
            refine gt_J_15 (pc := 97) C d_J_sensor_97 hl0 h00 (ph_up_at _ _ _ _ _) ?_
            refine ph_iconst (pc := 100) C d_J_sensor_100 ?_
            refine ph_isub (pc := 101) C d_J_sensor_101 ?_
            exact ph_iret (pc := 102) C d_J_sensor_102 hr hlk rfl (by decide) (by decide) ⟨(by rw [senS_t ⟨by omega, by omega, by omega, by omega⟩]; exact hI.addS (by omega) hf (fun g i q => Or.inl q) (fun g i q => an_ne _ _ (fun z => hn (by obtain ⟨rfl, rfl⟩ := z; exact q))) hLf (fun g i q z1 z2 z3 => by rw [ph_up_no _ _ z1, ph_up_no _ _ z2, hq g i q z3]) (ph_up_at _ _ _ _ _) (by rw [up_ne _ (by decide), ph_up_at, haf]) (fun q hq2 => by rw [up_ne _ (by decide), up_ne _ (by decide)]; exact hv q hq2)), (by rw [senS_t ⟨by omega, by omega, by omega, by omega⟩]; exact hF.addS (by omega) _ hf), (by rw [senv, if_neg (by omega), if_neg (by omega), if_neg (by omega), show S 0 0 1 + 1 - 1 = S 0 0 1 by omega])⟩
          · refine ph_bipush (pc := 66) C d_J_sensor_66 (by decide) ?_
            exact ph_iret (pc := 68) C d_J_sensor_68 hr hlk rfl (by omega) (by omega) ⟨(by rw [senS_f (fun q => by have q1 := q.1; have q2 := q.2.1; have q3 := q.2.2.1; have q4 := q.2.2.2; omega)]; exact hI), (by rw [senS_f (fun q => by have q1 := q.1; have q2 := q.2.1; have q3 := q.2.2.1; have q4 := q.2.2.2; omega)]; exact hF), (by rw [senv, if_neg (by omega), if_neg (by omega), if_pos (by omega)])⟩
        · refine ph_bipush (pc := 54) C d_J_sensor_54 (by decide) ?_
          exact ph_iret (pc := 56) C d_J_sensor_56 hr hlk rfl (by omega) (by omega) ⟨(by rw [senS_f (fun q => by have q1 := q.1; have q2 := q.2.1; have q3 := q.2.2.1; have q4 := q.2.2.2; omega)]; exact hI), (by rw [senS_f (fun q => by have q1 := q.1; have q2 := q.2.1; have q3 := q.2.2.1; have q4 := q.2.2.2; omega)]; exact hF), (by rw [senv, if_neg (by omega), if_pos (by omega)])⟩
      · refine ph_bipush (pc := 44) C d_J_sensor_44 (by decide) ?_
        exact ph_iret (pc := 46) C d_J_sensor_46 hr hlk rfl (by omega) (by omega) ⟨(by rw [senS_f (fun q => by have q1 := q.1; have q2 := q.2.1; have q3 := q.2.2.1; have q4 := q.2.2.2; omega)]; exact hI), (by rw [senS_f (fun q => by have q1 := q.1; have q2 := q.2.1; have q3 := q.2.2.1; have q4 := q.2.2.2; omega)]; exact hF), (by rw [senv, if_pos (by omega)])⟩
set_option maxHeartbeats 4000000 in
set_option maxRecDepth 100000 in
theorem c_J_item (l : Launch) (D : va_G) (dT : Nat → ClassId) (A : Nat → Prop) (KX : State → Prop) (L : Nat → Nat → Prop) (ad : Nat → Nat → Nat) (τ : ph_T) (S : ph_T) (o : Nat) (hI : JR S o L ad τ) (hV : IV S) (hF : JF S L) (x t : Int) (hx : ph_rl x) (ht : ph_rl t) : ph_M l y_J_item (.code y_J_item b_J_item 5 (some .int) :: TB) ({ frames := 2, cells := 1, slots := 7, locals := 36 } : Room) D CLs (TY dT) dT kd A KX [.ref (o), .long (ph_l (x)), .long (ph_l (t))] L ad τ (fun r L' ad' τ' => JR (itS S x t) o L' ad' τ' ∧ JF (itS S x t) L' ∧ r = some (.int (ph_i (itv S x t)))) 1 7 := by
  refine ph_M.of (cc := b_J_item) (maxL := 5) (ret := (some .int)) (by decide) rfl (Nat.le_of_ble_eq_true rfl) ?_
  intro p e s m below meth c C0 hr hlk hnm
  have C := C0.sub
  refine ph_loc (l2 := [(0, .ref (o)), (1, .long (ph_l (x))), (3, .long (ph_l (t)))]) ⟨rfl, rfl, rfl, trivial⟩ ?_
  have hc := hV.c
  have her := earliest_r hV
  refine ph_lload_n (pc := 0) C d_J_item_0 rfl ?_
  refine ph_ldc2 (pc := 1) C d_J_item_1 (50) (by decide) tw_99 ?_
  refine ph_l_lt (pc := 4) (tgt := 33) C d_J_item_4 d_J_item_5 (by decide) (by omega) (by omega) (fun c4 => ?_) (fun c4 => ?_)
  · refine ph_bipush (pc := 33) C d_J_item_33 (by decide) ?_
    exact ph_iret (pc := 35) C d_J_item_35 hr hlk rfl (by omega) (by omega) ⟨(by rw [itS_f (fun q => by first | exact absurd q.1.2.2.1 (by assumption) | exact absurd q.2.1.1 (by assumption) | exact absurd (by assumption) q.2.1.2 | (have q1 := q.1.1; have q2 := q.1.2.1; have q3 := q.1.2.2.2; have q4 := q.2.2; omega))]; exact hI), (by rw [itS_f (fun q => by first | exact absurd q.1.2.2.1 (by assumption) | exact absurd q.2.1.1 (by assumption) | exact absurd (by assumption) q.2.1.2 | (have q1 := q.1.1; have q2 := q.1.2.1; have q3 := q.1.2.2.2; have q4 := q.2.2; omega))]; exact hF), (by rw [itv, if_pos (fun q => by first | exact absurd q.2.2.1 (by assumption) | (have q1 := q.1; have q2 := q.2.1; have q3 := q.2.2.2; omega))])⟩
  · refine ph_lload_n (pc := 8) C d_J_item_8 rfl ?_
    refine ph_ldc2 (pc := 9) C d_J_item_9 (1000) (by decide) tw_100 ?_
    refine ph_l_gt (pc := 12) (tgt := 33) C d_J_item_12 d_J_item_13 (by decide) (by omega) (by omega) (fun c12 => ?_) (fun c12 => ?_)
    · refine ph_bipush (pc := 33) C d_J_item_33 (by decide) ?_
      exact ph_iret (pc := 35) C d_J_item_35 hr hlk rfl (by omega) (by omega) ⟨(by rw [itS_f (fun q => by first | exact absurd q.1.2.2.1 (by assumption) | exact absurd q.2.1.1 (by assumption) | exact absurd (by assumption) q.2.1.2 | (have q1 := q.1.1; have q2 := q.1.2.1; have q3 := q.1.2.2.2; have q4 := q.2.2; omega))]; exact hI), (by rw [itS_f (fun q => by first | exact absurd q.1.2.2.1 (by assumption) | exact absurd q.2.1.1 (by assumption) | exact absurd (by assumption) q.2.1.2 | (have q1 := q.1.1; have q2 := q.1.2.1; have q3 := q.1.2.2.2; have q4 := q.2.2; omega))]; exact hF), (by rw [itv, if_pos (fun q => by first | exact absurd q.2.2.1 (by assumption) | (have q1 := q.1; have q2 := q.2.1; have q3 := q.2.2.2; omega))])⟩
    · refine ph_aload_n (pc := 16) C d_J_item_16 rfl ?_
      refine ph_lload_n (pc := 17) C d_J_item_17 rfl ?_
      refine ph_callV (pc := 18) (rest := []) C d_J_item_18 (c_J_isTime l D dT A KX L ad τ S o hI hV t ht) (cwV 1 C.hts (gdV tw_101 tw_103 se_0 tw_1 tw_104) rfl rfl rfl ⟨rfl, by decide, by decide, by decide⟩ ⟨by decide, by decide⟩) (hI.live (g := 0) (i := 0) rfl) hI.ob rfl rfl rfl rfl rfl (Nat.le_of_ble_eq_true rfl) ⟨by decide, by decide⟩ ?_
      rintro r1 L1 ad1 τ1 ⟨g1, g2, g3, g4⟩; obtain rfl := g1.symm; obtain rfl := g2.symm; obtain rfl := g3.symm; subst g4
      refine ph_bif_eq (pc := 21) (tgt := 33) C d_J_item_21 (by decide) (fun c21 => ?_) (fun c21 => ?_)
      · refine ph_bipush (pc := 33) C d_J_item_33 (by decide) ?_
        exact ph_iret (pc := 35) C d_J_item_35 hr hlk rfl (by omega) (by omega) ⟨(by rw [itS_f (fun q => by first | exact absurd q.1.2.2.1 (by assumption) | exact absurd q.2.1.1 (by assumption) | exact absurd (by assumption) q.2.1.2 | (have q1 := q.1.1; have q2 := q.1.2.1; have q3 := q.1.2.2.2; have q4 := q.2.2; omega))]; exact hI), (by rw [itS_f (fun q => by first | exact absurd q.1.2.2.1 (by assumption) | exact absurd q.2.1.1 (by assumption) | exact absurd (by assumption) q.2.1.2 | (have q1 := q.1.1; have q2 := q.1.2.1; have q3 := q.1.2.2.2; have q4 := q.2.2; omega))]; exact hF), (by rw [itv, if_pos (fun q => by first | exact absurd q.2.2.1 (by assumption) | (have q1 := q.1; have q2 := q.2.1; have q3 := q.2.2.2; omega))])⟩
      · refine ph_lload_n (pc := 24) C d_J_item_24 rfl ?_
        refine ph_aload_n (pc := 25) C d_J_item_25 rfl ?_
        refine ph_callV (pc := 26) (rest := [.long (ph_l (t))]) C d_J_item_26 (c_J_earliestHead l D dT A KX L ad τ S o hI hV) (cwV 0 C.hts (gdV tw_106 tw_108 se_1 tw_1 tw_109) rfl rfl rfl ⟨rfl, by decide, by decide, by decide⟩ ⟨by decide, by decide⟩) (hI.live (g := 0) (i := 0) rfl) hI.ob rfl rfl rfl rfl rfl (Nat.le_of_ble_eq_true rfl) ⟨by decide, by decide⟩ ?_
        rintro r1 L1 ad1 τ1 ⟨g1, g2, g3, g4⟩; obtain rfl := g1.symm; obtain rfl := g2.symm; obtain rfl := g3.symm; subst g4
        refine ph_l_ge (pc := 29) (tgt := 36) C d_J_item_29 d_J_item_30 (by decide) (by omega) (by omega) (fun c29 => ?_) (fun c29 => ?_)
        · refine ph_aload_n (pc := 36) C d_J_item_36 rfl ?_
          refine ph_callV (pc := 37) (rest := []) C d_J_item_37 (c_J_goesOn l D dT A KX L ad τ S o hI hV) (cwV 0 C.hts (gdV tw_111 tw_112 tw_113 tw_1 tw_114) rfl rfl rfl ⟨rfl, by decide, by decide, by decide⟩ ⟨by decide, by decide⟩) (hI.live (g := 0) (i := 0) rfl) hI.ob rfl rfl rfl rfl rfl (Nat.le_of_ble_eq_true rfl) ⟨by decide, by decide⟩ ?_
          rintro r1 L1 ad1 τ1 ⟨g1, g2, g3, g4⟩; obtain rfl := g1.symm; obtain rfl := g2.symm; obtain rfl := g3.symm; subst g4
          refine ph_bif_eq (pc := 40) (tgt := 50) C d_J_item_40 (by decide) (fun c40 => ?_) (fun c40 => ?_)
          · refine ph_bipush (pc := 50) C d_J_item_50 (by decide) ?_
            exact ph_iret (pc := 52) C d_J_item_52 hr hlk rfl (by omega) (by omega) ⟨(by rw [itS_f (fun q => by first | exact absurd q.1.2.2.1 (by assumption) | exact absurd q.2.1.1 (by assumption) | exact absurd (by assumption) q.2.1.2 | (have q1 := q.1.1; have q2 := q.1.2.1; have q3 := q.1.2.2.2; have q4 := q.2.2; omega))]; exact hI), (by rw [itS_f (fun q => by first | exact absurd q.1.2.2.1 (by assumption) | exact absurd q.2.1.1 (by assumption) | exact absurd (by assumption) q.2.1.2 | (have q1 := q.1.1; have q2 := q.1.2.1; have q3 := q.1.2.2.2; have q4 := q.2.2; omega))]; exact hF), (by rw [itv, if_neg (not_not_intro ⟨by omega, by omega, by assumption, by omega⟩), if_neg (fun q => by first | exact absurd q.1 (by assumption) | exact absurd (by assumption) q.2)])⟩
          · refine ph_aload_n (pc := 43) C d_J_item_43 rfl ?_
            refine gt_J_15 (pc := 44) C d_J_item_44 (hI.live (g := 0) (i := 0) rfl) hI.ob (z := S 0 0 1) (hI.dat rfl rfl) ?_
            refine ph_if_ne (pc := 47) (tgt := 53) C d_J_item_47 (by decide) (by omega) (fun c47 => ?_) (fun c47 => ?_)
            · refine ph_aload_n (pc := 53) C d_J_item_53 rfl ?_
              refine gt_J_25 (pc := 54) C d_J_item_54 (hI.live (g := 0) (i := 0) rfl) hI.ob (z := S 0 0 3) (hI.dat rfl rfl) ?_
              refine ph_bipush (pc := 57) C d_J_item_57 (by decide) ?_
              refine ph_icmp_lt (pc := 59) (tgt := 65) C d_J_item_59 (by decide) (by omega) (by omega) (fun c59 => ?_) (fun c59 => ?_)
              · refine ph_aload_n (pc := 65) C d_J_item_65 rfl ?_
                refine ph_dup (pc := 66) C d_J_item_66 rfl ?_
                refine gt_J_25 (pc := 67) C d_J_item_67 (hI.live (g := 0) (i := 0) rfl) hI.ob (z := S 0 0 3) (hI.dat rfl rfl) ?_
                refine ph_iconst (pc := 70) C d_J_item_70 ?_
                refine ph_iadd (pc := 71) C d_J_item_71 ?_
                obtain ⟨f, hf⟩ : ∃ f : Nat, (f : Int) = S 0 0 3 + 1 := ⟨(S 0 0 3 + 1).toNat, by omega⟩
                have hn : ¬ LC S 2 f := by simp only [LC]; omega
                refine pt_J_25 (pc := 72) C d_J_item_72 (hI.live (g := 0) (i := 0) rfl) hI.ob ?_
                refine ph_aload_n (pc := 75) C d_J_item_75 rfl ?_
                refine gt_J_21 (pc := 76) C d_J_item_76 (hI.live (g := 0) (i := 0) rfl) hI.ob (by rw [ph_up_no _ _ (by decide)]; exact hI.r2) ?_
                refine ph_aload_n (pc := 79) C d_J_item_79 rfl ?_
                refine gt_J_25 (pc := 80) C d_J_item_80 (hI.live (g := 0) (i := 0) rfl) hI.ob (ph_up_at _ _ _ _ _) ?_
                refine ph_new (pc := 83) (g := 2) C d_J_item_83 f (fun q => hn (hF 2 f (by omega) q)) rfl rfl in_I t_I_ok tw_16 tw_115 tw_4 (fun j hj => by rcases (show j = 0 ∨ j = 1 ∨ j = 2 ∨ j = 3 ∨ j = 4 ∨ j = 5 ∨ j = 6 by omega) with rfl | rfl | rfl | rfl | rfl | rfl | rfl <;> rfl) (by decide) (by decide) ?_
                intro a hfresh
                have hLf : ph_Ln L 2 f 2 f := Or.inr ⟨rfl, rfl⟩
                have haf : ph_an ad 2 f a 2 f = a := an_at ad 2 f a
                have h50 : ph_an ad 2 f a 5 0 = ad 5 0 := an_ne _ _ (by omega)
                have h00 : ph_an ad 2 f a 0 0 = o := by rw [an_ne _ _ (by omega)]; exact hI.ob
                have hl0 : ph_Ln L 2 f 0 0 := Or.inl (hI.live (g := 0) (i := 0) rfl)
                refine ph_dup (pc := 86) C d_J_item_86 rfl ?_
                refine ph_lload_n (pc := 87) C d_J_item_87 rfl ?_
                refine ph_lload_n (pc := 88) C d_J_item_88 rfl ?_
                refine ph_callI (pc := 89) (rest := [.ref a, .int (ph_i (S 0 0 3 + 1)), .ref (ad 5 0)]) C d_J_item_89 (c_I_init l D dT A KX (ph_Ln L 2 f) (ph_an ad 2 f a) (ph_tn (ph_up τ 0 0 3 (S 0 0 3 + 1)) 2 f (ph_df [1, 1, 0, 0, 0, 0, 0])) f a hLf haf x t) (cwI 2 C.hts (gdI tw_118) rfl rfl rfl (C.hts _ tw_4) (C.hts _ tw_116) (C.hts _ tw_117) rfl (by decide) ⟨by decide, by decide⟩) rfl rfl (Nat.le_of_ble_eq_true rfl) ⟨by decide, by decide⟩ ?_
                rintro r1 L1 ad1 τ2 ⟨g1, g2, g3, g4⟩; subst g1; subst g2; subst g4
                have hq : ∀ g i q, ¬ (g = 2 ∧ i = f) → τ2 g i q = ph_up τ 0 0 3 (S 0 0 3 + 1) g i q := fun g i q hz => by rw [g3, ph_up_no _ _ (by omega), ph_up_no _ _ (by omega), ph_up_no _ _ (by omega), ph_up_no _ _ (by omega), ph_up_no _ _ (by omega), ph_up_no _ _ (by omega), ph_up_no _ _ (by omega), tn_ne _ _ hz]
                have hv : ∀ q, q < 7 → τ2 2 f q = ivl x t q := fun q hq2 => by rw [g3]; rcases (show q = 0 ∨ q = 1 ∨ q = 2 ∨ q = 3 ∨ q = 4 ∨ q = 5 ∨ q = 6 by omega) with rfl | rfl | rfl | rfl | rfl | rfl | rfl <;> simp [ph_up, ivl]
                refine ph_aast (pc := 92) (t := 1) C (Or.inl (hI.live (g := 5) (i := 0) rfl)) h50 rfl rfl hLf haf rfl rfl f hf.symm (by omega) (by decide) d_J_item_92 ?_
                refine ph_aload_n (pc := 93) C d_J_item_93 rfl ?_
                refine gt_J_25 (pc := 94) (z := S 0 0 3 + 1) C d_J_item_94 hl0 h00 (by rw [up_ne _ (by decide), hq _ _ _ (by omega)]; exact ph_up_at _ _ _ _ _) ?_
                exact ph_iret (pc := 97) C d_J_item_97 hr hlk rfl (by decide) (by decide) ⟨(by rw [itS_t ⟨⟨by omega, by omega, by assumption, by omega⟩, ⟨by assumption, by assumption⟩, by omega⟩]; exact hI.addI (by omega) hf (fun g i q => Or.inl q) (fun g i q => an_ne _ _ (fun z => hn (by obtain ⟨rfl, rfl⟩ := z; exact q))) hLf (fun g i q z1 z2 z3 => by rw [ph_up_no _ _ z2, hq g i q z3, ph_up_no _ _ z1]) (by rw [up_ne _ (by decide), hq _ _ _ (by omega)]; exact ph_up_at _ _ _ _ _) (by rw [ph_up_at, haf]) (fun q hq2 => by rw [up_ne _ (by decide)]; exact hv q hq2)), (by rw [itS_t ⟨⟨by omega, by omega, by assumption, by omega⟩, ⟨by assumption, by assumption⟩, by omega⟩]; exact hF.addI (by omega) _ hf), (by rw [itv, if_neg (not_not_intro ⟨by omega, by omega, by assumption, by omega⟩), if_pos ⟨by assumption, by assumption⟩, if_neg (by omega)])⟩
              · refine ph_bipush (pc := 62) C d_J_item_62 (by decide) ?_
                exact ph_iret (pc := 64) C d_J_item_64 hr hlk rfl (by omega) (by omega) ⟨(by rw [itS_f (fun q => by first | exact absurd q.1.2.2.1 (by assumption) | exact absurd q.2.1.1 (by assumption) | exact absurd (by assumption) q.2.1.2 | (have q1 := q.1.1; have q2 := q.1.2.1; have q3 := q.1.2.2.2; have q4 := q.2.2; omega))]; exact hI), (by rw [itS_f (fun q => by first | exact absurd q.1.2.2.1 (by assumption) | exact absurd q.2.1.1 (by assumption) | exact absurd (by assumption) q.2.1.2 | (have q1 := q.1.1; have q2 := q.1.2.1; have q3 := q.1.2.2.2; have q4 := q.2.2; omega))]; exact hF), (by rw [itv, if_neg (not_not_intro ⟨by omega, by omega, by assumption, by omega⟩), if_pos ⟨by assumption, by assumption⟩, if_pos (by omega)])⟩
            · refine ph_bipush (pc := 50) C d_J_item_50 (by decide) ?_
              exact ph_iret (pc := 52) C d_J_item_52 hr hlk rfl (by omega) (by omega) ⟨(by rw [itS_f (fun q => by first | exact absurd q.1.2.2.1 (by assumption) | exact absurd q.2.1.1 (by assumption) | exact absurd (by assumption) q.2.1.2 | (have q1 := q.1.1; have q2 := q.1.2.1; have q3 := q.1.2.2.2; have q4 := q.2.2; omega))]; exact hI), (by rw [itS_f (fun q => by first | exact absurd q.1.2.2.1 (by assumption) | exact absurd q.2.1.1 (by assumption) | exact absurd (by assumption) q.2.1.2 | (have q1 := q.1.1; have q2 := q.1.2.1; have q3 := q.1.2.2.2; have q4 := q.2.2; omega))]; exact hF), (by rw [itv, if_neg (not_not_intro ⟨by omega, by omega, by assumption, by omega⟩), if_neg (fun q => by first | exact absurd q.1 (by assumption) | exact absurd (by assumption) q.2)])⟩
        · refine ph_bipush (pc := 33) C d_J_item_33 (by decide) ?_
          exact ph_iret (pc := 35) C d_J_item_35 hr hlk rfl (by omega) (by omega) ⟨(by rw [itS_f (fun q => by first | exact absurd q.1.2.2.1 (by assumption) | exact absurd q.2.1.1 (by assumption) | exact absurd (by assumption) q.2.1.2 | (have q1 := q.1.1; have q2 := q.1.2.1; have q3 := q.1.2.2.2; have q4 := q.2.2; omega))]; exact hI), (by rw [itS_f (fun q => by first | exact absurd q.1.2.2.1 (by assumption) | exact absurd q.2.1.1 (by assumption) | exact absurd (by assumption) q.2.1.2 | (have q1 := q.1.1; have q2 := q.1.2.1; have q3 := q.1.2.2.2; have q4 := q.2.2; omega))]; exact hF), (by rw [itv, if_pos (fun q => by first | exact absurd q.2.2.1 (by assumption) | (have q1 := q.1; have q2 := q.2.1; have q3 := q.2.2.2; omega))])⟩
