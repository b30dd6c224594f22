/-! ===== doubt, cause, alarm ===== -/
set_option maxHeartbeats 4000000 in
set_option maxRecDepth 100000 in
theorem c_J_doubt (l : Launch) (D : va_G) (dT : Nat → ClassId) (A : Nat → Prop) (KX : State → Prop) (L : Nat → Nat → Prop) (ad : Nat → Nat → Nat) (τ : ph_T) (S : ph_T) (o : Nat) (hI : JR S o L ad τ) (hV : IV S) (x y : Int) (hx : ph_ri x) (hy : ph_ri y) : ph_M l y_J_doubt (.code y_J_doubt b_J_doubt 5 (some .int) :: TB) ({ frames := 1, cells := 0, slots := 0, locals := 21 } : Room) D CLs (TY dT) dT kd A KX [.ref (o), .int (ph_i (x)), .int (ph_i (y))] L ad τ (fun r L' ad' τ' => L' = L ∧ ad' = ad ∧ τ' = τ ∧ r = some (.int (ph_i (doubtv S x y)))) 0 0 := by
  refine ph_M.of (cc := b_J_doubt) (maxL := 5) (ret := (some .int)) (by decide) rfl (Nat.le_of_ble_eq_true rfl) ?_
  intro p e s m below meth c C0 hr hlk hnm
  have C := C0.sub
  refine ph_loc (l2 := [(0, .ref (o)), (1, .int (ph_i (x))), (2, .int (ph_i (y)))]) ⟨rfl, rfl, rfl, trivial⟩ ?_
  have hc := hV.c
  have loop : ∀ (n : Nat) (f0 i : Nat) (t : Int), x = (f0 : Int) → LC S 3 f0 → 1 ≤ i → S 0 0 3 = (i : Int) + n - 1 → 0 ≤ t → t < 2147483648 → dqF S f0 n i t = doubtv S x y → ph_W p l e ({ frames := 1, cells := 0, slots := 0, locals := 21 } : Room) s m [.ref (o), .int (ph_i (x)), .int (ph_i (y))].toArray below meth c D CLs dT kd A 5 (MQ below (ph_Q D CLs dT kd A (fun r L' ad' τ' => L' = L ∧ ad' = ad ∧ τ' = τ ∧ r = some (.int (ph_i (doubtv S x y))))) [.ref (o), .int (ph_i (x)), .int (ph_i (y))].toArray s 0 0 A) L ad τ 0 0 22 (ph_mk [(0, .ref (o)), (1, .int (ph_i (x))), (2, .int (ph_i (y))), (3, .int (ph_i (t))), (4, .int (ph_i ((i : Int))))]) [] := by
    intro n
    induction n with
    | zero =>
      intro f0 i t hx0 hf0 h1 h2 h3 h4 h5
      refine ph_iload (pc := 22) C d_J_doubt_22 rfl ?_
      refine ph_aload_n (pc := 24) C d_J_doubt_24 rfl ?_
      refine gt_J_25 (pc := 25) C d_J_doubt_25 (hI.live (g := 0) (i := 0) rfl) hI.ob (hI.dat rfl rfl) ?_
      refine ph_icmp_gt (pc := 28) (tgt := 61) C d_J_doubt_28 (by decide) (by omega) (by omega) (fun c28 => ?_) (fun c28 => ?_)
      · refine ph_iconst (pc := 61) C d_J_doubt_61 ?_
        exact ph_iret (pc := 62) C d_J_doubt_62 hr hlk (by rfl) (by decide) (by decide) ⟨rfl, rfl, rfl, (by first | (rw [← h5, dqF_0 (by assumption) (by assumption)]) | (rw [← h5]; rfl) | (rw [doubtv, if_pos (by assumption)]) | (rw [doubtv, if_neg (not_not_intro (by assumption)), if_pos (by omega)]))⟩
      · exfalso; omega
    | succ n ih =>
      intro f0 i t hx0 hf0 h1 h2 h3 h4 h5
      refine ph_iload (pc := 22) C d_J_doubt_22 rfl ?_
      refine ph_aload_n (pc := 24) C d_J_doubt_24 rfl ?_
      refine gt_J_25 (pc := 25) C d_J_doubt_25 (hI.live (g := 0) (i := 0) rfl) hI.ob (hI.dat rfl rfl) ?_
      refine ph_icmp_gt (pc := 28) (tgt := 61) C d_J_doubt_28 (by decide) (by omega) (by omega) (fun c28 => ?_) (fun c28 => ?_)
      · exfalso; omega
      · refine ph_aload_n (pc := 31) C d_J_doubt_31 rfl ?_
        refine gt_J_30 (pc := 32) C d_J_doubt_32 (hI.live (g := 0) (i := 0) rfl) hI.ob hI.r4 ?_
        refine ph_iload_n (pc := 35) C d_J_doubt_35 rfl ?_
        refine ph_aald (pc := 36) (t := 2) C d_J_doubt_36 (hI.live (g := 6) (i := 0) rfl) rfl rfl rfl f0 hx0 (by have := hf0; simp only [LC] at this; omega) (by decide) (ph_vr (hI.e6 hf0)) ?_
        refine ph_iload (pc := 37) C d_J_doubt_37 rfl ?_
        refine ph_callV (pc := 39) (rest := []) C d_J_doubt_39 (c_F_doubts l D dT A KX L ad τ f0 (ad 3 f0) (hI.live hf0) rfl (S 3 f0 5).toNat i (by rw [hI.dat hf0 rfl]; have := hV.f hf0; omega) (by have := hV.f hf0; omega) (by omega)) (cwV 1 C.hts (gdV tw_284 tw_285 tw_286 tw_5 tw_287) rfl rfl rfl ⟨rfl, by decide, by decide, by decide⟩ ⟨by decide, by decide⟩) (hI.live hf0) rfl rfl rfl rfl rfl rfl (Nat.le_of_ble_eq_true rfl) ⟨by decide, by decide⟩ ?_
        rintro r1 L1 ad1 τ1 ⟨g1, g2, g3, g4⟩; obtain rfl := g1.symm; obtain rfl := g2.symm; obtain rfl := g3.symm; subst g4
        refine ph_bif_eq (pc := 42) (tgt := 55) C d_J_doubt_42 (by decide) (fun c42 => ?_) (fun c42 => ?_)
        · refine ph_iinc (pc := 55) C d_J_doubt_55 rfl rfl ?_
          refine ph_goto (pc := 58) (tgt := 22) C d_J_doubt_58 (by decide) ?_
          refine ph_loc (l2 := [(0, .ref (o)), (1, .int (ph_i (x))), (2, .int (ph_i (y))), (3, .int (ph_i (t))), (4, .int (ph_i (((i + 1 : Nat) : Int))))]) ⟨rfl, rfl, rfl, rfl, rfl, trivial⟩ ?_
          exact ih f0 (i + 1) t hx0 hf0 (by omega) (by omega) h3 h4 (by rw [← h5, dqF_f (by assumption)])
        · refine ph_iload_n (pc := 45) C d_J_doubt_45 rfl ?_
          refine ph_if_ne (pc := 46) (tgt := 52) C d_J_doubt_46 (by decide) (by omega) (fun c46 => ?_) (fun c46 => ?_)
          · refine ph_iinc (pc := 52) C d_J_doubt_52 rfl rfl ?_
            refine ph_iinc (pc := 55) C d_J_doubt_55 rfl rfl ?_
            refine ph_goto (pc := 58) (tgt := 22) C d_J_doubt_58 (by decide) ?_
            refine ph_loc (l2 := [(0, .ref (o)), (1, .int (ph_i (x))), (2, .int (ph_i (y))), (3, .int (ph_i (t + -1))), (4, .int (ph_i (((i + 1 : Nat) : Int))))]) ⟨rfl, rfl, rfl, rfl, rfl, trivial⟩ ?_
            exact ih f0 (i + 1) (t + -1) hx0 hf0 (by omega) (by omega) (by omega) (by omega) (by rw [← h5, dqF_t (by assumption) (by assumption)])
          · refine ph_iload (pc := 49) C d_J_doubt_49 rfl ?_
            exact ph_iret (pc := 51) C d_J_doubt_51 hr hlk (by rfl) (by decide) (by decide) ⟨rfl, rfl, rfl, (by first | (rw [← h5, dqF_0 (by assumption) (by assumption)]) | (rw [← h5]; rfl) | (rw [doubtv, if_pos (by assumption)]) | (rw [doubtv, if_neg (not_not_intro (by assumption)), if_pos (by omega)]))⟩
  refine ph_aload_n (pc := 0) C d_J_doubt_0 rfl ?_
  refine ph_iload_n (pc := 1) C d_J_doubt_1 rfl ?_
  refine ph_callV (pc := 2) (rest := []) C d_J_doubt_2 (c_J_isFault l D dT A KX L ad τ S o hI hV x hx) (cwV 1 C.hts (gdV tw_280 tw_282 se_17 tw_1 tw_283) rfl rfl rfl ⟨rfl, by decide, by decide, by decide⟩ ⟨by decide, by decide⟩) (hI.live (g := 0) (i := 0) rfl) hI.ob rfl rfl rfl rfl rfl (Nat.le_of_ble_eq_true rfl) ⟨by decide, by decide⟩ ?_
  rintro r1 L1 ad1 τ1 ⟨g1, g2, g3, g4⟩; obtain rfl := g1.symm; obtain rfl := g2.symm; obtain rfl := g3.symm; subst g4
  refine ph_bif_ne (pc := 5) (tgt := 11) C d_J_doubt_5 (by decide) (fun c5 => ?_) (fun c5 => ?_)
  · refine ph_iload_n (pc := 11) C d_J_doubt_11 rfl ?_
    refine ph_if_ge (pc := 12) (tgt := 17) C d_J_doubt_12 (by decide) (by omega) (fun c12 => ?_) (fun c12 => ?_)
    · refine ph_iload_n (pc := 17) C d_J_doubt_17 rfl ?_
      refine ph_istore_n (pc := 18) C d_J_doubt_18 (by decide) rfl ?_
      refine ph_iconst (pc := 19) C d_J_doubt_19 ?_
      refine ph_istore (pc := 20) C d_J_doubt_20 (by decide) rfl ?_
      refine ph_loc (l2 := [(0, .ref (o)), (1, .int (ph_i (x))), (2, .int (ph_i (y))), (3, .int (ph_i (y))), (4, .int (ph_i (((1 : Nat) : Int))))]) ⟨rfl, rfl, rfl, rfl, rfl, trivial⟩ ?_
      exact loop (S 0 0 3).toNat x.toNat 1 y (by omega) (by simp only [LC]; omega) (by omega) (by omega) (by omega) (by omega) (by rw [doubtv, if_neg (not_not_intro (by assumption)), if_neg (by omega)])
    · refine ph_iconst (pc := 15) C d_J_doubt_15 ?_
      exact ph_iret (pc := 16) C d_J_doubt_16 hr hlk (by rfl) (by decide) (by decide) ⟨rfl, rfl, rfl, (by first | (rw [← h5, dqF_0 (by assumption) (by assumption)]) | (rw [← h5]; rfl) | (rw [doubtv, if_pos (by assumption)]) | (rw [doubtv, if_neg (not_not_intro (by assumption)), if_pos (by omega)]))⟩
  · refine ph_bipush (pc := 8) C d_J_doubt_8 (by decide) ?_
    exact ph_iret (pc := 10) C d_J_doubt_10 hr hlk (by rfl) (by decide) (by decide) ⟨rfl, rfl, rfl, (by first | (rw [← h5, dqF_0 (by assumption) (by assumption)]) | (rw [← h5]; rfl) | (rw [doubtv, if_pos (by assumption)]) | (rw [doubtv, if_neg (not_not_intro (by assumption)), if_pos (by omega)]))⟩
set_option maxHeartbeats 4000000 in
set_option maxRecDepth 100000 in
theorem c_J_cause (l : Launch) (D : va_G) (dT : Nat → ClassId) (A : Nat → Prop) (KX : State → Prop) (L : Nat → Nat → Prop) (ad : Nat → Nat → Nat) (τ : ph_T) (S : ph_T) (o : Nat) (hI : JR S o L ad τ) (hV : IV S) (x : Int) (hx : ph_ri x) : ph_M l y_J_cause (.code y_J_cause b_J_cause 4 (some .int) :: TB) ({ frames := 2, cells := 0, slots := 0, locals := 44 } : Room) D CLs (TY dT) dT kd A KX [.ref (o), .int (ph_i (x))] L ad τ (fun r L' ad' τ' => L' = L ∧ ad' = ad ∧ τ' = τ ∧ r = some (.int (ph_i (causev S x)))) 0 0 := by
  refine ph_M.of (cc := b_J_cause) (maxL := 4) (ret := (some .int)) (by decide) rfl (Nat.le_of_ble_eq_true rfl) ?_
  intro p e s m below meth c C0 hr hlk hnm
  have C := C0.sub
  refine ph_loc (l2 := [(0, .ref (o)), (1, .int (ph_i (x)))]) ⟨rfl, rfl, trivial⟩ ?_
  have hc := hV.c
  refine ph_aload_n (pc := 0) C d_J_cause_0 rfl ?_
  refine ph_iload_n (pc := 1) C d_J_cause_1 rfl ?_
  refine ph_callV (pc := 2) (rest := []) C d_J_cause_2 (c_J_isFault l D dT A KX L ad τ S o hI hV x hx) (cwV 1 C.hts (gdV tw_280 tw_282 se_17 tw_1 tw_283) rfl rfl rfl ⟨rfl, by decide, by decide, by decide⟩ ⟨by decide, by decide⟩) (hI.live (g := 0) (i := 0) rfl) hI.ob rfl rfl rfl rfl rfl (Nat.le_of_ble_eq_true rfl) ⟨by decide, by decide⟩ ?_
  rintro r1 L1 ad1 τ1 ⟨g1, g2, g3, g4⟩; obtain rfl := g1.symm; obtain rfl := g2.symm; obtain rfl := g3.symm; subst g4
  refine ph_bif_ne (pc := 5) (tgt := 11) C d_J_cause_5 (by decide) (fun c5 => ?_) (fun c5 => ?_)
  · refine ph_aload_n (pc := 11) C d_J_cause_11 rfl ?_
    refine gt_J_30 (pc := 12) C d_J_cause_12 (hI.live (g := 0) (i := 0) rfl) hI.ob hI.r4 ?_
    refine ph_iload_n (pc := 15) C d_J_cause_15 rfl ?_
    refine ph_aald (pc := 16) (t := 2) C d_J_cause_16 (hI.live (g := 6) (i := 0) rfl) rfl rfl rfl x.toNat (by omega) (by have := (show LC S 3 x.toNat by simp only [LC]; omega); simp only [LC] at this; omega) (by decide) (ph_vr (hI.e6 (show LC S 3 x.toNat by simp only [LC]; omega))) ?_
    refine ph_astore_n (pc := 17) C d_J_cause_17 (by decide) rfl ?_
    refine ph_aload_n (pc := 18) C d_J_cause_18 rfl ?_
    refine gt_J_111 (pc := 19) C d_J_cause_19 (hI.live (show LC S 3 x.toNat by simp only [LC]; omega)) rfl (hI.dat (show LC S 3 x.toNat by simp only [LC]; omega) rfl) ?_
    refine ph_iconst (pc := 22) C d_J_cause_22 ?_
    refine ph_icmp_ne (pc := 23) (tgt := 43) C d_J_cause_23 (by decide) (by first | omega | (have := hV.f (show LC S 3 x.toNat by simp only [LC]; omega); omega)) (by first | omega | (have := hV.f (show LC S 3 x.toNat by simp only [LC]; omega); omega)) (fun c23 => ?_) (fun c23 => ?_)
    · refine ph_bipush (pc := 43) C d_J_cause_43 (by decide) ?_
      refine ph_aload_n (pc := 45) C d_J_cause_45 rfl ?_
      refine gt_J_114 (pc := 46) C d_J_cause_46 (hI.live (show LC S 3 x.toNat by simp only [LC]; omega)) rfl (hI.dat (show LC S 3 x.toNat by simp only [LC]; omega) rfl) ?_
      refine ph_imul (pc := 49) C d_J_cause_49 ?_
      refine ph_istore_n (pc := 50) C d_J_cause_50 (by decide) rfl ?_
      refine ph_aload_n (pc := 51) C d_J_cause_51 rfl ?_
      refine gt_J_117 (pc := 52) C d_J_cause_52 (hI.live (show LC S 3 x.toNat by simp only [LC]; omega)) rfl (hI.dat (show LC S 3 x.toNat by simp only [LC]; omega) rfl) ?_
      refine ph_if_eq (pc := 55) (tgt := 62) C d_J_cause_55 (by decide) (by first | omega | (have := hV.f (show LC S 3 x.toNat by simp only [LC]; omega); omega)) (fun c55 => ?_) (fun c55 => ?_)
      · refine ph_aload_n (pc := 62) C d_J_cause_62 rfl ?_
        refine ph_iload_n (pc := 63) C d_J_cause_63 rfl ?_
        refine ph_ti (y := ((x.toNat : Nat) : Int)) (by omega) ?_
        refine ph_callV (pc := 64) (rest := []) C d_J_cause_64 (c_J_cameAgain l D dT A KX L ad τ S o hI hV x.toNat (show LC S 3 x.toNat by simp only [LC]; omega)) (cwV 1 C.hts (gdV tw_292 tw_294 se_18 tw_1 tw_295) rfl rfl rfl ⟨rfl, by decide, by decide, by decide⟩ ⟨by decide, by decide⟩) (hI.live (g := 0) (i := 0) rfl) hI.ob rfl rfl rfl rfl rfl (Nat.le_of_ble_eq_true rfl) ⟨by decide, by decide⟩ ?_
        rintro r1 L1 ad1 τ1 ⟨g1, g2, g3, g4⟩; obtain rfl := g1.symm; obtain rfl := g2.symm; obtain rfl := g3.symm; subst g4
        refine ph_bif_eq (pc := 67) (tgt := 76) C d_J_cause_67 (by decide) (fun c67 => ?_) (fun c67 => ?_)
        · refine ph_iload_n (pc := 76) C d_J_cause_76 rfl ?_
          exact ph_iret (pc := 77) C d_J_cause_77 hr hlk (by rfl) (by decide) (by decide) ⟨rfl, rfl, rfl, (by rw [causev, if_neg (not_not_intro (by assumption)), if_neg (by omega), if_neg (by omega), ph_b0 (by assumption), Int.add_zero])⟩
        · refine ph_iload_n (pc := 70) C d_J_cause_70 rfl ?_
          refine ph_iconst (pc := 71) C d_J_cause_71 ?_
          refine ph_iadd (pc := 72) C d_J_cause_72 ?_
          refine ph_goto (pc := 73) (tgt := 77) C d_J_cause_73 (by decide) ?_
          exact ph_iret (pc := 77) C d_J_cause_77 hr hlk (by rfl) (by decide) (by decide) ⟨rfl, rfl, rfl, (by rw [causev, if_neg (not_not_intro (by assumption)), if_neg (by omega), if_neg (by omega), ph_b1 (by assumption)])⟩
      · refine ph_iload_n (pc := 58) C d_J_cause_58 rfl ?_
        refine ph_iconst (pc := 59) C d_J_cause_59 ?_
        refine ph_iadd (pc := 60) C d_J_cause_60 ?_
        exact ph_iret (pc := 61) C d_J_cause_61 hr hlk (by rfl) (by decide) (by decide) ⟨rfl, rfl, rfl, (by rw [causev, if_neg (not_not_intro (by assumption)), if_neg (by omega), if_pos (by omega)])⟩
    · refine ph_aload_n (pc := 26) C d_J_cause_26 rfl ?_
      refine gt_J_114 (pc := 27) C d_J_cause_27 (hI.live (show LC S 3 x.toNat by simp only [LC]; omega)) rfl (hI.dat (show LC S 3 x.toNat by simp only [LC]; omega) rfl) ?_
      refine ph_bipush (pc := 30) C d_J_cause_30 (by decide) ?_
      refine ph_icmp_eq (pc := 32) (tgt := 43) C d_J_cause_32 (by decide) (by first | omega | (have := hV.f (show LC S 3 x.toNat by simp only [LC]; omega); omega)) (by first | omega | (have := hV.f (show LC S 3 x.toNat by simp only [LC]; omega); omega)) (fun c32 => ?_) (fun c32 => ?_)
      · refine ph_bipush (pc := 43) C d_J_cause_43 (by decide) ?_
        refine ph_aload_n (pc := 45) C d_J_cause_45 rfl ?_
        refine gt_J_114 (pc := 46) C d_J_cause_46 (hI.live (show LC S 3 x.toNat by simp only [LC]; omega)) rfl (hI.dat (show LC S 3 x.toNat by simp only [LC]; omega) rfl) ?_
        refine ph_imul (pc := 49) C d_J_cause_49 ?_
        refine ph_istore_n (pc := 50) C d_J_cause_50 (by decide) rfl ?_
        refine ph_aload_n (pc := 51) C d_J_cause_51 rfl ?_
        refine gt_J_117 (pc := 52) C d_J_cause_52 (hI.live (show LC S 3 x.toNat by simp only [LC]; omega)) rfl (hI.dat (show LC S 3 x.toNat by simp only [LC]; omega) rfl) ?_
        refine ph_if_eq (pc := 55) (tgt := 62) C d_J_cause_55 (by decide) (by first | omega | (have := hV.f (show LC S 3 x.toNat by simp only [LC]; omega); omega)) (fun c55 => ?_) (fun c55 => ?_)
        · refine ph_aload_n (pc := 62) C d_J_cause_62 rfl ?_
          refine ph_iload_n (pc := 63) C d_J_cause_63 rfl ?_
          refine ph_ti (y := ((x.toNat : Nat) : Int)) (by omega) ?_
          refine ph_callV (pc := 64) (rest := []) C d_J_cause_64 (c_J_cameAgain l D dT A KX L ad τ S o hI hV x.toNat (show LC S 3 x.toNat by simp only [LC]; omega)) (cwV 1 C.hts (gdV tw_292 tw_294 se_18 tw_1 tw_295) rfl rfl rfl ⟨rfl, by decide, by decide, by decide⟩ ⟨by decide, by decide⟩) (hI.live (g := 0) (i := 0) rfl) hI.ob rfl rfl rfl rfl rfl (Nat.le_of_ble_eq_true rfl) ⟨by decide, by decide⟩ ?_
          rintro r1 L1 ad1 τ1 ⟨g1, g2, g3, g4⟩; obtain rfl := g1.symm; obtain rfl := g2.symm; obtain rfl := g3.symm; subst g4
          refine ph_bif_eq (pc := 67) (tgt := 76) C d_J_cause_67 (by decide) (fun c67 => ?_) (fun c67 => ?_)
          · refine ph_iload_n (pc := 76) C d_J_cause_76 rfl ?_
            exact ph_iret (pc := 77) C d_J_cause_77 hr hlk (by rfl) (by decide) (by decide) ⟨rfl, rfl, rfl, (by rw [causev, if_neg (not_not_intro (by assumption)), if_neg (by omega), if_neg (by omega), ph_b0 (by assumption), Int.add_zero])⟩
          · refine ph_iload_n (pc := 70) C d_J_cause_70 rfl ?_
            refine ph_iconst (pc := 71) C d_J_cause_71 ?_
            refine ph_iadd (pc := 72) C d_J_cause_72 ?_
            refine ph_goto (pc := 73) (tgt := 77) C d_J_cause_73 (by decide) ?_
            exact ph_iret (pc := 77) C d_J_cause_77 hr hlk (by rfl) (by decide) (by decide) ⟨rfl, rfl, rfl, (by rw [causev, if_neg (not_not_intro (by assumption)), if_neg (by omega), if_neg (by omega), ph_b1 (by assumption)])⟩
        · refine ph_iload_n (pc := 58) C d_J_cause_58 rfl ?_
          refine ph_iconst (pc := 59) C d_J_cause_59 ?_
          refine ph_iadd (pc := 60) C d_J_cause_60 ?_
          exact ph_iret (pc := 61) C d_J_cause_61 hr hlk (by rfl) (by decide) (by decide) ⟨rfl, rfl, rfl, (by rw [causev, if_neg (not_not_intro (by assumption)), if_neg (by omega), if_pos (by omega)])⟩
      · refine ph_bipush (pc := 35) C d_J_cause_35 (by decide) ?_
        refine ph_aload_n (pc := 37) C d_J_cause_37 rfl ?_
        refine gt_J_114 (pc := 38) C d_J_cause_38 (hI.live (show LC S 3 x.toNat by simp only [LC]; omega)) rfl (hI.dat (show LC S 3 x.toNat by simp only [LC]; omega) rfl) ?_
        refine ph_iadd (pc := 41) C d_J_cause_41 ?_
        exact ph_iret (pc := 42) C d_J_cause_42 hr hlk (by rfl) (by decide) (by decide) ⟨rfl, rfl, rfl, (by rw [causev, if_neg (not_not_intro (by assumption)), if_pos ⟨by omega, by omega⟩])⟩
  · refine ph_bipush (pc := 8) C d_J_cause_8 (by decide) ?_
    exact ph_iret (pc := 10) C d_J_cause_10 hr hlk (by rfl) (by decide) (by decide) ⟨rfl, rfl, rfl, (by rw [causev, if_pos (by assumption)])⟩
set_option maxHeartbeats 4000000 in
set_option maxRecDepth 100000 in
theorem c_J_faultByRank (l : Launch) (D : va_G) (dT : Nat → ClassId) (A : Nat → Prop) (KX : State → Prop) (L : Nat → Nat → Prop) (ad : Nat → Nat → Nat) (τ : ph_T) (S : ph_T) (o : Nat) (hI : JR S o L ad τ) (hV : IV S) (aR aT : Nat) (hX : ∀ U, KX U → KJ dT A aR aT U) (x : Int) (hx : ph_ri x) : ph_M l y_J_faultByRank (.code y_J_faultByRank b_J_faultByRank 5 (some .int) :: TB) ({ frames := 1, cells := 0, slots := 0, locals := 20 } : Room) D CLs (TY dT) dT kd A KX [.ref (o), .int (ph_i (x))] L ad τ (fun r L' ad' τ' => L' = L ∧ ad' = ad ∧ τ' = τ ∧ r = some (.int (ph_i (fbr S x)))) 0 0 := by
  refine ph_M.of (cc := b_J_faultByRank) (maxL := 5) (ret := (some .int)) (by decide) rfl (Nat.le_of_ble_eq_true rfl) ?_
  intro p e s m below meth c C0 hr hlk hnm
  have C := C0.sub
  refine ph_loc (l2 := [(0, .ref (o)), (1, .int (ph_i (x)))]) ⟨rfl, rfl, trivial⟩ ?_
  have hc := hV.c
  have outer : ∀ (r : Nat) (t : Int), r ≤ 9 → 0 ≤ t → t < 2147483648 → foF S r t = fbr S x → ph_W p l e ({ frames := 1, cells := 0, slots := 0, locals := 20 } : Room) s m [.ref (o), .int (ph_i (x))].toArray below meth c D CLs dT kd A 5 (MQ below (ph_Q D CLs dT kd A (fun r L' ad' τ' => L' = L ∧ ad' = ad ∧ τ' = τ ∧ r = some (.int (ph_i (fbr S x))))) [.ref (o), .int (ph_i (x))].toArray s 0 0 A) L ad τ 0 0 11 (ph_mk [(0, .ref (o)), (1, .int (ph_i (x))), (2, .int (ph_i (t))), (3, .int (ph_i ((r : Int))))]) [] := by
    intro r
    induction r with
    | zero =>
      intro t h0 h1 h2 h3
      refine ph_iload_n (pc := 11) C d_J_faultByRank_11 rfl ?_
      refine ph_if_le (pc := 12) (tgt := 68) C d_J_faultByRank_12 (by decide) (by first | omega | (have := rankv_r (S 3 f 3) (S 3 f 0); omega)) (fun c12 => ?_) (fun c12 => ?_)
      · refine ph_iconst (pc := 68) C d_J_faultByRank_68 ?_
        exact ph_iret (pc := 69) C d_J_faultByRank_69 hr hlk (by rfl) (by decide) (by decide) ⟨rfl, rfl, rfl, (by first | exact congrArg (fun z => some (Value.int (ph_i z))) (show (f : Int) = fbr S x by rw [← h4, fiF_0 (by assumption) (by assumption)]; exact (if_neg (show ¬ (f : Int) = 0 by omega)).symm) | (rw [fbr, if_pos (by omega)]) | (rw [← h3]; rfl))⟩
      · exfalso; omega
    | succ r ih =>
      intro t0 h0 h1 h2 h3
      have inner : ∀ (n f : Nat) (t : Int), S 0 0 6 < (f : Int) → S 0 0 5 = (f : Int) + n - 1 → 0 ≤ t → t < 2147483648 → (if (fiF S ((r + 1 : Nat) : Int) n f t).1 = 0 then foF S r (fiF S ((r + 1 : Nat) : Int) n f t).2 else (fiF S ((r + 1 : Nat) : Int) n f t).1) = fbr S x → ph_W p l e ({ frames := 1, cells := 0, slots := 0, locals := 20 } : Room) s m [.ref (o), .int (ph_i (x))].toArray below meth c D CLs dT kd A 5 (MQ below (ph_Q D CLs dT kd A (fun r L' ad' τ' => L' = L ∧ ad' = ad ∧ τ' = τ ∧ r = some (.int (ph_i (fbr S x))))) [.ref (o), .int (ph_i (x))].toArray s 0 0 A) L ad τ 0 0 23 (ph_mk [(0, .ref (o)), (1, .int (ph_i (x))), (2, .int (ph_i (t))), (3, .int (ph_i (((r + 1 : Nat) : Int)))), (4, .int (ph_i ((f : Int))))]) [] := by
        intro n
        induction n with
        | zero =>
          intro f t q1 q2 q3 q4 h4
          refine ph_iload (pc := 23) C d_J_faultByRank_23 rfl ?_
          refine ph_aload_n (pc := 25) C d_J_faultByRank_25 rfl ?_
          refine gt_J_34 (pc := 26) C d_J_faultByRank_26 (hI.live (g := 0) (i := 0) rfl) hI.ob (hI.dat rfl rfl) ?_
          refine ph_icmp_gt (pc := 29) (tgt := 62) C d_J_faultByRank_29 (by decide) (by first | omega | (have := rankv_r (S 3 f 3) (S 3 f 0); omega)) (by first | omega | (have := rankv_r (S 3 f 3) (S 3 f 0); omega)) (fun c29 => ?_) (fun c29 => ?_)
          · refine ph_iinc (pc := 62) C d_J_faultByRank_62 rfl rfl ?_
            refine ph_goto (pc := 65) (tgt := 11) C d_J_faultByRank_65 (by decide) ?_
            refine ph_loc (l2 := [(0, .ref (o)), (1, .int (ph_i (x))), (2, .int (ph_i (t))), (3, .int (ph_i ((r : Int))))]) ⟨rfl, rfl, rfl, (congrArg (fun z => some (Value.int (ph_i z))) (show (((r + 1 : Nat) : Int) + -1 : Int) = (r : Int) by omega)), trivial⟩ ?_
            exact ih t (by omega) (by omega) (by omega) (by rw [← h4]; rfl)
          · exfalso; omega
        | succ n ihn =>
          intro f t q1 q2 q3 q4 h4
          refine ph_iload (pc := 23) C d_J_faultByRank_23 rfl ?_
          refine ph_aload_n (pc := 25) C d_J_faultByRank_25 rfl ?_
          refine gt_J_34 (pc := 26) C d_J_faultByRank_26 (hI.live (g := 0) (i := 0) rfl) hI.ob (hI.dat rfl rfl) ?_
          refine ph_icmp_gt (pc := 29) (tgt := 62) C d_J_faultByRank_29 (by decide) (by first | omega | (have := rankv_r (S 3 f 3) (S 3 f 0); omega)) (by first | omega | (have := rankv_r (S 3 f 3) (S 3 f 0); omega)) (fun c29 => ?_) (fun c29 => ?_)
          · exfalso; omega
          · refine ph_aload_n (pc := 32) C d_J_faultByRank_32 rfl ?_
            refine gt_J_30 (pc := 33) C d_J_faultByRank_33 (hI.live (g := 0) (i := 0) rfl) hI.ob hI.r4 ?_
            refine ph_iload (pc := 36) C d_J_faultByRank_36 rfl ?_
            refine ph_aald (pc := 38) (t := 2) C d_J_faultByRank_38 (hI.live (g := 6) (i := 0) rfl) rfl rfl rfl f rfl (by have := (show LC S 3 f by simp only [LC]; omega); simp only [LC] at this; omega) (by decide) (ph_vr (hI.e6 (show LC S 3 f by simp only [LC]; omega))) ?_
            refine ph_callV (pc := 39) (rest := []) C d_J_faultByRank_39 (c_F_rank l D dT A KX L ad τ f (ad 3 f) (hI.live (show LC S 3 f by simp only [LC]; omega)) rfl aR aT hX (S 3 f 3) (S 3 f 0) (hI.dat (show LC S 3 f by simp only [LC]; omega) rfl) (hI.dat (show LC S 3 f by simp only [LC]; omega) rfl) (by have := hV.f (show LC S 3 f by simp only [LC]; omega); omega) (by have := hV.f (show LC S 3 f by simp only [LC]; omega); omega)) (cwV 0 C.hts (gdV tw_364 tw_365 tw_366 tw_5 tw_367) rfl rfl rfl ⟨rfl, by decide, by decide, by decide⟩ ⟨by decide, by decide⟩) (hI.live (show LC S 3 f by simp only [LC]; omega)) rfl rfl rfl rfl rfl rfl (Nat.le_of_ble_eq_true rfl) ⟨by decide, by decide⟩ ?_
            rintro r1 L1 ad1 τ1 ⟨g1, g2, g3, g4⟩; obtain rfl := g1.symm; obtain rfl := g2.symm; obtain rfl := g3.symm; subst g4
            refine ph_iload_n (pc := 42) C d_J_faultByRank_42 rfl ?_
            refine ph_icmp_ne (pc := 43) (tgt := 56) C d_J_faultByRank_43 (by decide) (by first | omega | (have := rankv_r (S 3 f 3) (S 3 f 0); omega)) (by first | omega | (have := rankv_r (S 3 f 3) (S 3 f 0); omega)) (fun c43 => ?_) (fun c43 => ?_)
            · refine ph_iinc (pc := 56) C d_J_faultByRank_56 rfl rfl ?_
              refine ph_goto (pc := 59) (tgt := 23) C d_J_faultByRank_59 (by decide) ?_
              refine ph_loc (l2 := [(0, .ref (o)), (1, .int (ph_i (x))), (2, .int (ph_i (t))), (3, .int (ph_i (((r + 1 : Nat) : Int)))), (4, .int (ph_i (((f + 1 : Nat) : Int))))]) ⟨rfl, rfl, rfl, rfl, rfl, trivial⟩ ?_
              exact ihn (f + 1) t (by omega) (by omega) q3 q4 (by rw [← h4, fiF_n (by assumption)])
            · refine ph_iload_n (pc := 46) C d_J_faultByRank_46 rfl ?_
              refine ph_if_ne (pc := 47) (tgt := 53) C d_J_faultByRank_47 (by decide) (by first | omega | (have := rankv_r (S 3 f 3) (S 3 f 0); omega)) (fun c47 => ?_) (fun c47 => ?_)
              · refine ph_iinc (pc := 53) C d_J_faultByRank_53 rfl rfl ?_
                refine ph_iinc (pc := 56) C d_J_faultByRank_56 rfl rfl ?_
                refine ph_goto (pc := 59) (tgt := 23) C d_J_faultByRank_59 (by decide) ?_
                refine ph_loc (l2 := [(0, .ref (o)), (1, .int (ph_i (x))), (2, .int (ph_i (t + -1))), (3, .int (ph_i (((r + 1 : Nat) : Int)))), (4, .int (ph_i (((f + 1 : Nat) : Int))))]) ⟨rfl, rfl, rfl, rfl, rfl, trivial⟩ ?_
                exact ihn (f + 1) (t + -1) (by omega) (by omega) (by omega) (by omega) (by rw [← h4, fiF_p (by assumption) (by assumption)])
              · refine ph_iload (pc := 50) C d_J_faultByRank_50 rfl ?_
                exact ph_iret (pc := 52) C d_J_faultByRank_52 hr hlk (by rfl) (by decide) (by decide) ⟨rfl, rfl, rfl, (by first | exact congrArg (fun z => some (Value.int (ph_i z))) (show (f : Int) = fbr S x by rw [← h4, fiF_0 (by assumption) (by assumption)]; exact (if_neg (show ¬ (f : Int) = 0 by omega)).symm) | (rw [fbr, if_pos (by omega)]) | (rw [← h3]; rfl))⟩
      refine ph_iload_n (pc := 11) C d_J_faultByRank_11 rfl ?_
      refine ph_if_le (pc := 12) (tgt := 68) C d_J_faultByRank_12 (by decide) (by first | omega | (have := rankv_r (S 3 f 3) (S 3 f 0); omega)) (fun c12 => ?_) (fun c12 => ?_)
      · exfalso; omega
      · refine ph_aload_n (pc := 15) C d_J_faultByRank_15 rfl ?_
        refine gt_J_37 (pc := 16) C d_J_faultByRank_16 (hI.live (g := 0) (i := 0) rfl) hI.ob (hI.dat rfl rfl) ?_
        refine ph_iconst (pc := 19) C d_J_faultByRank_19 ?_
        refine ph_iadd (pc := 20) C d_J_faultByRank_20 ?_
        refine ph_istore (pc := 21) C d_J_faultByRank_21 (by decide) rfl ?_
        refine ph_loc (l2 := [(0, .ref (o)), (1, .int (ph_i (x))), (2, .int (ph_i (t0))), (3, .int (ph_i (((r + 1 : Nat) : Int)))), (4, .int (ph_i ((((S 0 0 6).toNat + 1 : Nat) : Int))))]) ⟨rfl, rfl, rfl, rfl, (congrArg (fun z => some (Value.int (ph_i z))) (show (S 0 0 6 + 1 : Int) = (((S 0 0 6).toNat + 1 : Nat) : Int) by omega)), trivial⟩ ?_
        exact inner (S 0 0 5 - S 0 0 6).toNat ((S 0 0 6).toNat + 1) t0 (by omega) (by omega) h1 h2 (by rw [← h3, foF_s])
  refine ph_iload_n (pc := 0) C d_J_faultByRank_0 rfl ?_
  refine ph_if_ge (pc := 1) (tgt := 6) C d_J_faultByRank_1 (by decide) (by first | omega | (have := rankv_r (S 3 f 3) (S 3 f 0); omega)) (fun c1 => ?_) (fun c1 => ?_)
  · refine ph_iload_n (pc := 6) C d_J_faultByRank_6 rfl ?_
    refine ph_istore_n (pc := 7) C d_J_faultByRank_7 (by decide) rfl ?_
    refine ph_bipush (pc := 8) C d_J_faultByRank_8 (by decide) ?_
    refine ph_istore_n (pc := 10) C d_J_faultByRank_10 (by decide) rfl ?_
    refine ph_loc (l2 := [(0, .ref (o)), (1, .int (ph_i (x))), (2, .int (ph_i (x))), (3, .int (ph_i (((9 : Nat) : Int))))]) ⟨rfl, rfl, rfl, rfl, trivial⟩ ?_
    exact outer 9 x (by omega) (by omega) (by omega) (by rw [fbr, if_neg (by omega)])
  · refine ph_iconst (pc := 4) C d_J_faultByRank_4 ?_
    exact ph_iret (pc := 5) C d_J_faultByRank_5 hr hlk (by rfl) (by decide) (by decide) ⟨rfl, rfl, rfl, (by first | exact congrArg (fun z => some (Value.int (ph_i z))) (show (f : Int) = fbr S x by rw [← h4, fiF_0 (by assumption) (by assumption)]; exact (if_neg (show ¬ (f : Int) = 0 by omega)).symm) | (rw [fbr, if_pos (by omega)]) | (rw [← h3]; rfl))⟩
set_option maxHeartbeats 4000000 in
set_option maxRecDepth 100000 in
theorem c_J_alarm (l : Launch) (D : va_G) (dT : Nat → ClassId) (A : Nat → Prop) (KX : State → Prop) (L : Nat → Nat → Prop) (ad : Nat → Nat → Nat) (τ : ph_T) (S : ph_T) (o : Nat) (hI : JR S o L ad τ) (hV : IV S) (aR aT : Nat) (hX : ∀ U, KX U → KJ dT A aR aT U) (x y : Int) (hx : ph_ri x) (hy : ph_ri y) : ph_M l y_J_alarm (.code y_J_alarm b_J_alarm 5 (some .int) :: TB) ({ frames := 2, cells := 0, slots := 0, locals := 44 } : Room) D CLs (TY dT) dT kd A KX [.ref (o), .int (ph_i (x)), .int (ph_i (y))] L ad τ (fun r L' ad' τ' => L' = L ∧ ad' = ad ∧ τ' = τ ∧ r = some (.int (ph_i (alarmv S x y)))) 0 0 := by
  refine ph_M.of (cc := b_J_alarm) (maxL := 5) (ret := (some .int)) (by decide) rfl (Nat.le_of_ble_eq_true rfl) ?_
  intro p e s m below meth c C0 hr hlk hnm
  have C := C0.sub
  refine ph_loc (l2 := [(0, .ref (o)), (1, .int (ph_i (x))), (2, .int (ph_i (y)))]) ⟨rfl, rfl, rfl, trivial⟩ ?_
  have hc := hV.c
  have hfb := fbr_le hV x
  refine ph_iload_n (pc := 0) C d_J_alarm_0 rfl ?_
  refine ph_if_lt (pc := 1) (tgt := 9) C d_J_alarm_1 (by decide) (by omega) (fun c1 => ?_) (fun c1 => ?_)
  · refine ph_bipush (pc := 9) C d_J_alarm_9 (by decide) ?_
    exact ph_iret (pc := 11) C d_J_alarm_11 hr hlk (by rfl) (by decide) (by decide) ⟨rfl, rfl, rfl, (by rw [alarmv, if_pos (by omega)])⟩
  · refine ph_iload_n (pc := 4) C d_J_alarm_4 rfl ?_
    refine ph_iconst (pc := 5) C d_J_alarm_5 ?_
    refine ph_icmp_le (pc := 6) (tgt := 12) C d_J_alarm_6 (by decide) (by omega) (by omega) (fun c6 => ?_) (fun c6 => ?_)
    · refine ph_aload_n (pc := 12) C d_J_alarm_12 rfl ?_
      refine ph_iload_n (pc := 13) C d_J_alarm_13 rfl ?_
      refine ph_callV (pc := 14) (rest := []) C d_J_alarm_14 (c_J_faultByRank l D dT A KX L ad τ S o hI hV aR aT hX x hx) (cwV 1 C.hts (gdV tw_360 tw_362 se_25 tw_1 tw_363) rfl rfl rfl ⟨rfl, by decide, by decide, by decide⟩ ⟨by decide, by decide⟩) (hI.live (g := 0) (i := 0) rfl) hI.ob rfl rfl rfl rfl rfl (Nat.le_of_ble_eq_true rfl) ⟨by decide, by decide⟩ ?_
      rintro r1 L1 ad1 τ1 ⟨g1, g2, g3, g4⟩; obtain rfl := g1.symm; obtain rfl := g2.symm; obtain rfl := g3.symm; subst g4
      refine ph_istore_n (pc := 17) C d_J_alarm_17 (by decide) rfl ?_
      refine ph_aload_n (pc := 18) C d_J_alarm_18 rfl ?_
      refine ph_iload_n (pc := 19) C d_J_alarm_19 rfl ?_
      refine ph_callV (pc := 20) (rest := []) C d_J_alarm_20 (c_J_isFault l D dT A KX L ad τ S o hI hV (fbr S x) (by omega)) (cwV 1 C.hts (gdV tw_280 tw_282 se_17 tw_1 tw_283) rfl rfl rfl ⟨rfl, by decide, by decide, by decide⟩ ⟨by decide, by decide⟩) (hI.live (g := 0) (i := 0) rfl) hI.ob rfl rfl rfl rfl rfl (Nat.le_of_ble_eq_true rfl) ⟨by decide, by decide⟩ ?_
      rintro r1 L1 ad1 τ1 ⟨g1, g2, g3, g4⟩; obtain rfl := g1.symm; obtain rfl := g2.symm; obtain rfl := g3.symm; subst g4
      refine ph_bif_ne (pc := 23) (tgt := 28) C d_J_alarm_23 (by decide) (fun c23 => ?_) (fun c23 => ?_)
      · have hn0 : ¬ fbr S x = 0 := by omega
        refine ph_aload_n (pc := 28) C d_J_alarm_28 rfl ?_
        refine gt_J_30 (pc := 29) C d_J_alarm_29 (hI.live (g := 0) (i := 0) rfl) hI.ob hI.r4 ?_
        refine ph_iload_n (pc := 32) C d_J_alarm_32 rfl ?_
        refine ph_aald (pc := 33) (t := 2) C d_J_alarm_33 (hI.live (g := 6) (i := 0) rfl) rfl rfl rfl (fbr S x).toNat (by omega) (by have := (show LC S 3 (fbr S x).toNat by simp only [LC]; omega); simp only [LC] at this; omega) (by decide) (ph_vr (hI.e6 (show LC S 3 (fbr S x).toNat by simp only [LC]; omega))) ?_
        refine ph_astore (pc := 34) C d_J_alarm_34 (by decide) rfl ?_
        refine ph_iload_n (pc := 36) C d_J_alarm_36 rfl ?_
        rcases (show y = 0 ∨ y = 1 ∨ y = 2 ∨ y = 3 ∨ y = 4 by omega) with rfl | rfl | rfl | rfl | rfl
        · refine ph_swI (pc := 37) (tgt := 68) C d_J_alarm_37 (by omega) (by omega) (by omega) rfl (by decide) ?_
          refine ph_iload_n (pc := 68) C d_J_alarm_68 rfl ?_
          exact ph_iret (pc := 69) C d_J_alarm_69 hr hlk (by rfl) (by decide) (by decide) ⟨rfl, rfl, rfl, (by simp [alarmv, hn0, rnk])⟩
        · refine ph_swI (pc := 37) (tgt := 70) C d_J_alarm_37 (by omega) (by omega) (by omega) rfl (by decide) ?_
          refine ph_aload (pc := 70) C d_J_alarm_70 rfl ?_
          refine ph_callV (pc := 72) (rest := []) C d_J_alarm_72 (c_F_rank l D dT A KX L ad τ (fbr S x).toNat (ad 3 (fbr S x).toNat) (hI.live (show LC S 3 (fbr S x).toNat by simp only [LC]; omega)) rfl aR aT hX (S 3 (fbr S x).toNat 3) (S 3 (fbr S x).toNat 0) (hI.dat (show LC S 3 (fbr S x).toNat by simp only [LC]; omega) rfl) (hI.dat (show LC S 3 (fbr S x).toNat by simp only [LC]; omega) rfl) (by have := hV.f (show LC S 3 (fbr S x).toNat by simp only [LC]; omega); omega) (by have := hV.f (show LC S 3 (fbr S x).toNat by simp only [LC]; omega); omega)) (cwV 0 C.hts (gdV tw_364 tw_365 tw_366 tw_5 tw_367) rfl rfl rfl ⟨rfl, by decide, by decide, by decide⟩ ⟨by decide, by decide⟩) (hI.live (show LC S 3 (fbr S x).toNat by simp only [LC]; omega)) rfl rfl rfl rfl rfl rfl (Nat.le_of_ble_eq_true rfl) ⟨by decide, by decide⟩ ?_
          rintro r1 L1 ad1 τ1 ⟨g1, g2, g3, g4⟩; obtain rfl := g1.symm; obtain rfl := g2.symm; obtain rfl := g3.symm; subst g4
          exact ph_iret (pc := 75) C d_J_alarm_75 hr hlk (by rfl) (by decide) (by decide) ⟨rfl, rfl, rfl, (by simp [alarmv, hn0, rnk])⟩
        · refine ph_swI (pc := 37) (tgt := 76) C d_J_alarm_37 (by omega) (by omega) (by omega) rfl (by decide) ?_
          refine ph_aload (pc := 76) C d_J_alarm_76 rfl ?_
          refine gt_J_114 (pc := 78) C d_J_alarm_78 (hI.live (show LC S 3 (fbr S x).toNat by simp only [LC]; omega)) rfl (hI.dat (show LC S 3 (fbr S x).toNat by simp only [LC]; omega) rfl) ?_
          exact ph_iret (pc := 81) C d_J_alarm_81 hr hlk (by rfl) (by decide) (by decide) ⟨rfl, rfl, rfl, (by simp [alarmv, hn0, rnk])⟩
        · refine ph_swI (pc := 37) (tgt := 82) C d_J_alarm_37 (by omega) (by omega) (by omega) rfl (by decide) ?_
          refine ph_aload (pc := 82) C d_J_alarm_82 rfl ?_
          refine gt_J_111 (pc := 84) C d_J_alarm_84 (hI.live (show LC S 3 (fbr S x).toNat by simp only [LC]; omega)) rfl (hI.dat (show LC S 3 (fbr S x).toNat by simp only [LC]; omega) rfl) ?_
          exact ph_iret (pc := 87) C d_J_alarm_87 hr hlk (by rfl) (by decide) (by decide) ⟨rfl, rfl, rfl, (by simp [alarmv, hn0, rnk])⟩
        · refine ph_swO (pc := 37) (tgt := 88) C d_J_alarm_37 (by omega) (by omega) (by decide) ?_
          refine ph_aload (pc := 88) C d_J_alarm_88 rfl ?_
          refine gt_J_163 (pc := 90) C d_J_alarm_90 (hI.live (show LC S 3 (fbr S x).toNat by simp only [LC]; omega)) rfl (hI.dat (show LC S 3 (fbr S x).toNat by simp only [LC]; omega) rfl) ?_
          refine ph_l2i (pc := 93) C d_J_alarm_93 ?_
          exact ph_iret (pc := 94) C d_J_alarm_94 hr hlk (by rfl) (by decide) (by decide) ⟨rfl, rfl, rfl, (by simp [alarmv, hn0, rnk])⟩
      · refine ph_iconst (pc := 26) C d_J_alarm_26 ?_
        exact ph_iret (pc := 27) C d_J_alarm_27 hr hlk (by rfl) (by decide) (by decide) ⟨rfl, rfl, rfl, (by rw [alarmv, if_neg (by omega), if_pos (by omega)])⟩
    · refine ph_bipush (pc := 9) C d_J_alarm_9 (by decide) ?_
      exact ph_iret (pc := 11) C d_J_alarm_11 hr hlk (by rfl) (by decide) (by decide) ⟨rfl, rfl, rfl, (by rw [alarmv, if_pos (by omega)])⟩
