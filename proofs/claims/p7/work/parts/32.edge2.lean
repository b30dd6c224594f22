/-! ===== edge ===== -/
set_option maxHeartbeats 4000000 in
set_option maxRecDepth 100000 in
theorem c_J_edge (l : Launch) (D : va_G) (dT : Nat → ClassId) (A : Nat → Prop) (KX : State → Prop) (L : Nat → Nat → Prop) (ad : Nat → Nat → Nat) (τ : ph_T) (S : ph_T) (o : Nat) (hI : JR S o L ad τ) (hV : IV S) (hF : JF S L) (x d t : Int) (hx : ph_ri x) (hd : d = 0 ∨ d = 1) (ht : ph_rl t) : ph_M l y_J_edge (.code y_J_edge b_J_edge 6 (some .int) :: TB) ({ frames := 6, cells := 69, slots := 483, locals := 140 } : Room) D CLs (TY dT) dT kd A KX [.ref (o), .int (ph_i (x)), .int (ph_i (d)), .long (ph_l (t))] L ad τ (fun r L' ad' τ' => JR (edgeS S x d t) o L' ad' τ' ∧ JF (edgeS S x d t) L' ∧ r = some (.int (ph_i (edgev S x d t)))) 69 483 := by
  refine ph_M.of (cc := b_J_edge) (maxL := 6) (ret := (some .int)) (by decide) rfl (Nat.le_of_ble_eq_true rfl) ?_
  intro p e s m below meth c C0 hr hlk hnm
  have C := C0.sub
  refine ph_loc (l2 := [(0, .ref (o)), (1, .int (ph_i (x))), (2, .int (ph_i (d))), (3, .long (ph_l (t)))]) ⟨rfl, rfl, rfl, rfl, trivial⟩ ?_
  have hc := hV.c
  refine ph_aload_n (pc := 0) C d_J_edge_0 rfl ?_
  refine ph_iload_n (pc := 1) C d_J_edge_1 rfl ?_
  refine ph_callV (pc := 2) (rest := []) C d_J_edge_2 (c_J_isSensor l D dT A KX L ad τ S o hI hV x hx) (cwV 1 C.hts (gdV tw_151 tw_153 se_2 tw_1 tw_154) rfl rfl rfl ⟨rfl, by decide, by decide, by decide⟩ ⟨by decide, by decide⟩) (hI.live (g := 0) (i := 0) rfl) hI.ob rfl rfl rfl rfl rfl (Nat.le_of_ble_eq_true rfl) ⟨by decide, by decide⟩ ?_
  rintro r1 L1 ad1 τ1 ⟨g1, g2, g3, g4⟩; obtain rfl := g1.symm; obtain rfl := g2.symm; obtain rfl := g3.symm; subst g4
  refine ph_bif_ne (pc := 5) (tgt := 11) C d_J_edge_5 (by decide) (fun c5 => ?_) (fun c5 => ?_)
  · refine ph_aload_n (pc := 11) C d_J_edge_11 rfl ?_
    refine ph_lload_n (pc := 12) C d_J_edge_12 rfl ?_
    refine ph_callV (pc := 13) (rest := []) C d_J_edge_13 (c_J_isTime l D dT A KX L ad τ S o hI hV t ht) (cwV 1 C.hts (gdV tw_101 tw_103 se_0 tw_1 tw_104) rfl rfl rfl ⟨rfl, by decide, by decide, by decide⟩ ⟨by decide, by decide⟩) (hI.live (g := 0) (i := 0) rfl) hI.ob rfl rfl rfl rfl rfl (Nat.le_of_ble_eq_true rfl) ⟨by decide, by decide⟩ ?_
    rintro r1 L1 ad1 τ1 ⟨g1, g2, g3, g4⟩; obtain rfl := g1.symm; obtain rfl := g2.symm; obtain rfl := g3.symm; subst g4
    refine ph_bif_ne (pc := 16) (tgt := 22) C d_J_edge_16 (by decide) (fun c16 => ?_) (fun c16 => ?_)
    · refine ph_aload_n (pc := 22) C d_J_edge_22 rfl ?_
      refine ph_callV (pc := 23) (rest := []) C d_J_edge_23 (c_J_goesOn l D dT A KX L ad τ S o hI hV) (cwV 0 C.hts (gdV tw_111 tw_112 tw_113 tw_1 tw_114) rfl rfl rfl ⟨rfl, by decide, by decide, by decide⟩ ⟨by decide, by decide⟩) (hI.live (g := 0) (i := 0) rfl) hI.ob rfl rfl rfl rfl rfl (Nat.le_of_ble_eq_true rfl) ⟨by decide, by decide⟩ ?_
      rintro r1 L1 ad1 τ1 ⟨g1, g2, g3, g4⟩; obtain rfl := g1.symm; obtain rfl := g2.symm; obtain rfl := g3.symm; subst g4
      refine ph_bif_eq (pc := 26) (tgt := 42) C d_J_edge_26 (by decide) (fun c26 => ?_) (fun c26 => ?_)
      · refine ph_bipush (pc := 42) C d_J_edge_42 (by decide) ?_
        exact ph_iret (pc := 44) C d_J_edge_44 hr hlk rfl (by omega) (by omega) ⟨(by rw [edgeS_f (fun q => by first | exact absurd q.1 (by assumption) | exact absurd q.2.1 (by assumption) | exact absurd q.2.2.1 (by assumption) | exact absurd (by assumption) q.2.2.2)]; exact hI), (by rw [edgeS_f (fun q => by first | exact absurd q.1 (by assumption) | exact absurd q.2.1 (by assumption) | exact absurd q.2.2.1 (by assumption) | exact absurd (by assumption) q.2.2.2)]; exact hF), (by rw [edgev, if_neg (not_not_intro (by assumption)), if_neg (not_not_intro (by assumption)), if_neg (fun q => by first | exact absurd q.1 (by assumption) | exact absurd (by assumption) q.2)])⟩
      · refine ph_aload_n (pc := 29) C d_J_edge_29 rfl ?_
        refine gt_J_11 (pc := 30) C d_J_edge_30 (hI.live (g := 0) (i := 0) rfl) hI.ob hI.r0 ?_
        refine ph_iload_n (pc := 33) C d_J_edge_33 rfl ?_
        refine ph_aald (pc := 34) (t := 0) C d_J_edge_34 (hI.live (g := 4) (i := 0) rfl) rfl rfl rfl x.toNat (by omega) (by have := (show LC S 1 x.toNat by simp only [LC]; omega); simp only [LC] at this; omega) (by decide) (ph_vr (hI.e4 (show LC S 1 x.toNat by simp only [LC]; omega))) ?_
        refine gt_J_91 (pc := 35) C d_J_edge_35 (hI.live (show LC S 1 x.toNat by simp only [LC]; omega)) rfl (z := S 1 x.toNat 2) (hI.dat (show LC S 1 x.toNat by simp only [LC]; omega) rfl) ?_
        refine ph_iload_n (pc := 38) C d_J_edge_38 rfl ?_
        refine ph_icmp_ne (pc := 39) (tgt := 45) C d_J_edge_39 (by decide) (by first | omega | (have := hV.s (show LC S 1 x.toNat by simp only [LC]; omega); omega)) (by first | omega | (have := hV.s (show LC S 1 x.toNat by simp only [LC]; omega); omega)) (fun c39 => ?_) (fun c39 => ?_)
        · refine ph_aload_n (pc := 45) C d_J_edge_45 rfl ?_
          refine ph_lload_n (pc := 46) C d_J_edge_46 rfl ?_
          refine pt_J_54 (pc := 47) C d_J_edge_47 (hI.live (g := 0) (i := 0) rfl) hI.ob ?_
          have hI := hI.put (g := 0) (i := 0) (k := 11) (t) rfl (by omega)
          generalize ph_up τ 0 0 11 (t) = τ at hI ⊢
          refine ph_aload_n (pc := 50) C d_J_edge_50 rfl ?_
          refine gt_J_34 (pc := 51) C d_J_edge_51 (hI.live (g := 0) (i := 0) rfl) hI.ob (z := S 0 0 5) (hI.dat rfl rfl) ?_
          refine ph_istore (pc := 54) C d_J_edge_54 (by decide) rfl ?_
          refine ph_aload_n (pc := 56) C d_J_edge_56 rfl ?_
          have hcS := hV.c
          refine ph_callV (pc := 57) (rest := []) C d_J_edge_57 (c_J_tellJams l D dT A KX L ad τ (ph_up S 0 0 11 (t)) o hI (hV.up0 (k := 11) (z := t) (by omega) (by omega) (by omega) (by omega)) (fun g i q1 q2 => (LC_up (by omega) g i).mpr (hF g i q1 q2))) (cwV 0 C.hts (gdV tw_155 tw_157 se_3 tw_1 tw_158) rfl rfl rfl ⟨rfl, by decide, by decide, by decide⟩ ⟨by decide, by decide⟩) (hI.live (g := 0) (i := 0) rfl) hI.ob rfl rfl rfl rfl rfl (Nat.le_of_ble_eq_true rfl) ⟨by decide, by decide⟩ ?_
          rintro r1 L ad τ ⟨hI, hF, g4⟩; subst g4
          change JR (edJ S t) o L ad τ at hI; change JF (edJ S t) L at hF
          obtain ⟨S2, e_S2⟩ : ∃ z, z = edJ S t := ⟨_, rfl⟩
          rw [← e_S2] at hI hF
          have hV : IV S2 := by rw [e_S2]; exact hV.edJ (by assumption)
          have hc := hV.c
          have hs : LC S2 1 x.toNat := LC1 (S := S) (by rw [e_S2]; exact edJ_0 (by decide) (by decide)) (show (x.toNat : Int) < S 0 0 1 by omega)
          refine ph_aload_n (pc := 60) C d_J_edge_60 rfl ?_
          refine ph_callV (pc := 61) (rest := []) C d_J_edge_61 (c_J_goesOn l D dT A KX L ad τ S2 o hI hV) (cwV 0 C.hts (gdV tw_111 tw_112 tw_113 tw_1 tw_114) rfl rfl rfl ⟨rfl, by decide, by decide, by decide⟩ ⟨by decide, by decide⟩) (hI.live (g := 0) (i := 0) rfl) hI.ob rfl rfl rfl rfl rfl (Nat.le_of_ble_eq_true rfl) ⟨by decide, by decide⟩ ?_
          rintro r1 L1 ad1 τ1 ⟨g1, g2, g3, g4⟩; obtain rfl := g1.symm; obtain rfl := g2.symm; obtain rfl := g3.symm; subst g4
          refine ph_bif_eq (pc := 64) (tgt := 84) C d_J_edge_64 (by decide) (fun c64 => ?_) (fun c64 => ?_)
          · refine ph_aload_n (pc := 84) C d_J_edge_84 rfl ?_
            refine gt_J_34 (pc := 85) C d_J_edge_85 (hI.live (g := 0) (i := 0) rfl) hI.ob (z := S2 0 0 5) (hI.dat rfl rfl) ?_
            refine ph_iload (pc := 88) C d_J_edge_88 rfl ?_
            refine ph_icmp_le (pc := 90) (tgt := 100) C d_J_edge_90 (by decide) (by first | omega | (have := hV.s (show LC S 1 x.toNat by simp only [LC]; omega); omega)) (by first | omega | (have := hV.s (show LC S 1 x.toNat by simp only [LC]; omega); omega)) (fun c90 => ?_) (fun c90 => ?_)
            · refine ph_iconst (pc := 100) C d_J_edge_100 ?_
              exact ph_iret (pc := 101) C d_J_edge_101 hr hlk rfl (by omega) (by omega) ⟨(by rw [edgeS_t ⟨by assumption, by assumption, by assumption, by assumption⟩, ← e_S2, edB_n (by assumption)]; exact hI), (by rw [edgeS_t ⟨by assumption, by assumption, by assumption, by assumption⟩, ← e_S2, edB_n (by assumption)]; exact hF), (by rw [edgev, if_neg (not_not_intro (by assumption)), if_neg (not_not_intro (by assumption)), if_pos ⟨by assumption, by assumption⟩, ← e_S2, edB_n (by assumption), if_neg (by omega)])⟩
            · refine ph_iload (pc := 93) C d_J_edge_93 rfl ?_
              refine ph_iconst (pc := 95) C d_J_edge_95 ?_
              refine ph_iadd (pc := 96) C d_J_edge_96 ?_
              refine ph_goto (pc := 97) (tgt := 101) C d_J_edge_97 (by decide) ?_
              exact ph_iret (pc := 101) C d_J_edge_101 hr hlk rfl (by omega) (by omega) ⟨(by rw [edgeS_t ⟨by assumption, by assumption, by assumption, by assumption⟩, ← e_S2, edB_n (by assumption)]; exact hI), (by rw [edgeS_t ⟨by assumption, by assumption, by assumption, by assumption⟩, ← e_S2, edB_n (by assumption)]; exact hF), (by rw [edgev, if_neg (not_not_intro (by assumption)), if_neg (not_not_intro (by assumption)), if_pos ⟨by assumption, by assumption⟩, ← e_S2, edB_n (by assumption), if_pos (by omega)])⟩
          · refine ph_iload_n (pc := 67) C d_J_edge_67 rfl ?_
            refine ph_if_eq (pc := 68) (tgt := 79) C d_J_edge_68 (by decide) (by first | omega | (have := hV.s (show LC S 1 x.toNat by simp only [LC]; omega); omega)) (fun c68 => ?_) (fun c68 => ?_)
            · refine ph_aload_n (pc := 79) C d_J_edge_79 rfl ?_
              refine ph_iload_n (pc := 80) C d_J_edge_80 rfl ?_
              refine ph_ti (y := ((x.toNat : Nat) : Int)) (by omega) ?_
              refine ph_callV (pc := 81) (rest := []) C d_J_edge_81 (c_J_becomeLight l D dT A KX L ad τ S2 o hI hV hF x.toNat hs) (cwV 1 C.hts (gdV tw_259 tw_261 se_15 tw_1 tw_262) rfl rfl rfl ⟨rfl, by decide, by decide, by decide⟩ ⟨by decide, by decide⟩) (hI.live (g := 0) (i := 0) rfl) hI.ob rfl rfl rfl rfl rfl (Nat.le_of_ble_eq_true rfl) ⟨by decide, by decide⟩ ?_
              rintro r1 L ad τ ⟨hI, hF, g4⟩; subst g4
              change JR (blS S2 x.toNat) o L ad τ at hI; change JF (blS S2 x.toNat) L at hF
              obtain ⟨S4, e_S4⟩ : ∃ z, z = blS S2 x.toNat := ⟨_, rfl⟩
              rw [← e_S4] at hI hF
              have hV : IV S4 := by rw [e_S4]; exact hV.blS hs
              have hc := hV.c
              refine ph_aload_n (pc := 84) C d_J_edge_84 rfl ?_
              refine gt_J_34 (pc := 85) C d_J_edge_85 (hI.live (g := 0) (i := 0) rfl) hI.ob (z := S4 0 0 5) (hI.dat rfl rfl) ?_
              refine ph_iload (pc := 88) C d_J_edge_88 rfl ?_
              refine ph_icmp_le (pc := 90) (tgt := 100) C d_J_edge_90 (by decide) (by first | omega | (have := hV.s (show LC S 1 x.toNat by simp only [LC]; omega); omega)) (by first | omega | (have := hV.s (show LC S 1 x.toNat by simp only [LC]; omega); omega)) (fun c90 => ?_) (fun c90 => ?_)
              · refine ph_iconst (pc := 100) C d_J_edge_100 ?_
                exact ph_iret (pc := 101) C d_J_edge_101 hr hlk rfl (by omega) (by omega) ⟨(by rw [edgeS_t ⟨by assumption, by assumption, by assumption, by assumption⟩, ← e_S2, edB_l (by assumption) (by assumption), ← e_S4]; exact hI), (by rw [edgeS_t ⟨by assumption, by assumption, by assumption, by assumption⟩, ← e_S2, edB_l (by assumption) (by assumption), ← e_S4]; exact hF), (by rw [edgev, if_neg (not_not_intro (by assumption)), if_neg (not_not_intro (by assumption)), if_pos ⟨by assumption, by assumption⟩, ← e_S2, edB_l (by assumption) (by assumption), ← e_S4, if_neg (by omega)])⟩
              · refine ph_iload (pc := 93) C d_J_edge_93 rfl ?_
                refine ph_iconst (pc := 95) C d_J_edge_95 ?_
                refine ph_iadd (pc := 96) C d_J_edge_96 ?_
                refine ph_goto (pc := 97) (tgt := 101) C d_J_edge_97 (by decide) ?_
                exact ph_iret (pc := 101) C d_J_edge_101 hr hlk rfl (by omega) (by omega) ⟨(by rw [edgeS_t ⟨by assumption, by assumption, by assumption, by assumption⟩, ← e_S2, edB_l (by assumption) (by assumption), ← e_S4]; exact hI), (by rw [edgeS_t ⟨by assumption, by assumption, by assumption, by assumption⟩, ← e_S2, edB_l (by assumption) (by assumption), ← e_S4]; exact hF), (by rw [edgev, if_neg (not_not_intro (by assumption)), if_neg (not_not_intro (by assumption)), if_pos ⟨by assumption, by assumption⟩, ← e_S2, edB_l (by assumption) (by assumption), ← e_S4, if_pos (by omega)])⟩
            · refine ph_aload_n (pc := 71) C d_J_edge_71 rfl ?_
              refine ph_iload_n (pc := 72) C d_J_edge_72 rfl ?_
              refine ph_ti (y := ((x.toNat : Nat) : Int)) (by omega) ?_
              refine ph_callV (pc := 73) (rest := []) C d_J_edge_73 (c_J_becomeDark l D dT A KX L ad τ S2 o hI hV hF x.toNat hs) (cwV 1 C.hts (gdV tw_222 tw_224 se_9 tw_1 tw_225) rfl rfl rfl ⟨rfl, by decide, by decide, by decide⟩ ⟨by decide, by decide⟩) (hI.live (g := 0) (i := 0) rfl) hI.ob rfl rfl rfl rfl rfl (Nat.le_of_ble_eq_true rfl) ⟨by decide, by decide⟩ ?_
              rintro r1 L ad τ ⟨hI, hF, g4⟩; subst g4
              change JR (bdS S2 x.toNat) o L ad τ at hI; change JF (bdS S2 x.toNat) L at hF
              obtain ⟨S3, e_S3⟩ : ∃ z, z = bdS S2 x.toNat := ⟨_, rfl⟩
              rw [← e_S3] at hI hF
              have hV : IV S3 := by rw [e_S3]; exact hV.bdS hs
              have hc := hV.c
              refine ph_goto (pc := 76) (tgt := 84) C d_J_edge_76 (by decide) ?_
              refine ph_aload_n (pc := 84) C d_J_edge_84 rfl ?_
              refine gt_J_34 (pc := 85) C d_J_edge_85 (hI.live (g := 0) (i := 0) rfl) hI.ob (z := S3 0 0 5) (hI.dat rfl rfl) ?_
              refine ph_iload (pc := 88) C d_J_edge_88 rfl ?_
              refine ph_icmp_le (pc := 90) (tgt := 100) C d_J_edge_90 (by decide) (by first | omega | (have := hV.s (show LC S 1 x.toNat by simp only [LC]; omega); omega)) (by first | omega | (have := hV.s (show LC S 1 x.toNat by simp only [LC]; omega); omega)) (fun c90 => ?_) (fun c90 => ?_)
              · refine ph_iconst (pc := 100) C d_J_edge_100 ?_
                exact ph_iret (pc := 101) C d_J_edge_101 hr hlk rfl (by omega) (by omega) ⟨(by rw [edgeS_t ⟨by assumption, by assumption, by assumption, by assumption⟩, ← e_S2, edB_d (by assumption) (by assumption), ← e_S3]; exact hI), (by rw [edgeS_t ⟨by assumption, by assumption, by assumption, by assumption⟩, ← e_S2, edB_d (by assumption) (by assumption), ← e_S3]; exact hF), (by rw [edgev, if_neg (not_not_intro (by assumption)), if_neg (not_not_intro (by assumption)), if_pos ⟨by assumption, by assumption⟩, ← e_S2, edB_d (by assumption) (by assumption), ← e_S3, if_neg (by omega)])⟩
              · refine ph_iload (pc := 93) C d_J_edge_93 rfl ?_
                refine ph_iconst (pc := 95) C d_J_edge_95 ?_
                refine ph_iadd (pc := 96) C d_J_edge_96 ?_
                refine ph_goto (pc := 97) (tgt := 101) C d_J_edge_97 (by decide) ?_
                exact ph_iret (pc := 101) C d_J_edge_101 hr hlk rfl (by omega) (by omega) ⟨(by rw [edgeS_t ⟨by assumption, by assumption, by assumption, by assumption⟩, ← e_S2, edB_d (by assumption) (by assumption), ← e_S3]; exact hI), (by rw [edgeS_t ⟨by assumption, by assumption, by assumption, by assumption⟩, ← e_S2, edB_d (by assumption) (by assumption), ← e_S3]; exact hF), (by rw [edgev, if_neg (not_not_intro (by assumption)), if_neg (not_not_intro (by assumption)), if_pos ⟨by assumption, by assumption⟩, ← e_S2, edB_d (by assumption) (by assumption), ← e_S3, if_pos (by omega)])⟩
        · refine ph_bipush (pc := 42) C d_J_edge_42 (by decide) ?_
          exact ph_iret (pc := 44) C d_J_edge_44 hr hlk rfl (by omega) (by omega) ⟨(by rw [edgeS_f (fun q => by first | exact absurd q.1 (by assumption) | exact absurd q.2.1 (by assumption) | exact absurd q.2.2.1 (by assumption) | exact absurd (by assumption) q.2.2.2)]; exact hI), (by rw [edgeS_f (fun q => by first | exact absurd q.1 (by assumption) | exact absurd q.2.1 (by assumption) | exact absurd q.2.2.1 (by assumption) | exact absurd (by assumption) q.2.2.2)]; exact hF), (by rw [edgev, if_neg (not_not_intro (by assumption)), if_neg (not_not_intro (by assumption)), if_neg (fun q => by first | exact absurd q.1 (by assumption) | exact absurd (by assumption) q.2)])⟩
    · refine ph_bipush (pc := 19) C d_J_edge_19 (by decide) ?_
      exact ph_iret (pc := 21) C d_J_edge_21 hr hlk rfl (by omega) (by omega) ⟨(by rw [edgeS_f (fun q => by first | exact absurd q.1 (by assumption) | exact absurd q.2.1 (by assumption) | exact absurd q.2.2.1 (by assumption) | exact absurd (by assumption) q.2.2.2)]; exact hI), (by rw [edgeS_f (fun q => by first | exact absurd q.1 (by assumption) | exact absurd q.2.1 (by assumption) | exact absurd q.2.2.1 (by assumption) | exact absurd (by assumption) q.2.2.2)]; exact hF), (by rw [edgev, if_neg (not_not_intro (by assumption)), if_pos (by assumption)])⟩
  · refine ph_bipush (pc := 8) C d_J_edge_8 (by decide) ?_
    exact ph_iret (pc := 10) C d_J_edge_10 hr hlk rfl (by omega) (by omega) ⟨(by rw [edgeS_f (fun q => by first | exact absurd q.1 (by assumption) | exact absurd q.2.1 (by assumption) | exact absurd q.2.2.1 (by assumption) | exact absurd (by assumption) q.2.2.2)]; exact hI), (by rw [edgeS_f (fun q => by first | exact absurd q.1 (by assumption) | exact absurd q.2.1 (by assumption) | exact absurd q.2.2.1 (by assumption) | exact absurd (by assumption) q.2.2.2)]; exact hF), (by rw [edgev, if_pos (by assumption)])⟩
