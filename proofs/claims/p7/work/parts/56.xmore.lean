/-! ===== doubt, cause of the other side; what it refuses ===== -/
set_option maxHeartbeats 4000000 in
set_option maxRecDepth 100000 in
theorem c_M_doubt (l : Launch) (D : va_G) (dT : Nat → ClassId) (A : Nat → Prop) (KX : State → Prop) (L : Nat → Nat → Prop) (ad : Nat → Nat → Nat) (τ : ph_T) (S : ph_T) (o : Nat) (hA : MA o L ad τ) (hs : MS S τ) (hV : IV S) (x y : Int) (hx : ph_ri x) (hy : ph_ri y) : ph_M l y_M_doubt (.code y_M_doubt b_M_doubt 5 (some .int) :: TB) ({ frames := 1, cells := 0, slots := 0, locals := 21 } : Room) D CLs (TY dT) dT kd A KX [.ref (o), .int (ph_i (x)), .int (ph_i (y))] L ad τ (fun r L' ad' τ' => L' = L ∧ ad' = ad ∧ τ' = τ ∧ r = some (.int (ph_i (doubtv S x y)))) 0 0 := by
  refine ph_M.of (cc := b_M_doubt) (maxL := 5) (ret := (some .int)) (by decide) rfl (Nat.le_of_ble_eq_true rfl) ?_
  intro p e s m below meth c C0 hr hlk hnm
  have C := C0.sub
  refine ph_loc (l2 := [(0, .ref (o)), (1, .int (ph_i (x))), (2, .int (ph_i (y)))]) ⟨rfl, rfl, rfl, trivial⟩ ?_
  have hc := hV.c
  have hm := hs.ml.r
  have loop : ∀ (n : Nat) (i : Nat) (nn : Int), (1 ≤ x ∧ x ≤ S 0 0 5) → 1 ≤ i → S 0 0 3 = (i : Int) + n - 1 → 0 ≤ nn → nn + n ≤ 60 → dqF S x.toNat n i (y - nn) = doubtv S x y → ph_W p l e ({ frames := 1, cells := 0, slots := 0, locals := 21 } : Room) s m [.ref (o), .int (ph_i (x)), .int (ph_i (y))].toArray below meth c D CLs dT kd A 5 (MQ below (ph_Q D CLs dT kd A (fun r L' ad' τ' => L' = L ∧ ad' = ad ∧ τ' = τ ∧ r = some (.int (ph_i (doubtv S x y))))) [.ref (o), .int (ph_i (x)), .int (ph_i (y))].toArray s 0 0 A) L ad τ 0 0 16 (ph_mk [(0, .ref (o)), (1, .int (ph_i (x))), (2, .int (ph_i (y))), (3, .int (ph_i (nn))), (4, .int (ph_i ((i : Int))))]) [] := by
    intro n
    induction n with
    | zero =>
      intro i nn hx5 h0 h1 h2 h3 h4
      refine ph_iload (pc := 16) C d_M_doubt_16 rfl ?_
      refine ph_aload_n (pc := 18) C d_M_doubt_18 rfl ?_
      refine gt_M_104 (pc := 19) C d_M_doubt_19 hA.live hA.ob (z := S 0 0 3) hs.c7 ?_
      refine ph_icmp_gt (pc := 22) (tgt := 57) C d_M_doubt_22 (by decide) (by omega) (by omega) (fun c22 => ?_) (fun c22 => ?_)
      · refine ph_iconst (pc := 57) C d_M_doubt_57 ?_
        exact ph_iret (pc := 58) C d_M_doubt_58 hr hlk rfl (by decide) (by decide) ⟨rfl, rfl, rfl, (by rw [← h4]; rfl)⟩
      · exfalso; omega
    | succ n ih =>
      intro i nn hx5 h0 h1 h2 h3 h4
      refine ph_iload (pc := 16) C d_M_doubt_16 rfl ?_
      refine ph_aload_n (pc := 18) C d_M_doubt_18 rfl ?_
      refine gt_M_104 (pc := 19) C d_M_doubt_19 hA.live hA.ob (z := S 0 0 3) hs.c7 ?_
      refine ph_icmp_gt (pc := 22) (tgt := 57) C d_M_doubt_22 (by decide) (by omega) (by omega) (fun c22 => ?_) (fun c22 => ?_)
      · exfalso; omega
      · refine ph_aload_n (pc := 25) C d_M_doubt_25 rfl ?_
        refine gt_M_75 (pc := 26) C d_M_doubt_26 hA.live hA.ob (hA.rf (k := 25) rfl) ?_
        refine ph_bipush (pc := 29) C d_M_doubt_29 (by decide) ?_
        refine ph_iload_n (pc := 31) C d_M_doubt_31 rfl ?_
        refine ph_imul (pc := 32) C d_M_doubt_32 ?_
        refine ph_iload (pc := 33) C d_M_doubt_33 rfl ?_
        refine ph_iadd (pc := 35) C d_M_doubt_35 ?_
        refine ph_zald (pc := 36) C d_M_doubt_36 (hA.ar (k := 25) rfl) rfl rfl rfl (61 * x.toNat + i) (by omega) (by omega) (by decide) ?_
        refine ph_ti (y := ph_b (dbit S x.toNat i)) (hs.f46 (show LC S 3 x.toNat by simp only [LC]; omega) (by omega) (by omega)) ?_
        refine ph_bif_eq (pc := 37) (tgt := 51) C d_M_doubt_37 (by decide) (fun c37 => ?_) (fun c37 => ?_)
        · refine ph_iinc (pc := 51) C d_M_doubt_51 rfl rfl ?_
          refine ph_goto (pc := 54) (tgt := 16) C d_M_doubt_54 (by decide) ?_
          refine ph_loc (l2 := [(0, .ref (o)), (1, .int (ph_i (x))), (2, .int (ph_i (y))), (3, .int (ph_i (nn))), (4, .int (ph_i (((i + 1 : Nat) : Int))))]) ⟨rfl, rfl, rfl, rfl, rfl, trivial⟩ ?_
          exact ih (i + 1) nn hx5 (by omega) (by omega) (by omega) (by omega) (by rw [← h4, dqF_f (by assumption)])
        · refine ph_iload_n (pc := 40) C d_M_doubt_40 rfl ?_
          refine ph_iload_n (pc := 41) C d_M_doubt_41 rfl ?_
          refine ph_icmp_ne (pc := 42) (tgt := 48) C d_M_doubt_42 (by decide) (by omega) (by omega) (fun c42 => ?_) (fun c42 => ?_)
          · refine ph_iinc (pc := 48) C d_M_doubt_48 rfl rfl ?_
            refine ph_iinc (pc := 51) C d_M_doubt_51 rfl rfl ?_
            refine ph_goto (pc := 54) (tgt := 16) C d_M_doubt_54 (by decide) ?_
            refine ph_loc (l2 := [(0, .ref (o)), (1, .int (ph_i (x))), (2, .int (ph_i (y))), (3, .int (ph_i ((nn) + (1)))), (4, .int (ph_i (((i + 1 : Nat) : Int))))]) ⟨rfl, rfl, rfl, rfl, rfl, trivial⟩ ?_
            exact ih (i + 1) (nn + 1) hx5 (by omega) (by omega) (by omega) (by omega) (by rw [← h4, dqF_t (by assumption) (by omega), show y - nn + -1 = y - (nn + 1) by omega])
          · refine ph_iload (pc := 45) C d_M_doubt_45 rfl ?_
            exact ph_iret (pc := 47) C d_M_doubt_47 hr hlk rfl (by decide) (by decide) ⟨rfl, rfl, rfl, (by rw [← h4, dqF_0 (by assumption) (by omega)])⟩
  refine ph_aload_n (pc := 0) C d_M_doubt_0 rfl ?_
  refine ph_iload_n (pc := 1) C d_M_doubt_1 rfl ?_
  refine ph_callV (pc := 2) (rest := []) C d_M_doubt_2 (c_M_noFault l D dT A KX L ad τ S o hA hs hV x hx) (cwV 1 C.hts (gdV tw_551 tw_553 se_36 tw_2 tw_554) rfl rfl rfl ⟨rfl, by decide, by decide, by decide⟩ ⟨by decide, by decide⟩) hA.live hA.ob rfl rfl rfl rfl rfl (Nat.le_of_ble_eq_true rfl) ⟨by decide, by decide⟩ ?_
  rintro r1 L1 ad1 τ1 ⟨g1, g2, g3, g4⟩; obtain rfl := g1.symm; obtain rfl := g2.symm; obtain rfl := g3.symm; subst g4
  refine ph_bif_eq (pc := 5) (tgt := 11) C d_M_doubt_5 (by decide) (fun c5 => ?_) (fun c5 => ?_)
  · refine ph_iconst (pc := 11) C d_M_doubt_11 ?_
    refine ph_istore_n (pc := 12) C d_M_doubt_12 (by decide) rfl ?_
    refine ph_iconst (pc := 13) C d_M_doubt_13 ?_
    refine ph_istore (pc := 14) C d_M_doubt_14 (by decide) rfl ?_
    refine ph_loc (l2 := [(0, .ref (o)), (1, .int (ph_i (x))), (2, .int (ph_i (y))), (3, .int (ph_i (0))), (4, .int (ph_i (((1 : Nat) : Int))))]) ⟨rfl, rfl, rfl, rfl, rfl, trivial⟩ ?_
    exact loop (S 0 0 3).toNat 1 0 (Classical.not_not.mp (by assumption)) (by omega) (by omega) (by omega) (by omega) (by rw [doubt_v (Classical.not_not.mp (by assumption)), Int.sub_zero])
  · refine ph_bipush (pc := 8) C d_M_doubt_8 (by decide) ?_
    exact ph_iret (pc := 10) C d_M_doubt_10 hr hlk rfl (by decide) (by decide) ⟨rfl, rfl, rfl, (by rw [doubtv, if_pos (by assumption)])⟩
set_option maxHeartbeats 4000000 in
set_option maxRecDepth 100000 in
theorem c_M_cause (l : Launch) (D : va_G) (dT : Nat → ClassId) (A : Nat → Prop) (KX : State → Prop) (L : Nat → Nat → Prop) (ad : Nat → Nat → Nat) (τ : ph_T) (S : ph_T) (o : Nat) (hA : MA o L ad τ) (hs : MS S τ) (hV : IV S) (x : Int) (hx : ph_ri x) : ph_M l y_M_cause (.code y_M_cause b_M_cause 6 (some .int) :: TB) ({ frames := 1, cells := 0, slots := 0, locals := 21 } : Room) D CLs (TY dT) dT kd A KX [.ref (o), .int (ph_i (x))] L ad τ (fun r L' ad' τ' => L' = L ∧ ad' = ad ∧ τ' = τ ∧ r = some (.int (ph_i (causev S x)))) 0 0 := by
  refine ph_M.of (cc := b_M_cause) (maxL := 6) (ret := (some .int)) (by decide) rfl (Nat.le_of_ble_eq_true rfl) ?_
  intro p e s m below meth c C0 hr hlk hnm
  have C := C0.sub
  refine ph_loc (l2 := [(0, .ref (o)), (1, .int (ph_i (x)))]) ⟨rfl, rfl, trivial⟩ ?_
  have hc := hV.c
  have hm := hs.ml.r
  have loop : ∀ (n : Nat) (i : Nat), (1 ≤ x ∧ x ≤ S 0 0 5) → 1 ≤ i → x = (i : Int) + n → (S 3 x.toNat 0 = 6 ∨ ¬ S 3 x.toNat 1 = -1) → ph_W p l e ({ frames := 1, cells := 0, slots := 0, locals := 21 } : Room) s m [.ref (o), .int (ph_i (x))].toArray below meth c D CLs dT kd A 6 (MQ below (ph_Q D CLs dT kd A (fun r L' ad' τ' => L' = L ∧ ad' = ad ∧ τ' = τ ∧ r = some (.int (ph_i (causev S x))))) [.ref (o), .int (ph_i (x))].toArray s 0 0 A) L ad τ 0 0 43 (ph_mk [(0, .ref (o)), (1, .int (ph_i (x))), (2, .int (ph_i (S 3 x.toNat 0))), (3, .int (ph_i (ph_b (agE S x.toNat i)))), (4, .int (ph_i ((i : Int))))]) [] := by
    intro n
    induction n with
    | zero =>
      intro i hx5 h0 h1 h2
      have h9 := hV.f (show LC S 3 x.toNat by simp only [LC]; omega)
      refine ph_iload (pc := 43) C d_M_cause_43 rfl ?_
      refine ph_iload_n (pc := 45) C d_M_cause_45 rfl ?_
      refine ph_icmp_ge (pc := 46) (tgt := 150) C d_M_cause_46 (by decide) (by first | omega | (have := hV.f (show LC S 3 x.toNat by simp only [LC]; omega); omega) | (have := hV.f (show LC S 3 x.toNat by simp only [LC]; omega); have := hV.f (show LC S 3 i by simp only [LC]; omega); omega)) (by first | omega | (have := hV.f (show LC S 3 x.toNat by simp only [LC]; omega); omega) | (have := hV.f (show LC S 3 x.toNat by simp only [LC]; omega); have := hV.f (show LC S 3 i by simp only [LC]; omega); omega)) (fun c46 => ?_) (fun c46 => ?_)
      · refine ph_bipush (pc := 150) C d_M_cause_150 (by decide) ?_
        refine ph_iload_n (pc := 152) C d_M_cause_152 rfl ?_
        refine ph_imul (pc := 153) C d_M_cause_153 ?_
        refine ph_aload_n (pc := 154) C d_M_cause_154 rfl ?_
        refine gt_M_63 (pc := 155) C d_M_cause_155 hA.live hA.ob (hA.rf (k := 21) rfl) ?_
        refine ph_iload_n (pc := 158) C d_M_cause_158 rfl ?_
        refine ph_zald (pc := 159) C d_M_cause_159 (hA.ar (k := 21) rfl) rfl rfl rfl x.toNat (by omega) (by have := (show LC S 3 x.toNat by simp only [LC]; omega); simp only [LC] at this; omega) (by decide) ?_
        refine ph_ti (y := S 3 x.toNat 3) (hs.f42 (show LC S 3 x.toNat by simp only [LC]; omega)) ?_
        refine ph_if_eq (pc := 160) (tgt := 167) C d_M_cause_160 (by decide) (by first | omega | (have := hV.f (show LC S 3 x.toNat by simp only [LC]; omega); omega) | (have := hV.f (show LC S 3 x.toNat by simp only [LC]; omega); have := hV.f (show LC S 3 i by simp only [LC]; omega); omega)) (fun c160 => ?_) (fun c160 => ?_)
        · refine ph_iload_n (pc := 167) C d_M_cause_167 rfl ?_
          refine ph_bif_eq (pc := 168) (tgt := 175) C d_M_cause_168 (by decide) (fun c168 => ?_) (fun c168 => ?_)
          · refine ph_iconst (pc := 175) C d_M_cause_175 ?_
            refine ph_iadd (pc := 176) C d_M_cause_176 ?_
            exact ph_iret (pc := 177) C d_M_cause_177 hr hlk rfl (by decide) (by decide) ⟨rfl, rfl, rfl, (by rw [causev, if_neg (not_not_intro (by omega)), if_neg (fun q => by have q1 := q.1; have q2 := q.2; omega), if_neg (not_not_intro (by assumption)), show again S x.toNat = agE S x.toNat i by rw [show i = x.toNat by omega]; rfl, ph_b0 (by assumption)])⟩
          · refine ph_iconst (pc := 171) C d_M_cause_171 ?_
            refine ph_goto (pc := 172) (tgt := 176) C d_M_cause_172 (by decide) ?_
            refine ph_iadd (pc := 176) C d_M_cause_176 ?_
            exact ph_iret (pc := 177) C d_M_cause_177 hr hlk rfl (by decide) (by decide) ⟨rfl, rfl, rfl, (by rw [causev, if_neg (not_not_intro (by omega)), if_neg (fun q => by have q1 := q.1; have q2 := q.2; omega), if_neg (not_not_intro (by assumption)), show again S x.toNat = agE S x.toNat i by rw [show i = x.toNat by omega]; rfl, ph_b1 (by assumption)])⟩
        · refine ph_iconst (pc := 163) C d_M_cause_163 ?_
          refine ph_goto (pc := 164) (tgt := 176) C d_M_cause_164 (by decide) ?_
          refine ph_iadd (pc := 176) C d_M_cause_176 ?_
          exact ph_iret (pc := 177) C d_M_cause_177 hr hlk rfl (by decide) (by decide) ⟨rfl, rfl, rfl, (by rw [causev, if_neg (not_not_intro (by omega)), if_neg (fun q => by have q1 := q.1; have q2 := q.2; omega), if_pos (by assumption)])⟩
      · exfalso; omega
    | succ n ih =>
      intro i hx5 h0 h1 h2
      have h9 := hV.f (show LC S 3 x.toNat by simp only [LC]; omega)
      refine ph_iload (pc := 43) C d_M_cause_43 rfl ?_
      refine ph_iload_n (pc := 45) C d_M_cause_45 rfl ?_
      refine ph_icmp_ge (pc := 46) (tgt := 150) C d_M_cause_46 (by decide) (by first | omega | (have := hV.f (show LC S 3 x.toNat by simp only [LC]; omega); omega) | (have := hV.f (show LC S 3 x.toNat by simp only [LC]; omega); have := hV.f (show LC S 3 i by simp only [LC]; omega); omega)) (by first | omega | (have := hV.f (show LC S 3 x.toNat by simp only [LC]; omega); omega) | (have := hV.f (show LC S 3 x.toNat by simp only [LC]; omega); have := hV.f (show LC S 3 i by simp only [LC]; omega); omega)) (fun c46 => ?_) (fun c46 => ?_)
      · exfalso; omega
      · refine ph_iload_n (pc := 49) C d_M_cause_49 rfl ?_
        refine ph_bipush (pc := 50) C d_M_cause_50 (by decide) ?_
        refine ph_icmp_ne (pc := 52) (tgt := 75) C d_M_cause_52 (by decide) (by first | omega | (have := hV.f (show LC S 3 x.toNat by simp only [LC]; omega); omega) | (have := hV.f (show LC S 3 x.toNat by simp only [LC]; omega); have := hV.f (show LC S 3 i by simp only [LC]; omega); omega)) (by first | omega | (have := hV.f (show LC S 3 x.toNat by simp only [LC]; omega); omega) | (have := hV.f (show LC S 3 x.toNat by simp only [LC]; omega); have := hV.f (show LC S 3 i by simp only [LC]; omega); omega)) (fun c52 => ?_) (fun c52 => ?_)
        · refine ph_aload_n (pc := 75) C d_M_cause_75 rfl ?_
          refine gt_M_66 (pc := 76) C d_M_cause_76 hA.live hA.ob (hA.rf (k := 22) rfl) ?_
          refine ph_iload (pc := 79) C d_M_cause_79 rfl ?_
          refine ph_zald (pc := 81) C d_M_cause_81 (hA.ar (k := 22) rfl) rfl rfl rfl i rfl (by have := (show LC S 3 i by simp only [LC]; omega); simp only [LC] at this; omega) (by decide) ?_
          refine ph_ti (y := ph_b (S 3 i 1 = -1)) (hs.f43 (show LC S 3 i by simp only [LC]; omega)) ?_
          refine ph_bif_ne (pc := 82) (tgt := 105) C d_M_cause_82 (by decide) (fun c82 => ?_) (fun c82 => ?_)
          · refine ph_iconst (pc := 105) C d_M_cause_105 ?_
            refine ph_istore (pc := 106) C d_M_cause_106 (by decide) rfl ?_
            refine ph_iload_n (pc := 108) C d_M_cause_108 rfl ?_
            refine ph_bif_ne (pc := 109) (tgt := 138) C d_M_cause_109 (by decide) (fun c109 => ?_) (fun c109 => ?_)
            · refine ph_iconst (pc := 138) C d_M_cause_138 ?_
              refine ph_goto (pc := 139) (tgt := 143) C d_M_cause_139 (by decide) ?_
              refine ph_istore_n (pc := 143) C d_M_cause_143 (by decide) rfl ?_
              refine ph_iinc (pc := 144) C d_M_cause_144 rfl rfl ?_
              refine ph_goto (pc := 147) (tgt := 43) C d_M_cause_147 (by decide) ?_
              refine ph_loc (l2 := [(0, .ref (o)), (1, .int (ph_i (x))), (2, .int (ph_i (S 3 x.toNat 0))), (3, .int (ph_i (ph_b (agE S x.toNat (i + 1))))), (4, .int (ph_i (((i + 1 : Nat) : Int))))]) ⟨rfl, rfl, rfl, (congrArg (fun z => some (Value.int (ph_i z))) (ph_b1 (by first | exact agE_t (by assumption) | exact agE_n (by omega) (by omega) (by unfold sameT; omega))).symm), rfl, trivial⟩ ?_
              exact ih (i + 1) (by omega) (by omega) (by omega) (by omega)
            · refine ph_iload (pc := 112) C d_M_cause_112 rfl ?_
              refine ph_if_eq (pc := 114) (tgt := 142) C d_M_cause_114 (by decide) (by first | omega | (have := hV.f (show LC S 3 x.toNat by simp only [LC]; omega); omega) | (have := hV.f (show LC S 3 x.toNat by simp only [LC]; omega); have := hV.f (show LC S 3 i by simp only [LC]; omega); omega)) (fun c114 => ?_) (fun c114 => ?_)
              · refine ph_iconst (pc := 142) C d_M_cause_142 ?_
                refine ph_istore_n (pc := 143) C d_M_cause_143 (by decide) rfl ?_
                refine ph_iinc (pc := 144) C d_M_cause_144 rfl rfl ?_
                refine ph_goto (pc := 147) (tgt := 43) C d_M_cause_147 (by decide) ?_
                refine ph_loc (l2 := [(0, .ref (o)), (1, .int (ph_i (x))), (2, .int (ph_i (S 3 x.toNat 0))), (3, .int (ph_i (ph_b (agE S x.toNat (i + 1))))), (4, .int (ph_i (((i + 1 : Nat) : Int))))]) ⟨rfl, rfl, rfl, (congrArg (fun z => some (Value.int (ph_i z))) (ph_b0 (agE_f (by assumption) (fun q => by have q1 := q.1; have q2 := q.2; unfold sameT at q2; omega))).symm), rfl, trivial⟩ ?_
                exact ih (i + 1) (by omega) (by omega) (by omega) (by omega)
              · exact absurd rfl c114
          · refine ph_aload_n (pc := 85) C d_M_cause_85 rfl ?_
            refine gt_M_54 (pc := 86) C d_M_cause_86 hA.live hA.ob (hA.rf (k := 18) rfl) ?_
            refine ph_iload (pc := 89) C d_M_cause_89 rfl ?_
            refine ph_iald (pc := 91) C d_M_cause_91 (hA.ar (k := 18) rfl) rfl rfl rfl i rfl (by have := (show LC S 3 i by simp only [LC]; omega); simp only [LC] at this; omega) (by decide) ?_
            refine ph_ti (y := S 3 i 1) (hs.f39 (show LC S 3 i by simp only [LC]; omega)) ?_
            refine ph_aload_n (pc := 92) C d_M_cause_92 rfl ?_
            refine gt_M_54 (pc := 93) C d_M_cause_93 hA.live hA.ob (hA.rf (k := 18) rfl) ?_
            refine ph_iload_n (pc := 96) C d_M_cause_96 rfl ?_
            refine ph_iald (pc := 97) C d_M_cause_97 (hA.ar (k := 18) rfl) rfl rfl rfl x.toNat (by omega) (by have := (show LC S 3 x.toNat by simp only [LC]; omega); simp only [LC] at this; omega) (by decide) ?_
            refine ph_ti (y := S 3 x.toNat 1) (hs.f39 (show LC S 3 x.toNat by simp only [LC]; omega)) ?_
            refine ph_icmp_ne (pc := 98) (tgt := 105) C d_M_cause_98 (by decide) (by first | omega | (have := hV.f (show LC S 3 x.toNat by simp only [LC]; omega); omega) | (have := hV.f (show LC S 3 x.toNat by simp only [LC]; omega); have := hV.f (show LC S 3 i by simp only [LC]; omega); omega)) (by first | omega | (have := hV.f (show LC S 3 x.toNat by simp only [LC]; omega); omega) | (have := hV.f (show LC S 3 x.toNat by simp only [LC]; omega); have := hV.f (show LC S 3 i by simp only [LC]; omega); omega)) (fun c98 => ?_) (fun c98 => ?_)
            · refine ph_iconst (pc := 105) C d_M_cause_105 ?_
              refine ph_istore (pc := 106) C d_M_cause_106 (by decide) rfl ?_
              refine ph_iload_n (pc := 108) C d_M_cause_108 rfl ?_
              refine ph_bif_ne (pc := 109) (tgt := 138) C d_M_cause_109 (by decide) (fun c109 => ?_) (fun c109 => ?_)
              · refine ph_iconst (pc := 138) C d_M_cause_138 ?_
                refine ph_goto (pc := 139) (tgt := 143) C d_M_cause_139 (by decide) ?_
                refine ph_istore_n (pc := 143) C d_M_cause_143 (by decide) rfl ?_
                refine ph_iinc (pc := 144) C d_M_cause_144 rfl rfl ?_
                refine ph_goto (pc := 147) (tgt := 43) C d_M_cause_147 (by decide) ?_
                refine ph_loc (l2 := [(0, .ref (o)), (1, .int (ph_i (x))), (2, .int (ph_i (S 3 x.toNat 0))), (3, .int (ph_i (ph_b (agE S x.toNat (i + 1))))), (4, .int (ph_i (((i + 1 : Nat) : Int))))]) ⟨rfl, rfl, rfl, (congrArg (fun z => some (Value.int (ph_i z))) (ph_b1 (by first | exact agE_t (by assumption) | exact agE_n (by omega) (by omega) (by unfold sameT; omega))).symm), rfl, trivial⟩ ?_
                exact ih (i + 1) (by omega) (by omega) (by omega) (by omega)
              · refine ph_iload (pc := 112) C d_M_cause_112 rfl ?_
                refine ph_if_eq (pc := 114) (tgt := 142) C d_M_cause_114 (by decide) (by first | omega | (have := hV.f (show LC S 3 x.toNat by simp only [LC]; omega); omega) | (have := hV.f (show LC S 3 x.toNat by simp only [LC]; omega); have := hV.f (show LC S 3 i by simp only [LC]; omega); omega)) (fun c114 => ?_) (fun c114 => ?_)
                · refine ph_iconst (pc := 142) C d_M_cause_142 ?_
                  refine ph_istore_n (pc := 143) C d_M_cause_143 (by decide) rfl ?_
                  refine ph_iinc (pc := 144) C d_M_cause_144 rfl rfl ?_
                  refine ph_goto (pc := 147) (tgt := 43) C d_M_cause_147 (by decide) ?_
                  refine ph_loc (l2 := [(0, .ref (o)), (1, .int (ph_i (x))), (2, .int (ph_i (S 3 x.toNat 0))), (3, .int (ph_i (ph_b (agE S x.toNat (i + 1))))), (4, .int (ph_i (((i + 1 : Nat) : Int))))]) ⟨rfl, rfl, rfl, (congrArg (fun z => some (Value.int (ph_i z))) (ph_b0 (agE_f (by assumption) (fun q => by have q1 := q.1; have q2 := q.2; unfold sameT at q2; omega))).symm), rfl, trivial⟩ ?_
                  exact ih (i + 1) (by omega) (by omega) (by omega) (by omega)
                · exact absurd rfl c114
            · refine ph_iconst (pc := 101) C d_M_cause_101 ?_
              refine ph_goto (pc := 102) (tgt := 106) C d_M_cause_102 (by decide) ?_
              refine ph_istore (pc := 106) C d_M_cause_106 (by decide) rfl ?_
              refine ph_iload_n (pc := 108) C d_M_cause_108 rfl ?_
              refine ph_bif_ne (pc := 109) (tgt := 138) C d_M_cause_109 (by decide) (fun c109 => ?_) (fun c109 => ?_)
              · refine ph_iconst (pc := 138) C d_M_cause_138 ?_
                refine ph_goto (pc := 139) (tgt := 143) C d_M_cause_139 (by decide) ?_
                refine ph_istore_n (pc := 143) C d_M_cause_143 (by decide) rfl ?_
                refine ph_iinc (pc := 144) C d_M_cause_144 rfl rfl ?_
                refine ph_goto (pc := 147) (tgt := 43) C d_M_cause_147 (by decide) ?_
                refine ph_loc (l2 := [(0, .ref (o)), (1, .int (ph_i (x))), (2, .int (ph_i (S 3 x.toNat 0))), (3, .int (ph_i (ph_b (agE S x.toNat (i + 1))))), (4, .int (ph_i (((i + 1 : Nat) : Int))))]) ⟨rfl, rfl, rfl, (congrArg (fun z => some (Value.int (ph_i z))) (ph_b1 (by first | exact agE_t (by assumption) | exact agE_n (by omega) (by omega) (by unfold sameT; omega))).symm), rfl, trivial⟩ ?_
                exact ih (i + 1) (by omega) (by omega) (by omega) (by omega)
              · refine ph_iload (pc := 112) C d_M_cause_112 rfl ?_
                refine ph_if_eq (pc := 114) (tgt := 142) C d_M_cause_114 (by decide) (by first | omega | (have := hV.f (show LC S 3 x.toNat by simp only [LC]; omega); omega) | (have := hV.f (show LC S 3 x.toNat by simp only [LC]; omega); have := hV.f (show LC S 3 i by simp only [LC]; omega); omega)) (fun c114 => ?_) (fun c114 => ?_)
                · exact absurd c114 (by decide)
                · refine ph_aload_n (pc := 117) C d_M_cause_117 rfl ?_
                  refine gt_M_57 (pc := 118) C d_M_cause_118 hA.live hA.ob (hA.rf (k := 19) rfl) ?_
                  refine ph_iload_n (pc := 121) C d_M_cause_121 rfl ?_
                  refine ph_lald (pc := 122) C d_M_cause_122 (hA.ar (k := 19) rfl) rfl rfl rfl x.toNat (by omega) (by have := (show LC S 3 x.toNat by simp only [LC]; omega); simp only [LC] at this; omega) (by decide) ?_
                  refine ph_tl (y := S 3 x.toNat 2) (hs.f40 (show LC S 3 x.toNat by simp only [LC]; omega)) ?_
                  refine ph_aload_n (pc := 123) C d_M_cause_123 rfl ?_
                  refine gt_M_57 (pc := 124) C d_M_cause_124 hA.live hA.ob (hA.rf (k := 19) rfl) ?_
                  refine ph_iload (pc := 127) C d_M_cause_127 rfl ?_
                  refine ph_lald (pc := 129) C d_M_cause_129 (hA.ar (k := 19) rfl) rfl rfl rfl i rfl (by have := (show LC S 3 i by simp only [LC]; omega); simp only [LC] at this; omega) (by decide) ?_
                  refine ph_tl (y := S 3 i 2) (hs.f40 (show LC S 3 i by simp only [LC]; omega)) ?_
                  refine ph_lsub (pc := 130) C d_M_cause_130 ?_
                  refine ph_ldc2 (pc := 131) C d_M_cause_131 (10000) (by decide) tw_559 ?_
                  refine ph_l_gt (pc := 134) (tgt := 142) C d_M_cause_134 d_M_cause_135 (by decide) (by first | omega | (have := hV.f (show LC S 3 x.toNat by simp only [LC]; omega); omega) | (have := hV.f (show LC S 3 x.toNat by simp only [LC]; omega); have := hV.f (show LC S 3 i by simp only [LC]; omega); omega)) (by first | omega | (have := hV.f (show LC S 3 x.toNat by simp only [LC]; omega); omega) | (have := hV.f (show LC S 3 x.toNat by simp only [LC]; omega); have := hV.f (show LC S 3 i by simp only [LC]; omega); omega)) (fun c134 => ?_) (fun c134 => ?_)
                  · refine ph_iconst (pc := 142) C d_M_cause_142 ?_
                    refine ph_istore_n (pc := 143) C d_M_cause_143 (by decide) rfl ?_
                    refine ph_iinc (pc := 144) C d_M_cause_144 rfl rfl ?_
                    refine ph_goto (pc := 147) (tgt := 43) C d_M_cause_147 (by decide) ?_
                    refine ph_loc (l2 := [(0, .ref (o)), (1, .int (ph_i (x))), (2, .int (ph_i (S 3 x.toNat 0))), (3, .int (ph_i (ph_b (agE S x.toNat (i + 1))))), (4, .int (ph_i (((i + 1 : Nat) : Int))))]) ⟨rfl, rfl, rfl, (congrArg (fun z => some (Value.int (ph_i z))) (ph_b0 (agE_f (by assumption) (fun q => by have q1 := q.1; have q2 := q.2; unfold sameT at q2; omega))).symm), rfl, trivial⟩ ?_
                    exact ih (i + 1) (by omega) (by omega) (by omega) (by omega)
                  · refine ph_iconst (pc := 138) C d_M_cause_138 ?_
                    refine ph_goto (pc := 139) (tgt := 143) C d_M_cause_139 (by decide) ?_
                    refine ph_istore_n (pc := 143) C d_M_cause_143 (by decide) rfl ?_
                    refine ph_iinc (pc := 144) C d_M_cause_144 rfl rfl ?_
                    refine ph_goto (pc := 147) (tgt := 43) C d_M_cause_147 (by decide) ?_
                    refine ph_loc (l2 := [(0, .ref (o)), (1, .int (ph_i (x))), (2, .int (ph_i (S 3 x.toNat 0))), (3, .int (ph_i (ph_b (agE S x.toNat (i + 1))))), (4, .int (ph_i (((i + 1 : Nat) : Int))))]) ⟨rfl, rfl, rfl, (congrArg (fun z => some (Value.int (ph_i z))) (ph_b1 (by first | exact agE_t (by assumption) | exact agE_n (by omega) (by omega) (by unfold sameT; omega))).symm), rfl, trivial⟩ ?_
                    exact ih (i + 1) (by omega) (by omega) (by omega) (by omega)
        · refine ph_aload_n (pc := 55) C d_M_cause_55 rfl ?_
          refine gt_M_51 (pc := 56) C d_M_cause_56 hA.live hA.ob (hA.rf (k := 17) rfl) ?_
          refine ph_iload (pc := 59) C d_M_cause_59 rfl ?_
          refine ph_iald (pc := 61) C d_M_cause_61 (hA.ar (k := 17) rfl) rfl rfl rfl i rfl (by have := (show LC S 3 i by simp only [LC]; omega); simp only [LC] at this; omega) (by decide) ?_
          refine ph_ti (y := S 3 i 0) (hs.f38 (show LC S 3 i by simp only [LC]; omega)) ?_
          refine ph_bipush (pc := 62) C d_M_cause_62 (by decide) ?_
          refine ph_icmp_ne (pc := 64) (tgt := 71) C d_M_cause_64 (by decide) (by first | omega | (have := hV.f (show LC S 3 x.toNat by simp only [LC]; omega); omega) | (have := hV.f (show LC S 3 x.toNat by simp only [LC]; omega); have := hV.f (show LC S 3 i by simp only [LC]; omega); omega)) (by first | omega | (have := hV.f (show LC S 3 x.toNat by simp only [LC]; omega); omega) | (have := hV.f (show LC S 3 x.toNat by simp only [LC]; omega); have := hV.f (show LC S 3 i by simp only [LC]; omega); omega)) (fun c64 => ?_) (fun c64 => ?_)
          · refine ph_iconst (pc := 71) C d_M_cause_71 ?_
            refine ph_goto (pc := 72) (tgt := 106) C d_M_cause_72 (by decide) ?_
            refine ph_istore (pc := 106) C d_M_cause_106 (by decide) rfl ?_
            refine ph_iload_n (pc := 108) C d_M_cause_108 rfl ?_
            refine ph_bif_ne (pc := 109) (tgt := 138) C d_M_cause_109 (by decide) (fun c109 => ?_) (fun c109 => ?_)
            · refine ph_iconst (pc := 138) C d_M_cause_138 ?_
              refine ph_goto (pc := 139) (tgt := 143) C d_M_cause_139 (by decide) ?_
              refine ph_istore_n (pc := 143) C d_M_cause_143 (by decide) rfl ?_
              refine ph_iinc (pc := 144) C d_M_cause_144 rfl rfl ?_
              refine ph_goto (pc := 147) (tgt := 43) C d_M_cause_147 (by decide) ?_
              refine ph_loc (l2 := [(0, .ref (o)), (1, .int (ph_i (x))), (2, .int (ph_i (S 3 x.toNat 0))), (3, .int (ph_i (ph_b (agE S x.toNat (i + 1))))), (4, .int (ph_i (((i + 1 : Nat) : Int))))]) ⟨rfl, rfl, rfl, (congrArg (fun z => some (Value.int (ph_i z))) (ph_b1 (by first | exact agE_t (by assumption) | exact agE_n (by omega) (by omega) (by unfold sameT; omega))).symm), rfl, trivial⟩ ?_
              exact ih (i + 1) (by omega) (by omega) (by omega) (by omega)
            · refine ph_iload (pc := 112) C d_M_cause_112 rfl ?_
              refine ph_if_eq (pc := 114) (tgt := 142) C d_M_cause_114 (by decide) (by first | omega | (have := hV.f (show LC S 3 x.toNat by simp only [LC]; omega); omega) | (have := hV.f (show LC S 3 x.toNat by simp only [LC]; omega); have := hV.f (show LC S 3 i by simp only [LC]; omega); omega)) (fun c114 => ?_) (fun c114 => ?_)
              · refine ph_iconst (pc := 142) C d_M_cause_142 ?_
                refine ph_istore_n (pc := 143) C d_M_cause_143 (by decide) rfl ?_
                refine ph_iinc (pc := 144) C d_M_cause_144 rfl rfl ?_
                refine ph_goto (pc := 147) (tgt := 43) C d_M_cause_147 (by decide) ?_
                refine ph_loc (l2 := [(0, .ref (o)), (1, .int (ph_i (x))), (2, .int (ph_i (S 3 x.toNat 0))), (3, .int (ph_i (ph_b (agE S x.toNat (i + 1))))), (4, .int (ph_i (((i + 1 : Nat) : Int))))]) ⟨rfl, rfl, rfl, (congrArg (fun z => some (Value.int (ph_i z))) (ph_b0 (agE_f (by assumption) (fun q => by have q1 := q.1; have q2 := q.2; unfold sameT at q2; omega))).symm), rfl, trivial⟩ ?_
                exact ih (i + 1) (by omega) (by omega) (by omega) (by omega)
              · exact absurd rfl c114
          · refine ph_iconst (pc := 67) C d_M_cause_67 ?_
            refine ph_goto (pc := 68) (tgt := 106) C d_M_cause_68 (by decide) ?_
            refine ph_istore (pc := 106) C d_M_cause_106 (by decide) rfl ?_
            refine ph_iload_n (pc := 108) C d_M_cause_108 rfl ?_
            refine ph_bif_ne (pc := 109) (tgt := 138) C d_M_cause_109 (by decide) (fun c109 => ?_) (fun c109 => ?_)
            · refine ph_iconst (pc := 138) C d_M_cause_138 ?_
              refine ph_goto (pc := 139) (tgt := 143) C d_M_cause_139 (by decide) ?_
              refine ph_istore_n (pc := 143) C d_M_cause_143 (by decide) rfl ?_
              refine ph_iinc (pc := 144) C d_M_cause_144 rfl rfl ?_
              refine ph_goto (pc := 147) (tgt := 43) C d_M_cause_147 (by decide) ?_
              refine ph_loc (l2 := [(0, .ref (o)), (1, .int (ph_i (x))), (2, .int (ph_i (S 3 x.toNat 0))), (3, .int (ph_i (ph_b (agE S x.toNat (i + 1))))), (4, .int (ph_i (((i + 1 : Nat) : Int))))]) ⟨rfl, rfl, rfl, (congrArg (fun z => some (Value.int (ph_i z))) (ph_b1 (by first | exact agE_t (by assumption) | exact agE_n (by omega) (by omega) (by unfold sameT; omega))).symm), rfl, trivial⟩ ?_
              exact ih (i + 1) (by omega) (by omega) (by omega) (by omega)
            · refine ph_iload (pc := 112) C d_M_cause_112 rfl ?_
              refine ph_if_eq (pc := 114) (tgt := 142) C d_M_cause_114 (by decide) (by first | omega | (have := hV.f (show LC S 3 x.toNat by simp only [LC]; omega); omega) | (have := hV.f (show LC S 3 x.toNat by simp only [LC]; omega); have := hV.f (show LC S 3 i by simp only [LC]; omega); omega)) (fun c114 => ?_) (fun c114 => ?_)
              · exact absurd c114 (by decide)
              · refine ph_aload_n (pc := 117) C d_M_cause_117 rfl ?_
                refine gt_M_57 (pc := 118) C d_M_cause_118 hA.live hA.ob (hA.rf (k := 19) rfl) ?_
                refine ph_iload_n (pc := 121) C d_M_cause_121 rfl ?_
                refine ph_lald (pc := 122) C d_M_cause_122 (hA.ar (k := 19) rfl) rfl rfl rfl x.toNat (by omega) (by have := (show LC S 3 x.toNat by simp only [LC]; omega); simp only [LC] at this; omega) (by decide) ?_
                refine ph_tl (y := S 3 x.toNat 2) (hs.f40 (show LC S 3 x.toNat by simp only [LC]; omega)) ?_
                refine ph_aload_n (pc := 123) C d_M_cause_123 rfl ?_
                refine gt_M_57 (pc := 124) C d_M_cause_124 hA.live hA.ob (hA.rf (k := 19) rfl) ?_
                refine ph_iload (pc := 127) C d_M_cause_127 rfl ?_
                refine ph_lald (pc := 129) C d_M_cause_129 (hA.ar (k := 19) rfl) rfl rfl rfl i rfl (by have := (show LC S 3 i by simp only [LC]; omega); simp only [LC] at this; omega) (by decide) ?_
                refine ph_tl (y := S 3 i 2) (hs.f40 (show LC S 3 i by simp only [LC]; omega)) ?_
                refine ph_lsub (pc := 130) C d_M_cause_130 ?_
                refine ph_ldc2 (pc := 131) C d_M_cause_131 (10000) (by decide) tw_559 ?_
                refine ph_l_gt (pc := 134) (tgt := 142) C d_M_cause_134 d_M_cause_135 (by decide) (by first | omega | (have := hV.f (show LC S 3 x.toNat by simp only [LC]; omega); omega) | (have := hV.f (show LC S 3 x.toNat by simp only [LC]; omega); have := hV.f (show LC S 3 i by simp only [LC]; omega); omega)) (by first | omega | (have := hV.f (show LC S 3 x.toNat by simp only [LC]; omega); omega) | (have := hV.f (show LC S 3 x.toNat by simp only [LC]; omega); have := hV.f (show LC S 3 i by simp only [LC]; omega); omega)) (fun c134 => ?_) (fun c134 => ?_)
                · refine ph_iconst (pc := 142) C d_M_cause_142 ?_
                  refine ph_istore_n (pc := 143) C d_M_cause_143 (by decide) rfl ?_
                  refine ph_iinc (pc := 144) C d_M_cause_144 rfl rfl ?_
                  refine ph_goto (pc := 147) (tgt := 43) C d_M_cause_147 (by decide) ?_
                  refine ph_loc (l2 := [(0, .ref (o)), (1, .int (ph_i (x))), (2, .int (ph_i (S 3 x.toNat 0))), (3, .int (ph_i (ph_b (agE S x.toNat (i + 1))))), (4, .int (ph_i (((i + 1 : Nat) : Int))))]) ⟨rfl, rfl, rfl, (congrArg (fun z => some (Value.int (ph_i z))) (ph_b0 (agE_f (by assumption) (fun q => by have q1 := q.1; have q2 := q.2; unfold sameT at q2; omega))).symm), rfl, trivial⟩ ?_
                  exact ih (i + 1) (by omega) (by omega) (by omega) (by omega)
                · refine ph_iconst (pc := 138) C d_M_cause_138 ?_
                  refine ph_goto (pc := 139) (tgt := 143) C d_M_cause_139 (by decide) ?_
                  refine ph_istore_n (pc := 143) C d_M_cause_143 (by decide) rfl ?_
                  refine ph_iinc (pc := 144) C d_M_cause_144 rfl rfl ?_
                  refine ph_goto (pc := 147) (tgt := 43) C d_M_cause_147 (by decide) ?_
                  refine ph_loc (l2 := [(0, .ref (o)), (1, .int (ph_i (x))), (2, .int (ph_i (S 3 x.toNat 0))), (3, .int (ph_i (ph_b (agE S x.toNat (i + 1))))), (4, .int (ph_i (((i + 1 : Nat) : Int))))]) ⟨rfl, rfl, rfl, (congrArg (fun z => some (Value.int (ph_i z))) (ph_b1 (by first | exact agE_t (by assumption) | exact agE_n (by omega) (by omega) (by unfold sameT; omega))).symm), rfl, trivial⟩ ?_
                  exact ih (i + 1) (by omega) (by omega) (by omega) (by omega)
  refine ph_aload_n (pc := 0) C d_M_cause_0 rfl ?_
  refine ph_iload_n (pc := 1) C d_M_cause_1 rfl ?_
  refine ph_callV (pc := 2) (rest := []) C d_M_cause_2 (c_M_noFault l D dT A KX L ad τ S o hA hs hV x hx) (cwV 1 C.hts (gdV tw_551 tw_553 se_36 tw_2 tw_554) rfl rfl rfl ⟨rfl, by decide, by decide, by decide⟩ ⟨by decide, by decide⟩) hA.live hA.ob rfl rfl rfl rfl rfl (Nat.le_of_ble_eq_true rfl) ⟨by decide, by decide⟩ ?_
  rintro r1 L1 ad1 τ1 ⟨g1, g2, g3, g4⟩; obtain rfl := g1.symm; obtain rfl := g2.symm; obtain rfl := g3.symm; subst g4
  refine ph_bif_eq (pc := 5) (tgt := 11) C d_M_cause_5 (by decide) (fun c5 => ?_) (fun c5 => ?_)
  · refine ph_aload_n (pc := 11) C d_M_cause_11 rfl ?_
    refine gt_M_51 (pc := 12) C d_M_cause_12 hA.live hA.ob (hA.rf (k := 17) rfl) ?_
    refine ph_iload_n (pc := 15) C d_M_cause_15 rfl ?_
    refine ph_iald (pc := 16) C d_M_cause_16 (hA.ar (k := 17) rfl) rfl rfl rfl x.toNat (by omega) (by have := (show LC S 3 x.toNat by simp only [LC]; omega); simp only [LC] at this; omega) (by decide) ?_
    refine ph_ti (y := S 3 x.toNat 0) (hs.f38 (show LC S 3 x.toNat by simp only [LC]; omega)) ?_
    refine ph_istore_n (pc := 17) C d_M_cause_17 (by decide) rfl ?_
    refine ph_aload_n (pc := 18) C d_M_cause_18 rfl ?_
    refine gt_M_66 (pc := 19) C d_M_cause_19 hA.live hA.ob (hA.rf (k := 22) rfl) ?_
    refine ph_iload_n (pc := 22) C d_M_cause_22 rfl ?_
    refine ph_zald (pc := 23) C d_M_cause_23 (hA.ar (k := 22) rfl) rfl rfl rfl x.toNat (by omega) (by have := (show LC S 3 x.toNat by simp only [LC]; omega); simp only [LC] at this; omega) (by decide) ?_
    refine ph_ti (y := ph_b (S 3 x.toNat 1 = -1)) (hs.f43 (show LC S 3 x.toNat by simp only [LC]; omega)) ?_
    refine ph_bif_eq (pc := 24) (tgt := 38) C d_M_cause_24 (by decide) (fun c24 => ?_) (fun c24 => ?_)
    · refine ph_iconst (pc := 38) C d_M_cause_38 ?_
      refine ph_istore_n (pc := 39) C d_M_cause_39 (by decide) rfl ?_
      refine ph_iconst (pc := 40) C d_M_cause_40 ?_
      refine ph_istore (pc := 41) C d_M_cause_41 (by decide) rfl ?_
      refine ph_loc (l2 := [(0, .ref (o)), (1, .int (ph_i (x))), (2, .int (ph_i (S 3 x.toNat 0))), (3, .int (ph_i (ph_b (agE S x.toNat 1)))), (4, .int (ph_i (((1 : Nat) : Int))))]) ⟨rfl, rfl, rfl, (congrArg (fun z => some (Value.int (ph_i z))) (ph_b0 agE_1).symm), rfl, trivial⟩ ?_
      exact loop (x.toNat - 1) 1 (by omega) (by omega) (by omega) (by omega)
    · refine ph_iload_n (pc := 27) C d_M_cause_27 rfl ?_
      refine ph_bipush (pc := 28) C d_M_cause_28 (by decide) ?_
      refine ph_icmp_eq (pc := 30) (tgt := 38) C d_M_cause_30 (by decide) (by first | omega | (have := hV.f (show LC S 3 x.toNat by simp only [LC]; omega); omega) | (have := hV.f (show LC S 3 x.toNat by simp only [LC]; omega); have := hV.f (show LC S 3 i by simp only [LC]; omega); omega)) (by first | omega | (have := hV.f (show LC S 3 x.toNat by simp only [LC]; omega); omega) | (have := hV.f (show LC S 3 x.toNat by simp only [LC]; omega); have := hV.f (show LC S 3 i by simp only [LC]; omega); omega)) (fun c30 => ?_) (fun c30 => ?_)
      · refine ph_iconst (pc := 38) C d_M_cause_38 ?_
        refine ph_istore_n (pc := 39) C d_M_cause_39 (by decide) rfl ?_
        refine ph_iconst (pc := 40) C d_M_cause_40 ?_
        refine ph_istore (pc := 41) C d_M_cause_41 (by decide) rfl ?_
        refine ph_loc (l2 := [(0, .ref (o)), (1, .int (ph_i (x))), (2, .int (ph_i (S 3 x.toNat 0))), (3, .int (ph_i (ph_b (agE S x.toNat 1)))), (4, .int (ph_i (((1 : Nat) : Int))))]) ⟨rfl, rfl, rfl, (congrArg (fun z => some (Value.int (ph_i z))) (ph_b0 agE_1).symm), rfl, trivial⟩ ?_
        exact loop (x.toNat - 1) 1 (by omega) (by omega) (by omega) (by omega)
      · refine ph_bipush (pc := 33) C d_M_cause_33 (by decide) ?_
        refine ph_iload_n (pc := 35) C d_M_cause_35 rfl ?_
        refine ph_iadd (pc := 36) C d_M_cause_36 ?_
        exact ph_iret (pc := 37) C d_M_cause_37 hr hlk rfl (by decide) (by decide) ⟨rfl, rfl, rfl, (by rw [causev, if_neg (by assumption), if_pos ⟨by assumption, by assumption⟩])⟩
  · refine ph_bipush (pc := 8) C d_M_cause_8 (by decide) ?_
    exact ph_iret (pc := 10) C d_M_cause_10 hr hlk rfl (by decide) (by decide) ⟨rfl, rfl, rfl, (by rw [causev, if_pos (by assumption)])⟩
set_option maxHeartbeats 4000000 in
set_option maxRecDepth 100000 in
theorem c_M_edgeR (l : Launch) (D : va_G) (dT : Nat → ClassId) (A : Nat → Prop) (KX : State → Prop) (L : Nat → Nat → Prop) (ad : Nat → Nat → Nat) (τ : ph_T) (S : ph_T) (o : Nat) (hA : MA o L ad τ) (hs : MS S τ) (hV : IV S) (hz : S 0 0 1 = 0) (x d t : Int) (hx : ph_ri x) : ph_M l y_M_edge (.code y_M_edge b_M_edge 5 (some .int) :: TB) ({ frames := 1, cells := 0, slots := 0, locals := 21 } : Room) D CLs (TY dT) dT kd A KX [.ref (o), .int (ph_i (x)), .int (ph_i (d)), .long (ph_l (t))] L ad τ (fun r L' ad' τ' => L' = L ∧ ad' = ad ∧ τ' = τ ∧ r = some (.int (ph_i (-11)))) 0 0 := by
  refine ph_M.of (cc := b_M_edge) (maxL := 5) (ret := (some .int)) (by decide) rfl (Nat.le_of_ble_eq_true rfl) ?_
  intro p e s m below meth c C0 hr hlk hnm
  have C := C0.sub
  refine ph_loc (l2 := [(0, .ref (o)), (1, .int (ph_i (x))), (2, .int (ph_i (d))), (3, .long (ph_l (t)))]) ⟨rfl, rfl, rfl, rfl, trivial⟩ ?_
  have hc := hV.c
  have hm := hs.ml.r
  refine ph_aload_n (pc := 0) C d_M_edge_0 rfl ?_
  refine ph_iload_n (pc := 1) C d_M_edge_1 rfl ?_
  refine ph_callV (pc := 2) (rest := []) C d_M_edge_2 (c_M_noSensor l D dT A KX L ad τ S o hA hs hV x hx) (cwV 1 C.hts (gdV tw_507 tw_509 se_27 tw_2 tw_510) rfl rfl rfl ⟨rfl, by decide, by decide, by decide⟩ ⟨by decide, by decide⟩) hA.live hA.ob rfl rfl rfl rfl rfl (Nat.le_of_ble_eq_true rfl) ⟨by decide, by decide⟩ ?_
  rintro r1 L1 ad1 τ1 ⟨g1, g2, g3, g4⟩; obtain rfl := g1.symm; obtain rfl := g2.symm; obtain rfl := g3.symm; subst g4
  refine ph_bif_eq (pc := 5) (tgt := 11) C d_M_edge_5 (by decide) (fun c5 => ?_) (fun c5 => ?_)
  · exfalso; omega
  · refine ph_bipush (pc := 8) C d_M_edge_8 (by decide) ?_
    exact ph_iret (pc := 10) C d_M_edge_10 hr hlk rfl (by decide) (by decide) ⟨rfl, rfl, rfl, rfl⟩
set_option maxHeartbeats 4000000 in
set_option maxRecDepth 100000 in
theorem c_M_stepR (l : Launch) (D : va_G) (dT : Nat → ClassId) (A : Nat → Prop) (KX : State → Prop) (L : Nat → Nat → Prop) (ad : Nat → Nat → Nat) (τ : ph_T) (S : ph_T) (o : Nat) (hA : MA o L ad τ) (hs : MS S τ) (hV : IV S) (hz : S 0 0 5 = 0) (x y : Int) (hx : ph_ri x) : ph_M l y_M_step (.code y_M_step b_M_step 6 (some .int) :: TB) ({ frames := 1, cells := 0, slots := 0, locals := 21 } : Room) D CLs (TY dT) dT kd A KX [.ref (o), .int (ph_i (x)), .int (ph_i (y))] L ad τ (fun r L' ad' τ' => L' = L ∧ ad' = ad ∧ τ' = τ ∧ r = some (.int (ph_i (-11)))) 0 0 := by
  refine ph_M.of (cc := b_M_step) (maxL := 6) (ret := (some .int)) (by decide) rfl (Nat.le_of_ble_eq_true rfl) ?_
  intro p e s m below meth c C0 hr hlk hnm
  have C := C0.sub
  refine ph_loc (l2 := [(0, .ref (o)), (1, .int (ph_i (x))), (2, .int (ph_i (y)))]) ⟨rfl, rfl, rfl, trivial⟩ ?_
  have hc := hV.c
  have hm := hs.ml.r
  refine ph_aload_n (pc := 0) C d_M_step_0 rfl ?_
  refine ph_iload_n (pc := 1) C d_M_step_1 rfl ?_
  refine ph_callV (pc := 2) (rest := []) C d_M_step_2 (c_M_noFault l D dT A KX L ad τ S o hA hs hV x hx) (cwV 1 C.hts (gdV tw_551 tw_553 se_36 tw_2 tw_554) rfl rfl rfl ⟨rfl, by decide, by decide, by decide⟩ ⟨by decide, by decide⟩) hA.live hA.ob rfl rfl rfl rfl rfl (Nat.le_of_ble_eq_true rfl) ⟨by decide, by decide⟩ ?_
  rintro r1 L1 ad1 τ1 ⟨g1, g2, g3, g4⟩; obtain rfl := g1.symm; obtain rfl := g2.symm; obtain rfl := g3.symm; subst g4
  refine ph_bif_eq (pc := 5) (tgt := 11) C d_M_step_5 (by decide) (fun c5 => ?_) (fun c5 => ?_)
  · exfalso; omega
  · refine ph_bipush (pc := 8) C d_M_step_8 (by decide) ?_
    exact ph_iret (pc := 10) C d_M_step_10 hr hlk rfl (by decide) (by decide) ⟨rfl, rfl, rfl, rfl⟩
set_option maxHeartbeats 4000000 in
set_option maxRecDepth 100000 in
theorem c_M_feedR (l : Launch) (D : va_G) (dT : Nat → ClassId) (A : Nat → Prop) (KX : State → Prop) (L : Nat → Nat → Prop) (ad : Nat → Nat → Nat) (τ : ph_T) (S : ph_T) (o : Nat) (hA : MA o L ad τ) (hs : MS S τ) (hV : IV S) (hz : S 0 0 3 = 0) (x : Int) (hx : ph_ri x) : ph_M l y_M_feed (.code y_M_feed b_M_feed 4 (some .int) :: TB) ({ frames := 0, cells := 0, slots := 0, locals := 0 } : Room) D CLs (TY dT) dT kd A KX [.ref (o), .int (ph_i (x))] L ad τ (fun r L' ad' τ' => L' = L ∧ ad' = ad ∧ τ' = τ ∧ r = some (.int (ph_i (-11)))) 0 0 := by
  refine ph_M.of (cc := b_M_feed) (maxL := 4) (ret := (some .int)) (by decide) rfl (Nat.le_of_ble_eq_true rfl) ?_
  intro p e s m below meth c C0 hr hlk hnm
  have C := C0.sub
  refine ph_loc (l2 := [(0, .ref (o)), (1, .int (ph_i (x)))]) ⟨rfl, rfl, trivial⟩ ?_
  have hc := hV.c
  have hm := hs.ml.r
  refine ph_iload_n (pc := 0) C d_M_feed_0 rfl ?_
  refine ph_iconst (pc := 1) C d_M_feed_1 ?_
  refine ph_icmp_lt (pc := 2) (tgt := 13) C d_M_feed_2 (by decide) (by omega) (by omega) (fun c2 => ?_) (fun c2 => ?_)
  · refine ph_bipush (pc := 13) C d_M_feed_13 (by decide) ?_
    exact ph_iret (pc := 15) C d_M_feed_15 hr hlk rfl (by decide) (by decide) ⟨rfl, rfl, rfl, rfl⟩
  · refine ph_iload_n (pc := 5) C d_M_feed_5 rfl ?_
    refine ph_aload_n (pc := 6) C d_M_feed_6 rfl ?_
    refine gt_M_104 (pc := 7) C d_M_feed_7 hA.live hA.ob (z := S 0 0 3) hs.c7 ?_
    refine ph_icmp_le (pc := 10) (tgt := 16) C d_M_feed_10 (by decide) (by omega) (by omega) (fun c10 => ?_) (fun c10 => ?_)
    · exfalso; omega
    · refine ph_bipush (pc := 13) C d_M_feed_13 (by decide) ?_
      exact ph_iret (pc := 15) C d_M_feed_15 hr hlk rfl (by decide) (by decide) ⟨rfl, rfl, rfl, rfl⟩
