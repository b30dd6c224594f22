/-! ===== step, feed of the other side ===== -/
set_option maxHeartbeats 4000000 in
set_option maxRecDepth 100000 in
theorem c_M_step (l : Launch) (D : va_G) (dT : Nat → ClassId) (A : Nat → Prop) (KX : State → Prop) (L : Nat → Nat → Prop) (ad : Nat → Nat → Nat) (τ : ph_T) (S : ph_T) (o : Nat) (hA : MA o L ad τ) (hs : MS S τ) (hV : IV S) (hG : GI S) (x y : Int) (hx : ph_ri x) (hy : ph_ri y) : ph_M l y_M_step (.code y_M_step b_M_step 6 (some .int) :: TB) ({ frames := 2, cells := 0, slots := 0, locals := 43 } : Room) D CLs (TY dT) dT kd A KX [.ref (o), .int (ph_i (x)), .int (ph_i (y))] L ad τ (fun r L' ad' τ' => L' = L ∧ ad' = ad ∧ (MA o L ad τ' ∧ MS (stepS S x y) τ') ∧ r = some (.int (ph_i (stepv S x y)))) 0 0 := by
  refine ph_M.of (cc := b_M_step) (maxL := 6) (ret := (some .int)) (by decide) rfl (Nat.le_of_ble_eq_true rfl) ?_
  intro p e s m below meth c C0 hr hlk hnm
  have C := C0.sub
  refine ph_loc (l2 := [(0, .ref (o)), (1, .int (ph_i (x))), (2, .int (ph_i (y)))]) ⟨rfl, rfl, rfl, trivial⟩ ?_
  have hc := hV.c
  have hm := hs.ml.r
  have t154 : ∀ (τ : ph_T), MA o L ad τ → MS (stA S x.toNat y) τ → stOk S x y → ph_W p l e ({ frames := 2, cells := 0, slots := 0, locals := 43 } : Room) s m [.ref (o), .int (ph_i (x)), .int (ph_i (y))].toArray below meth c D CLs dT kd A 6 (MQ below (ph_Q D CLs dT kd A (fun r L' ad' τ' => L' = L ∧ ad' = ad ∧ (MA o L ad τ' ∧ MS (stepS S x y) τ') ∧ r = some (.int (ph_i (stepv S x y))))) [.ref (o), .int (ph_i (x)), .int (ph_i (y))].toArray s 0 0 A) L ad τ 0 0 154 (ph_mk [(0, .ref (o)), (1, .int (ph_i (x))), (2, .int (ph_i (y))), (4, .int (ph_i ((3) * (S 3 x.toNat 0))))]) [] := by
    intro τ hA hs hok
    obtain ⟨hx5, hy5, hx6, hnx⟩ := id hok
    have hdn := (nextv_l (S := S) (f := x.toNat) (by have := nextv_r S x.toNat; have := hG.2.2 x.toNat (by omega) (by omega); omega))
    have h9 := hV.f (show LC S 3 x.toNat by simp only [LC]; omega)
    have hV1 : IV (ph_up S 3 x.toNat 6 ((S 3 x.toNat 6) + (1))) := hV.upF (by omega) (by omega) (by omega) (by omega) (by omega) (by omega) (by omega)
    have hVA : IV (stA S x.toNat y) := by unfold stA; split; exact hV1.resetS; exact hV1
    have hfA : LC (stA S x.toNat y) 3 x.toNat := by simp only [LC, stA_0]; omega
    have hk0 : (stA S x.toNat y) 3 x.toNat 0 = S 3 x.toNat 0 := by unfold stA; split; (rw [resetS_g (by decide), ph_up_no _ _ (by omega)]); (rw [ph_up_no _ _ (by omega)])
    have h9A := hVA.f hfA
    refine ph_aload_n (pc := 154) C d_M_step_154 rfl ?_
    refine gt_M_69 (pc := 155) C d_M_step_155 hA.live hA.ob (hA.rf (k := 23) rfl) ?_
    refine ph_iload_n (pc := 158) C d_M_step_158 rfl ?_
    refine ph_iald (pc := 159) C d_M_step_159 (hA.ar (k := 23) rfl) rfl rfl rfl x.toNat (by omega) (by have := hfA; simp only [LC] at this; omega) (by decide) ?_
    refine ph_ti (y := (stA S x.toNat y) 3 x.toNat 6) (hs.f44 hfA) ?_
    refine ph_iconst (pc := 160) C d_M_step_160 ?_
    refine ph_icmp_eq (pc := 161) (tgt := 181) C d_M_step_161 (by decide) (by omega) (by omega) (fun c161 => ?_) (fun c161 => ?_)
    · refine ph_aload_n (pc := 181) C d_M_step_181 rfl ?_
      refine ph_iload_n (pc := 182) C d_M_step_182 rfl ?_
      refine ph_ti (y := (x.toNat : Int)) (by omega) ?_
      refine ph_callV (pc := 183) (rest := []) C d_M_step_183 (c_M_clear l D dT A KX L ad τ (stA S x.toNat y) o hA hs hVA x.toNat hfA (by rw [stA_0]; omega)) (cwV 1 C.hts (gdV tw_565 tw_567 se_37 tw_2 tw_568) rfl rfl rfl ⟨rfl, by decide, by decide, by decide⟩ ⟨by decide, by decide⟩) hA.live hA.ob rfl rfl rfl rfl rfl (Nat.le_of_ble_eq_true rfl) ⟨by decide, by decide⟩ ?_
      rintro r1 L1 ad1 τ ⟨g1, g2, ⟨hA, hs⟩, g4⟩; obtain rfl := g1.symm; obtain rfl := g2.symm; subst g4
      refine ph_iconst (pc := 186) C d_M_step_186 ?_
      exact ph_iret (pc := 187) C d_M_step_187 hr hlk rfl (by decide) (by decide) ⟨rfl, rfl, ⟨hA, by rw [stepS_t hok, stB, if_pos (by first | assumption | (unfold nextv; rw [if_pos (by omega)]))]; exact hs⟩, (by rw [stepv, if_neg (not_not_intro (by omega)), if_neg (by omega), if_neg (by omega), if_pos hok.2.2.2])⟩
    · refine ph_aload_n (pc := 164) C d_M_step_164 rfl ?_
      refine gt_M_87 (pc := 165) C d_M_step_165 hA.live hA.ob (hA.rf (k := 29) rfl) ?_
      refine ph_iload (pc := 168) C d_M_step_168 rfl ?_
      refine ph_aload_n (pc := 170) C d_M_step_170 rfl ?_
      refine gt_M_69 (pc := 171) C d_M_step_171 hA.live hA.ob (hA.rf (k := 23) rfl) ?_
      refine ph_iload_n (pc := 174) C d_M_step_174 rfl ?_
      refine ph_iald (pc := 175) C d_M_step_175 (hA.ar (k := 23) rfl) rfl rfl rfl x.toNat (by omega) (by have := hfA; simp only [LC] at this; omega) (by decide) ?_
      refine ph_ti (y := (stA S x.toNat y) 3 x.toNat 6) (hs.f44 hfA) ?_
      refine ph_iadd (pc := 176) C d_M_step_176 ?_
      obtain ⟨j, hj⟩ : ∃ j : Nat, (j : Int) = 3 * (stA S x.toNat y) 3 x.toNat 0 + (stA S x.toNat y) 3 x.toNat 6 := ⟨(3 * (stA S x.toNat y) 3 x.toNat 0 + (stA S x.toNat y) 3 x.toNat 6).toNat, by omega⟩
      refine ph_iald (pc := 177) C d_M_step_177 (hA.ar (k := 29) rfl) rfl rfl rfl j (by rw [hj, hk0]) (by omega) (by decide) ?_
      refine ph_ti (y := nextv (stA S x.toNat y) x.toNat) (st_v hs hVA hfA (by omega) hj) ?_
      have hnr := nextv_r (stA S x.toNat y) x.toNat
      refine ph_if_ne (pc := 178) (tgt := 186) C d_M_step_178 (by decide) (by omega) (fun c178 => ?_) (fun c178 => ?_)
      · refine ph_iconst (pc := 186) C d_M_step_186 ?_
        exact ph_iret (pc := 187) C d_M_step_187 hr hlk rfl (by decide) (by decide) ⟨rfl, rfl, ⟨hA, by rw [stepS_t hok, stB, if_neg (by assumption)]; exact hs⟩, (by rw [stepv, if_neg (not_not_intro (by omega)), if_neg (by omega), if_neg (by omega), if_pos hok.2.2.2])⟩
      · refine ph_aload_n (pc := 181) C d_M_step_181 rfl ?_
        refine ph_iload_n (pc := 182) C d_M_step_182 rfl ?_
        refine ph_ti (y := (x.toNat : Int)) (by omega) ?_
        refine ph_callV (pc := 183) (rest := []) C d_M_step_183 (c_M_clear l D dT A KX L ad τ (stA S x.toNat y) o hA hs hVA x.toNat hfA (by rw [stA_0]; omega)) (cwV 1 C.hts (gdV tw_565 tw_567 se_37 tw_2 tw_568) rfl rfl rfl ⟨rfl, by decide, by decide, by decide⟩ ⟨by decide, by decide⟩) hA.live hA.ob rfl rfl rfl rfl rfl (Nat.le_of_ble_eq_true rfl) ⟨by decide, by decide⟩ ?_
        rintro r1 L1 ad1 τ ⟨g1, g2, ⟨hA, hs⟩, g4⟩; obtain rfl := g1.symm; obtain rfl := g2.symm; subst g4
        refine ph_iconst (pc := 186) C d_M_step_186 ?_
        exact ph_iret (pc := 187) C d_M_step_187 hr hlk rfl (by decide) (by decide) ⟨rfl, rfl, ⟨hA, by rw [stepS_t hok, stB, if_pos (by first | assumption | (unfold nextv; rw [if_pos (by omega)]))]; exact hs⟩, (by rw [stepv, if_neg (not_not_intro (by omega)), if_neg (by omega), if_neg (by omega), if_pos hok.2.2.2])⟩
  have loopc : ∀ (n : Nat) (s0 : Nat) (S2 τ : ph_T), MA o L ad τ → MS S2 τ → IV S2 → stOk S x y → S2 0 0 1 = (s0 : Int) + n → rcF n s0 S2 = (stA S x.toNat y) → ph_W p l e ({ frames := 2, cells := 0, slots := 0, locals := 43 } : Room) s m [.ref (o), .int (ph_i (x)), .int (ph_i (y))].toArray below meth c D CLs dT kd A 6 (MQ below (ph_Q D CLs dT kd A (fun r L' ad' τ' => L' = L ∧ ad' = ad ∧ (MA o L ad τ' ∧ MS (stepS S x y) τ') ∧ r = some (.int (ph_i (stepv S x y))))) [.ref (o), .int (ph_i (x)), .int (ph_i (y))].toArray s 0 0 A) L ad τ 0 0 131 (ph_mk [(0, .ref (o)), (1, .int (ph_i (x))), (2, .int (ph_i (y))), (4, .int (ph_i ((3) * (S 3 x.toNat 0)))), (5, .int (ph_i ((s0 : Int))))]) [] := by
    intro n
    induction n with
    | zero =>
      intro s0 S2 τ hA hs hV2 hok h1 h5
      have hc2 := hV2.c
      refine ph_iload (pc := 131) C d_M_step_131 rfl ?_
      refine ph_aload_n (pc := 133) C d_M_step_133 rfl ?_
      refine gt_M_93 (pc := 134) C d_M_step_134 hA.live hA.ob (z := S2 0 0 1) hs.c0 ?_
      refine ph_icmp_ge (pc := 137) (tgt := 154) C d_M_step_137 (by decide) (by omega) (by omega) (fun c137 => ?_) (fun c137 => ?_)
      · refine ph_loc (l2 := [(0, .ref (o)), (1, .int (ph_i (x))), (2, .int (ph_i (y))), (4, .int (ph_i ((3) * (S 3 x.toNat 0))))]) ⟨rfl, rfl, rfl, rfl, trivial⟩ ?_
        exact t154 τ hA (by rw [← h5]; exact hs) hok
      · exfalso; omega
    | succ n ih =>
      intro s0 S2 τ hA hs hV2 hok h1 h5
      have hc2 := hV2.c
      refine ph_iload (pc := 131) C d_M_step_131 rfl ?_
      refine ph_aload_n (pc := 133) C d_M_step_133 rfl ?_
      refine gt_M_93 (pc := 134) C d_M_step_134 hA.live hA.ob (z := S2 0 0 1) hs.c0 ?_
      refine ph_icmp_ge (pc := 137) (tgt := 154) C d_M_step_137 (by decide) (by omega) (by omega) (fun c137 => ?_) (fun c137 => ?_)
      · exfalso; omega
      · refine ph_aload_n (pc := 140) C d_M_step_140 rfl ?_
        refine gt_M_17 (pc := 141) C d_M_step_141 hA.live hA.ob (hA.rf (k := 3) rfl) ?_
        refine ph_iload (pc := 144) C d_M_step_144 rfl ?_
        refine ph_iconst (pc := 146) C d_M_step_146 ?_
        refine ph_iast (pc := 147) (z := 0) C d_M_step_147 (hA.ar (k := 3) rfl) rfl rfl rfl s0 rfl (by have := (show LC S2 1 s0 by simp only [LC]; omega); simp only [LC] at this; omega) (by decide) ?_
        have hs : MS (ph_up S2 1 s0 1 (0)) (ph_up τ 24 0 s0 (0)) := hs.sput (g := 24) (by decide) (show LC S2 1 s0 by simp only [LC]; omega) 0
        have hA : MA o L ad (ph_up τ 24 0 s0 (0)) := hA.puta (k := 3) _
        generalize ph_up τ 24 0 s0 (0) = τ at hA hs ⊢
        refine ph_iinc (pc := 148) C d_M_step_148 rfl rfl ?_
        refine ph_goto (pc := 151) (tgt := 131) C d_M_step_151 (by decide) ?_
        refine ph_loc (l2 := [(0, .ref (o)), (1, .int (ph_i (x))), (2, .int (ph_i (y))), (4, .int (ph_i ((3) * (S 3 x.toNat 0)))), (5, .int (ph_i (((s0 + 1 : Nat) : Int))))]) ⟨rfl, rfl, rfl, rfl, rfl, trivial⟩ ?_
        exact ih (s0 + 1) (ph_up S2 1 s0 1 (0)) τ hA hs (hV2.upS (by omega) (by omega) (by omega) (by omega) (by omega)) hok (by rw [up_ne _ (by decide)]; omega) (by rw [← h5, rcF_s])
  have loopm : ∀ (n : Nat) (i : Nat), (1 ≤ x ∧ x ≤ S 0 0 5) → (1 ≤ y ∧ y ≤ 5) → 1 ≤ i → x = (i : Int) + n → ph_W p l e ({ frames := 2, cells := 0, slots := 0, locals := 43 } : Room) s m [.ref (o), .int (ph_i (x)), .int (ph_i (y))].toArray below meth c D CLs dT kd A 6 (MQ below (ph_Q D CLs dT kd A (fun r L' ad' τ' => L' = L ∧ ad' = ad ∧ (MA o L ad τ' ∧ MS (stepS S x y) τ') ∧ r = some (.int (ph_i (stepv S x y))))) [.ref (o), .int (ph_i (x)), .int (ph_i (y))].toArray s 0 0 A) L ad τ 0 0 44 (ph_mk [(0, .ref (o)), (1, .int (ph_i (x))), (2, .int (ph_i (y))), (3, .int (ph_i (ph_b (S 0 0 6 < x ∧ ((i : Nat) : Int) ≤ S 0 0 6 + 1)))), (4, .int (ph_i ((i : Int))))]) [] := by
    intro n
    induction n with
    | zero =>
      intro i hx5 hy5 h0 h1
      refine ph_iload (pc := 44) C d_M_step_44 rfl ?_
      refine ph_iload_n (pc := 46) C d_M_step_46 rfl ?_
      refine ph_icmp_ge (pc := 47) (tgt := 76) C d_M_step_47 (by decide) (by first | omega | (have := nextv_r S x.toNat; omega) | (have := hV.f (show LC S 3 x.toNat by simp only [LC]; omega); omega)) (by first | omega | (have := nextv_r S x.toNat; omega) | (have := hV.f (show LC S 3 x.toNat by simp only [LC]; omega); omega)) (fun c47 => ?_) (fun c47 => ?_)
      · refine ph_iload_n (pc := 76) C d_M_step_76 rfl ?_
        refine ph_bif_ne (pc := 77) (tgt := 83) C d_M_step_77 (by decide) (fun c77 => ?_) (fun c77 => ?_)
        · refine ph_iconst (pc := 83) C d_M_step_83 ?_
          refine ph_aload_n (pc := 84) C d_M_step_84 rfl ?_
          refine gt_M_51 (pc := 85) C d_M_step_85 hA.live hA.ob (hA.rf (k := 17) rfl) ?_
          refine ph_iload_n (pc := 88) C d_M_step_88 rfl ?_
          refine ph_iald (pc := 89) C d_M_step_89 (hA.ar (k := 17) rfl) rfl rfl rfl x.toNat (by omega) (by have := (show LC S 3 x.toNat by simp only [LC]; omega); simp only [LC] at this; omega) (by decide) ?_
          refine ph_ti (y := S 3 x.toNat 0) (hs.f38 (show LC S 3 x.toNat by simp only [LC]; omega)) ?_
          refine ph_imul (pc := 90) C d_M_step_90 ?_
          refine ph_istore (pc := 91) C d_M_step_91 (by decide) rfl ?_
          refine ph_aload_n (pc := 93) C d_M_step_93 rfl ?_
          refine gt_M_87 (pc := 94) C d_M_step_94 hA.live hA.ob (hA.rf (k := 29) rfl) ?_
          refine ph_iload (pc := 97) C d_M_step_97 rfl ?_
          refine ph_aload_n (pc := 99) C d_M_step_99 rfl ?_
          refine gt_M_69 (pc := 100) C d_M_step_100 hA.live hA.ob (hA.rf (k := 23) rfl) ?_
          refine ph_iload_n (pc := 103) C d_M_step_103 rfl ?_
          refine ph_iald (pc := 104) C d_M_step_104 (hA.ar (k := 23) rfl) rfl rfl rfl x.toNat (by omega) (by have := (show LC S 3 x.toNat by simp only [LC]; omega); simp only [LC] at this; omega) (by decide) ?_
          refine ph_ti (y := S 3 x.toNat 6) (hs.f44 (show LC S 3 x.toNat by simp only [LC]; omega)) ?_
          refine ph_iadd (pc := 105) C d_M_step_105 ?_
          have hdn := (nextv_l (S := S) (f := x.toNat) (by have := nextv_r S x.toNat; have := hG.2.2 x.toNat (by omega) (by omega); omega))
          have h9 := hV.f (show LC S 3 x.toNat by simp only [LC]; omega)
          obtain ⟨j, hj⟩ : ∃ j : Nat, (j : Int) = 3 * S 3 x.toNat 0 + S 3 x.toNat 6 := ⟨(3 * S 3 x.toNat 0 + S 3 x.toNat 6).toNat, by omega⟩
          refine ph_iald (pc := 106) C d_M_step_106 (hA.ar (k := 29) rfl) rfl rfl rfl j hj.symm (by omega) (by decide) ?_
          refine ph_ti (y := nextv S x.toNat) (st_v hs hV (show LC S 3 x.toNat by simp only [LC]; omega) hdn hj) ?_
          refine ph_iload_n (pc := 107) C d_M_step_107 rfl ?_
          refine ph_icmp_eq (pc := 108) (tgt := 113) C d_M_step_108 (by decide) (by first | omega | (have := nextv_r S x.toNat; omega) | (have := hV.f (show LC S 3 x.toNat by simp only [LC]; omega); omega)) (by first | omega | (have := nextv_r S x.toNat; omega) | (have := hV.f (show LC S 3 x.toNat by simp only [LC]; omega); omega)) (fun c108 => ?_) (fun c108 => ?_)
          · refine ph_aload_n (pc := 113) C d_M_step_113 rfl ?_
            refine gt_M_69 (pc := 114) C d_M_step_114 hA.live hA.ob (hA.rf (k := 23) rfl) ?_
            refine ph_iload_n (pc := 117) C d_M_step_117 rfl ?_
            refine ph_dup2_11 (pc := 118) C d_M_step_118 rfl rfl ?_
            refine ph_iald (pc := 119) C d_M_step_119 (hA.ar (k := 23) rfl) rfl rfl rfl x.toNat (by omega) (by have := (show LC S 3 x.toNat by simp only [LC]; omega); simp only [LC] at this; omega) (by decide) ?_
            refine ph_ti (y := S 3 x.toNat 6) (hs.f44 (show LC S 3 x.toNat by simp only [LC]; omega)) ?_
            refine ph_iconst (pc := 120) C d_M_step_120 ?_
            refine ph_iadd (pc := 121) C d_M_step_121 ?_
            refine ph_iast (pc := 122) (z := (S 3 x.toNat 6) + (1)) C d_M_step_122 (hA.ar (k := 23) rfl) rfl rfl rfl x.toNat (by omega) (by have := (show LC S 3 x.toNat by simp only [LC]; omega); simp only [LC] at this; omega) (by decide) ?_
            have hs : MS (ph_up S 3 x.toNat 6 ((S 3 x.toNat 6) + (1))) (ph_up τ 44 0 x.toNat ((S 3 x.toNat 6) + (1))) := ms_done hs (show LC S 3 x.toNat by simp only [LC]; omega) _
            have hA : MA o L ad (ph_up τ 44 0 x.toNat ((S 3 x.toNat 6) + (1))) := hA.puta (k := 23) _
            generalize ph_up τ 44 0 x.toNat ((S 3 x.toNat 6) + (1)) = τ at hA hs ⊢
            refine ph_iload_n (pc := 123) C d_M_step_123 rfl ?_
            refine ph_iconst (pc := 124) C d_M_step_124 ?_
            refine ph_icmp_ne (pc := 125) (tgt := 154) C d_M_step_125 (by decide) (by first | omega | (have := nextv_r S x.toNat; omega) | (have := hV.f (show LC S 3 x.toNat by simp only [LC]; omega); omega)) (by first | omega | (have := nextv_r S x.toNat; omega) | (have := hV.f (show LC S 3 x.toNat by simp only [LC]; omega); omega)) (fun c125 => ?_) (fun c125 => ?_)
            · refine ph_loc (l2 := [(0, .ref (o)), (1, .int (ph_i (x))), (2, .int (ph_i (y))), (4, .int (ph_i ((3) * (S 3 x.toNat 0))))]) ⟨rfl, rfl, rfl, rfl, trivial⟩ ?_
              exact t154 τ hA (by unfold stA; rw [if_neg (by assumption)]; exact hs) ⟨by omega, by omega, by omega, by assumption⟩
            · refine ph_iconst (pc := 128) C d_M_step_128 ?_
              refine ph_istore (pc := 129) C d_M_step_129 (by decide) rfl ?_
              refine ph_loc (l2 := [(0, .ref (o)), (1, .int (ph_i (x))), (2, .int (ph_i (y))), (4, .int (ph_i ((3) * (S 3 x.toNat 0)))), (5, .int (ph_i (((0 : Nat) : Int))))]) ⟨rfl, rfl, rfl, rfl, rfl, trivial⟩ ?_
              exact loopc (S 0 0 1).toNat 0 (ph_up S 3 x.toNat 6 ((S 3 x.toNat 6) + (1))) τ hA hs (hV.upF (by omega) (by omega) (by omega) (by omega) (by omega) (by omega) (by omega)) ⟨by omega, by omega, by omega, by assumption⟩ (by rw [up_ne _ (by decide)]; omega) (by unfold stA; rw [if_pos (by assumption)]; unfold resetS; rw [up_ne _ (by decide)])
          · refine ph_iconst (pc := 111) C d_M_step_111 ?_
            exact ph_iret (pc := 112) C d_M_step_112 hr hlk rfl (by decide) (by decide) ⟨rfl, rfl, ⟨hA, by rw [stepS_f (fun q => by first | exact absurd q.2.2.2 (by assumption) | (have q1 := q.1; have q2 := q.2.1; have q3 := q.2.2.1; omega))]; exact hs⟩, (by rw [stepv, if_neg (not_not_intro (by omega)), if_neg (by omega), if_neg (by omega), if_neg (by assumption)])⟩
        · refine ph_bipush (pc := 80) C d_M_step_80 (by decide) ?_
          exact ph_iret (pc := 82) C d_M_step_82 hr hlk rfl (by decide) (by decide) ⟨rfl, rfl, ⟨hA, by rw [stepS_f (fun q => by first | exact absurd q.2.2.2 (by assumption) | (have q1 := q.1; have q2 := q.2.1; have q3 := q.2.2.1; omega))]; exact hs⟩, (by rw [stepv, if_neg (not_not_intro (by omega)), if_neg (by omega), if_pos (by omega)])⟩
      · exfalso; omega
    | succ n ih =>
      intro i hx5 hy5 h0 h1
      refine ph_iload (pc := 44) C d_M_step_44 rfl ?_
      refine ph_iload_n (pc := 46) C d_M_step_46 rfl ?_
      refine ph_icmp_ge (pc := 47) (tgt := 76) C d_M_step_47 (by decide) (by first | omega | (have := nextv_r S x.toNat; omega) | (have := hV.f (show LC S 3 x.toNat by simp only [LC]; omega); omega)) (by first | omega | (have := nextv_r S x.toNat; omega) | (have := hV.f (show LC S 3 x.toNat by simp only [LC]; omega); omega)) (fun c47 => ?_) (fun c47 => ?_)
      · exfalso; omega
      · refine ph_iload_n (pc := 50) C d_M_step_50 rfl ?_
        refine ph_bif_eq (pc := 51) (tgt := 68) C d_M_step_51 (by decide) (fun c51 => ?_) (fun c51 => ?_)
        · refine ph_iconst (pc := 68) C d_M_step_68 ?_
          refine ph_istore_n (pc := 69) C d_M_step_69 (by decide) rfl ?_
          refine ph_iinc (pc := 70) C d_M_step_70 rfl rfl ?_
          refine ph_goto (pc := 73) (tgt := 44) C d_M_step_73 (by decide) ?_
          refine ph_loc (l2 := [(0, .ref (o)), (1, .int (ph_i (x))), (2, .int (ph_i (y))), (3, .int (ph_i (ph_b (S 0 0 6 < x ∧ (((i + 1) : Nat) : Int) ≤ S 0 0 6 + 1)))), (4, .int (ph_i (((i + 1 : Nat) : Int))))]) ⟨rfl, rfl, rfl, (congrArg (fun z => some (Value.int (ph_i z))) (ph_b0 (fun q => by omega)).symm), rfl, trivial⟩ ?_
          exact ih (i + 1) hx5 hy5 (by omega) (by omega)
        · refine ph_aload_n (pc := 54) C d_M_step_54 rfl ?_
          refine gt_M_72 (pc := 55) C d_M_step_55 hA.live hA.ob (hA.rf (k := 24) rfl) ?_
          refine ph_iload (pc := 58) C d_M_step_58 rfl ?_
          refine ph_zald (pc := 60) C d_M_step_60 (hA.ar (k := 24) rfl) rfl rfl rfl i rfl (by have := (show LC S 3 i by simp only [LC]; omega); simp only [LC] at this; omega) (by decide) ?_
          refine ph_ti (y := ph_b (((i : Nat) : Int) ≤ S 0 0 6)) (hs.f45 (show LC S 3 i by simp only [LC]; omega)) ?_
          refine ph_bif_eq (pc := 61) (tgt := 68) C d_M_step_61 (by decide) (fun c61 => ?_) (fun c61 => ?_)
          · refine ph_iconst (pc := 68) C d_M_step_68 ?_
            refine ph_istore_n (pc := 69) C d_M_step_69 (by decide) rfl ?_
            refine ph_iinc (pc := 70) C d_M_step_70 rfl rfl ?_
            refine ph_goto (pc := 73) (tgt := 44) C d_M_step_73 (by decide) ?_
            refine ph_loc (l2 := [(0, .ref (o)), (1, .int (ph_i (x))), (2, .int (ph_i (y))), (3, .int (ph_i (ph_b (S 0 0 6 < x ∧ (((i + 1) : Nat) : Int) ≤ S 0 0 6 + 1)))), (4, .int (ph_i (((i + 1 : Nat) : Int))))]) ⟨rfl, rfl, rfl, (congrArg (fun z => some (Value.int (ph_i z))) (ph_b0 (fun q => by omega)).symm), rfl, trivial⟩ ?_
            exact ih (i + 1) hx5 hy5 (by omega) (by omega)
          · refine ph_iconst (pc := 64) C d_M_step_64 ?_
            refine ph_goto (pc := 65) (tgt := 69) C d_M_step_65 (by decide) ?_
            refine ph_istore_n (pc := 69) C d_M_step_69 (by decide) rfl ?_
            refine ph_iinc (pc := 70) C d_M_step_70 rfl rfl ?_
            refine ph_goto (pc := 73) (tgt := 44) C d_M_step_73 (by decide) ?_
            refine ph_loc (l2 := [(0, .ref (o)), (1, .int (ph_i (x))), (2, .int (ph_i (y))), (3, .int (ph_i (ph_b (S 0 0 6 < x ∧ (((i + 1) : Nat) : Int) ≤ S 0 0 6 + 1)))), (4, .int (ph_i (((i + 1 : Nat) : Int))))]) ⟨rfl, rfl, rfl, (congrArg (fun z => some (Value.int (ph_i z))) (ph_b1 (by omega)).symm), rfl, trivial⟩ ?_
            exact ih (i + 1) hx5 hy5 (by omega) (by omega)
  refine ph_aload_n (pc := 0) C d_M_step_0 rfl ?_
  refine ph_iload_n (pc := 1) C d_M_step_1 rfl ?_
  refine ph_callV (pc := 2) (rest := []) C d_M_step_2 (c_M_noFault l D dT A KX L ad τ S o hA hs hV x hx) (cwV 1 C.hts (gdV tw_551 tw_553 se_36 tw_2 tw_554) rfl rfl rfl ⟨rfl, by decide, by decide, by decide⟩ ⟨by decide, by decide⟩) hA.live hA.ob rfl rfl rfl rfl rfl (Nat.le_of_ble_eq_true rfl) ⟨by decide, by decide⟩ ?_
  rintro r1 L1 ad1 τ1 ⟨g1, g2, g3, g4⟩; obtain rfl := g1.symm; obtain rfl := g2.symm; obtain rfl := g3.symm; subst g4
  refine ph_bif_eq (pc := 5) (tgt := 11) C d_M_step_5 (by decide) (fun c5 => ?_) (fun c5 => ?_)
  · refine ph_iload_n (pc := 11) C d_M_step_11 rfl ?_
    refine ph_i2l (pc := 12) C d_M_step_12 (by omega) ?_
    refine ph_lconst (pc := 13) C d_M_step_13 1 (by decide) ?_
    refine ph_ldc2 (pc := 14) C d_M_step_14 (5) (by decide) tw_564 ?_
    refine ph_callS (pc := 17) (rest := []) C d_M_step_17 (c_M_isIn l D dT A KX L ad τ (y) (1) (5) (by omega) (by omega) (by omega)) (cwS 3 C.hts (gdS tw_494 tw_495 tw_2 tw_496) rfl rfl rfl ⟨rfl, by decide, by decide, by decide⟩ ⟨by decide, by decide⟩) rfl rfl (Nat.le_of_ble_eq_true rfl) ⟨by decide, by decide⟩ ?_
    rintro r1 L1 ad1 τ1 ⟨g1, g2, g3, g4⟩; obtain rfl := g1.symm; obtain rfl := g2.symm; obtain rfl := g3.symm; subst g4
    refine ph_bif_ne (pc := 20) (tgt := 26) C d_M_step_20 (by decide) (fun c20 => ?_) (fun c20 => ?_)
    · refine ph_aload_n (pc := 26) C d_M_step_26 rfl ?_
      refine gt_M_72 (pc := 27) C d_M_step_27 hA.live hA.ob (hA.rf (k := 24) rfl) ?_
      refine ph_iload_n (pc := 30) C d_M_step_30 rfl ?_
      refine ph_zald (pc := 31) C d_M_step_31 (hA.ar (k := 24) rfl) rfl rfl rfl x.toNat (by omega) (by have := (show LC S 3 x.toNat by simp only [LC]; omega); simp only [LC] at this; omega) (by decide) ?_
      refine ph_ti (y := ph_b (((x.toNat : Nat) : Int) ≤ S 0 0 6)) (hs.f45 (show LC S 3 x.toNat by simp only [LC]; omega)) ?_
      refine ph_bif_ne (pc := 32) (tgt := 39) C d_M_step_32 (by decide) (fun c32 => ?_) (fun c32 => ?_)
      · refine ph_iconst (pc := 39) C d_M_step_39 ?_
        refine ph_istore_n (pc := 40) C d_M_step_40 (by decide) rfl ?_
        refine ph_iconst (pc := 41) C d_M_step_41 ?_
        refine ph_istore (pc := 42) C d_M_step_42 (by decide) rfl ?_
        refine ph_loc (l2 := [(0, .ref (o)), (1, .int (ph_i (x))), (2, .int (ph_i (y))), (3, .int (ph_i (ph_b (S 0 0 6 < x ∧ ((1 : Nat) : Int) ≤ S 0 0 6 + 1)))), (4, .int (ph_i (((1 : Nat) : Int))))]) ⟨rfl, rfl, rfl, (congrArg (fun z => some (Value.int (ph_i z))) (ph_b0 (fun q => by omega)).symm), rfl, trivial⟩ ?_
        exact loopm (x.toNat - 1) 1 (by omega) (by omega) (by omega) (by omega)
      · refine ph_iconst (pc := 35) C d_M_step_35 ?_
        refine ph_goto (pc := 36) (tgt := 40) C d_M_step_36 (by decide) ?_
        refine ph_istore_n (pc := 40) C d_M_step_40 (by decide) rfl ?_
        refine ph_iconst (pc := 41) C d_M_step_41 ?_
        refine ph_istore (pc := 42) C d_M_step_42 (by decide) rfl ?_
        refine ph_loc (l2 := [(0, .ref (o)), (1, .int (ph_i (x))), (2, .int (ph_i (y))), (3, .int (ph_i (ph_b (S 0 0 6 < x ∧ ((1 : Nat) : Int) ≤ S 0 0 6 + 1)))), (4, .int (ph_i (((1 : Nat) : Int))))]) ⟨rfl, rfl, rfl, (congrArg (fun z => some (Value.int (ph_i z))) (ph_b1 (by omega)).symm), rfl, trivial⟩ ?_
        exact loopm (x.toNat - 1) 1 (by omega) (by omega) (by omega) (by omega)
    · refine ph_bipush (pc := 23) C d_M_step_23 (by decide) ?_
      exact ph_iret (pc := 25) C d_M_step_25 hr hlk rfl (by decide) (by decide) ⟨rfl, rfl, ⟨hA, by rw [stepS_f (fun q => by first | exact absurd q.2.2.2 (by assumption) | (have q1 := q.1; have q2 := q.2.1; have q3 := q.2.2.1; omega))]; exact hs⟩, (by rw [stepv, if_neg (not_not_intro (by omega)), if_pos (by omega)])⟩
  · refine ph_bipush (pc := 8) C d_M_step_8 (by decide) ?_
    exact ph_iret (pc := 10) C d_M_step_10 hr hlk rfl (by decide) (by decide) ⟨rfl, rfl, ⟨hA, by rw [stepS_f (fun q => by first | exact absurd q.2.2.2 (by assumption) | (have q1 := q.1; have q2 := q.2.1; have q3 := q.2.2.1; omega))]; exact hs⟩, (by rw [stepv, if_pos (by assumption)])⟩
set_option maxHeartbeats 4000000 in
set_option maxRecDepth 100000 in
theorem c_M_feed (l : Launch) (D : va_G) (dT : Nat → ClassId) (A : Nat → Prop) (KX : State → Prop) (L : Nat → Nat → Prop) (ad : Nat → Nat → Nat) (τ : ph_T) (S : ph_T) (o : Nat) (hA : MA o L ad τ) (hs : MS S τ) (hV : IV S) (x : Int) (hx : ph_ri x) : ph_M l y_M_feed (.code y_M_feed b_M_feed 4 (some .int) :: TB) ({ frames := 0, cells := 0, slots := 0, locals := 0 } : Room) D CLs (TY dT) dT kd A KX [.ref (o), .int (ph_i (x))] L ad τ (fun r L' ad' τ' => L' = L ∧ ad' = ad ∧ (MA o L ad τ' ∧ MS (feedS S x) τ') ∧ ∃ v : Int, r = some (.int (ph_i v))) 0 0 := by
  refine ph_M.of (cc := b_M_feed) (maxL := 4) (ret := (some .int)) (by decide) rfl (Nat.le_of_ble_eq_true rfl) ?_
  intro p e s m below meth c C0 hr hlk hnm
  have C := C0.sub
  refine ph_loc (l2 := [(0, .ref (o)), (1, .int (ph_i (x)))]) ⟨rfl, rfl, trivial⟩ ?_
  have hc := hV.c
  have hm := hs.ml.r
  have h3 := hs.ml.2.2.1 x.toNat
  have loopf : ∀ (n : Nat) (i kp : Nat) (τ : ph_T), MA o L ad τ → MS S τ → kp ≤ i → (i : Int) + n = τ 20 0 15 → ph_W p l e ({ frames := 0, cells := 0, slots := 0, locals := 0 } : Room) s m [.ref (o), .int (ph_i (x))].toArray below meth c D CLs dT kd A 4 (MQ below (ph_Q D CLs dT kd A (fun r L' ad' τ' => L' = L ∧ ad' = ad ∧ (MA o L ad τ' ∧ MS (feedS S x) τ') ∧ ∃ v : Int, r = some (.int (ph_i v)))) [.ref (o), .int (ph_i (x))].toArray s 0 0 A) L ad τ 0 0 57 (ph_mk [(0, .ref (o)), (1, .int (ph_i (x))), (2, .int (ph_i ((kp : Int)))), (3, .int (ph_i ((i : Int))))]) [] := by
    intro n
    induction n with
    | zero =>
      intro i kp τ hA hs h1 h2
      have hm := hs.ml.r
      have h3 := hs.ml.2.2.2.1 i
      refine ph_iload_n (pc := 57) C d_M_feed_57 rfl ?_
      refine ph_aload_n (pc := 58) C d_M_feed_58 rfl ?_
      refine gt_M_178 (pc := 59) C d_M_feed_59 hA.live hA.ob (z := τ 20 0 15) rfl ?_
      refine ph_icmp_ge (pc := 62) (tgt := 96) C d_M_feed_62 (by decide) (by omega) (by omega) (fun c62 => ?_) (fun c62 => ?_)
      · refine ph_aload_n (pc := 96) C d_M_feed_96 rfl ?_
        refine ph_iload_n (pc := 97) C d_M_feed_97 rfl ?_
        refine pt_M_178 (pc := 98) C d_M_feed_98 hA.live hA.ob ?_
        have hs : MS S (ph_up τ 20 0 15 ((kp : Int))) := ms_lsz hs (by omega)
        have hA : MA o L ad (ph_up τ 20 0 15 ((kp : Int))) := hA.putf (k := 15) _ rfl
        generalize ph_up τ 20 0 15 ((kp : Int)) = τ at hA hs ⊢
        refine ph_iconst (pc := 101) C d_M_feed_101 ?_
        exact ph_iret (pc := 102) C d_M_feed_102 hr hlk rfl (by decide) (by decide) ⟨rfl, rfl, ⟨hA, ms_feed hs x⟩, ⟨_, rfl⟩⟩
      · exfalso; omega
    | succ n ih =>
      intro i kp τ hA hs h1 h2
      have hm := hs.ml.r
      have h3 := hs.ml.2.2.2.1 i
      refine ph_iload_n (pc := 57) C d_M_feed_57 rfl ?_
      refine ph_aload_n (pc := 58) C d_M_feed_58 rfl ?_
      refine gt_M_178 (pc := 59) C d_M_feed_59 hA.live hA.ob (z := τ 20 0 15) rfl ?_
      refine ph_icmp_ge (pc := 62) (tgt := 96) C d_M_feed_62 (by decide) (by omega) (by omega) (fun c62 => ?_) (fun c62 => ?_)
      · exfalso; omega
      · refine ph_aload_n (pc := 65) C d_M_feed_65 rfl ?_
        refine gt_M_48 (pc := 66) C d_M_feed_66 hA.live hA.ob (hA.rf (k := 14) rfl) ?_
        refine ph_iload_n (pc := 69) C d_M_feed_69 rfl ?_
        refine ph_iald (pc := 70) C d_M_feed_70 (hA.ar (k := 14) rfl) rfl rfl rfl i rfl (by omega) (by decide) ?_
        refine ph_ti (y := τ 35 0 i) (rfl) ?_
        refine ph_iload_n (pc := 71) C d_M_feed_71 rfl ?_
        refine ph_icmp_eq (pc := 72) (tgt := 90) C d_M_feed_72 (by decide) (by omega) (by omega) (fun c72 => ?_) (fun c72 => ?_)
        · refine ph_iinc (pc := 90) C d_M_feed_90 rfl rfl ?_
          refine ph_goto (pc := 93) (tgt := 57) C d_M_feed_93 (by decide) ?_
          refine ph_loc (l2 := [(0, .ref (o)), (1, .int (ph_i (x))), (2, .int (ph_i ((kp : Int)))), (3, .int (ph_i (((i + 1 : Nat) : Int))))]) ⟨rfl, rfl, rfl, rfl, trivial⟩ ?_
          exact ih (i + 1) kp τ hA hs (by omega) (by omega)
        · refine ph_aload_n (pc := 75) C d_M_feed_75 rfl ?_
          refine gt_M_48 (pc := 76) C d_M_feed_76 hA.live hA.ob (hA.rf (k := 14) rfl) ?_
          refine ph_iload_n (pc := 79) C d_M_feed_79 rfl ?_
          refine ph_aload_n (pc := 80) C d_M_feed_80 rfl ?_
          refine gt_M_48 (pc := 81) C d_M_feed_81 hA.live hA.ob (hA.rf (k := 14) rfl) ?_
          refine ph_iload_n (pc := 84) C d_M_feed_84 rfl ?_
          refine ph_iald (pc := 85) C d_M_feed_85 (hA.ar (k := 14) rfl) rfl rfl rfl i rfl (by omega) (by decide) ?_
          refine ph_ti (y := τ 35 0 i) (rfl) ?_
          refine ph_iast (pc := 86) (z := τ 35 0 i) C d_M_feed_86 (hA.ar (k := 14) rfl) rfl rfl rfl kp rfl (by omega) (by decide) ?_
          have e15 : ph_up τ 35 0 kp (τ 35 0 i) 20 0 15 = τ 20 0 15 := up_ne _ (by decide)
          have hs : MS S (ph_up τ 35 0 kp (τ 35 0 i)) := ms_lst hs (hs.ml.2.2.2.1 i)
          have hA : MA o L ad (ph_up τ 35 0 kp (τ 35 0 i)) := hA.puta (k := 14) _
          have h2 : (i : Int) + n + 1 = ph_up τ 35 0 kp (τ 35 0 i) 20 0 15 := by rw [e15]; omega
          clear e15
          generalize ph_up τ 35 0 kp (τ 35 0 i) = τ at hA hs h2 ⊢
          refine ph_iinc (pc := 87) C d_M_feed_87 rfl rfl ?_
          refine ph_iinc (pc := 90) C d_M_feed_90 rfl rfl ?_
          refine ph_goto (pc := 93) (tgt := 57) C d_M_feed_93 (by decide) ?_
          refine ph_loc (l2 := [(0, .ref (o)), (1, .int (ph_i (x))), (2, .int (ph_i (((kp + 1 : Nat) : Int)))), (3, .int (ph_i (((i + 1 : Nat) : Int))))]) ⟨rfl, rfl, rfl, rfl, trivial⟩ ?_
          exact ih (i + 1) (kp + 1) τ hA hs (by omega) (by omega)
  refine ph_iload_n (pc := 0) C d_M_feed_0 rfl ?_
  refine ph_iconst (pc := 1) C d_M_feed_1 ?_
  refine ph_icmp_lt (pc := 2) (tgt := 13) C d_M_feed_2 (by decide) (by omega) (by omega) (fun c2 => ?_) (fun c2 => ?_)
  · refine ph_bipush (pc := 13) C d_M_feed_13 (by decide) ?_
    exact ph_iret (pc := 15) C d_M_feed_15 hr hlk rfl (by decide) (by decide) ⟨rfl, rfl, ⟨hA, ms_feed hs x⟩, ⟨_, rfl⟩⟩
  · refine ph_iload_n (pc := 5) C d_M_feed_5 rfl ?_
    refine ph_aload_n (pc := 6) C d_M_feed_6 rfl ?_
    refine gt_M_104 (pc := 7) C d_M_feed_7 hA.live hA.ob (z := S 0 0 3) hs.c7 ?_
    refine ph_icmp_le (pc := 10) (tgt := 16) C d_M_feed_10 (by decide) (by omega) (by omega) (fun c10 => ?_) (fun c10 => ?_)
    · refine ph_aload_n (pc := 16) C d_M_feed_16 rfl ?_
      refine gt_M_45 (pc := 17) C d_M_feed_17 hA.live hA.ob (hA.rf (k := 13) rfl) ?_
      refine ph_iload_n (pc := 20) C d_M_feed_20 rfl ?_
      refine ph_zald (pc := 21) C d_M_feed_21 (hA.ar (k := 13) rfl) rfl rfl rfl x.toNat (by omega) (by omega) (by decide) ?_
      refine ph_ti (y := τ 34 0 x.toNat) (rfl) ?_
      refine ph_if_eq (pc := 22) (tgt := 27) C d_M_feed_22 (by decide) (by omega) (fun c22 => ?_) (fun c22 => ?_)
      · refine ph_aload_n (pc := 27) C d_M_feed_27 rfl ?_
        refine gt_M_42 (pc := 28) C d_M_feed_28 hA.live hA.ob (hA.rf (k := 12) rfl) ?_
        refine ph_iload_n (pc := 31) C d_M_feed_31 rfl ?_
        refine ph_zald (pc := 32) C d_M_feed_32 (hA.ar (k := 12) rfl) rfl rfl rfl x.toNat (by omega) (by omega) (by decide) ?_
        refine ph_ti (y := τ 33 0 x.toNat) (rfl) ?_
        refine ph_if_ne (pc := 33) (tgt := 39) C d_M_feed_33 (by decide) (by omega) (fun c33 => ?_) (fun c33 => ?_)
        · refine ph_aload_n (pc := 39) C d_M_feed_39 rfl ?_
          refine gt_M_45 (pc := 40) C d_M_feed_40 hA.live hA.ob (hA.rf (k := 13) rfl) ?_
          refine ph_iload_n (pc := 43) C d_M_feed_43 rfl ?_
          refine ph_iconst (pc := 44) C d_M_feed_44 ?_
          refine ph_zast (pc := 45) (z := 1) C d_M_feed_45 (by omega) (hA.ar (k := 13) rfl) rfl rfl rfl x.toNat (by omega) (by omega) (by decide) ?_
          have e34 : ph_up τ 34 0 x.toNat (1) 34 0 x.toNat = 1 := ph_up_at _ _ _ _ _
          have hs : MS S (ph_up τ 34 0 x.toNat (1)) := ms_flag hs (Or.inr rfl) (Or.inr rfl) (by omega) (by omega) (by omega) (by omega)
          have hA : MA o L ad (ph_up τ 34 0 x.toNat (1)) := hA.puta (k := 13) _
          generalize ph_up τ 34 0 x.toNat (1) = τ at hA hs e34 ⊢
          refine ph_aload_n (pc := 46) C d_M_feed_46 rfl ?_
          refine gt_M_42 (pc := 47) C d_M_feed_47 hA.live hA.ob (hA.rf (k := 12) rfl) ?_
          refine ph_iload_n (pc := 50) C d_M_feed_50 rfl ?_
          refine ph_iconst (pc := 51) C d_M_feed_51 ?_
          refine ph_zast (pc := 52) (z := 0) C d_M_feed_52 (by omega) (hA.ar (k := 12) rfl) rfl rfl rfl x.toNat (by omega) (by omega) (by decide) ?_
          have hs : MS S (ph_up τ 33 0 x.toNat (0)) := ms_flag hs (Or.inl rfl) (Or.inl rfl) (by omega) (by omega) (fun _ => e34) (by omega)
          have hA : MA o L ad (ph_up τ 33 0 x.toNat (0)) := hA.puta (k := 12) _
          generalize ph_up τ 33 0 x.toNat (0) = τ at hA hs ⊢
          refine ph_iconst (pc := 53) C d_M_feed_53 ?_
          refine ph_istore_n (pc := 54) C d_M_feed_54 (by decide) rfl ?_
          refine ph_iconst (pc := 55) C d_M_feed_55 ?_
          refine ph_istore_n (pc := 56) C d_M_feed_56 (by decide) rfl ?_
          refine ph_loc (l2 := [(0, .ref (o)), (1, .int (ph_i (x))), (2, .int (ph_i (((0 : Nat) : Int)))), (3, .int (ph_i (((0 : Nat) : Int))))]) ⟨rfl, rfl, rfl, rfl, trivial⟩ ?_
          exact loopf (τ 20 0 15).toNat 0 0 τ hA hs (by omega) (by have := hs.ml.r; omega)
        · refine ph_bipush (pc := 36) C d_M_feed_36 (by decide) ?_
          exact ph_iret (pc := 38) C d_M_feed_38 hr hlk rfl (by decide) (by decide) ⟨rfl, rfl, ⟨hA, ms_feed hs x⟩, ⟨_, rfl⟩⟩
      · refine ph_iconst (pc := 25) C d_M_feed_25 ?_
        exact ph_iret (pc := 26) C d_M_feed_26 hr hlk rfl (by decide) (by decide) ⟨rfl, rfl, ⟨hA, ms_feed hs x⟩, ⟨_, rfl⟩⟩
    · refine ph_bipush (pc := 13) C d_M_feed_13 (by decide) ?_
      exact ph_iret (pc := 15) C d_M_feed_15 hr hlk rfl (by decide) (by decide) ⟨rfl, rfl, ⟨hA, ms_feed hs x⟩, ⟨_, rfl⟩⟩
