/-! ===== lighten, edge of the other side ===== -/
set_option maxHeartbeats 4000000 in
set_option maxRecDepth 100000 in
theorem c_M_lighten (l : Launch) (D : va_G) (dT : Nat → ClassId) (A : Nat → Prop) (KX : State → Prop) (L : Nat → Nat → Prop) (ad : Nat → Nat → Nat) (τ : ph_T) (S : ph_T) (o : Nat) (hA : MA o L ad τ) (hs : MS S τ) (hV : IV S) (s0 : Nat) (hl : LC S 1 s0) (t b : Int) (ht : t = S 0 0 11) (hb : 0 ≤ b ∧ b ≤ S 0 0 5) (hf : τ 20 0 31 = fstv b S) (hG : GI S) : ph_M l y_M_lighten (.code y_M_lighten b_M_lighten 9 none :: TB) ({ frames := 3, cells := 0, slots := 0, locals := 74 } : Room) D CLs (TY dT) dT kd A KX [.ref (o), .int (ph_i ((s0 : Int))), .long (ph_l (t))] L ad τ (fun r L' ad' τ' => L' = L ∧ ad' = ad ∧ (MA o L ad τ' ∧ MS (blS S s0) τ' ∧ τ' 20 0 31 = fstv b (blS S s0)) ∧ r = none) 0 0 := by
  refine ph_M.of (cc := b_M_lighten) (maxL := 9) (ret := none) (by decide) rfl (Nat.le_of_ble_eq_true rfl) ?_
  intro p e s m below meth c C0 hr hlk hnm
  have C := C0.sub
  refine ph_loc (l2 := [(0, .ref (o)), (1, .int (ph_i ((s0 : Int)))), (2, .long (ph_l (t)))]) ⟨rfl, rfl, rfl, trivial⟩ ?_
  have hc := hV.c
  have hm := hs.ml.r
  have hl8 := id hl
  simp only [LC] at hl8
  have h9 := hV.s hl
  have hsn : 1 ≤ S 1 s0 3 → seenb S (S 1 s0 3).toNat s0 := (hG.2.1 s0 hl).2
  have tail : ∀ (S2 τ : ph_T), MA o L ad τ → MS S2 τ → τ 20 0 31 = fstv b S2 → S2 0 0 1 = S 0 0 1 → blA S s0 = S2 → ph_W p l e ({ frames := 3, cells := 0, slots := 0, locals := 74 } : Room) s m [.ref (o), .int (ph_i ((s0 : Int))), .long (ph_l (t))].toArray below meth c D CLs dT kd A 9 (MQ below (ph_Q D CLs dT kd A (fun r L' ad' τ' => L' = L ∧ ad' = ad ∧ (MA o L ad τ' ∧ MS (blS S s0) τ' ∧ τ' 20 0 31 = fstv b (blS S s0)) ∧ r = none)) [.ref (o), .int (ph_i ((s0 : Int))), .long (ph_l (t))].toArray s 0 0 A) L ad τ 0 0 162 (ph_mk [(0, .ref (o)), (1, .int (ph_i ((s0 : Int))))]) [] := by
    intro S2 τ hA hs hf h1 hE
    refine ph_aload_n (pc := 162) C d_M_lighten_162 rfl ?_
    refine gt_M_13 (pc := 163) C d_M_lighten_163 hA.live hA.ob (hA.rf (k := 2) rfl) ?_
    refine ph_iload_n (pc := 166) C d_M_lighten_166 rfl ?_
    refine ph_iconst (pc := 167) C d_M_lighten_167 ?_
    refine ph_zast (pc := 168) (z := 0) C d_M_lighten_168 (by omega) (hA.ar (k := 2) rfl) rfl rfl rfl s0 rfl (by omega) (by decide) ?_
    have hs : MS (ph_up S2 1 s0 2 (0)) (ph_up τ 23 0 s0 (0)) := hs.sput (g := 23) (by decide) (by simp only [LC, up_ne _ (show (0 : Nat) ≠ 1 by decide)]; omega) (0)
    have hf : ph_up τ 23 0 s0 (0) 20 0 31 = fstv b (ph_up S2 1 s0 2 (0)) := by rw [up_ne _ (by decide), hf]; exact (fst_up (by decide)).symm
    have hA : MA o L ad (ph_up τ 23 0 s0 (0)) := hA.puta (k := 2) _
    generalize ph_up τ 23 0 s0 (0) = τ at hA hs hf ⊢
    refine ph_aload_n (pc := 169) C d_M_lighten_169 rfl ?_
    refine gt_M_24 (pc := 170) C d_M_lighten_170 hA.live hA.ob (hA.rf (k := 5) rfl) ?_
    refine ph_iload_n (pc := 173) C d_M_lighten_173 rfl ?_
    refine ph_iconst (pc := 174) C d_M_lighten_174 ?_
    refine ph_iast (pc := 175) (z := 0) C d_M_lighten_175 (hA.ar (k := 5) rfl) rfl rfl rfl s0 rfl (by omega) (by decide) ?_
    have hs : MS (ph_up (ph_up S2 1 s0 2 (0)) 1 s0 3 (0)) (ph_up τ 26 0 s0 (0)) := hs.sput (g := 26) (by decide) (by simp only [LC, up_ne _ (show (0 : Nat) ≠ 1 by decide)]; omega) (0)
    have hf : ph_up τ 26 0 s0 (0) 20 0 31 = fstv b (ph_up (ph_up S2 1 s0 2 (0)) 1 s0 3 (0)) := by rw [up_ne _ (by decide), hf]; exact (fst_up (by decide)).symm
    have hA : MA o L ad (ph_up τ 26 0 s0 (0)) := hA.puta (k := 5) _
    generalize ph_up τ 26 0 s0 (0) = τ at hA hs hf ⊢
    exact ph_vret (pc := 176) C d_M_lighten_176 hr hlk (by decide) (by decide) ⟨rfl, rfl, ⟨hA, by unfold blS; rw [hE]; exact hs, by unfold blS; rw [hE]; exact hf⟩, rfl⟩
  have mid : ∀ (S1 τ : ph_T), MA o L ad τ → MS S1 τ → IV S1 → τ 20 0 31 = fstv b S1 → S1 0 0 1 = S 0 0 1 → S1 0 0 3 = S 0 0 3 → (1 ≤ S 1 s0 3 → judgeS S s0 (S 1 s0 3).toNat = S1) → (¬ 1 ≤ S 1 s0 3 → S = S1) → ph_W p l e ({ frames := 3, cells := 0, slots := 0, locals := 74 } : Room) s m [.ref (o), .int (ph_i ((s0 : Int))), .long (ph_l (t))].toArray below meth c D CLs dT kd A 9 (MQ below (ph_Q D CLs dT kd A (fun r L' ad' τ' => L' = L ∧ ad' = ad ∧ (MA o L ad τ' ∧ MS (blS S s0) τ' ∧ τ' 20 0 31 = fstv b (blS S s0)) ∧ r = none)) [.ref (o), .int (ph_i ((s0 : Int))), .long (ph_l (t))].toArray s 0 0 A) L ad τ 0 0 129 (ph_mk [(0, .ref (o)), (1, .int (ph_i ((s0 : Int)))), (2, .long (ph_l (t))), (4, .int (ph_i (S 1 s0 3)))]) [] := by
    intro S1 τ hA hs hV1 hf h1 h3 hj hn
    have hli : 1 ≤ S 1 s0 3 → LC S1 2 (S 1 s0 3).toNat := fun q => by simp only [LC]; omega
    refine ph_iload (pc := 129) C d_M_lighten_129 rfl ?_
    refine ph_if_le (pc := 131) (tgt := 162) C d_M_lighten_131 (by decide) (by first | omega | (have := stm_r (z := S1 2 (S 1 s0 3).toNat 5) (by have := hV1.i (hli (by omega)); omega); omega)) (fun c131 => ?_) (fun c131 => ?_)
    · refine ph_loc (l2 := [(0, .ref (o)), (1, .int (ph_i ((s0 : Int))))]) ⟨rfl, rfl, trivial⟩ ?_
      exact tail S1 τ hA hs hf h1 (by first | (rw [blA_0 (by omega)]; exact hn (by omega)) | (rw [blA_n ⟨by omega, by omega⟩ (by omega)]; exact hj (by omega)) | (rw [blA_y ⟨by omega, by omega⟩ (by omega), hj (by omega), leave_no (fun q => absurd ((stm_0 (by have := hV1.i (hli (by omega)); omega)).mpr q) (by assumption))]))
    · refine ph_iload_n (pc := 134) C d_M_lighten_134 rfl ?_
      refine ph_aload_n (pc := 135) C d_M_lighten_135 rfl ?_
      refine gt_M_93 (pc := 136) C d_M_lighten_136 hA.live hA.ob (z := S1 0 0 1) hs.c0 ?_
      refine ph_iconst (pc := 139) C d_M_lighten_139 ?_
      refine ph_isub (pc := 140) C d_M_lighten_140 ?_
      refine ph_icmp_ne (pc := 141) (tgt := 162) C d_M_lighten_141 (by decide) (by first | omega | (have := stm_r (z := S1 2 (S 1 s0 3).toNat 5) (by have := hV1.i (hli (by omega)); omega); omega)) (by first | omega | (have := stm_r (z := S1 2 (S 1 s0 3).toNat 5) (by have := hV1.i (hli (by omega)); omega); omega)) (fun c141 => ?_) (fun c141 => ?_)
      · refine ph_loc (l2 := [(0, .ref (o)), (1, .int (ph_i ((s0 : Int))))]) ⟨rfl, rfl, trivial⟩ ?_
        exact tail S1 τ hA hs hf h1 (by first | (rw [blA_0 (by omega)]; exact hn (by omega)) | (rw [blA_n ⟨by omega, by omega⟩ (by omega)]; exact hj (by omega)) | (rw [blA_y ⟨by omega, by omega⟩ (by omega), hj (by omega), leave_no (fun q => absurd ((stm_0 (by have := hV1.i (hli (by omega)); omega)).mpr q) (by assumption))]))
      · refine ph_aload_n (pc := 144) C d_M_lighten_144 rfl ?_
        refine gt_M_36 (pc := 145) C d_M_lighten_145 hA.live hA.ob (hA.rf (k := 10) rfl) ?_
        refine ph_iload (pc := 148) C d_M_lighten_148 rfl ?_
        refine ph_iald (pc := 150) C d_M_lighten_150 (hA.ar (k := 10) rfl) rfl rfl rfl (S 1 s0 3).toNat (by omega) (by omega) (by decide) ?_
        refine ph_ti (y := stm (S1 2 (S 1 s0 3).toNat 5)) (hs.i31 (hli (by omega))) ?_
        refine ph_if_ne (pc := 151) (tgt := 162) C d_M_lighten_151 (by decide) (by first | omega | (have := stm_r (z := S1 2 (S 1 s0 3).toNat 5) (by have := hV1.i (hli (by omega)); omega); omega)) (fun c151 => ?_) (fun c151 => ?_)
        · refine ph_loc (l2 := [(0, .ref (o)), (1, .int (ph_i ((s0 : Int))))]) ⟨rfl, rfl, trivial⟩ ?_
          exact tail S1 τ hA hs hf h1 (by first | (rw [blA_0 (by omega)]; exact hn (by omega)) | (rw [blA_n ⟨by omega, by omega⟩ (by omega)]; exact hj (by omega)) | (rw [blA_y ⟨by omega, by omega⟩ (by omega), hj (by omega), leave_no (fun q => absurd ((stm_0 (by have := hV1.i (hli (by omega)); omega)).mpr q) (by assumption))]))
        · have hz5 : S1 2 (S 1 s0 3).toNat 5 = 0 := (stm_0 (by have := hV1.i (hli (by omega)); omega)).mp (by assumption)
          have hli := hli (by omega)
          refine ph_aload_n (pc := 154) C d_M_lighten_154 rfl ?_
          refine gt_M_36 (pc := 155) C d_M_lighten_155 hA.live hA.ob (hA.rf (k := 10) rfl) ?_
          refine ph_iload (pc := 158) C d_M_lighten_158 rfl ?_
          refine ph_iconst (pc := 160) C d_M_lighten_160 ?_
          refine ph_iast (pc := 161) (z := 2) C d_M_lighten_161 (hA.ar (k := 10) rfl) rfl rfl rfl (S 1 s0 3).toNat (by omega) (by omega) (by decide) ?_
          have hs : MS (leaveS S1 (S 1 s0 3).toNat) (ph_up τ 31 0 (S 1 s0 3).toNat (2)) := ms_leave hs hli hz5
          have hf : ph_up τ 31 0 (S 1 s0 3).toNat (2) 20 0 31 = fstv b (leaveS S1 (S 1 s0 3).toNat) := by rw [up_ne _ (by decide), hf]; exact fst_leave.symm
          have hA : MA o L ad (ph_up τ 31 0 (S 1 s0 3).toNat (2)) := hA.puta (k := 10) _
          generalize ph_up τ 31 0 (S 1 s0 3).toNat (2) = τ at hA hs hf ⊢
          refine ph_loc (l2 := [(0, .ref (o)), (1, .int (ph_i ((s0 : Int))))]) ⟨rfl, rfl, trivial⟩ ?_
          exact tail (leaveS S1 (S 1 s0 3).toNat) τ hA hs hf (by rw [leaveS_g (by decide)]; exact h1) (by rw [blA_y ⟨by omega, by omega⟩ (by omega), hj (by omega)])
  refine ph_aload_n (pc := 0) C d_M_lighten_0 rfl ?_
  refine gt_M_24 (pc := 1) C d_M_lighten_1 hA.live hA.ob (hA.rf (k := 5) rfl) ?_
  refine ph_iload_n (pc := 4) C d_M_lighten_4 rfl ?_
  refine ph_iald (pc := 5) C d_M_lighten_5 (hA.ar (k := 5) rfl) rfl rfl rfl s0 rfl (by have := hl; simp only [LC] at this; omega) (by decide) ?_
  refine ph_ti (y := S 1 s0 3) (hs.s26 hl) ?_
  refine ph_istore (pc := 6) C d_M_lighten_6 (by decide) rfl ?_
  refine ph_lload_n (pc := 8) C d_M_lighten_8 rfl ?_
  refine ph_aload_n (pc := 9) C d_M_lighten_9 rfl ?_
  refine gt_M_21 (pc := 10) C d_M_lighten_10 hA.live hA.ob (hA.rf (k := 4) rfl) ?_
  refine ph_iload_n (pc := 13) C d_M_lighten_13 rfl ?_
  refine ph_lald (pc := 14) C d_M_lighten_14 (hA.ar (k := 4) rfl) rfl rfl rfl s0 rfl (by have := hl; simp only [LC] at this; omega) (by decide) ?_
  refine ph_tl (y := S 1 s0 4) (hs.s25 hl) ?_
  refine ph_lsub (pc := 15) C d_M_lighten_15 ?_
  refine ph_lstore (pc := 16) C d_M_lighten_16 (by decide) rfl ?_
  refine ph_iload (pc := 18) C d_M_lighten_18 rfl ?_
  refine ph_if_le (pc := 20) (tgt := 97) C d_M_lighten_20 (by decide) (by first | omega | (have := hV.i (show LC S 2 (S 1 s0 3).toNat by simp only [LC]; omega); omega)) (fun c20 => ?_) (fun c20 => ?_)
  · refine ph_iload (pc := 97) C d_M_lighten_97 rfl ?_
    refine ph_if_le (pc := 99) (tgt := 129) C d_M_lighten_99 (by decide) (by first | omega | (have := hV.i (show LC S 2 (S 1 s0 3).toNat by simp only [LC]; omega); omega)) (fun c99 => ?_) (fun c99 => ?_)
    · refine ph_loc (l2 := [(0, .ref (o)), (1, .int (ph_i ((s0 : Int)))), (2, .long (ph_l (t))), (4, .int (ph_i (S 1 s0 3)))]) ⟨rfl, rfl, rfl, rfl, trivial⟩ ?_
      exact mid S τ hA hs hV hf rfl rfl (fun q => by first | (exfalso; omega) | exact jd_4 (by unfold longer; omega) (by unfold longer; omega)) (fun _ => rfl)
    · refine ph_aload_n (pc := 102) C d_M_lighten_102 rfl ?_
      refine gt_M_30 (pc := 103) C d_M_lighten_103 hA.live hA.ob (hA.rf (k := 8) rfl) ?_
      refine ph_iload (pc := 106) C d_M_lighten_106 rfl ?_
      refine ph_lald (pc := 108) C d_M_lighten_108 (hA.ar (k := 8) rfl) rfl rfl rfl (S 1 s0 3).toNat (by omega) (by omega) (by decide) ?_
      refine ph_tl (y := S 2 (S 1 s0 3).toNat 0) (hs.i29 (show LC S 2 (S 1 s0 3).toNat by simp only [LC]; omega)) ?_
      refine ph_lload (pc := 109) C d_M_lighten_109 rfl ?_
      refine ph_lsub (pc := 111) C d_M_lighten_111 ?_
      refine ph_ldc2 (pc := 112) C d_M_lighten_112 (16) (by decide) tw_540 ?_
      refine ph_l_lt (pc := 115) (tgt := 129) C d_M_lighten_115 d_M_lighten_116 (by decide) (by first | omega | (have := hV.i (show LC S 2 (S 1 s0 3).toNat by simp only [LC]; omega); omega)) (by first | omega | (have := hV.i (show LC S 2 (S 1 s0 3).toNat by simp only [LC]; omega); omega)) (fun c115 => ?_) (fun c115 => ?_)
      · refine ph_loc (l2 := [(0, .ref (o)), (1, .int (ph_i ((s0 : Int)))), (2, .long (ph_l (t))), (4, .int (ph_i (S 1 s0 3)))]) ⟨rfl, rfl, rfl, rfl, trivial⟩ ?_
        exact mid S τ hA hs hV hf rfl rfl (fun q => by first | (exfalso; omega) | exact jd_4 (by unfold longer; omega) (by unfold longer; omega)) (fun _ => rfl)
      · refine ph_aload_n (pc := 119) C d_M_lighten_119 rfl ?_
        refine ph_iconst (pc := 120) C d_M_lighten_120 ?_
        refine ph_iload_n (pc := 121) C d_M_lighten_121 rfl ?_
        refine ph_lload_n (pc := 122) C d_M_lighten_122 rfl ?_
        refine ph_iconst (pc := 123) C d_M_lighten_123 ?_
        refine ph_callV (pc := 124) (rest := []) C d_M_lighten_124 (c_M_tell l D dT A KX L ad τ S o hA hs hV 4 (by decide) s0 hl t b ht hb hf) (cwV 4 C.hts (gdV tw_516 tw_518 se_29 tw_2 tw_519) rfl rfl rfl ⟨rfl, by decide, by decide, by decide⟩ ⟨by decide, by decide⟩) hA.live hA.ob rfl rfl rfl rfl rfl (Nat.le_of_ble_eq_true rfl) ⟨by decide, by decide⟩ ?_
        rintro r1 L1 ad1 τ ⟨g1, g2, ⟨hA, hs, hf⟩, g4⟩; obtain rfl := g1.symm; obtain rfl := g2.symm; subst g4
        refine ph_istore (pc := 127) C d_M_lighten_127 (by decide) rfl ?_
        refine ph_loc (l2 := [(0, .ref (o)), (1, .int (ph_i ((s0 : Int)))), (2, .long (ph_l (t))), (4, .int (ph_i (S 1 s0 3)))]) ⟨rfl, rfl, rfl, rfl, trivial⟩ ?_
        exact mid (tellS S 4 (s0 : Int) ((dbm S s0 : Nat) : Int)) τ hA hs (iv_tell hV hl (by decide)) hf (tellS_0 (by decide)) (tellS_0 (by decide)) (fun _ => jd_3 (by unfold longer; omega) (by unfold longer; omega)) (fun q => by exfalso; omega)
  · refine ph_lload (pc := 23) C d_M_lighten_23 rfl ?_
    refine ph_aload_n (pc := 25) C d_M_lighten_25 rfl ?_
    refine gt_M_30 (pc := 26) C d_M_lighten_26 hA.live hA.ob (hA.rf (k := 8) rfl) ?_
    refine ph_iload (pc := 29) C d_M_lighten_29 rfl ?_
    refine ph_lald (pc := 31) C d_M_lighten_31 (hA.ar (k := 8) rfl) rfl rfl rfl (S 1 s0 3).toNat (by omega) (by omega) (by decide) ?_
    refine ph_tl (y := S 2 (S 1 s0 3).toNat 0) (hs.i29 (show LC S 2 (S 1 s0 3).toNat by simp only [LC]; omega)) ?_
    refine ph_lsub (pc := 32) C d_M_lighten_32 ?_
    refine ph_ldc2 (pc := 33) C d_M_lighten_33 (16) (by decide) tw_540 ?_
    refine ph_l_lt (pc := 36) (tgt := 97) C d_M_lighten_36 d_M_lighten_37 (by decide) (by first | omega | (have := hV.i (show LC S 2 (S 1 s0 3).toNat by simp only [LC]; omega); omega)) (by first | omega | (have := hV.i (show LC S 2 (S 1 s0 3).toNat by simp only [LC]; omega); omega)) (fun c36 => ?_) (fun c36 => ?_)
    · refine ph_iload (pc := 97) C d_M_lighten_97 rfl ?_
      refine ph_if_le (pc := 99) (tgt := 129) C d_M_lighten_99 (by decide) (by first | omega | (have := hV.i (show LC S 2 (S 1 s0 3).toNat by simp only [LC]; omega); omega)) (fun c99 => ?_) (fun c99 => ?_)
      · refine ph_loc (l2 := [(0, .ref (o)), (1, .int (ph_i ((s0 : Int)))), (2, .long (ph_l (t))), (4, .int (ph_i (S 1 s0 3)))]) ⟨rfl, rfl, rfl, rfl, trivial⟩ ?_
        exact mid S τ hA hs hV hf rfl rfl (fun q => by first | (exfalso; omega) | exact jd_4 (by unfold longer; omega) (by unfold longer; omega)) (fun _ => rfl)
      · refine ph_aload_n (pc := 102) C d_M_lighten_102 rfl ?_
        refine gt_M_30 (pc := 103) C d_M_lighten_103 hA.live hA.ob (hA.rf (k := 8) rfl) ?_
        refine ph_iload (pc := 106) C d_M_lighten_106 rfl ?_
        refine ph_lald (pc := 108) C d_M_lighten_108 (hA.ar (k := 8) rfl) rfl rfl rfl (S 1 s0 3).toNat (by omega) (by omega) (by decide) ?_
        refine ph_tl (y := S 2 (S 1 s0 3).toNat 0) (hs.i29 (show LC S 2 (S 1 s0 3).toNat by simp only [LC]; omega)) ?_
        refine ph_lload (pc := 109) C d_M_lighten_109 rfl ?_
        refine ph_lsub (pc := 111) C d_M_lighten_111 ?_
        refine ph_ldc2 (pc := 112) C d_M_lighten_112 (16) (by decide) tw_540 ?_
        refine ph_l_lt (pc := 115) (tgt := 129) C d_M_lighten_115 d_M_lighten_116 (by decide) (by first | omega | (have := hV.i (show LC S 2 (S 1 s0 3).toNat by simp only [LC]; omega); omega)) (by first | omega | (have := hV.i (show LC S 2 (S 1 s0 3).toNat by simp only [LC]; omega); omega)) (fun c115 => ?_) (fun c115 => ?_)
        · refine ph_loc (l2 := [(0, .ref (o)), (1, .int (ph_i ((s0 : Int)))), (2, .long (ph_l (t))), (4, .int (ph_i (S 1 s0 3)))]) ⟨rfl, rfl, rfl, rfl, trivial⟩ ?_
          exact mid S τ hA hs hV hf rfl rfl (fun q => by first | (exfalso; omega) | exact jd_4 (by unfold longer; omega) (by unfold longer; omega)) (fun _ => rfl)
        · refine ph_aload_n (pc := 119) C d_M_lighten_119 rfl ?_
          refine ph_iconst (pc := 120) C d_M_lighten_120 ?_
          refine ph_iload_n (pc := 121) C d_M_lighten_121 rfl ?_
          refine ph_lload_n (pc := 122) C d_M_lighten_122 rfl ?_
          refine ph_iconst (pc := 123) C d_M_lighten_123 ?_
          refine ph_callV (pc := 124) (rest := []) C d_M_lighten_124 (c_M_tell l D dT A KX L ad τ S o hA hs hV 4 (by decide) s0 hl t b ht hb hf) (cwV 4 C.hts (gdV tw_516 tw_518 se_29 tw_2 tw_519) rfl rfl rfl ⟨rfl, by decide, by decide, by decide⟩ ⟨by decide, by decide⟩) hA.live hA.ob rfl rfl rfl rfl rfl (Nat.le_of_ble_eq_true rfl) ⟨by decide, by decide⟩ ?_
          rintro r1 L1 ad1 τ ⟨g1, g2, ⟨hA, hs, hf⟩, g4⟩; obtain rfl := g1.symm; obtain rfl := g2.symm; subst g4
          refine ph_istore (pc := 127) C d_M_lighten_127 (by decide) rfl ?_
          refine ph_loc (l2 := [(0, .ref (o)), (1, .int (ph_i ((s0 : Int)))), (2, .long (ph_l (t))), (4, .int (ph_i (S 1 s0 3)))]) ⟨rfl, rfl, rfl, rfl, trivial⟩ ?_
          exact mid (tellS S 4 (s0 : Int) ((dbm S s0 : Nat) : Int)) τ hA hs (iv_tell hV hl (by decide)) hf (tellS_0 (by decide)) (tellS_0 (by decide)) (fun _ => jd_3 (by unfold longer; omega) (by unfold longer; omega)) (fun q => by exfalso; omega)
    · refine ph_aload_n (pc := 40) C d_M_lighten_40 rfl ?_
      refine ph_iconst (pc := 41) C d_M_lighten_41 ?_
      refine ph_iload_n (pc := 42) C d_M_lighten_42 rfl ?_
      refine ph_lload_n (pc := 43) C d_M_lighten_43 rfl ?_
      refine ph_iconst (pc := 44) C d_M_lighten_44 ?_
      refine ph_callV (pc := 45) (rest := []) C d_M_lighten_45 (c_M_tell l D dT A KX L ad τ S o hA hs hV 3 (by decide) s0 hl t b ht hb hf) (cwV 4 C.hts (gdV tw_516 tw_518 se_29 tw_2 tw_519) rfl rfl rfl ⟨rfl, by decide, by decide, by decide⟩ ⟨by decide, by decide⟩) hA.live hA.ob rfl rfl rfl rfl rfl (Nat.le_of_ble_eq_true rfl) ⟨by decide, by decide⟩ ?_
      rintro r1 L1 ad1 τ ⟨g1, g2, ⟨hA, hs, hf⟩, g4⟩; obtain rfl := g1.symm; obtain rfl := g2.symm; subst g4
      refine ph_istore (pc := 48) C d_M_lighten_48 (by decide) rfl ?_
      refine ph_aload_n (pc := 50) C d_M_lighten_50 rfl ?_
      refine ph_iload_n (pc := 51) C d_M_lighten_51 rfl ?_
      have hlu := lu_le (iv_tell hV hl (kd := 3) (by decide)) s0
      rw [tellS_0 (by decide)] at hlu
      refine ph_callV (pc := 52) (rest := []) C d_M_lighten_52 (c_M_next l D dT A KX L ad τ (tellS S 3 (s0 : Int) ((dbm S s0 : Nat) : Int)) o hA hs (iv_tell hV hl (by decide)) s0 (LC1 (tellS_0 (by decide)) hl)) (cwV 1 C.hts (gdV tw_532 tw_534 se_33 tw_2 tw_535) rfl rfl rfl ⟨rfl, by decide, by decide, by decide⟩ ⟨by decide, by decide⟩) hA.live hA.ob rfl rfl rfl rfl rfl (Nat.le_of_ble_eq_true rfl) ⟨by decide, by decide⟩ ?_
      rintro r1 L1 ad1 τ1 ⟨g1, g2, g3, g4⟩; obtain rfl := g1.symm; obtain rfl := g2.symm; obtain rfl := g3.symm; subst g4
      refine ph_istore (pc := 55) C d_M_lighten_55 (by decide) rfl ?_
      refine ph_aload_n (pc := 57) C d_M_lighten_57 rfl ?_
      refine gt_M_36 (pc := 58) C d_M_lighten_58 hA.live hA.ob (hA.rf (k := 10) rfl) ?_
      refine ph_iload (pc := 61) C d_M_lighten_61 rfl ?_
      refine ph_iconst (pc := 63) C d_M_lighten_63 ?_
      refine ph_iast (pc := 64) (z := 1) C d_M_lighten_64 (hA.ar (k := 10) rfl) rfl rfl rfl (S 1 s0 3).toNat (by omega) (by omega) (by decide) ?_
      have hs : MS (jlA S s0 (S 1 s0 3).toNat) (ph_up τ 31 0 (S 1 s0 3).toNat (1)) := ms_take hs (by simp only [LC, tellS_0 (show (3 : Nat) ≠ 5 by decide)]; omega) _
      have hf : ph_up τ 31 0 (S 1 s0 3).toNat (1) 20 0 31 = fstv b (jlA S s0 (S 1 s0 3).toNat) := by rw [up_ne _ (by decide), hf]; exact fst_take.symm
      have hA : MA o L ad (ph_up τ 31 0 (S 1 s0 3).toNat (1)) := hA.puta (k := 10) _
      generalize ph_up τ 31 0 (S 1 s0 3).toNat (1) = τ at hA hs hf ⊢
      refine ph_iload (pc := 65) C d_M_lighten_65 rfl ?_
      refine ph_if_le (pc := 67) (tgt := 94) C d_M_lighten_67 (by decide) (by first | omega | (have := hV.i (show LC S 2 (S 1 s0 3).toNat by simp only [LC]; omega); omega)) (fun c67 => ?_) (fun c67 => ?_)
      · refine ph_goto (pc := 94) (tgt := 129) C d_M_lighten_94 (by decide) ?_
        refine ph_loc (l2 := [(0, .ref (o)), (1, .int (ph_i ((s0 : Int)))), (2, .long (ph_l (t))), (4, .int (ph_i (S 1 s0 3)))]) ⟨rfl, rfl, rfl, rfl, trivial⟩ ?_
        exact mid (jlA S s0 (S 1 s0 3).toNat) τ hA hs (iv_jlA hV hl) hf (jlA_0 (by decide)) (jlA_0 (by decide)) (fun _ => jd_2 (by unfold longer; omega) (hsn (by omega)) (fun q => by have q1 := q.1; have q2 := q.2; rw [Int.toNat_natCast] at q2; rw [jlA_0 (by decide)] at q2; omega)) (fun q => by exfalso; omega)
      · refine ph_aload_n (pc := 70) C d_M_lighten_70 rfl ?_
        refine ph_iload (pc := 71) C d_M_lighten_71 rfl ?_
        refine ph_iload_n (pc := 73) C d_M_lighten_73 rfl ?_
        have hdu := due_r (iv_jlA (i := (S 1 s0 3).toNat) hV hl) (show LC (jlA S s0 (S 1 s0 3).toNat) 2 (lu (tellS S 3 (s0 : Int) ((dbm S s0 : Nat) : Int)) s0) by simp only [LC, jlA_0 (show (3 : Nat) ≠ 5 by decide)]; omega) (LC1 (jlA_0 (by decide)) hl)
        refine ph_callV (pc := 74) (rest := []) C d_M_lighten_74 (c_M_due l D dT A KX L ad τ (jlA S s0 (S 1 s0 3).toNat) o hA hs (iv_jlA hV hl) (lu (tellS S 3 (s0 : Int) ((dbm S s0 : Nat) : Int)) s0) s0 (show LC (jlA S s0 (S 1 s0 3).toNat) 2 (lu (tellS S 3 (s0 : Int) ((dbm S s0 : Nat) : Int)) s0) by simp only [LC, jlA_0 (show (3 : Nat) ≠ 5 by decide)]; omega) (LC1 (jlA_0 (by decide)) hl)) (cwV 2 C.hts (gdV tw_536 tw_538 se_34 tw_2 tw_539) rfl rfl rfl ⟨rfl, by decide, by decide, by decide⟩ ⟨by decide, by decide⟩) hA.live hA.ob rfl rfl rfl rfl rfl (Nat.le_of_ble_eq_true rfl) ⟨by decide, by decide⟩ ?_
        rintro r1 L1 ad1 τ1 ⟨g1, g2, g3, g4⟩; obtain rfl := g1.symm; obtain rfl := g2.symm; obtain rfl := g3.symm; subst g4
        refine ph_lload_n (pc := 77) C d_M_lighten_77 rfl ?_
        refine ph_lsub (pc := 78) C d_M_lighten_78 ?_
        refine ph_ldc2 (pc := 79) C d_M_lighten_79 (15) (by decide) tw_542 ?_
        refine ph_l_gt (pc := 82) (tgt := 94) C d_M_lighten_82 d_M_lighten_83 (by decide) (by first | omega | (have := hV.i (show LC S 2 (S 1 s0 3).toNat by simp only [LC]; omega); omega)) (by first | omega | (have := hV.i (show LC S 2 (S 1 s0 3).toNat by simp only [LC]; omega); omega)) (fun c82 => ?_) (fun c82 => ?_)
        · refine ph_goto (pc := 94) (tgt := 129) C d_M_lighten_94 (by decide) ?_
          refine ph_loc (l2 := [(0, .ref (o)), (1, .int (ph_i ((s0 : Int)))), (2, .long (ph_l (t))), (4, .int (ph_i (S 1 s0 3)))]) ⟨rfl, rfl, rfl, rfl, trivial⟩ ?_
          exact mid (jlA S s0 (S 1 s0 3).toNat) τ hA hs (iv_jlA hV hl) hf (jlA_0 (by decide)) (jlA_0 (by decide)) (fun _ => jd_2 (by unfold longer; omega) (hsn (by omega)) (fun q => by have q1 := q.1; have q2 := q.2; rw [Int.toNat_natCast] at q2; rw [jlA_0 (by decide)] at q2; omega)) (fun q => by exfalso; omega)
        · refine ph_aload_n (pc := 86) C d_M_lighten_86 rfl ?_
          refine gt_M_36 (pc := 87) C d_M_lighten_87 hA.live hA.ob (hA.rf (k := 10) rfl) ?_
          refine ph_iload (pc := 90) C d_M_lighten_90 rfl ?_
          refine ph_iconst (pc := 92) C d_M_lighten_92 ?_
          refine ph_iast (pc := 93) (z := 1) C d_M_lighten_93 (hA.ar (k := 10) rfl) rfl rfl rfl (lu (tellS S 3 (s0 : Int) ((dbm S s0 : Nat) : Int)) s0) rfl (by omega) (by decide) ?_
          have hs : MS (takeS (jlA S s0 (S 1 s0 3).toNat) (lu (tellS S 3 (s0 : Int) ((dbm S s0 : Nat) : Int)) s0) (tellv S)) (ph_up τ 31 0 (lu (tellS S 3 (s0 : Int) ((dbm S s0 : Nat) : Int)) s0) (1)) := ms_take hs (by simp only [LC, jlA_0 (show (3 : Nat) ≠ 5 by decide)]; omega) _
          have hf : ph_up τ 31 0 (lu (tellS S 3 (s0 : Int) ((dbm S s0 : Nat) : Int)) s0) (1) 20 0 31 = fstv b (takeS (jlA S s0 (S 1 s0 3).toNat) (lu (tellS S 3 (s0 : Int) ((dbm S s0 : Nat) : Int)) s0) (tellv S)) := by rw [up_ne _ (by decide), hf]; exact fst_take.symm
          have hA : MA o L ad (ph_up τ 31 0 (lu (tellS S 3 (s0 : Int) ((dbm S s0 : Nat) : Int)) s0) (1)) := hA.puta (k := 10) _
          generalize ph_up τ 31 0 (lu (tellS S 3 (s0 : Int) ((dbm S s0 : Nat) : Int)) s0) (1) = τ at hA hs hf ⊢
          refine ph_goto (pc := 94) (tgt := 129) C d_M_lighten_94 (by decide) ?_
          refine ph_loc (l2 := [(0, .ref (o)), (1, .int (ph_i ((s0 : Int)))), (2, .long (ph_l (t))), (4, .int (ph_i (S 1 s0 3)))]) ⟨rfl, rfl, rfl, rfl, trivial⟩ ?_
          exact mid (takeS (jlA S s0 (S 1 s0 3).toNat) (lu (tellS S 3 (s0 : Int) ((dbm S s0 : Nat) : Int)) s0) (tellv S)) τ hA hs ((iv_jlA hV hl).takeS (tellv_r hV)) hf (by rw [takeS_g (by decide)]; exact jlA_0 (by decide)) (by rw [takeS_g (by decide)]; exact jlA_0 (by decide)) (fun _ => jd_1 (by unfold longer; omega) (hsn (by omega)) ⟨⟨by omega, by rw [jlA_0 (by decide)]; omega⟩, by rw [Int.toNat_natCast, jlA_0 (by decide)]; omega⟩) (fun q => by exfalso; omega)
set_option maxHeartbeats 4000000 in
set_option maxRecDepth 100000 in
theorem c_M_edge (l : Launch) (D : va_G) (dT : Nat → ClassId) (A : Nat → Prop) (KX : State → Prop) (L : Nat → Nat → Prop) (ad : Nat → Nat → Nat) (τ : ph_T) (S : ph_T) (o : Nat) (hA : MA o L ad τ) (hs : MS S τ) (hV : IV S) (hG : GI S) (x d t : Int) (hx : ph_ri x) (hd : d = 0 ∨ d = 1) (ht : ph_rl t) : ph_M l y_M_edge (.code y_M_edge b_M_edge 5 (some .int) :: TB) ({ frames := 4, cells := 0, slots := 0, locals := 102 } : Room) D CLs (TY dT) dT kd A KX [.ref (o), .int (ph_i (x)), .int (ph_i (d)), .long (ph_l (t))] L ad τ (fun r L' ad' τ' => L' = L ∧ ad' = ad ∧ (MA o L ad τ' ∧ MS (edgeS S x d t) τ') ∧ r = some (.int (ph_i (edgev S x d t)))) 0 0 := by
  refine ph_M.of (cc := b_M_edge) (maxL := 5) (ret := (some .int)) (by decide) rfl (Nat.le_of_ble_eq_true rfl) ?_
  intro p e s m below meth c C0 hr hlk hnm
  have C := C0.sub
  refine ph_loc (l2 := [(0, .ref (o)), (1, .int (ph_i (x))), (2, .int (ph_i (d))), (3, .long (ph_l (t)))]) ⟨rfl, rfl, rfl, rfl, trivial⟩ ?_
  have hc := hV.c
  have hm := hs.ml.r
  refine ph_aload_n (pc := 0) C d_M_edge_0 rfl ?_
  refine ph_iload_n (pc := 1) C d_M_edge_1 rfl ?_
  refine ph_callV (pc := 2) (rest := []) C d_M_edge_2 (c_M_noSensor l D dT A KX L ad τ S o hA hs hV x hx) (cwV 1 C.hts (gdV tw_507 tw_509 se_27 tw_2 tw_510) rfl rfl rfl ⟨rfl, by decide, by decide, by decide⟩ ⟨by decide, by decide⟩) hA.live hA.ob rfl rfl rfl rfl rfl (Nat.le_of_ble_eq_true rfl) ⟨by decide, by decide⟩ ?_
  rintro r1 L1 ad1 τ1 ⟨g1, g2, g3, g4⟩; obtain rfl := g1.symm; obtain rfl := g2.symm; obtain rfl := g3.symm; subst g4
  refine ph_bif_eq (pc := 5) (tgt := 11) C d_M_edge_5 (by decide) (fun c5 => ?_) (fun c5 => ?_)
  · refine ph_lload_n (pc := 11) C d_M_edge_11 rfl ?_
    refine ph_aload_n (pc := 12) C d_M_edge_12 rfl ?_
    refine gt_M_115 (pc := 13) C d_M_edge_13 hA.live hA.ob (z := S 0 0 11) hs.c30 ?_
    refine ph_ldc2 (pc := 16) C d_M_edge_16 (1000000000) (by decide) tw_497 ?_
    refine ph_callS (pc := 19) (rest := []) C d_M_edge_19 (c_M_isIn l D dT A KX L ad τ (t) (S 0 0 11) (1000000000) (by omega) (by omega) (by omega)) (cwS 3 C.hts (gdS tw_494 tw_495 tw_2 tw_496) rfl rfl rfl ⟨rfl, by decide, by decide, by decide⟩ ⟨by decide, by decide⟩) rfl rfl (Nat.le_of_ble_eq_true rfl) ⟨by decide, by decide⟩ ?_
    rintro r1 L1 ad1 τ1 ⟨g1, g2, g3, g4⟩; obtain rfl := g1.symm; obtain rfl := g2.symm; obtain rfl := g3.symm; subst g4
    refine ph_bif_ne (pc := 22) (tgt := 28) C d_M_edge_22 (by decide) (fun c22 => ?_) (fun c22 => ?_)
    · refine ph_aload_n (pc := 28) C d_M_edge_28 rfl ?_
      refine ph_callV (pc := 29) (rest := []) C d_M_edge_29 (c_M_stands l D dT A KX L ad τ S o hA hs hV) (cwV 0 C.hts (gdV tw_499 tw_501 se_26 tw_2 tw_502) rfl rfl rfl ⟨rfl, by decide, by decide, by decide⟩ ⟨by decide, by decide⟩) hA.live hA.ob rfl rfl rfl rfl rfl (Nat.le_of_ble_eq_true rfl) ⟨by decide, by decide⟩ ?_
      rintro r1 L1 ad1 τ1 ⟨g1, g2, g3, g4⟩; obtain rfl := g1.symm; obtain rfl := g2.symm; obtain rfl := g3.symm; subst g4
      refine ph_bif_ne (pc := 32) (tgt := 45) C d_M_edge_32 (by decide) (fun c32 => ?_) (fun c32 => ?_)
      · refine ph_bipush (pc := 45) C d_M_edge_45 (by decide) ?_
        exact ph_iret (pc := 47) C d_M_edge_47 hr hlk rfl (by decide) (by decide) ⟨rfl, rfl, ⟨hA, by rw [edgeS_f (fun q => by first | exact absurd q.2.2.1 (by assumption) | (have q1 := q.1; have q2 := q.2.1; have q4 := q.2.2.2; omega))]; exact hs⟩, (by rw [edgev, if_neg (not_not_intro (by omega)), if_neg (not_not_intro (by omega)), if_neg (fun q => by first | exact absurd q.1 (by assumption) | (have q2 := q.2; omega))])⟩
      · refine ph_aload_n (pc := 35) C d_M_edge_35 rfl ?_
        refine gt_M_13 (pc := 36) C d_M_edge_36 hA.live hA.ob (hA.rf (k := 2) rfl) ?_
        refine ph_iload_n (pc := 39) C d_M_edge_39 rfl ?_
        refine ph_zald (pc := 40) C d_M_edge_40 (hA.ar (k := 2) rfl) rfl rfl rfl x.toNat (by omega) (by have := (show LC S 1 x.toNat by simp only [LC]; omega); simp only [LC] at this; omega) (by decide) ?_
        refine ph_ti (y := S 1 x.toNat 2) (hs.s23 (show LC S 1 x.toNat by simp only [LC]; omega)) ?_
        refine ph_iload_n (pc := 41) C d_M_edge_41 rfl ?_
        refine ph_icmp_ne (pc := 42) (tgt := 48) C d_M_edge_42 (by decide) (by first | omega | (have := hV.s (show LC S 1 x.toNat by simp only [LC]; omega); omega)) (by first | omega | (have := hV.s (show LC S 1 x.toNat by simp only [LC]; omega); omega)) (fun c42 => ?_) (fun c42 => ?_)
        · refine ph_aload_n (pc := 48) C d_M_edge_48 rfl ?_
          refine ph_lload_n (pc := 49) C d_M_edge_49 rfl ?_
          refine pt_M_115 (pc := 50) C d_M_edge_50 hA.live hA.ob ?_
          have hs : MS (ph_up S 0 0 11 (t)) (ph_up τ 20 0 30 (t)) := hs.clk _
          have hA : MA o L ad (ph_up τ 20 0 30 (t)) := hA.putf (k := 30) (t) rfl
          generalize ph_up τ 20 0 30 (t) = τ at hA hs ⊢
          have hV1 := hV.up0 (k := 11) (z := t) (by omega) (by omega) (by omega) (by omega)
          have p5 : ph_up S 0 0 11 t 0 0 5 = S 0 0 5 := ph_up_no _ _ (by omega)
          have p11 : ph_up S 0 0 11 t 0 0 11 = t := ph_up_at _ _ _ _ _
          refine ph_aload_n (pc := 53) C d_M_edge_53 rfl ?_
          refine ph_iconst (pc := 54) C d_M_edge_54 ?_
          refine pt_M_135 (pc := 55) C d_M_edge_55 hA.live hA.ob ?_
          have hf : ph_up τ 20 0 31 (0) 20 0 31 = 0 := ph_up_at _ _ _ _ _
          have hs : MS (ph_up S 0 0 11 (t)) (ph_up τ 20 0 31 (0)) := hs.fst (by omega)
          have hA : MA o L ad (ph_up τ 20 0 31 (0)) := hA.putf (k := 31) _ rfl
          generalize ph_up τ 20 0 31 (0) = τ at hA hs hf ⊢
          refine ph_aload_n (pc := 58) C d_M_edge_58 rfl ?_
          refine ph_lload_n (pc := 59) C d_M_edge_59 rfl ?_
          obtain ⟨s0, hx0⟩ : ∃ s0 : Nat, x = (s0 : Int) := ⟨x.toNat, by omega⟩
          subst hx0
          refine ph_loc (l2 := [(0, .ref (o)), (1, .int (ph_i ((s0 : Int)))), (2, .int (ph_i (d))), (3, .long (ph_l (t)))]) ⟨rfl, rfl, rfl, rfl, trivial⟩ ?_
          refine ph_callV (pc := 60) (rest := []) C d_M_edge_60 (c_M_jams l D dT A KX L ad τ (ph_up S 0 0 11 (t)) o hA hs hV1 t (S 0 0 5) p11.symm ⟨by omega, by omega⟩ (by rw [hf]; unfold fstv; rw [if_neg (by omega)])) (cwV 1 C.hts (gdV tw_511 tw_513 se_28 tw_2 tw_514) rfl rfl rfl ⟨rfl, by decide, by decide, by decide⟩ ⟨by decide, by decide⟩) hA.live hA.ob rfl rfl rfl rfl rfl (Nat.le_of_ble_eq_true rfl) ⟨by decide, by decide⟩ ?_
          rintro r1 L1 ad1 τ ⟨g1, g2, ⟨hA, hs, hf⟩, g4⟩; obtain rfl := g1.symm; obtain rfl := g2.symm; subst g4
          have hs : MS (edJ S t) τ := hs
          have hf : τ 20 0 31 = fstv (S 0 0 5) (edJ S t) := hf
          have hVj : IV (edJ S t) := hV.edJ ⟨by omega, by omega⟩
          have hGj : GI (edJ S t) := gi_edJ hG hV ⟨by omega, by omega⟩
          have j1 : (edJ S t) 0 0 1 = S 0 0 1 := edJ_0 (by decide) (by decide)
          have j11 : (edJ S t) 0 0 11 = t := by unfold edJ; rw [jamsS_0 (by decide)]; exact p11
          have jd : ∀ q, (edJ S t) 1 q 2 = S 1 q 2 := fun q => ej_2
          have j5 : S 0 0 5 ≤ (edJ S t) 0 0 5 := ej_5
          refine ph_aload_n (pc := 63) C d_M_edge_63 rfl ?_
          refine ph_callV (pc := 64) (rest := []) C d_M_edge_64 (c_M_stands l D dT A KX L ad τ (edJ S t) o hA hs hVj) (cwV 0 C.hts (gdV tw_499 tw_501 se_26 tw_2 tw_502) rfl rfl rfl ⟨rfl, by decide, by decide, by decide⟩ ⟨by decide, by decide⟩) hA.live hA.ob rfl rfl rfl rfl rfl (Nat.le_of_ble_eq_true rfl) ⟨by decide, by decide⟩ ?_
          rintro r1 L1 ad1 τ1 ⟨g1, g2, g3, g4⟩; obtain rfl := g1.symm; obtain rfl := g2.symm; obtain rfl := g3.symm; subst g4
          refine ph_bif_ne (pc := 67) (tgt := 89) C d_M_edge_67 (by decide) (fun c67 => ?_) (fun c67 => ?_)
          · refine ph_aload_n (pc := 89) C d_M_edge_89 rfl ?_
            refine gt_M_135 (pc := 90) C d_M_edge_90 hA.live hA.ob (z := τ 20 0 31) rfl ?_
            have hrun : runs S := Classical.not_not.mp (by assumption)
            have eB : edB (edJ S t) s0 d = (edJ S t) := edB_n (by assumption)
            exact ph_iret (pc := 93) C d_M_edge_93 hr hlk rfl (by decide) (by decide) ⟨rfl, rfl, ⟨hA, by rw [edgeS_t ⟨by omega, by omega, hrun, by assumption⟩, Int.toNat_natCast, eB]; exact hs⟩, (by rw [edgev, if_neg (not_not_intro (by omega)), if_neg (not_not_intro (by omega)), if_pos ⟨hrun, by assumption⟩, Int.toNat_natCast, eB, hf]; rfl)⟩
          · refine ph_iload_n (pc := 70) C d_M_edge_70 rfl ?_
            refine ph_if_eq (pc := 71) (tgt := 83) C d_M_edge_71 (by decide) (by first | omega | (have := hV.s (show LC S 1 x.toNat by simp only [LC]; omega); omega)) (fun c71 => ?_) (fun c71 => ?_)
            · refine ph_aload_n (pc := 83) C d_M_edge_83 rfl ?_
              refine ph_iload_n (pc := 84) C d_M_edge_84 rfl ?_
              refine ph_lload_n (pc := 85) C d_M_edge_85 rfl ?_
              refine ph_callV (pc := 86) (rest := []) C d_M_edge_86 (c_M_lighten l D dT A KX L ad τ (edJ S t) o hA hs hVj s0 (by simp only [LC]; omega) t (S 0 0 5) j11.symm ⟨by omega, by omega⟩ hf hGj) (cwV 2 C.hts (gdV tw_543 tw_545 se_35 tw_2 tw_546) rfl rfl rfl ⟨rfl, by decide, by decide, by decide⟩ ⟨by decide, by decide⟩) hA.live hA.ob rfl rfl rfl rfl rfl (Nat.le_of_ble_eq_true rfl) ⟨by decide, by decide⟩ ?_
              rintro r1 L1 ad1 τ ⟨g1, g2, ⟨hA, hs, hf⟩, g4⟩; obtain rfl := g1.symm; obtain rfl := g2.symm; subst g4
              refine ph_aload_n (pc := 89) C d_M_edge_89 rfl ?_
              refine gt_M_135 (pc := 90) C d_M_edge_90 hA.live hA.ob (z := τ 20 0 31) rfl ?_
              have hrun : runs S := Classical.not_not.mp (by assumption)
              have eB : edB (edJ S t) s0 d = (blS (edJ S t) s0) := edB_l (Classical.not_not.mp (by assumption)) (by assumption)
              exact ph_iret (pc := 93) C d_M_edge_93 hr hlk rfl (by decide) (by decide) ⟨rfl, rfl, ⟨hA, by rw [edgeS_t ⟨by omega, by omega, hrun, by assumption⟩, Int.toNat_natCast, eB]; exact hs⟩, (by rw [edgev, if_neg (not_not_intro (by omega)), if_neg (not_not_intro (by omega)), if_pos ⟨hrun, by assumption⟩, Int.toNat_natCast, eB, hf]; rfl)⟩
            · refine ph_aload_n (pc := 74) C d_M_edge_74 rfl ?_
              refine ph_iload_n (pc := 75) C d_M_edge_75 rfl ?_
              refine ph_lload_n (pc := 76) C d_M_edge_76 rfl ?_
              refine ph_callV (pc := 77) (rest := []) C d_M_edge_77 (c_M_darken l D dT A KX L ad τ (edJ S t) o hA hs hVj s0 (by simp only [LC]; omega) t (S 0 0 5) j11.symm ⟨by omega, by omega⟩ hf hGj (by rw [jd]; have h7 := hV.s (show LC S 1 s0 by simp only [LC]; omega); rw [Int.toNat_natCast] at c42; omega)) (cwV 2 C.hts (gdV tw_528 tw_530 se_32 tw_2 tw_531) rfl rfl rfl ⟨rfl, by decide, by decide, by decide⟩ ⟨by decide, by decide⟩) hA.live hA.ob rfl rfl rfl rfl rfl (Nat.le_of_ble_eq_true rfl) ⟨by decide, by decide⟩ ?_
              rintro r1 L1 ad1 τ ⟨g1, g2, ⟨hA, hs, hf⟩, g4⟩; obtain rfl := g1.symm; obtain rfl := g2.symm; subst g4
              refine ph_goto (pc := 80) (tgt := 89) C d_M_edge_80 (by decide) ?_
              refine ph_aload_n (pc := 89) C d_M_edge_89 rfl ?_
              refine gt_M_135 (pc := 90) C d_M_edge_90 hA.live hA.ob (z := τ 20 0 31) rfl ?_
              have hrun : runs S := Classical.not_not.mp (by assumption)
              have eB : edB (edJ S t) s0 d = (bdS (edJ S t) s0) := edB_d (Classical.not_not.mp (by assumption)) (by assumption)
              exact ph_iret (pc := 93) C d_M_edge_93 hr hlk rfl (by decide) (by decide) ⟨rfl, rfl, ⟨hA, by rw [edgeS_t ⟨by omega, by omega, hrun, by assumption⟩, Int.toNat_natCast, eB]; exact hs⟩, (by rw [edgev, if_neg (not_not_intro (by omega)), if_neg (not_not_intro (by omega)), if_pos ⟨hrun, by assumption⟩, Int.toNat_natCast, eB, hf]; rfl)⟩
        · refine ph_bipush (pc := 45) C d_M_edge_45 (by decide) ?_
          exact ph_iret (pc := 47) C d_M_edge_47 hr hlk rfl (by decide) (by decide) ⟨rfl, rfl, ⟨hA, by rw [edgeS_f (fun q => by first | exact absurd q.2.2.1 (by assumption) | (have q1 := q.1; have q2 := q.2.1; have q4 := q.2.2.2; omega))]; exact hs⟩, (by rw [edgev, if_neg (not_not_intro (by omega)), if_neg (not_not_intro (by omega)), if_neg (fun q => by first | exact absurd q.1 (by assumption) | (have q2 := q.2; omega))])⟩
    · refine ph_bipush (pc := 25) C d_M_edge_25 (by decide) ?_
      exact ph_iret (pc := 27) C d_M_edge_27 hr hlk rfl (by decide) (by decide) ⟨rfl, rfl, ⟨hA, by rw [edgeS_f (fun q => by first | exact absurd q.2.2.1 (by assumption) | (have q1 := q.1; have q2 := q.2.1; have q4 := q.2.2.2; omega))]; exact hs⟩, (by rw [edgev, if_neg (not_not_intro (by omega)), if_pos (by assumption)])⟩
  · refine ph_bipush (pc := 8) C d_M_edge_8 (by decide) ?_
    exact ph_iret (pc := 10) C d_M_edge_10 hr hlk rfl (by decide) (by decide) ⟨rfl, rfl, ⟨hA, by rw [edgeS_f (fun q => by first | exact absurd q.2.2.1 (by assumption) | (have q1 := q.1; have q2 := q.2.1; have q4 := q.2.2.2; omega))]; exact hs⟩, (by rw [edgev, if_pos (by assumption)])⟩
