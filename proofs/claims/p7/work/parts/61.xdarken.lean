/-! ===== darken, lighten, edge of the other side ===== -/
set_option maxHeartbeats 4000000 in
set_option maxRecDepth 100000 in
theorem c_M_darken (l : Launch) (D : va_G) (dT : Nat → ClassId) (A : Nat → Prop) (KX : State → Prop) (L : Nat → Nat → Prop) (ad : Nat → Nat → Nat) (τ : ph_T) (S : ph_T) (o : Nat) (hA : MA o L ad τ) (hs : MS S τ) (hV : IV S) (s0 : Nat) (hl : LC S 1 s0) (t b : Int) (ht : t = S 0 0 11) (hb : 0 ≤ b ∧ b ≤ S 0 0 5) (hf : τ 20 0 31 = fstv b S) (hG : GI S) (hlt : S 1 s0 2 = 0) : ph_M l y_M_darken (.code y_M_darken b_M_darken 6 none :: TB) ({ frames := 3, cells := 0, slots := 0, locals := 74 } : Room) D CLs (TY dT) dT kd A KX [.ref (o), .int (ph_i ((s0 : Int))), .long (ph_l (t))] L ad τ (fun r L' ad' τ' => L' = L ∧ ad' = ad ∧ (MA o L ad τ' ∧ MS (bdS S s0) τ' ∧ τ' 20 0 31 = fstv b (bdS S s0)) ∧ r = none) 0 0 := by
  refine ph_M.of (cc := b_M_darken) (maxL := 6) (ret := none) (by decide) rfl (Nat.le_of_ble_eq_true rfl) ?_
  intro p e s m below meth c C0 hr hlk hnm
  have C := C0.sub
  refine ph_loc (l2 := [(0, .ref (o)), (1, .int (ph_i ((s0 : Int)))), (2, .long (ph_l (t)))]) ⟨rfl, rfl, rfl, trivial⟩ ?_
  have hc := hV.c
  have hm := hs.ml.r
  have tail : ∀ (S1 τ : ph_T), MA o L ad τ → MS S1 τ → IV S1 → GI S1 → τ 20 0 31 = fstv b S1 → (0 ≤ b ∧ b ≤ S1 0 0 5) → LC S1 1 s0 → S1 1 s0 2 = 0 → t = S1 0 0 11 → dkA S s0 = S1 → (lu S1 s0 = 0 ∨ ¬ 15 < S1 0 0 11 - due S1 (lu S1 s0) s0) → ph_W p l e ({ frames := 3, cells := 0, slots := 0, locals := 74 } : Room) s m [.ref (o), .int (ph_i ((s0 : Int))), .long (ph_l (t))].toArray below meth c D CLs dT kd A 6 (MQ below (ph_Q D CLs dT kd A (fun r L' ad' τ' => L' = L ∧ ad' = ad ∧ (MA o L ad τ' ∧ MS (bdS S s0) τ' ∧ τ' 20 0 31 = fstv b (bdS S s0)) ∧ r = none)) [.ref (o), .int (ph_i ((s0 : Int))), .long (ph_l (t))].toArray s 0 0 A) L ad τ 0 0 66 (ph_mk [(0, .ref (o)), (1, .int (ph_i ((s0 : Int)))), (2, .long (ph_l (t))), (4, .int (ph_i (((lu S1 s0 : Nat) : Int))))]) [] := by
    intro S1 τ hA hs hV hG hf hb hl hlt ht hE hx
    have hc := hV.c
    have hlu := lu_le hV s0
    have h3 := (hG.2.1 s0 hl).1 hlt
    have hl8 := id hl
    simp only [LC] at hl8
    refine ph_aload_n (pc := 66) C d_M_darken_66 rfl ?_
    refine gt_M_24 (pc := 67) C d_M_darken_67 hA.live hA.ob (hA.rf (k := 5) rfl) ?_
    refine ph_iload_n (pc := 70) C d_M_darken_70 rfl ?_
    refine ph_iconst (pc := 71) C d_M_darken_71 ?_
    refine ph_iast (pc := 72) (z := 0) C d_M_darken_72 (hA.ar (k := 5) rfl) rfl rfl rfl s0 rfl (by omega) (by decide) ?_
    rw [up_same (show τ 26 0 s0 = 0 by rw [hs.s26 hl]; exact h3)]
    refine ph_iload (pc := 73) C d_M_darken_73 rfl ?_
    refine ph_if_le (pc := 75) (tgt := 123) C d_M_darken_75 (by decide) (by first | omega | (have := hV.s hl; omega) | (have := due_lu hV hl (by omega); omega)) (fun c75 => ?_) (fun c75 => ?_)
    · refine ph_aload_n (pc := 123) C d_M_darken_123 rfl ?_
      refine ph_iconst (pc := 124) C d_M_darken_124 ?_
      refine ph_iload_n (pc := 125) C d_M_darken_125 rfl ?_
      refine ph_lload_n (pc := 126) C d_M_darken_126 rfl ?_
      refine ph_iconst (pc := 127) C d_M_darken_127 ?_
      refine ph_callV (pc := 128) (rest := []) C d_M_darken_128 (c_M_tell l D dT A KX L ad τ S1 o hA hs hV 1 (by decide) s0 hl t b ht hb hf) (cwV 4 C.hts (gdV tw_516 tw_518 se_29 tw_2 tw_519) rfl rfl rfl ⟨rfl, by decide, by decide, by decide⟩ ⟨by decide, by decide⟩) hA.live hA.ob rfl rfl rfl rfl rfl (Nat.le_of_ble_eq_true rfl) ⟨by decide, by decide⟩ ?_
      rintro r1 L1 ad1 τ ⟨g1, g2, ⟨hA, hs, hf⟩, g4⟩; obtain rfl := g1.symm; obtain rfl := g2.symm; subst g4
      refine ph_istore (pc := 131) C d_M_darken_131 (by decide) rfl ?_
      refine ph_aload_n (pc := 133) C d_M_darken_133 rfl ?_
      refine gt_M_13 (pc := 134) C d_M_darken_134 hA.live hA.ob (hA.rf (k := 2) rfl) ?_
      refine ph_iload_n (pc := 137) C d_M_darken_137 rfl ?_
      refine ph_iconst (pc := 138) C d_M_darken_138 ?_
      refine ph_zast (pc := 139) (z := 1) C d_M_darken_139 (by omega) (hA.ar (k := 2) rfl) rfl rfl rfl s0 rfl (by omega) (by decide) ?_
      have hs : MS (ph_up (tellS S1 1 (s0 : Int) ((dbm S1 s0 : Nat) : Int)) 1 s0 2 (1)) (ph_up τ 23 0 s0 (1)) := hs.sput (g := 23) (by decide) (by simp only [LC] at hl ⊢; first | exact hl | (simp only [up_ne _ (show (0 : Nat) ≠ 1 by decide), seeS_g (show (0 : Nat) ≠ 2 by decide), tellS_0 (show (1 : Nat) ≠ 5 by decide)]; exact hl)) (1)
      have hf : ph_up τ 23 0 s0 (1) 20 0 31 = fstv b (ph_up (tellS S1 1 (s0 : Int) ((dbm S1 s0 : Nat) : Int)) 1 s0 2 (1)) := by rw [up_ne _ (by decide), hf]; exact (fst_up (by decide)).symm
      have hA : MA o L ad (ph_up τ 23 0 s0 (1)) := hA.puta (k := 2) _
      generalize ph_up τ 23 0 s0 (1) = τ at hA hs hf ⊢
      refine ph_aload_n (pc := 140) C d_M_darken_140 rfl ?_
      refine gt_M_21 (pc := 141) C d_M_darken_141 hA.live hA.ob (hA.rf (k := 4) rfl) ?_
      refine ph_iload_n (pc := 144) C d_M_darken_144 rfl ?_
      refine ph_lload_n (pc := 145) C d_M_darken_145 rfl ?_
      refine ph_last (pc := 146) (z := t) C d_M_darken_146 (hA.ar (k := 4) rfl) rfl rfl rfl s0 rfl (by omega) (by decide) ?_
      have hs : MS (ph_up (ph_up (tellS S1 1 (s0 : Int) ((dbm S1 s0 : Nat) : Int)) 1 s0 2 (1)) 1 s0 4 (t)) (ph_up τ 25 0 s0 (t)) := hs.sput (g := 25) (by decide) (by simp only [LC] at hl ⊢; first | exact hl | (simp only [up_ne _ (show (0 : Nat) ≠ 1 by decide), seeS_g (show (0 : Nat) ≠ 2 by decide), tellS_0 (show (1 : Nat) ≠ 5 by decide)]; exact hl)) (t)
      have hf : ph_up τ 25 0 s0 (t) 20 0 31 = fstv b (ph_up (ph_up (tellS S1 1 (s0 : Int) ((dbm S1 s0 : Nat) : Int)) 1 s0 2 (1)) 1 s0 4 (t)) := by rw [up_ne _ (by decide), hf]; exact (fst_up (by decide)).symm
      have hA : MA o L ad (ph_up τ 25 0 s0 (t)) := hA.puta (k := 4) _
      generalize ph_up τ 25 0 s0 (t) = τ at hA hs hf ⊢
      refine ph_aload_n (pc := 147) C d_M_darken_147 rfl ?_
      refine gt_M_27 (pc := 148) C d_M_darken_148 hA.live hA.ob (hA.rf (k := 6) rfl) ?_
      refine ph_iload_n (pc := 151) C d_M_darken_151 rfl ?_
      refine ph_iconst (pc := 152) C d_M_darken_152 ?_
      refine ph_zast (pc := 153) (z := 0) C d_M_darken_153 (by omega) (hA.ar (k := 6) rfl) rfl rfl rfl s0 rfl (by omega) (by decide) ?_
      have hs : MS (ph_up (ph_up (ph_up (tellS S1 1 (s0 : Int) ((dbm S1 s0 : Nat) : Int)) 1 s0 2 (1)) 1 s0 4 (t)) 1 s0 5 (0)) (ph_up τ 27 0 s0 (0)) := hs.sput (g := 27) (by decide) (by simp only [LC] at hl ⊢; first | exact hl | (simp only [up_ne _ (show (0 : Nat) ≠ 1 by decide), seeS_g (show (0 : Nat) ≠ 2 by decide), tellS_0 (show (1 : Nat) ≠ 5 by decide)]; exact hl)) (0)
      have hf : ph_up τ 27 0 s0 (0) 20 0 31 = fstv b (ph_up (ph_up (ph_up (tellS S1 1 (s0 : Int) ((dbm S1 s0 : Nat) : Int)) 1 s0 2 (1)) 1 s0 4 (t)) 1 s0 5 (0)) := by rw [up_ne _ (by decide), hf]; exact (fst_up (by decide)).symm
      have hA : MA o L ad (ph_up τ 27 0 s0 (0)) := hA.puta (k := 6) _
      generalize ph_up τ 27 0 s0 (0) = τ at hA hs hf ⊢
      have e := dk_N hE (fun q => by have q1 := q.1; have q2 := q.2; rw [Int.toNat_natCast] at q2; omega) ht h3
      exact ph_vret (pc := 154) C d_M_darken_154 hr hlk (by decide) (by decide) ⟨rfl, rfl, ⟨hA, by rw [e]; exact hs, by rw [e]; exact hf⟩, rfl⟩
    · refine ph_aload_n (pc := 78) C d_M_darken_78 rfl ?_
      refine ph_iload (pc := 79) C d_M_darken_79 rfl ?_
      refine ph_iload_n (pc := 81) C d_M_darken_81 rfl ?_
      refine ph_callV (pc := 82) (rest := []) C d_M_darken_82 (c_M_due l D dT A KX L ad τ S1 o hA hs hV (lu S1 s0) s0 (lu_in hV (by omega)) hl) (cwV 2 C.hts (gdV tw_536 tw_538 se_34 tw_2 tw_539) rfl rfl rfl ⟨rfl, by decide, by decide, by decide⟩ ⟨by decide, by decide⟩) hA.live hA.ob rfl rfl rfl rfl rfl (Nat.le_of_ble_eq_true rfl) ⟨by decide, by decide⟩ ?_
      rintro r1 L1 ad1 τ1 ⟨g1, g2, g3, g4⟩; obtain rfl := g1.symm; obtain rfl := g2.symm; obtain rfl := g3.symm; subst g4
      refine ph_lload_n (pc := 85) C d_M_darken_85 rfl ?_
      refine ph_lsub (pc := 86) C d_M_darken_86 ?_
      refine ph_ldc2 (pc := 87) C d_M_darken_87 (-15) (by decide) tw_541 ?_
      refine ph_ldc2 (pc := 90) C d_M_darken_90 (15) (by decide) tw_542 ?_
      refine ph_callS (pc := 93) (rest := []) C d_M_darken_93 (c_M_isIn l D dT A KX L ad τ ((due S1 (lu S1 s0) s0) - (t)) (-15) (15) (by have := due_lu hV hl (by omega); omega) (by omega) (by omega)) (cwS 3 C.hts (gdS tw_494 tw_495 tw_2 tw_496) rfl rfl rfl ⟨rfl, by decide, by decide, by decide⟩ ⟨by decide, by decide⟩) rfl rfl (Nat.le_of_ble_eq_true rfl) ⟨by decide, by decide⟩ ?_
      rintro r1 L1 ad1 τ1 ⟨g1, g2, g3, g4⟩; obtain rfl := g1.symm; obtain rfl := g2.symm; obtain rfl := g3.symm; subst g4
      refine ph_bif_eq (pc := 96) (tgt := 123) C d_M_darken_96 (by decide) (fun c96 => ?_) (fun c96 => ?_)
      · refine ph_aload_n (pc := 123) C d_M_darken_123 rfl ?_
        refine ph_iconst (pc := 124) C d_M_darken_124 ?_
        refine ph_iload_n (pc := 125) C d_M_darken_125 rfl ?_
        refine ph_lload_n (pc := 126) C d_M_darken_126 rfl ?_
        refine ph_iconst (pc := 127) C d_M_darken_127 ?_
        refine ph_callV (pc := 128) (rest := []) C d_M_darken_128 (c_M_tell l D dT A KX L ad τ S1 o hA hs hV 1 (by decide) s0 hl t b ht hb hf) (cwV 4 C.hts (gdV tw_516 tw_518 se_29 tw_2 tw_519) rfl rfl rfl ⟨rfl, by decide, by decide, by decide⟩ ⟨by decide, by decide⟩) hA.live hA.ob rfl rfl rfl rfl rfl (Nat.le_of_ble_eq_true rfl) ⟨by decide, by decide⟩ ?_
        rintro r1 L1 ad1 τ ⟨g1, g2, ⟨hA, hs, hf⟩, g4⟩; obtain rfl := g1.symm; obtain rfl := g2.symm; subst g4
        refine ph_istore (pc := 131) C d_M_darken_131 (by decide) rfl ?_
        refine ph_aload_n (pc := 133) C d_M_darken_133 rfl ?_
        refine gt_M_13 (pc := 134) C d_M_darken_134 hA.live hA.ob (hA.rf (k := 2) rfl) ?_
        refine ph_iload_n (pc := 137) C d_M_darken_137 rfl ?_
        refine ph_iconst (pc := 138) C d_M_darken_138 ?_
        refine ph_zast (pc := 139) (z := 1) C d_M_darken_139 (by omega) (hA.ar (k := 2) rfl) rfl rfl rfl s0 rfl (by omega) (by decide) ?_
        have hs : MS (ph_up (tellS S1 1 (s0 : Int) ((dbm S1 s0 : Nat) : Int)) 1 s0 2 (1)) (ph_up τ 23 0 s0 (1)) := hs.sput (g := 23) (by decide) (by simp only [LC] at hl ⊢; first | exact hl | (simp only [up_ne _ (show (0 : Nat) ≠ 1 by decide), seeS_g (show (0 : Nat) ≠ 2 by decide), tellS_0 (show (1 : Nat) ≠ 5 by decide)]; exact hl)) (1)
        have hf : ph_up τ 23 0 s0 (1) 20 0 31 = fstv b (ph_up (tellS S1 1 (s0 : Int) ((dbm S1 s0 : Nat) : Int)) 1 s0 2 (1)) := by rw [up_ne _ (by decide), hf]; exact (fst_up (by decide)).symm
        have hA : MA o L ad (ph_up τ 23 0 s0 (1)) := hA.puta (k := 2) _
        generalize ph_up τ 23 0 s0 (1) = τ at hA hs hf ⊢
        refine ph_aload_n (pc := 140) C d_M_darken_140 rfl ?_
        refine gt_M_21 (pc := 141) C d_M_darken_141 hA.live hA.ob (hA.rf (k := 4) rfl) ?_
        refine ph_iload_n (pc := 144) C d_M_darken_144 rfl ?_
        refine ph_lload_n (pc := 145) C d_M_darken_145 rfl ?_
        refine ph_last (pc := 146) (z := t) C d_M_darken_146 (hA.ar (k := 4) rfl) rfl rfl rfl s0 rfl (by omega) (by decide) ?_
        have hs : MS (ph_up (ph_up (tellS S1 1 (s0 : Int) ((dbm S1 s0 : Nat) : Int)) 1 s0 2 (1)) 1 s0 4 (t)) (ph_up τ 25 0 s0 (t)) := hs.sput (g := 25) (by decide) (by simp only [LC] at hl ⊢; first | exact hl | (simp only [up_ne _ (show (0 : Nat) ≠ 1 by decide), seeS_g (show (0 : Nat) ≠ 2 by decide), tellS_0 (show (1 : Nat) ≠ 5 by decide)]; exact hl)) (t)
        have hf : ph_up τ 25 0 s0 (t) 20 0 31 = fstv b (ph_up (ph_up (tellS S1 1 (s0 : Int) ((dbm S1 s0 : Nat) : Int)) 1 s0 2 (1)) 1 s0 4 (t)) := by rw [up_ne _ (by decide), hf]; exact (fst_up (by decide)).symm
        have hA : MA o L ad (ph_up τ 25 0 s0 (t)) := hA.puta (k := 4) _
        generalize ph_up τ 25 0 s0 (t) = τ at hA hs hf ⊢
        refine ph_aload_n (pc := 147) C d_M_darken_147 rfl ?_
        refine gt_M_27 (pc := 148) C d_M_darken_148 hA.live hA.ob (hA.rf (k := 6) rfl) ?_
        refine ph_iload_n (pc := 151) C d_M_darken_151 rfl ?_
        refine ph_iconst (pc := 152) C d_M_darken_152 ?_
        refine ph_zast (pc := 153) (z := 0) C d_M_darken_153 (by omega) (hA.ar (k := 6) rfl) rfl rfl rfl s0 rfl (by omega) (by decide) ?_
        have hs : MS (ph_up (ph_up (ph_up (tellS S1 1 (s0 : Int) ((dbm S1 s0 : Nat) : Int)) 1 s0 2 (1)) 1 s0 4 (t)) 1 s0 5 (0)) (ph_up τ 27 0 s0 (0)) := hs.sput (g := 27) (by decide) (by simp only [LC] at hl ⊢; first | exact hl | (simp only [up_ne _ (show (0 : Nat) ≠ 1 by decide), seeS_g (show (0 : Nat) ≠ 2 by decide), tellS_0 (show (1 : Nat) ≠ 5 by decide)]; exact hl)) (0)
        have hf : ph_up τ 27 0 s0 (0) 20 0 31 = fstv b (ph_up (ph_up (ph_up (tellS S1 1 (s0 : Int) ((dbm S1 s0 : Nat) : Int)) 1 s0 2 (1)) 1 s0 4 (t)) 1 s0 5 (0)) := by rw [up_ne _ (by decide), hf]; exact (fst_up (by decide)).symm
        have hA : MA o L ad (ph_up τ 27 0 s0 (0)) := hA.puta (k := 6) _
        generalize ph_up τ 27 0 s0 (0) = τ at hA hs hf ⊢
        have e := dk_N hE (fun q => by have q1 := q.1; have q2 := q.2; rw [Int.toNat_natCast] at q2; omega) ht h3
        exact ph_vret (pc := 154) C d_M_darken_154 hr hlk (by decide) (by decide) ⟨rfl, rfl, ⟨hA, by rw [e]; exact hs, by rw [e]; exact hf⟩, rfl⟩
      · refine ph_aload_n (pc := 99) C d_M_darken_99 rfl ?_
        refine gt_M_39 (pc := 100) C d_M_darken_100 hA.live hA.ob (hA.rf (k := 11) rfl) ?_
        refine ph_bipush (pc := 103) C d_M_darken_103 (by decide) ?_
        refine ph_iload (pc := 105) C d_M_darken_105 rfl ?_
        refine ph_imul (pc := 107) C d_M_darken_107 ?_
        refine ph_iload_n (pc := 108) C d_M_darken_108 rfl ?_
        refine ph_iadd (pc := 109) C d_M_darken_109 ?_
        refine ph_iconst (pc := 110) C d_M_darken_110 ?_
        refine ph_zast (pc := 111) (z := 1) C d_M_darken_111 (by omega) (hA.ar (k := 11) rfl) rfl rfl rfl (8 * lu S1 s0 + s0) (by omega) (by omega) (by decide) ?_
        have hs : MS (seeS S1 (lu S1 s0) s0) (ph_up τ 32 0 (8 * lu S1 s0 + s0) (1)) := ms_see hs (lu_in hV (by omega)) (by omega)
        have hf : ph_up τ 32 0 (8 * lu S1 s0 + s0) (1) 20 0 31 = fstv b (seeS S1 (lu S1 s0) s0) := by rw [up_ne _ (by decide), hf]; exact (fst_up (by decide)).symm
        have hA : MA o L ad (ph_up τ 32 0 (8 * lu S1 s0 + s0) (1)) := hA.puta (k := 11) _
        generalize ph_up τ 32 0 (8 * lu S1 s0 + s0) (1) = τ at hA hs hf ⊢
        refine ph_aload_n (pc := 112) C d_M_darken_112 rfl ?_
        refine gt_M_24 (pc := 113) C d_M_darken_113 hA.live hA.ob (hA.rf (k := 5) rfl) ?_
        refine ph_iload_n (pc := 116) C d_M_darken_116 rfl ?_
        refine ph_iload (pc := 117) C d_M_darken_117 rfl ?_
        refine ph_iast (pc := 119) (z := ((lu S1 s0 : Nat) : Int)) C d_M_darken_119 (hA.ar (k := 5) rfl) rfl rfl rfl s0 rfl (by omega) (by decide) ?_
        have hs : MS (ph_up (seeS S1 (lu S1 s0) s0) 1 s0 3 (((lu S1 s0 : Nat) : Int))) (ph_up τ 26 0 s0 (((lu S1 s0 : Nat) : Int))) := hs.sput (g := 26) (by decide) (by simp only [LC] at hl ⊢; first | exact hl | (simp only [up_ne _ (show (0 : Nat) ≠ 1 by decide), seeS_g (show (0 : Nat) ≠ 2 by decide), tellS_0 (show (1 : Nat) ≠ 5 by decide)]; exact hl)) (((lu S1 s0 : Nat) : Int))
        have hf : ph_up τ 26 0 s0 (((lu S1 s0 : Nat) : Int)) 20 0 31 = fstv b (ph_up (seeS S1 (lu S1 s0) s0) 1 s0 3 (((lu S1 s0 : Nat) : Int))) := by rw [up_ne _ (by decide), hf]; exact (fst_up (by decide)).symm
        have hA : MA o L ad (ph_up τ 26 0 s0 (((lu S1 s0 : Nat) : Int))) := hA.puta (k := 5) _
        generalize ph_up τ 26 0 s0 (((lu S1 s0 : Nat) : Int)) = τ at hA hs hf ⊢
        refine ph_goto (pc := 120) (tgt := 133) C d_M_darken_120 (by decide) ?_
        refine ph_aload_n (pc := 133) C d_M_darken_133 rfl ?_
        refine gt_M_13 (pc := 134) C d_M_darken_134 hA.live hA.ob (hA.rf (k := 2) rfl) ?_
        refine ph_iload_n (pc := 137) C d_M_darken_137 rfl ?_
        refine ph_iconst (pc := 138) C d_M_darken_138 ?_
        refine ph_zast (pc := 139) (z := 1) C d_M_darken_139 (by omega) (hA.ar (k := 2) rfl) rfl rfl rfl s0 rfl (by omega) (by decide) ?_
        have hs : MS (ph_up (ph_up (seeS S1 (lu S1 s0) s0) 1 s0 3 (((lu S1 s0 : Nat) : Int))) 1 s0 2 (1)) (ph_up τ 23 0 s0 (1)) := hs.sput (g := 23) (by decide) (by simp only [LC] at hl ⊢; first | exact hl | (simp only [up_ne _ (show (0 : Nat) ≠ 1 by decide), seeS_g (show (0 : Nat) ≠ 2 by decide), tellS_0 (show (1 : Nat) ≠ 5 by decide)]; exact hl)) (1)
        have hf : ph_up τ 23 0 s0 (1) 20 0 31 = fstv b (ph_up (ph_up (seeS S1 (lu S1 s0) s0) 1 s0 3 (((lu S1 s0 : Nat) : Int))) 1 s0 2 (1)) := by rw [up_ne _ (by decide), hf]; exact (fst_up (by decide)).symm
        have hA : MA o L ad (ph_up τ 23 0 s0 (1)) := hA.puta (k := 2) _
        generalize ph_up τ 23 0 s0 (1) = τ at hA hs hf ⊢
        refine ph_aload_n (pc := 140) C d_M_darken_140 rfl ?_
        refine gt_M_21 (pc := 141) C d_M_darken_141 hA.live hA.ob (hA.rf (k := 4) rfl) ?_
        refine ph_iload_n (pc := 144) C d_M_darken_144 rfl ?_
        refine ph_lload_n (pc := 145) C d_M_darken_145 rfl ?_
        refine ph_last (pc := 146) (z := t) C d_M_darken_146 (hA.ar (k := 4) rfl) rfl rfl rfl s0 rfl (by omega) (by decide) ?_
        have hs : MS (ph_up (ph_up (ph_up (seeS S1 (lu S1 s0) s0) 1 s0 3 (((lu S1 s0 : Nat) : Int))) 1 s0 2 (1)) 1 s0 4 (t)) (ph_up τ 25 0 s0 (t)) := hs.sput (g := 25) (by decide) (by simp only [LC] at hl ⊢; first | exact hl | (simp only [up_ne _ (show (0 : Nat) ≠ 1 by decide), seeS_g (show (0 : Nat) ≠ 2 by decide), tellS_0 (show (1 : Nat) ≠ 5 by decide)]; exact hl)) (t)
        have hf : ph_up τ 25 0 s0 (t) 20 0 31 = fstv b (ph_up (ph_up (ph_up (seeS S1 (lu S1 s0) s0) 1 s0 3 (((lu S1 s0 : Nat) : Int))) 1 s0 2 (1)) 1 s0 4 (t)) := by rw [up_ne _ (by decide), hf]; exact (fst_up (by decide)).symm
        have hA : MA o L ad (ph_up τ 25 0 s0 (t)) := hA.puta (k := 4) _
        generalize ph_up τ 25 0 s0 (t) = τ at hA hs hf ⊢
        refine ph_aload_n (pc := 147) C d_M_darken_147 rfl ?_
        refine gt_M_27 (pc := 148) C d_M_darken_148 hA.live hA.ob (hA.rf (k := 6) rfl) ?_
        refine ph_iload_n (pc := 151) C d_M_darken_151 rfl ?_
        refine ph_iconst (pc := 152) C d_M_darken_152 ?_
        refine ph_zast (pc := 153) (z := 0) C d_M_darken_153 (by omega) (hA.ar (k := 6) rfl) rfl rfl rfl s0 rfl (by omega) (by decide) ?_
        have hs : MS (ph_up (ph_up (ph_up (ph_up (seeS S1 (lu S1 s0) s0) 1 s0 3 (((lu S1 s0 : Nat) : Int))) 1 s0 2 (1)) 1 s0 4 (t)) 1 s0 5 (0)) (ph_up τ 27 0 s0 (0)) := hs.sput (g := 27) (by decide) (by simp only [LC] at hl ⊢; first | exact hl | (simp only [up_ne _ (show (0 : Nat) ≠ 1 by decide), seeS_g (show (0 : Nat) ≠ 2 by decide), tellS_0 (show (1 : Nat) ≠ 5 by decide)]; exact hl)) (0)
        have hf : ph_up τ 27 0 s0 (0) 20 0 31 = fstv b (ph_up (ph_up (ph_up (ph_up (seeS S1 (lu S1 s0) s0) 1 s0 3 (((lu S1 s0 : Nat) : Int))) 1 s0 2 (1)) 1 s0 4 (t)) 1 s0 5 (0)) := by rw [up_ne _ (by decide), hf]; exact (fst_up (by decide)).symm
        have hA : MA o L ad (ph_up τ 27 0 s0 (0)) := hA.puta (k := 6) _
        generalize ph_up τ 27 0 s0 (0) = τ at hA hs hf ⊢
        have e := dk_T hE ⟨⟨by omega, by omega⟩, by rw [Int.toNat_natCast]; omega⟩ ht
        exact ph_vret (pc := 154) C d_M_darken_154 hr hlk (by decide) (by decide) ⟨rfl, rfl, ⟨hA, by rw [e]; exact hs, by rw [e]; exact hf⟩, rfl⟩
  have loop : ∀ (n : Nat) (S1 τ : ph_T), MA o L ad τ → MS S1 τ → IV S1 → GI S1 → τ 20 0 31 = fstv b S1 → (0 ≤ b ∧ b ≤ S1 0 0 5) → LC S1 1 s0 → S1 1 s0 2 = 0 → t = S1 0 0 11 → lsF s0 (S1 0 0 3).toNat 1 S1 = dkA S s0 → (lu S1 s0 = 0 ∨ S1 0 0 3 < (lu S1 s0 : Int) + n) → ph_W p l e ({ frames := 3, cells := 0, slots := 0, locals := 74 } : Room) s m [.ref (o), .int (ph_i ((s0 : Int))), .long (ph_l (t))].toArray below meth c D CLs dT kd A 6 (MQ below (ph_Q D CLs dT kd A (fun r L' ad' τ' => L' = L ∧ ad' = ad ∧ (MA o L ad τ' ∧ MS (bdS S s0) τ' ∧ τ' 20 0 31 = fstv b (bdS S s0)) ∧ r = none)) [.ref (o), .int (ph_i ((s0 : Int))), .long (ph_l (t))].toArray s 0 0 A) L ad τ 0 0 17 (ph_mk [(0, .ref (o)), (1, .int (ph_i ((s0 : Int)))), (2, .long (ph_l (t))), (4, .int (ph_i (((lu S1 s0 : Nat) : Int))))]) [] := by
    intro n
    induction n with
    | zero =>
      intro S1 τ hA hs hV hG hf hb hl hlt ht hE hx
      have hc := hV.c
      have hlu := lu_le hV s0
      have h3 := (hG.2.1 s0 hl).1 hlt
      have hl8 := id hl
      simp only [LC] at hl8
      refine ph_iload (pc := 17) C d_M_darken_17 rfl ?_
      refine ph_if_le (pc := 19) (tgt := 66) C d_M_darken_19 (by decide) (by first | omega | (have := hV.s hl; omega) | (have := due_lu hV hl (by omega); omega)) (fun c19 => ?_) (fun c19 => ?_)
      · refine ph_loc (l2 := [(0, .ref (o)), (1, .int (ph_i ((s0 : Int)))), (2, .long (ph_l (t))), (4, .int (ph_i (((lu S1 s0 : Nat) : Int))))]) ⟨rfl, rfl, rfl, rfl, trivial⟩ ?_
        exact tail S1 τ hA hs hV hG hf hb hl hlt ht (by rw [← hE]; exact lz_end hG.1 (by omega)) (by omega)
      · exfalso; omega
    | succ n ih =>
      intro S1 τ hA hs hV hG hf hb hl hlt ht hE hx
      have hc := hV.c
      have hlu := lu_le hV s0
      have h3 := (hG.2.1 s0 hl).1 hlt
      have hl8 := id hl
      simp only [LC] at hl8
      refine ph_iload (pc := 17) C d_M_darken_17 rfl ?_
      refine ph_if_le (pc := 19) (tgt := 66) C d_M_darken_19 (by decide) (by first | omega | (have := hV.s hl; omega) | (have := due_lu hV hl (by omega); omega)) (fun c19 => ?_) (fun c19 => ?_)
      · refine ph_loc (l2 := [(0, .ref (o)), (1, .int (ph_i ((s0 : Int)))), (2, .long (ph_l (t))), (4, .int (ph_i (((lu S1 s0 : Nat) : Int))))]) ⟨rfl, rfl, rfl, rfl, trivial⟩ ?_
        exact tail S1 τ hA hs hV hG hf hb hl hlt ht (by rw [← hE]; exact lz_end hG.1 (by omega)) (by omega)
      · refine ph_lload_n (pc := 22) C d_M_darken_22 rfl ?_
        refine ph_aload_n (pc := 23) C d_M_darken_23 rfl ?_
        refine ph_iload (pc := 24) C d_M_darken_24 rfl ?_
        refine ph_iload_n (pc := 26) C d_M_darken_26 rfl ?_
        refine ph_callV (pc := 27) (rest := [.long (ph_l (t))]) C d_M_darken_27 (c_M_due l D dT A KX L ad τ S1 o hA hs hV (lu S1 s0) s0 (lu_in hV (by omega)) hl) (cwV 2 C.hts (gdV tw_536 tw_538 se_34 tw_2 tw_539) rfl rfl rfl ⟨rfl, by decide, by decide, by decide⟩ ⟨by decide, by decide⟩) hA.live hA.ob rfl rfl rfl rfl rfl (Nat.le_of_ble_eq_true rfl) ⟨by decide, by decide⟩ ?_
        rintro r1 L1 ad1 τ1 ⟨g1, g2, g3, g4⟩; obtain rfl := g1.symm; obtain rfl := g2.symm; obtain rfl := g3.symm; subst g4
        refine ph_lsub (pc := 30) C d_M_darken_30 ?_
        refine ph_ldc2 (pc := 31) C d_M_darken_31 (16) (by decide) tw_540 ?_
        refine ph_l_lt (pc := 34) (tgt := 66) C d_M_darken_34 d_M_darken_35 (by decide) (by first | omega | (have := hV.s hl; omega) | (have := due_lu hV hl (by omega); omega)) (by first | omega | (have := hV.s hl; omega) | (have := due_lu hV hl (by omega); omega)) (fun c34 => ?_) (fun c34 => ?_)
        · refine ph_loc (l2 := [(0, .ref (o)), (1, .int (ph_i ((s0 : Int)))), (2, .long (ph_l (t))), (4, .int (ph_i (((lu S1 s0 : Nat) : Int))))]) ⟨rfl, rfl, rfl, rfl, trivial⟩ ?_
          exact tail S1 τ hA hs hV hG hf hb hl hlt ht (by rw [← hE]; exact lz_end hG.1 (by omega)) (by omega)
        · refine ph_aload_n (pc := 38) C d_M_darken_38 rfl ?_
          refine ph_iconst (pc := 39) C d_M_darken_39 ?_
          refine ph_iload_n (pc := 40) C d_M_darken_40 rfl ?_
          refine ph_lload_n (pc := 41) C d_M_darken_41 rfl ?_
          refine ph_iconst (pc := 42) C d_M_darken_42 ?_
          refine ph_callV (pc := 43) (rest := []) C d_M_darken_43 (c_M_tell l D dT A KX L ad τ S1 o hA hs hV 2 (by decide) s0 hl t b ht hb hf) (cwV 4 C.hts (gdV tw_516 tw_518 se_29 tw_2 tw_519) rfl rfl rfl ⟨rfl, by decide, by decide, by decide⟩ ⟨by decide, by decide⟩) hA.live hA.ob rfl rfl rfl rfl rfl (Nat.le_of_ble_eq_true rfl) ⟨by decide, by decide⟩ ?_
          rintro r1 L1 ad1 τ ⟨g1, g2, ⟨hA, hs, hf⟩, g4⟩; obtain rfl := g1.symm; obtain rfl := g2.symm; subst g4
          refine ph_istore (pc := 46) C d_M_darken_46 (by decide) rfl ?_
          refine ph_aload_n (pc := 48) C d_M_darken_48 rfl ?_
          refine gt_M_36 (pc := 49) C d_M_darken_49 hA.live hA.ob (hA.rf (k := 10) rfl) ?_
          refine ph_iload (pc := 52) C d_M_darken_52 rfl ?_
          refine ph_iconst (pc := 54) C d_M_darken_54 ?_
          refine ph_iast (pc := 55) (z := 1) C d_M_darken_55 (hA.ar (k := 10) rfl) rfl rfl rfl (lu S1 s0) rfl (by omega) (by decide) ?_
          have hs : MS (lz S1 s0 (lu S1 s0)) (ph_up τ 31 0 (lu S1 s0) (1)) := ms_take hs (by simp only [LC, tellS_0 (show (3 : Nat) ≠ 5 by decide)]; omega) _
          have hf : ph_up τ 31 0 (lu S1 s0) (1) 20 0 31 = fstv b (lz S1 s0 (lu S1 s0)) := by rw [up_ne _ (by decide), hf]; exact fst_take.symm
          have hA : MA o L ad (ph_up τ 31 0 (lu S1 s0) (1)) := hA.puta (k := 10) _
          generalize ph_up τ 31 0 (lu S1 s0) (1) = τ at hA hs hf ⊢
          refine ph_aload_n (pc := 56) C d_M_darken_56 rfl ?_
          refine ph_iload_n (pc := 57) C d_M_darken_57 rfl ?_
          refine ph_callV (pc := 58) (rest := []) C d_M_darken_58 (c_M_next l D dT A KX L ad τ (lz S1 s0 (lu S1 s0)) o hA hs (iv_lz hV hl) s0 (LC1 (lz_0 (by decide)) hl)) (cwV 1 C.hts (gdV tw_532 tw_534 se_33 tw_2 tw_535) rfl rfl rfl ⟨rfl, by decide, by decide, by decide⟩ ⟨by decide, by decide⟩) hA.live hA.ob rfl rfl rfl rfl rfl (Nat.le_of_ble_eq_true rfl) ⟨by decide, by decide⟩ ?_
          rintro r1 L1 ad1 τ1 ⟨g1, g2, g3, g4⟩; obtain rfl := g1.symm; obtain rfl := g2.symm; obtain rfl := g3.symm; subst g4
          refine ph_istore (pc := 61) C d_M_darken_61 (by decide) rfl ?_
          refine ph_goto (pc := 63) (tgt := 17) C d_M_darken_63 (by decide) ?_
          refine ph_loc (l2 := [(0, .ref (o)), (1, .int (ph_i ((s0 : Int)))), (2, .long (ph_l (t))), (4, .int (ph_i (((lu (lz S1 s0 (lu S1 s0)) s0 : Nat) : Int))))]) ⟨rfl, rfl, rfl, rfl, trivial⟩ ?_
          exact ih (lz S1 s0 (lu S1 s0)) τ hA hs (iv_lz hV hl) (gi_lz hG hV) hf (by have := tell5_ge (S := S1) (k := 2) (s := (s0 : Int)) (db := ((dbm S1 s0 : Nat) : Int)); unfold lz; rw [takeS_g (by decide)]; omega) (LC1 (lz_0 (by decide)) hl) (by rw [lz_1]; exact hlt) (by rw [lz_0 (by decide)]; exact ht) (by rw [lz_0 (by decide), lz_lose hV rfl (by omega) ⟨(lu_at (by omega)).1, by omega⟩]; exact hE) (by have := lz_up hV (s := s0) rfl (show lu S1 s0 ≠ 0 by omega); rw [lz_0 (by decide)]; omega)
  refine ph_aload_n (pc := 0) C d_M_darken_0 rfl ?_
  refine gt_M_17 (pc := 1) C d_M_darken_1 hA.live hA.ob (hA.rf (k := 3) rfl) ?_
  refine ph_iload_n (pc := 4) C d_M_darken_4 rfl ?_
  refine ph_dup2_11 (pc := 5) C d_M_darken_5 rfl rfl ?_
  refine ph_iald (pc := 6) C d_M_darken_6 (hA.ar (k := 3) rfl) rfl rfl rfl s0 rfl (by have := hl; simp only [LC] at this; omega) (by decide) ?_
  refine ph_ti (y := S 1 s0 1) (hs.s24 hl) ?_
  refine ph_iconst (pc := 7) C d_M_darken_7 ?_
  refine ph_iadd (pc := 8) C d_M_darken_8 ?_
  refine ph_iast (pc := 9) (z := (S 1 s0 1) + (1)) C d_M_darken_9 (hA.ar (k := 3) rfl) rfl rfl rfl s0 rfl (by have := hl; simp only [LC] at this; omega) (by decide) ?_
  have hs : MS (ph_up S 1 s0 1 ((S 1 s0 1) + (1))) (ph_up τ 24 0 s0 ((S 1 s0 1) + (1))) := hs.sput (g := 24) (by decide) hl ((S 1 s0 1) + (1))
  have hf : ph_up τ 24 0 s0 ((S 1 s0 1) + (1)) 20 0 31 = fstv b (ph_up S 1 s0 1 ((S 1 s0 1) + (1))) := by rw [up_ne _ (by decide), hf]; exact (fst_up (by decide)).symm
  have hA : MA o L ad (ph_up τ 24 0 s0 ((S 1 s0 1) + (1))) := hA.puta (k := 3) _
  generalize ph_up τ 24 0 s0 ((S 1 s0 1) + (1)) = τ at hA hs hf ⊢
  refine ph_aload_n (pc := 10) C d_M_darken_10 rfl ?_
  refine ph_iload_n (pc := 11) C d_M_darken_11 rfl ?_
  have hV0 : IV (ph_up S 1 s0 1 ((S 1 s0 1) + (1))) := hV.upS (by omega) (by omega) (by omega) (by omega) (by omega)
  refine ph_callV (pc := 12) (rest := []) C d_M_darken_12 (c_M_next l D dT A KX L ad τ (ph_up S 1 s0 1 ((S 1 s0 1) + (1))) o hA hs hV0 s0 (LC1 (up_ne _ (by decide)) hl)) (cwV 1 C.hts (gdV tw_532 tw_534 se_33 tw_2 tw_535) rfl rfl rfl ⟨rfl, by decide, by decide, by decide⟩ ⟨by decide, by decide⟩) hA.live hA.ob rfl rfl rfl rfl rfl (Nat.le_of_ble_eq_true rfl) ⟨by decide, by decide⟩ ?_
  rintro r1 L1 ad1 τ1 ⟨g1, g2, g3, g4⟩; obtain rfl := g1.symm; obtain rfl := g2.symm; obtain rfl := g3.symm; subst g4
  refine ph_istore (pc := 15) C d_M_darken_15 (by decide) rfl ?_
  refine ph_loc (l2 := [(0, .ref (o)), (1, .int (ph_i ((s0 : Int)))), (2, .long (ph_l (t))), (4, .int (ph_i (((lu (ph_up S 1 s0 1 ((S 1 s0 1) + (1))) s0 : Nat) : Int))))]) ⟨rfl, rfl, rfl, rfl, trivial⟩ ?_
  exact loop ((S 0 0 3).toNat + 1) (ph_up S 1 s0 1 ((S 1 s0 1) + (1))) τ hA hs hV0 (hG.sup _ (by decide)) hf (by rw [up_ne _ (by decide)]; exact hb) (LC1 (up_ne _ (by decide)) hl) (by rw [ph_up_no _ _ (by omega)]; exact hlt) (by rw [up_ne _ (by decide)]; exact ht) rfl (by rw [up_ne _ (by decide)]; omega)
