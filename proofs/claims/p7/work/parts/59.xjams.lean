/-! ===== due, next, jams of the other side ===== -/
set_option maxHeartbeats 4000000 in
set_option maxRecDepth 100000 in
theorem c_M_due (l : Launch) (D : va_G) (dT : Nat → ClassId) (A : Nat → Prop) (KX : State → Prop) (L : Nat → Nat → Prop) (ad : Nat → Nat → Nat) (τ : ph_T) (S : ph_T) (o : Nat) (hA : MA o L ad τ) (hs : MS S τ) (hV : IV S) (i s0 : Nat) (hi : LC S 2 i) (hl : LC S 1 s0) : ph_M l y_M_due (.code y_M_due b_M_due 3 (some .long) :: TB) ({ frames := 0, cells := 0, slots := 0, locals := 0 } : Room) D CLs (TY dT) dT kd A KX [.ref (o), .int (ph_i ((i : Int))), .int (ph_i ((s0 : Int)))] L ad τ (fun r L' ad' τ' => L' = L ∧ ad' = ad ∧ τ' = τ ∧ r = some (.long (ph_l (due S i s0)))) 0 0 := by
  refine ph_M.of (cc := b_M_due) (maxL := 3) (ret := (some .long)) (by decide) rfl (Nat.le_of_ble_eq_true rfl) ?_
  intro p e s m below meth c C0 hr hlk hnm
  have C := C0.sub
  refine ph_loc (l2 := [(0, .ref (o)), (1, .int (ph_i ((i : Int)))), (2, .int (ph_i ((s0 : Int))))]) ⟨rfl, rfl, rfl, trivial⟩ ?_
  have hc := hV.c
  have hm := hs.ml.r
  refine ph_aload_n (pc := 0) C d_M_due_0 rfl ?_
  refine gt_M_33 (pc := 1) C d_M_due_1 hA.live hA.ob (hA.rf (k := 9) rfl) ?_
  refine ph_iload_n (pc := 4) C d_M_due_4 rfl ?_
  refine ph_lald (pc := 5) C d_M_due_5 (hA.ar (k := 9) rfl) rfl rfl rfl i rfl (by have := hi; simp only [LC] at this; omega) (by decide) ?_
  refine ph_tl (y := S 2 i 1) (hs.i30 hi) ?_
  refine ph_aload_n (pc := 6) C d_M_due_6 rfl ?_
  refine gt_M_7 (pc := 7) C d_M_due_7 hA.live hA.ob (hA.rf (k := 1) rfl) ?_
  refine ph_iload_n (pc := 10) C d_M_due_10 rfl ?_
  refine ph_lald (pc := 11) C d_M_due_11 (hA.ar (k := 1) rfl) rfl rfl rfl s0 rfl (by have := hl; simp only [LC] at this; omega) (by decide) ?_
  refine ph_tl (y := S 1 s0 0) (hs.s22 hl) ?_
  refine ph_ladd (pc := 12) C d_M_due_12 ?_
  exact ph_lret (pc := 13) C d_M_due_13 hr hlk (by decide) (by decide) ⟨rfl, rfl, rfl, rfl⟩
set_option maxHeartbeats 4000000 in
set_option maxRecDepth 100000 in
theorem c_M_next (l : Launch) (D : va_G) (dT : Nat → ClassId) (A : Nat → Prop) (KX : State → Prop) (L : Nat → Nat → Prop) (ad : Nat → Nat → Nat) (τ : ph_T) (S : ph_T) (o : Nat) (hA : MA o L ad τ) (hs : MS S τ) (hV : IV S) (s0 : Nat) (hl : LC S 1 s0) : ph_M l y_M_next (.code y_M_next b_M_next 3 (some .int) :: TB) ({ frames := 1, cells := 0, slots := 0, locals := 22 } : Room) D CLs (TY dT) dT kd A KX [.ref (o), .int (ph_i ((s0 : Int)))] L ad τ (fun r L' ad' τ' => L' = L ∧ ad' = ad ∧ τ' = τ ∧ r = some (.int (ph_i ((lu S s0 : Nat) : Int)))) 0 0 := by
  refine ph_M.of (cc := b_M_next) (maxL := 3) (ret := (some .int)) (by decide) rfl (Nat.le_of_ble_eq_true rfl) ?_
  intro p e s m below meth c C0 hr hlk hnm
  have C := C0.sub
  refine ph_loc (l2 := [(0, .ref (o)), (1, .int (ph_i ((s0 : Int))))]) ⟨rfl, rfl, trivial⟩ ?_
  have hc := hV.c
  have hm := hs.ml.r
  have hs8 := id hl
  simp only [LC] at hs8
  have loop : ∀ (n : Nat) (i : Nat), 1 ≤ i → S 0 0 3 = (i : Int) + n - 1 → luF S s0 n i = lu S s0 → ph_W p l e ({ frames := 1, cells := 0, slots := 0, locals := 22 } : Room) s m [.ref (o), .int (ph_i ((s0 : Int)))].toArray below meth c D CLs dT kd A 3 (MQ below (ph_Q D CLs dT kd A (fun r L' ad' τ' => L' = L ∧ ad' = ad ∧ τ' = τ ∧ r = some (.int (ph_i ((lu S s0 : Nat) : Int))))) [.ref (o), .int (ph_i ((s0 : Int)))].toArray s 0 0 A) L ad τ 0 0 2 (ph_mk [(0, .ref (o)), (1, .int (ph_i ((s0 : Int)))), (2, .int (ph_i ((i : Int))))]) [] := by
    intro n
    induction n with
    | zero =>
      intro i h0 h1 h2
      refine ph_iload_n (pc := 2) C d_M_next_2 rfl ?_
      refine ph_aload_n (pc := 3) C d_M_next_3 rfl ?_
      refine gt_M_104 (pc := 4) C d_M_next_4 hA.live hA.ob (z := S 0 0 3) hs.c7 ?_
      refine ph_icmp_gt (pc := 7) (tgt := 36) C d_M_next_7 (by decide) (by first | omega | (have := stm_r (z := S 2 i 5) (by have := hV.i (show LC S 2 i by simp only [LC]; omega); omega); omega)) (by first | omega | (have := stm_r (z := S 2 i 5) (by have := hV.i (show LC S 2 i by simp only [LC]; omega); omega); omega)) (fun c7 => ?_) (fun c7 => ?_)
      · refine ph_iconst (pc := 36) C d_M_next_36 ?_
        exact ph_iret (pc := 37) C d_M_next_37 hr hlk rfl (by decide) (by decide) ⟨rfl, rfl, rfl, (by rw [← h2]; rfl)⟩
      · exfalso; omega
    | succ n ih =>
      intro i h0 h1 h2
      refine ph_iload_n (pc := 2) C d_M_next_2 rfl ?_
      refine ph_aload_n (pc := 3) C d_M_next_3 rfl ?_
      refine gt_M_104 (pc := 4) C d_M_next_4 hA.live hA.ob (z := S 0 0 3) hs.c7 ?_
      refine ph_icmp_gt (pc := 7) (tgt := 36) C d_M_next_7 (by decide) (by first | omega | (have := stm_r (z := S 2 i 5) (by have := hV.i (show LC S 2 i by simp only [LC]; omega); omega); omega)) (by first | omega | (have := stm_r (z := S 2 i 5) (by have := hV.i (show LC S 2 i by simp only [LC]; omega); omega); omega)) (fun c7 => ?_) (fun c7 => ?_)
      · exfalso; omega
      · have hst := stm_0 (z := S 2 i 5) (by have := hV.i (show LC S 2 i by simp only [LC]; omega); omega)
        refine ph_aload_n (pc := 10) C d_M_next_10 rfl ?_
        refine gt_M_36 (pc := 11) C d_M_next_11 hA.live hA.ob (hA.rf (k := 10) rfl) ?_
        refine ph_iload_n (pc := 14) C d_M_next_14 rfl ?_
        refine ph_iald (pc := 15) C d_M_next_15 (hA.ar (k := 10) rfl) rfl rfl rfl i rfl (by have := (show LC S 2 i by simp only [LC]; omega); simp only [LC] at this; omega) (by decide) ?_
        refine ph_ti (y := stm (S 2 i 5)) (hs.i31 (show LC S 2 i by simp only [LC]; omega)) ?_
        refine ph_if_ne (pc := 16) (tgt := 30) C d_M_next_16 (by decide) (by first | omega | (have := stm_r (z := S 2 i 5) (by have := hV.i (show LC S 2 i by simp only [LC]; omega); omega); omega)) (fun c16 => ?_) (fun c16 => ?_)
        · refine ph_iinc (pc := 30) C d_M_next_30 rfl rfl ?_
          refine ph_goto (pc := 33) (tgt := 2) C d_M_next_33 (by decide) ?_
          refine ph_loc (l2 := [(0, .ref (o)), (1, .int (ph_i ((s0 : Int)))), (2, .int (ph_i (((i + 1 : Nat) : Int))))]) ⟨rfl, rfl, rfl, trivial⟩ ?_
          exact ih (i + 1) (by omega) (by omega) (by rw [← h2, luF_f (fun q => by first | exact absurd (hst.mpr q.1) (by assumption) | exact absurd (by assumption) q.2)])
        · refine ph_aload_n (pc := 19) C d_M_next_19 rfl ?_
          refine ph_iload_n (pc := 20) C d_M_next_20 rfl ?_
          refine ph_iload_n (pc := 21) C d_M_next_21 rfl ?_
          refine ph_callV (pc := 22) (rest := []) C d_M_next_22 (c_M_isSeen l D dT A KX L ad τ S o hA hs hV i s0 (show LC S 2 i by simp only [LC]; omega) (by omega)) (cwV 2 C.hts (gdV tw_524 tw_526 se_31 tw_2 tw_527) rfl rfl rfl ⟨rfl, by decide, by decide, by decide⟩ ⟨by decide, by decide⟩) hA.live hA.ob rfl rfl rfl rfl rfl (Nat.le_of_ble_eq_true rfl) ⟨by decide, by decide⟩ ?_
          rintro r1 L1 ad1 τ1 ⟨g1, g2, g3, g4⟩; obtain rfl := g1.symm; obtain rfl := g2.symm; obtain rfl := g3.symm; subst g4
          refine ph_bif_ne (pc := 25) (tgt := 30) C d_M_next_25 (by decide) (fun c25 => ?_) (fun c25 => ?_)
          · refine ph_iinc (pc := 30) C d_M_next_30 rfl rfl ?_
            refine ph_goto (pc := 33) (tgt := 2) C d_M_next_33 (by decide) ?_
            refine ph_loc (l2 := [(0, .ref (o)), (1, .int (ph_i ((s0 : Int)))), (2, .int (ph_i (((i + 1 : Nat) : Int))))]) ⟨rfl, rfl, rfl, trivial⟩ ?_
            exact ih (i + 1) (by omega) (by omega) (by rw [← h2, luF_f (fun q => by first | exact absurd (hst.mpr q.1) (by assumption) | exact absurd (by assumption) q.2)])
          · refine ph_iload_n (pc := 28) C d_M_next_28 rfl ?_
            exact ph_iret (pc := 29) C d_M_next_29 hr hlk rfl (by decide) (by decide) ⟨rfl, rfl, rfl, (by rw [← h2, luF_t ⟨hst.mp (by assumption), by assumption⟩])⟩
  refine ph_iconst (pc := 0) C d_M_next_0 ?_
  refine ph_istore_n (pc := 1) C d_M_next_1 (by decide) rfl ?_
  refine ph_loc (l2 := [(0, .ref (o)), (1, .int (ph_i ((s0 : Int)))), (2, .int (ph_i (((1 : Nat) : Int))))]) ⟨rfl, rfl, rfl, trivial⟩ ?_
  exact loop (S 0 0 3).toNat 1 (by omega) (by omega) rfl
set_option maxHeartbeats 4000000 in
set_option maxRecDepth 100000 in
theorem c_M_jams (l : Launch) (D : va_G) (dT : Nat → ClassId) (A : Nat → Prop) (KX : State → Prop) (L : Nat → Nat → Prop) (ad : Nat → Nat → Nat) (τ : ph_T) (S : ph_T) (o : Nat) (hA : MA o L ad τ) (hs : MS S τ) (hV : IV S) (t b : Int) (ht : t = S 0 0 11) (hb : 0 ≤ b ∧ b ≤ S 0 0 5) (hf : τ 20 0 31 = fstv b S) : ph_M l y_M_jams (.code y_M_jams b_M_jams 7 none :: TB) ({ frames := 3, cells := 0, slots := 0, locals := 74 } : Room) D CLs (TY dT) dT kd A KX [.ref (o), .long (ph_l (t))] L ad τ (fun r L' ad' τ' => L' = L ∧ ad' = ad ∧ (MA o L ad τ' ∧ MS (jamsS S) τ' ∧ τ' 20 0 31 = fstv b (jamsS S)) ∧ r = none) 0 0 := by
  refine ph_M.of (cc := b_M_jams) (maxL := 7) (ret := none) (by decide) rfl (Nat.le_of_ble_eq_true rfl) ?_
  intro p e s m below meth c C0 hr hlk hnm
  have C := C0.sub
  refine ph_loc (l2 := [(0, .ref (o)), (1, .long (ph_l (t)))]) ⟨rfl, rfl, trivial⟩ ?_
  have hc := hV.c
  have hm := hs.ml.r
  have loop : ∀ (n : Nat) (s0 : Nat) (S1 τ : ph_T), MA o L ad τ → MS S1 τ → IV S1 → τ 20 0 31 = fstv b S1 → (0 ≤ b ∧ b ≤ S1 0 0 5) → S1 0 0 1 = (s0 : Int) + n → t = S1 0 0 11 → tjF n s0 S1 = jamsS S → ph_W p l e ({ frames := 3, cells := 0, slots := 0, locals := 74 } : Room) s m [.ref (o), .long (ph_l (t))].toArray below meth c D CLs dT kd A 7 (MQ below (ph_Q D CLs dT kd A (fun r L' ad' τ' => L' = L ∧ ad' = ad ∧ (MA o L ad τ' ∧ MS (jamsS S) τ' ∧ τ' 20 0 31 = fstv b (jamsS S)) ∧ r = none)) [.ref (o), .long (ph_l (t))].toArray s 0 0 A) L ad τ 0 0 2 (ph_mk [(0, .ref (o)), (1, .long (ph_l (t))), (3, .int (ph_i ((s0 : Int))))]) [] := by
    intro n
    induction n with
    | zero =>
      intro s0 S1 τ hA hs hV hf hb h1 h2 h5
      have hc := hV.c
      refine ph_iload_n (pc := 2) C d_M_jams_2 rfl ?_
      refine ph_aload_n (pc := 3) C d_M_jams_3 rfl ?_
      refine gt_M_93 (pc := 4) C d_M_jams_4 hA.live hA.ob (z := S1 0 0 1) hs.c0 ?_
      refine ph_icmp_ge (pc := 7) (tgt := 95) C d_M_jams_7 (by decide) (by first | omega | (have := hV.s (show LC S1 1 s0 by simp only [LC]; omega); omega) | (have := hV.s (show LC S1 1 s0 by simp only [LC]; omega); have := lenAt_r hV s0; omega)) (by first | omega | (have := hV.s (show LC S1 1 s0 by simp only [LC]; omega); omega) | (have := hV.s (show LC S1 1 s0 by simp only [LC]; omega); have := lenAt_r hV s0; omega)) (fun c7 => ?_) (fun c7 => ?_)
      · exact ph_vret (pc := 95) C d_M_jams_95 hr hlk (by decide) (by decide) ⟨rfl, rfl, ⟨hA, by rw [← h5]; exact hs, by rw [← h5]; exact hf⟩, rfl⟩
      · exfalso; omega
    | succ n ih =>
      intro s0 S1 τ hA hs hV hf hb h1 h2 h5
      have hc := hV.c
      refine ph_iload_n (pc := 2) C d_M_jams_2 rfl ?_
      refine ph_aload_n (pc := 3) C d_M_jams_3 rfl ?_
      refine gt_M_93 (pc := 4) C d_M_jams_4 hA.live hA.ob (z := S1 0 0 1) hs.c0 ?_
      refine ph_icmp_ge (pc := 7) (tgt := 95) C d_M_jams_7 (by decide) (by first | omega | (have := hV.s (show LC S1 1 s0 by simp only [LC]; omega); omega) | (have := hV.s (show LC S1 1 s0 by simp only [LC]; omega); have := lenAt_r hV s0; omega)) (by first | omega | (have := hV.s (show LC S1 1 s0 by simp only [LC]; omega); omega) | (have := hV.s (show LC S1 1 s0 by simp only [LC]; omega); have := lenAt_r hV s0; omega)) (fun c7 => ?_) (fun c7 => ?_)
      · exfalso; omega
      · refine ph_ldc2 (pc := 10) C d_M_jams_10 (500) (by decide) tw_515 ?_
        refine ph_aload_n (pc := 13) C d_M_jams_13 rfl ?_
        refine gt_M_24 (pc := 14) C d_M_jams_14 hA.live hA.ob (hA.rf (k := 5) rfl) ?_
        refine ph_iload_n (pc := 17) C d_M_jams_17 rfl ?_
        refine ph_iald (pc := 18) C d_M_jams_18 (hA.ar (k := 5) rfl) rfl rfl rfl s0 rfl (by have := (show LC S1 1 s0 by simp only [LC]; omega); simp only [LC] at this; omega) (by decide) ?_
        refine ph_ti (y := S1 1 s0 3) (hs.s26 (show LC S1 1 s0 by simp only [LC]; omega)) ?_
        refine ph_if_le (pc := 19) (tgt := 36) C d_M_jams_19 (by decide) (by first | omega | (have := hV.s (show LC S1 1 s0 by simp only [LC]; omega); omega) | (have := hV.s (show LC S1 1 s0 by simp only [LC]; omega); have := lenAt_r hV s0; omega)) (fun c19 => ?_) (fun c19 => ?_)
        · refine ph_lconst (pc := 36) C d_M_jams_36 0 (by decide) ?_
          have hle : lenAt S1 s0 = 0 := by first | (rw [lenAt, if_pos (by have := hV.s (show LC S1 1 s0 by simp only [LC]; omega); omega)]) | (rw [lenAt, if_neg (by omega)])
          refine ph_tl (y := lenAt S1 s0) hle.symm ?_
          clear hle
          refine ph_ladd (pc := 37) C d_M_jams_37 ?_
          refine ph_lstore (pc := 38) C d_M_jams_38 (by decide) rfl ?_
          refine ph_aload_n (pc := 40) C d_M_jams_40 rfl ?_
          refine gt_M_13 (pc := 41) C d_M_jams_41 hA.live hA.ob (hA.rf (k := 2) rfl) ?_
          refine ph_iload_n (pc := 44) C d_M_jams_44 rfl ?_
          refine ph_zald (pc := 45) C d_M_jams_45 (hA.ar (k := 2) rfl) rfl rfl rfl s0 rfl (by have := (show LC S1 1 s0 by simp only [LC]; omega); simp only [LC] at this; omega) (by decide) ?_
          refine ph_ti (y := S1 1 s0 2) (hs.s23 (show LC S1 1 s0 by simp only [LC]; omega)) ?_
          refine ph_if_eq (pc := 46) (tgt := 89) C d_M_jams_46 (by decide) (by first | omega | (have := hV.s (show LC S1 1 s0 by simp only [LC]; omega); omega) | (have := hV.s (show LC S1 1 s0 by simp only [LC]; omega); have := lenAt_r hV s0; omega)) (fun c46 => ?_) (fun c46 => ?_)
          · refine ph_iinc (pc := 89) C d_M_jams_89 rfl rfl ?_
            refine ph_goto (pc := 92) (tgt := 2) C d_M_jams_92 (by decide) ?_
            refine ph_loc (l2 := [(0, .ref (o)), (1, .long (ph_l (t))), (3, .int (ph_i (((s0 + 1 : Nat) : Int))))]) ⟨rfl, rfl, rfl, trivial⟩ ?_
            exact ih (s0 + 1) S1 τ hA hs hV hf hb (by omega) (by omega) (by rw [← h5, tjF_s, jamS_f (fun q => by have q1 := q.1; have q2 := q.2.1; have q3 := q.2.2; omega)])
          · refine ph_aload_n (pc := 49) C d_M_jams_49 rfl ?_
            refine gt_M_27 (pc := 50) C d_M_jams_50 hA.live hA.ob (hA.rf (k := 6) rfl) ?_
            refine ph_iload_n (pc := 53) C d_M_jams_53 rfl ?_
            refine ph_zald (pc := 54) C d_M_jams_54 (hA.ar (k := 6) rfl) rfl rfl rfl s0 rfl (by have := (show LC S1 1 s0 by simp only [LC]; omega); simp only [LC] at this; omega) (by decide) ?_
            refine ph_ti (y := S1 1 s0 5) (hs.s27 (show LC S1 1 s0 by simp only [LC]; omega)) ?_
            refine ph_if_ne (pc := 55) (tgt := 89) C d_M_jams_55 (by decide) (by first | omega | (have := hV.s (show LC S1 1 s0 by simp only [LC]; omega); omega) | (have := hV.s (show LC S1 1 s0 by simp only [LC]; omega); have := lenAt_r hV s0; omega)) (fun c55 => ?_) (fun c55 => ?_)
            · refine ph_iinc (pc := 89) C d_M_jams_89 rfl rfl ?_
              refine ph_goto (pc := 92) (tgt := 2) C d_M_jams_92 (by decide) ?_
              refine ph_loc (l2 := [(0, .ref (o)), (1, .long (ph_l (t))), (3, .int (ph_i (((s0 + 1 : Nat) : Int))))]) ⟨rfl, rfl, rfl, trivial⟩ ?_
              exact ih (s0 + 1) S1 τ hA hs hV hf hb (by omega) (by omega) (by rw [← h5, tjF_s, jamS_f (fun q => by have q1 := q.1; have q2 := q.2.1; have q3 := q.2.2; omega)])
            · refine ph_lload_n (pc := 58) C d_M_jams_58 rfl ?_
              refine ph_aload_n (pc := 59) C d_M_jams_59 rfl ?_
              refine gt_M_21 (pc := 60) C d_M_jams_60 hA.live hA.ob (hA.rf (k := 4) rfl) ?_
              refine ph_iload_n (pc := 63) C d_M_jams_63 rfl ?_
              refine ph_lald (pc := 64) C d_M_jams_64 (hA.ar (k := 4) rfl) rfl rfl rfl s0 rfl (by have := (show LC S1 1 s0 by simp only [LC]; omega); simp only [LC] at this; omega) (by decide) ?_
              refine ph_tl (y := S1 1 s0 4) (hs.s25 (show LC S1 1 s0 by simp only [LC]; omega)) ?_
              refine ph_lsub (pc := 65) C d_M_jams_65 ?_
              refine ph_lload (pc := 66) C d_M_jams_66 rfl ?_
              refine ph_l_le (pc := 68) (tgt := 89) C d_M_jams_68 d_M_jams_69 (by decide) (by first | omega | (have := hV.s (show LC S1 1 s0 by simp only [LC]; omega); omega) | (have := hV.s (show LC S1 1 s0 by simp only [LC]; omega); have := lenAt_r hV s0; omega)) (by first | omega | (have := hV.s (show LC S1 1 s0 by simp only [LC]; omega); omega) | (have := hV.s (show LC S1 1 s0 by simp only [LC]; omega); have := lenAt_r hV s0; omega)) (fun c68 => ?_) (fun c68 => ?_)
              · refine ph_iinc (pc := 89) C d_M_jams_89 rfl rfl ?_
                refine ph_goto (pc := 92) (tgt := 2) C d_M_jams_92 (by decide) ?_
                refine ph_loc (l2 := [(0, .ref (o)), (1, .long (ph_l (t))), (3, .int (ph_i (((s0 + 1 : Nat) : Int))))]) ⟨rfl, rfl, rfl, trivial⟩ ?_
                exact ih (s0 + 1) S1 τ hA hs hV hf hb (by omega) (by omega) (by rw [← h5, tjF_s, jamS_f (fun q => by have q1 := q.1; have q2 := q.2.1; have q3 := q.2.2; omega)])
              · have hjc : jamC S1 s0 := ⟨by omega, by omega, by omega⟩
                refine ph_aload_n (pc := 72) C d_M_jams_72 rfl ?_
                refine gt_M_27 (pc := 73) C d_M_jams_73 hA.live hA.ob (hA.rf (k := 6) rfl) ?_
                refine ph_iload_n (pc := 76) C d_M_jams_76 rfl ?_
                refine ph_iconst (pc := 77) C d_M_jams_77 ?_
                refine ph_zast (pc := 78) (z := 1) C d_M_jams_78 (by omega) (hA.ar (k := 6) rfl) rfl rfl rfl s0 rfl (by have := (show LC S1 1 s0 by simp only [LC]; omega); simp only [LC] at this; omega) (by decide) ?_
                have hf : ph_up τ 27 0 s0 (1) 20 0 31 = fstv b S1 := by rw [up_ne _ (by decide)]; exact hf
                have hs : MS (ph_up S1 1 s0 5 (1)) (ph_up τ 27 0 s0 (1)) := hs.sput (g := 27) (by decide) (show LC S1 1 s0 by simp only [LC]; omega) 1
                have hA : MA o L ad (ph_up τ 27 0 s0 (1)) := hA.puta (k := 6) _
                generalize ph_up τ 27 0 s0 (1) = τ at hA hs hf ⊢
                have hVj : IV (ph_up S1 1 s0 5 (1)) := hV.upS (by omega) (by omega) (by omega) (by omega) (by omega)
                have j0 : ∀ q, (ph_up S1 1 s0 5 (1)) 0 0 q = S1 0 0 q := fun q => up_ne _ (by decide)
                refine ph_aload_n (pc := 79) C d_M_jams_79 rfl ?_
                refine ph_iconst (pc := 80) C d_M_jams_80 ?_
                refine ph_iload_n (pc := 81) C d_M_jams_81 rfl ?_
                refine ph_lload_n (pc := 82) C d_M_jams_82 rfl ?_
                refine ph_iconst (pc := 83) C d_M_jams_83 ?_
                refine ph_callV (pc := 84) (rest := []) C d_M_jams_84 (c_M_tell l D dT A KX L ad τ (ph_up S1 1 s0 5 (1)) o hA hs hVj 5 (by decide) s0 (by simp only [LC, j0]; omega) t b (by rw [j0]; omega) (by rw [j0]; omega) (by rw [hf]; unfold fstv; rw [j0])) (cwV 4 C.hts (gdV tw_516 tw_518 se_29 tw_2 tw_519) rfl rfl rfl ⟨rfl, by decide, by decide, by decide⟩ ⟨by decide, by decide⟩) hA.live hA.ob rfl rfl rfl rfl rfl (Nat.le_of_ble_eq_true rfl) ⟨by decide, by decide⟩ ?_
                rintro r1 L1 ad1 τ ⟨g1, g2, ⟨hA, hs, hf⟩, g4⟩; obtain rfl := g1.symm; obtain rfl := g2.symm; subst g4
                refine ph_istore (pc := 87) C d_M_jams_87 (by decide) rfl ?_
                refine ph_iinc (pc := 89) C d_M_jams_89 rfl rfl ?_
                refine ph_goto (pc := 92) (tgt := 2) C d_M_jams_92 (by decide) ?_
                refine ph_loc (l2 := [(0, .ref (o)), (1, .long (ph_l (t))), (3, .int (ph_i (((s0 + 1 : Nat) : Int))))]) ⟨rfl, rfl, rfl, trivial⟩ ?_
                exact ih (s0 + 1) (jamS S1 s0) τ hA (by rw [jamS_t hjc]; exact hs) (hV.jamS (show LC S1 1 s0 by simp only [LC]; omega)) (by rw [jamS_t hjc]; exact hf) (by rw [jamS_t hjc, tellS_5]; simp only [j0]; split <;> omega) (by rw [jamS_0 (by decide)]; omega) (by rw [jamS_0 (by decide)]; omega) (by rw [← h5, tjF_s])
        · refine ph_aload_n (pc := 22) C d_M_jams_22 rfl ?_
          refine gt_M_30 (pc := 23) C d_M_jams_23 hA.live hA.ob (hA.rf (k := 8) rfl) ?_
          refine ph_aload_n (pc := 26) C d_M_jams_26 rfl ?_
          refine gt_M_24 (pc := 27) C d_M_jams_27 hA.live hA.ob (hA.rf (k := 5) rfl) ?_
          refine ph_iload_n (pc := 30) C d_M_jams_30 rfl ?_
          refine ph_iald (pc := 31) C d_M_jams_31 (hA.ar (k := 5) rfl) rfl rfl rfl s0 rfl (by have := (show LC S1 1 s0 by simp only [LC]; omega); simp only [LC] at this; omega) (by decide) ?_
          refine ph_ti (y := S1 1 s0 3) (hs.s26 (show LC S1 1 s0 by simp only [LC]; omega)) ?_
          refine ph_lald (pc := 32) C d_M_jams_32 (hA.ar (k := 8) rfl) rfl rfl rfl (S1 1 s0 3).toNat (by have := hV.s (show LC S1 1 s0 by simp only [LC]; omega); omega) (by have := (show LC S1 2 (S1 1 s0 3).toNat by have := hV.s (show LC S1 1 s0 by simp only [LC]; omega); simp only [LC]; omega); simp only [LC] at this; omega) (by decide) ?_
          refine ph_tl (y := S1 2 (S1 1 s0 3).toNat 0) (hs.i29 (show LC S1 2 (S1 1 s0 3).toNat by have := hV.s (show LC S1 1 s0 by simp only [LC]; omega); simp only [LC]; omega)) ?_
          refine ph_goto (pc := 33) (tgt := 37) C d_M_jams_33 (by decide) ?_
          have hle : lenAt S1 s0 = S1 2 (S1 1 s0 3).toNat 0 := by first | (rw [lenAt, if_pos (by have := hV.s (show LC S1 1 s0 by simp only [LC]; omega); omega)]) | (rw [lenAt, if_neg (by omega)])
          refine ph_tl (y := lenAt S1 s0) hle.symm ?_
          clear hle
          refine ph_ladd (pc := 37) C d_M_jams_37 ?_
          refine ph_lstore (pc := 38) C d_M_jams_38 (by decide) rfl ?_
          refine ph_aload_n (pc := 40) C d_M_jams_40 rfl ?_
          refine gt_M_13 (pc := 41) C d_M_jams_41 hA.live hA.ob (hA.rf (k := 2) rfl) ?_
          refine ph_iload_n (pc := 44) C d_M_jams_44 rfl ?_
          refine ph_zald (pc := 45) C d_M_jams_45 (hA.ar (k := 2) rfl) rfl rfl rfl s0 rfl (by have := (show LC S1 1 s0 by simp only [LC]; omega); simp only [LC] at this; omega) (by decide) ?_
          refine ph_ti (y := S1 1 s0 2) (hs.s23 (show LC S1 1 s0 by simp only [LC]; omega)) ?_
          refine ph_if_eq (pc := 46) (tgt := 89) C d_M_jams_46 (by decide) (by first | omega | (have := hV.s (show LC S1 1 s0 by simp only [LC]; omega); omega) | (have := hV.s (show LC S1 1 s0 by simp only [LC]; omega); have := lenAt_r hV s0; omega)) (fun c46 => ?_) (fun c46 => ?_)
          · refine ph_iinc (pc := 89) C d_M_jams_89 rfl rfl ?_
            refine ph_goto (pc := 92) (tgt := 2) C d_M_jams_92 (by decide) ?_
            refine ph_loc (l2 := [(0, .ref (o)), (1, .long (ph_l (t))), (3, .int (ph_i (((s0 + 1 : Nat) : Int))))]) ⟨rfl, rfl, rfl, trivial⟩ ?_
            exact ih (s0 + 1) S1 τ hA hs hV hf hb (by omega) (by omega) (by rw [← h5, tjF_s, jamS_f (fun q => by have q1 := q.1; have q2 := q.2.1; have q3 := q.2.2; omega)])
          · refine ph_aload_n (pc := 49) C d_M_jams_49 rfl ?_
            refine gt_M_27 (pc := 50) C d_M_jams_50 hA.live hA.ob (hA.rf (k := 6) rfl) ?_
            refine ph_iload_n (pc := 53) C d_M_jams_53 rfl ?_
            refine ph_zald (pc := 54) C d_M_jams_54 (hA.ar (k := 6) rfl) rfl rfl rfl s0 rfl (by have := (show LC S1 1 s0 by simp only [LC]; omega); simp only [LC] at this; omega) (by decide) ?_
            refine ph_ti (y := S1 1 s0 5) (hs.s27 (show LC S1 1 s0 by simp only [LC]; omega)) ?_
            refine ph_if_ne (pc := 55) (tgt := 89) C d_M_jams_55 (by decide) (by first | omega | (have := hV.s (show LC S1 1 s0 by simp only [LC]; omega); omega) | (have := hV.s (show LC S1 1 s0 by simp only [LC]; omega); have := lenAt_r hV s0; omega)) (fun c55 => ?_) (fun c55 => ?_)
            · refine ph_iinc (pc := 89) C d_M_jams_89 rfl rfl ?_
              refine ph_goto (pc := 92) (tgt := 2) C d_M_jams_92 (by decide) ?_
              refine ph_loc (l2 := [(0, .ref (o)), (1, .long (ph_l (t))), (3, .int (ph_i (((s0 + 1 : Nat) : Int))))]) ⟨rfl, rfl, rfl, trivial⟩ ?_
              exact ih (s0 + 1) S1 τ hA hs hV hf hb (by omega) (by omega) (by rw [← h5, tjF_s, jamS_f (fun q => by have q1 := q.1; have q2 := q.2.1; have q3 := q.2.2; omega)])
            · refine ph_lload_n (pc := 58) C d_M_jams_58 rfl ?_
              refine ph_aload_n (pc := 59) C d_M_jams_59 rfl ?_
              refine gt_M_21 (pc := 60) C d_M_jams_60 hA.live hA.ob (hA.rf (k := 4) rfl) ?_
              refine ph_iload_n (pc := 63) C d_M_jams_63 rfl ?_
              refine ph_lald (pc := 64) C d_M_jams_64 (hA.ar (k := 4) rfl) rfl rfl rfl s0 rfl (by have := (show LC S1 1 s0 by simp only [LC]; omega); simp only [LC] at this; omega) (by decide) ?_
              refine ph_tl (y := S1 1 s0 4) (hs.s25 (show LC S1 1 s0 by simp only [LC]; omega)) ?_
              refine ph_lsub (pc := 65) C d_M_jams_65 ?_
              refine ph_lload (pc := 66) C d_M_jams_66 rfl ?_
              refine ph_l_le (pc := 68) (tgt := 89) C d_M_jams_68 d_M_jams_69 (by decide) (by first | omega | (have := hV.s (show LC S1 1 s0 by simp only [LC]; omega); omega) | (have := hV.s (show LC S1 1 s0 by simp only [LC]; omega); have := lenAt_r hV s0; omega)) (by first | omega | (have := hV.s (show LC S1 1 s0 by simp only [LC]; omega); omega) | (have := hV.s (show LC S1 1 s0 by simp only [LC]; omega); have := lenAt_r hV s0; omega)) (fun c68 => ?_) (fun c68 => ?_)
              · refine ph_iinc (pc := 89) C d_M_jams_89 rfl rfl ?_
                refine ph_goto (pc := 92) (tgt := 2) C d_M_jams_92 (by decide) ?_
                refine ph_loc (l2 := [(0, .ref (o)), (1, .long (ph_l (t))), (3, .int (ph_i (((s0 + 1 : Nat) : Int))))]) ⟨rfl, rfl, rfl, trivial⟩ ?_
                exact ih (s0 + 1) S1 τ hA hs hV hf hb (by omega) (by omega) (by rw [← h5, tjF_s, jamS_f (fun q => by have q1 := q.1; have q2 := q.2.1; have q3 := q.2.2; omega)])
              · have hjc : jamC S1 s0 := ⟨by omega, by omega, by omega⟩
                refine ph_aload_n (pc := 72) C d_M_jams_72 rfl ?_
                refine gt_M_27 (pc := 73) C d_M_jams_73 hA.live hA.ob (hA.rf (k := 6) rfl) ?_
                refine ph_iload_n (pc := 76) C d_M_jams_76 rfl ?_
                refine ph_iconst (pc := 77) C d_M_jams_77 ?_
                refine ph_zast (pc := 78) (z := 1) C d_M_jams_78 (by omega) (hA.ar (k := 6) rfl) rfl rfl rfl s0 rfl (by have := (show LC S1 1 s0 by simp only [LC]; omega); simp only [LC] at this; omega) (by decide) ?_
                have hf : ph_up τ 27 0 s0 (1) 20 0 31 = fstv b S1 := by rw [up_ne _ (by decide)]; exact hf
                have hs : MS (ph_up S1 1 s0 5 (1)) (ph_up τ 27 0 s0 (1)) := hs.sput (g := 27) (by decide) (show LC S1 1 s0 by simp only [LC]; omega) 1
                have hA : MA o L ad (ph_up τ 27 0 s0 (1)) := hA.puta (k := 6) _
                generalize ph_up τ 27 0 s0 (1) = τ at hA hs hf ⊢
                have hVj : IV (ph_up S1 1 s0 5 (1)) := hV.upS (by omega) (by omega) (by omega) (by omega) (by omega)
                have j0 : ∀ q, (ph_up S1 1 s0 5 (1)) 0 0 q = S1 0 0 q := fun q => up_ne _ (by decide)
                refine ph_aload_n (pc := 79) C d_M_jams_79 rfl ?_
                refine ph_iconst (pc := 80) C d_M_jams_80 ?_
                refine ph_iload_n (pc := 81) C d_M_jams_81 rfl ?_
                refine ph_lload_n (pc := 82) C d_M_jams_82 rfl ?_
                refine ph_iconst (pc := 83) C d_M_jams_83 ?_
                refine ph_callV (pc := 84) (rest := []) C d_M_jams_84 (c_M_tell l D dT A KX L ad τ (ph_up S1 1 s0 5 (1)) o hA hs hVj 5 (by decide) s0 (by simp only [LC, j0]; omega) t b (by rw [j0]; omega) (by rw [j0]; omega) (by rw [hf]; unfold fstv; rw [j0])) (cwV 4 C.hts (gdV tw_516 tw_518 se_29 tw_2 tw_519) rfl rfl rfl ⟨rfl, by decide, by decide, by decide⟩ ⟨by decide, by decide⟩) hA.live hA.ob rfl rfl rfl rfl rfl (Nat.le_of_ble_eq_true rfl) ⟨by decide, by decide⟩ ?_
                rintro r1 L1 ad1 τ ⟨g1, g2, ⟨hA, hs, hf⟩, g4⟩; obtain rfl := g1.symm; obtain rfl := g2.symm; subst g4
                refine ph_istore (pc := 87) C d_M_jams_87 (by decide) rfl ?_
                refine ph_iinc (pc := 89) C d_M_jams_89 rfl rfl ?_
                refine ph_goto (pc := 92) (tgt := 2) C d_M_jams_92 (by decide) ?_
                refine ph_loc (l2 := [(0, .ref (o)), (1, .long (ph_l (t))), (3, .int (ph_i (((s0 + 1 : Nat) : Int))))]) ⟨rfl, rfl, rfl, trivial⟩ ?_
                exact ih (s0 + 1) (jamS S1 s0) τ hA (by rw [jamS_t hjc]; exact hs) (hV.jamS (show LC S1 1 s0 by simp only [LC]; omega)) (by rw [jamS_t hjc]; exact hf) (by rw [jamS_t hjc, tellS_5]; simp only [j0]; split <;> omega) (by rw [jamS_0 (by decide)]; omega) (by rw [jamS_0 (by decide)]; omega) (by rw [← h5, tjF_s])
  refine ph_iconst (pc := 0) C d_M_jams_0 ?_
  refine ph_istore_n (pc := 1) C d_M_jams_1 (by decide) rfl ?_
  refine ph_loc (l2 := [(0, .ref (o)), (1, .long (ph_l (t))), (3, .int (ph_i (((0 : Nat) : Int))))]) ⟨rfl, rfl, rfl, trivial⟩ ?_
  exact loop (S 0 0 1).toNat 0 S τ hA hs hV hf hb (by omega) ht rfl
