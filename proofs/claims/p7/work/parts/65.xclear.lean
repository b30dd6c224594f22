/-! ===== enlist, clear, step, feed of the other side ===== -/
set_option maxHeartbeats 4000000 in
set_option maxRecDepth 100000 in
theorem c_M_enlist (l : Launch) (D : va_G) (dT : Nat → ClassId) (A : Nat → Prop) (KX : State → Prop) (L : Nat → Nat → Prop) (ad : Nat → Nat → Nat) (τ : ph_T) (S : ph_T) (o : Nat) (hA : MA o L ad τ) (hs : MS S τ) (hV : IV S) (i : Nat) (hi : 1 ≤ i ∧ i ≤ 60) : ph_M l y_M_enlist (.code y_M_enlist b_M_enlist 2 none :: TB) ({ frames := 0, cells := 0, slots := 0, locals := 0 } : Room) D CLs (TY dT) dT kd A KX [.ref (o), .int (ph_i ((i : Int)))] L ad τ (fun r L' ad' τ' => L' = L ∧ ad' = ad ∧ (MA o L ad τ' ∧ MS (S) τ') ∧ r = none) 0 0 := by
  refine ph_M.of (cc := b_M_enlist) (maxL := 2) (ret := none) (by decide) rfl (Nat.le_of_ble_eq_true rfl) ?_
  intro p e s m below meth c C0 hr hlk hnm
  have C := C0.sub
  refine ph_loc (l2 := [(0, .ref (o)), (1, .int (ph_i ((i : Int))))]) ⟨rfl, rfl, trivial⟩ ?_
  have hc := hV.c
  have hm := hs.ml.r
  have h3 := hs.ml.2.2.1 i
  refine ph_aload_n (pc := 0) C d_M_enlist_0 rfl ?_
  refine gt_M_42 (pc := 1) C d_M_enlist_1 hA.live hA.ob (hA.rf (k := 12) rfl) ?_
  refine ph_iload_n (pc := 4) C d_M_enlist_4 rfl ?_
  refine ph_zald (pc := 5) C d_M_enlist_5 (hA.ar (k := 12) rfl) rfl rfl rfl i rfl (by omega) (by decide) ?_
  refine ph_ti (y := τ 33 0 i) (rfl) ?_
  refine ph_if_ne (pc := 6) (tgt := 45) C d_M_enlist_6 (by decide) (by omega) (fun c6 => ?_) (fun c6 => ?_)
  · exact ph_vret (pc := 45) C d_M_enlist_45 hr hlk (by decide) (by decide) ⟨rfl, rfl, ⟨hA, hs⟩, rfl⟩
  · refine ph_aload_n (pc := 9) C d_M_enlist_9 rfl ?_
    refine gt_M_45 (pc := 10) C d_M_enlist_10 hA.live hA.ob (hA.rf (k := 13) rfl) ?_
    refine ph_iload_n (pc := 13) C d_M_enlist_13 rfl ?_
    refine ph_zald (pc := 14) C d_M_enlist_14 (hA.ar (k := 13) rfl) rfl rfl rfl i rfl (by omega) (by decide) ?_
    refine ph_ti (y := τ 34 0 i) (rfl) ?_
    refine ph_if_ne (pc := 15) (tgt := 45) C d_M_enlist_15 (by decide) (by omega) (fun c15 => ?_) (fun c15 => ?_)
    · exact ph_vret (pc := 45) C d_M_enlist_45 hr hlk (by decide) (by decide) ⟨rfl, rfl, ⟨hA, hs⟩, rfl⟩
    · have hz33 : τ 33 0 i = 0 := by omega
      have hz34 : τ 34 0 i = 0 := by omega
      refine ph_aload_n (pc := 18) C d_M_enlist_18 rfl ?_
      refine gt_M_42 (pc := 19) C d_M_enlist_19 hA.live hA.ob (hA.rf (k := 12) rfl) ?_
      refine ph_iload_n (pc := 22) C d_M_enlist_22 rfl ?_
      refine ph_iconst (pc := 23) C d_M_enlist_23 ?_
      refine ph_zast (pc := 24) (z := 1) C d_M_enlist_24 (by omega) (hA.ar (k := 12) rfl) rfl rfl rfl i rfl (by omega) (by decide) ?_
      obtain ⟨σ, hw⟩ : ∃ σ : ph_T, σ = τ := ⟨_, rfl⟩
      rw [← hw] at hs hm h3 hz33 hz34
      obtain ⟨n, hn⟩ : ∃ n : Nat, (n : Int) = σ 20 0 15 := ⟨(σ 20 0 15).toNat, by omega⟩
      have hw : (ph_up σ 33 0 i (1)) = ph_up τ 33 0 i (1) := by rw [hw]
      have hA : MA o L ad (ph_up τ 33 0 i (1)) := hA.puta (k := 12) _
      generalize ph_up τ 33 0 i (1) = τ at hA hw ⊢
      refine ph_aload_n (pc := 25) C d_M_enlist_25 rfl ?_
      refine gt_M_48 (pc := 26) C d_M_enlist_26 hA.live hA.ob (hA.rf (k := 14) rfl) ?_
      refine ph_aload_n (pc := 29) C d_M_enlist_29 rfl ?_
      refine gt_M_178 (pc := 30) C d_M_enlist_30 hA.live hA.ob (z := σ 20 0 15) (by rw [← hw]; simp [ph_up]) ?_
      refine ph_iload_n (pc := 33) C d_M_enlist_33 rfl ?_
      refine ph_iast (pc := 34) (z := (i : Int)) C d_M_enlist_34 (hA.ar (k := 14) rfl) rfl rfl rfl n hn.symm (by omega) (by decide) ?_
      have hw : (ph_up (ph_up σ 33 0 i (1)) 35 0 n ((i : Int))) = ph_up τ 35 0 n ((i : Int)) := by rw [hw]
      have hA : MA o L ad (ph_up τ 35 0 n ((i : Int))) := hA.puta (k := 14) _
      generalize ph_up τ 35 0 n ((i : Int)) = τ at hA hw ⊢
      refine ph_aload_n (pc := 35) C d_M_enlist_35 rfl ?_
      refine ph_dup (pc := 36) C d_M_enlist_36 rfl ?_
      refine gt_M_178 (pc := 37) C d_M_enlist_37 hA.live hA.ob (z := σ 20 0 15) (by rw [← hw]; simp [ph_up]) ?_
      refine ph_iconst (pc := 40) C d_M_enlist_40 ?_
      refine ph_iadd (pc := 41) C d_M_enlist_41 ?_
      refine pt_M_178 (pc := 42) C d_M_enlist_42 hA.live hA.ob ?_
      have hw : (ph_up (ph_up (ph_up σ 33 0 i (1)) 35 0 n ((i : Int))) 20 0 15 ((σ 20 0 15) + (1))) = ph_up τ 20 0 15 ((σ 20 0 15) + (1)) := by rw [hw]
      have hA : MA o L ad (ph_up τ 20 0 15 ((σ 20 0 15) + (1))) := hA.putf (k := 15) _ rfl
      generalize ph_up τ 20 0 15 ((σ 20 0 15) + (1)) = τ at hA hw ⊢
      exact ph_vret (pc := 45) C d_M_enlist_45 hr hlk (by decide) (by decide) ⟨rfl, rfl, ⟨hA, by rw [← hw]; exact ms_enl hs hi hz33 hz34⟩, rfl⟩
set_option maxHeartbeats 4000000 in
set_option maxRecDepth 100000 in
theorem c_M_clear (l : Launch) (D : va_G) (dT : Nat → ClassId) (A : Nat → Prop) (KX : State → Prop) (L : Nat → Nat → Prop) (ad : Nat → Nat → Nat) (τ : ph_T) (S : ph_T) (o : Nat) (hA : MA o L ad τ) (hs : MS S τ) (hV : IV S) (f0 : Nat) (hf : LC S 3 f0) (h6 : (f0 : Int) = S 0 0 6 + 1) : ph_M l y_M_clear (.code y_M_clear b_M_clear 3 none :: TB) ({ frames := 1, cells := 0, slots := 0, locals := 21 } : Room) D CLs (TY dT) dT kd A KX [.ref (o), .int (ph_i ((f0 : Int)))] L ad τ (fun r L' ad' τ' => L' = L ∧ ad' = ad ∧ (MA o L ad τ' ∧ MS (clearS S f0) τ') ∧ r = none) 0 0 := by
  refine ph_M.of (cc := b_M_clear) (maxL := 3) (ret := none) (by decide) rfl (Nat.le_of_ble_eq_true rfl) ?_
  intro p e s m below meth c C0 hr hlk hnm
  have C := C0.sub
  refine ph_loc (l2 := [(0, .ref (o)), (1, .int (ph_i ((f0 : Int))))]) ⟨rfl, rfl, trivial⟩ ?_
  have hc := hV.c
  have hm := hs.ml.r
  have hf8 := id hf
  simp only [LC] at hf8
  have hV6 : IV (ph_up S 0 0 6 (f0 : Int)) := hV.up0 (k := 6) (by omega) (by omega) (by omega) (by omega)
  have loop4 : ∀ (n : Nat) (i : Nat) (S1 τ : ph_T), MA o L ad τ → MS S1 τ → IV S1 → LC S1 3 f0 → 1 ≤ i → S1 0 0 3 = (i : Int) + n - 1 → clrA S f0 = S1 → ph_W p l e ({ frames := 1, cells := 0, slots := 0, locals := 21 } : Room) s m [.ref (o), .int (ph_i ((f0 : Int)))].toArray below meth c D CLs dT kd A 3 (MQ below (ph_Q D CLs dT kd A (fun r L' ad' τ' => L' = L ∧ ad' = ad ∧ (MA o L ad τ' ∧ MS (clearS S f0) τ') ∧ r = none)) [.ref (o), .int (ph_i ((f0 : Int)))].toArray s 0 0 A) L ad τ 0 0 163 (ph_mk [(0, .ref (o)), (1, .int (ph_i ((f0 : Int)))), (2, .int (ph_i ((i : Int))))]) [] := by
    intro n
    induction n with
    | zero =>
      intro i S1 τ hA hs hV hf1 h0 h1 hE
      have hc := hV.c
      have hm := hs.ml.r
      have h3 := hs.ml.2.2.1 i
      have hf8 := id hf1
      simp only [LC] at hf8
      refine ph_iload_n (pc := 163) C d_M_clear_163 rfl ?_
      refine ph_aload_n (pc := 164) C d_M_clear_164 rfl ?_
      refine gt_M_104 (pc := 165) C d_M_clear_165 hA.live hA.ob (z := S1 0 0 3) hs.c7 ?_
      refine ph_icmp_gt (pc := 168) (tgt := 191) C d_M_clear_168 (by decide) (by omega) (by omega) (fun c168 => ?_) (fun c168 => ?_)
      · exact ph_vret (pc := 191) C d_M_clear_191 hr hlk (by decide) (by decide) ⟨rfl, rfl, ⟨hA, ms_clear (by rw [hE]; exact hs) rfl⟩, rfl⟩
      · exfalso; omega
    | succ n ih =>
      intro i S1 τ hA hs hV hf1 h0 h1 hE
      have hc := hV.c
      have hm := hs.ml.r
      have h3 := hs.ml.2.2.1 i
      have hf8 := id hf1
      simp only [LC] at hf8
      refine ph_iload_n (pc := 163) C d_M_clear_163 rfl ?_
      refine ph_aload_n (pc := 164) C d_M_clear_164 rfl ?_
      refine gt_M_104 (pc := 165) C d_M_clear_165 hA.live hA.ob (z := S1 0 0 3) hs.c7 ?_
      refine ph_icmp_gt (pc := 168) (tgt := 191) C d_M_clear_168 (by decide) (by omega) (by omega) (fun c168 => ?_) (fun c168 => ?_)
      · exfalso; omega
      · refine ph_aload_n (pc := 171) C d_M_clear_171 rfl ?_
        refine gt_M_90 (pc := 172) C d_M_clear_172 hA.live hA.ob (hA.rf (k := 32) rfl) ?_
        refine ph_iload_n (pc := 175) C d_M_clear_175 rfl ?_
        refine ph_zald (pc := 176) C d_M_clear_176 (hA.ar (k := 32) rfl) rfl rfl rfl i rfl (by omega) (by decide) ?_
        refine ph_ti (y := τ 53 0 i) (rfl) ?_
        refine ph_if_eq (pc := 177) (tgt := 185) C d_M_clear_177 (by decide) (by omega) (fun c177 => ?_) (fun c177 => ?_)
        · refine ph_iinc (pc := 185) C d_M_clear_185 rfl rfl ?_
          refine ph_goto (pc := 188) (tgt := 163) C d_M_clear_188 (by decide) ?_
          refine ph_loc (l2 := [(0, .ref (o)), (1, .int (ph_i ((f0 : Int)))), (2, .int (ph_i (((i + 1 : Nat) : Int))))]) ⟨rfl, rfl, rfl, trivial⟩ ?_
          exact ih (i + 1) S1 τ hA hs hV hf1 (by omega) (by omega) hE
        · refine ph_aload_n (pc := 180) C d_M_clear_180 rfl ?_
          refine ph_iload_n (pc := 181) C d_M_clear_181 rfl ?_
          refine ph_callV (pc := 182) (rest := []) C d_M_clear_182 (c_M_enlist l D dT A KX L ad τ S1 o hA hs hV i (by omega)) (cwV 1 C.hts (gdV tw_569 tw_571 se_38 tw_2 tw_572) rfl rfl rfl ⟨rfl, by decide, by decide, by decide⟩ ⟨by decide, by decide⟩) hA.live hA.ob rfl rfl rfl rfl rfl (Nat.le_of_ble_eq_true rfl) ⟨by decide, by decide⟩ ?_
          rintro r1 L1 ad1 τ ⟨g1, g2, ⟨hA, hs⟩, g4⟩; obtain rfl := g1.symm; obtain rfl := g2.symm; subst g4
          refine ph_iinc (pc := 185) C d_M_clear_185 rfl rfl ?_
          refine ph_goto (pc := 188) (tgt := 163) C d_M_clear_188 (by decide) ?_
          refine ph_loc (l2 := [(0, .ref (o)), (1, .int (ph_i ((f0 : Int)))), (2, .int (ph_i (((i + 1 : Nat) : Int))))]) ⟨rfl, rfl, rfl, trivial⟩ ?_
          exact ih (i + 1) S1 τ hA hs hV hf1 (by omega) (by omega) hE
  have loop3 : ∀ (n : Nat) (i : Nat) (S1 τ : ph_T), MA o L ad τ → MS S1 τ → IV S1 → LC S1 3 f0 → 1 ≤ i → S1 0 0 3 = (i : Int) + n - 1 → clrA S f0 = S1 → ph_W p l e ({ frames := 1, cells := 0, slots := 0, locals := 21 } : Room) s m [.ref (o), .int (ph_i ((f0 : Int)))].toArray below meth c D CLs dT kd A 3 (MQ below (ph_Q D CLs dT kd A (fun r L' ad' τ' => L' = L ∧ ad' = ad ∧ (MA o L ad τ' ∧ MS (clearS S f0) τ') ∧ r = none)) [.ref (o), .int (ph_i ((f0 : Int)))].toArray s 0 0 A) L ad τ 0 0 118 (ph_mk [(0, .ref (o)), (1, .int (ph_i ((f0 : Int)))), (2, .int (ph_i ((i : Int))))]) [] := by
    intro n
    induction n with
    | zero =>
      intro i S1 τ hA hs hV hf1 h0 h1 hE
      have hc := hV.c
      have hm := hs.ml.r
      have h3 := hs.ml.2.2.1 i
      have hf8 := id hf1
      simp only [LC] at hf8
      refine ph_iload_n (pc := 118) C d_M_clear_118 rfl ?_
      refine ph_aload_n (pc := 119) C d_M_clear_119 rfl ?_
      refine gt_M_104 (pc := 120) C d_M_clear_120 hA.live hA.ob (z := S1 0 0 3) hs.c7 ?_
      refine ph_icmp_gt (pc := 123) (tgt := 161) C d_M_clear_123 (by decide) (by first | omega | (have := hV.f hf1; omega) | (have := hV.i (show LC S1 2 i by simp only [LC]; omega); have := stm_r (z := S1 2 i 5) (by omega); omega)) (by first | omega | (have := hV.f hf1; omega) | (have := hV.i (show LC S1 2 i by simp only [LC]; omega); have := stm_r (z := S1 2 i 5) (by omega); omega)) (fun c123 => ?_) (fun c123 => ?_)
      · refine ph_iconst (pc := 161) C d_M_clear_161 ?_
        refine ph_istore_n (pc := 162) C d_M_clear_162 (by decide) rfl ?_
        refine ph_loc (l2 := [(0, .ref (o)), (1, .int (ph_i ((f0 : Int)))), (2, .int (ph_i (((1 : Nat) : Int))))]) ⟨rfl, rfl, rfl, trivial⟩ ?_
        exact loop4 (S1 0 0 3).toNat 1 S1 τ hA hs hV hf1 (by omega) (by omega) hE
      · exfalso; omega
    | succ n ih =>
      intro i S1 τ hA hs hV hf1 h0 h1 hE
      have hc := hV.c
      have hm := hs.ml.r
      have h3 := hs.ml.2.2.1 i
      have hf8 := id hf1
      simp only [LC] at hf8
      refine ph_iload_n (pc := 118) C d_M_clear_118 rfl ?_
      refine ph_aload_n (pc := 119) C d_M_clear_119 rfl ?_
      refine gt_M_104 (pc := 120) C d_M_clear_120 hA.live hA.ob (z := S1 0 0 3) hs.c7 ?_
      refine ph_icmp_gt (pc := 123) (tgt := 161) C d_M_clear_123 (by decide) (by first | omega | (have := hV.f hf1; omega) | (have := hV.i (show LC S1 2 i by simp only [LC]; omega); have := stm_r (z := S1 2 i 5) (by omega); omega)) (by first | omega | (have := hV.f hf1; omega) | (have := hV.i (show LC S1 2 i by simp only [LC]; omega); have := stm_r (z := S1 2 i 5) (by omega); omega)) (fun c123 => ?_) (fun c123 => ?_)
      · exfalso; omega
      · refine ph_aload_n (pc := 126) C d_M_clear_126 rfl ?_
        refine gt_M_75 (pc := 127) C d_M_clear_127 hA.live hA.ob (hA.rf (k := 25) rfl) ?_
        refine ph_bipush (pc := 130) C d_M_clear_130 (by decide) ?_
        refine ph_iload_n (pc := 132) C d_M_clear_132 rfl ?_
        refine ph_imul (pc := 133) C d_M_clear_133 ?_
        refine ph_iload_n (pc := 134) C d_M_clear_134 rfl ?_
        refine ph_iadd (pc := 135) C d_M_clear_135 ?_
        refine ph_zald (pc := 136) C d_M_clear_136 (hA.ar (k := 25) rfl) rfl rfl rfl (61 * f0 + i) (by omega) (by omega) (by decide) ?_
        refine ph_ti (y := ph_b (dbit S1 f0 i)) (hs.f46 hf1 (by omega) (by omega)) ?_
        refine ph_bif_eq (pc := 137) (tgt := 155) C d_M_clear_137 (by decide) (fun c137 => ?_) (fun c137 => ?_)
        · refine ph_iinc (pc := 155) C d_M_clear_155 rfl rfl ?_
          refine ph_goto (pc := 158) (tgt := 118) C d_M_clear_158 (by decide) ?_
          refine ph_loc (l2 := [(0, .ref (o)), (1, .int (ph_i ((f0 : Int)))), (2, .int (ph_i (((i + 1 : Nat) : Int))))]) ⟨rfl, rfl, rfl, trivial⟩ ?_
          exact ih (i + 1) S1 τ hA hs hV hf1 (by omega) (by omega) hE
        · refine ph_aload_n (pc := 140) C d_M_clear_140 rfl ?_
          refine gt_M_36 (pc := 141) C d_M_clear_141 hA.live hA.ob (hA.rf (k := 10) rfl) ?_
          refine ph_iload_n (pc := 144) C d_M_clear_144 rfl ?_
          refine ph_iald (pc := 145) C d_M_clear_145 (hA.ar (k := 10) rfl) rfl rfl rfl i rfl (by have := (show LC S1 2 i by simp only [LC]; omega); simp only [LC] at this; omega) (by decide) ?_
          refine ph_ti (y := stm (S1 2 i 5)) (hs.i31 (show LC S1 2 i by simp only [LC]; omega)) ?_
          refine ph_iconst (pc := 146) C d_M_clear_146 ?_
          refine ph_icmp_ne (pc := 147) (tgt := 155) C d_M_clear_147 (by decide) (by first | omega | (have := hV.f hf1; omega) | (have := hV.i (show LC S1 2 i by simp only [LC]; omega); have := stm_r (z := S1 2 i 5) (by omega); omega)) (by first | omega | (have := hV.f hf1; omega) | (have := hV.i (show LC S1 2 i by simp only [LC]; omega); have := stm_r (z := S1 2 i 5) (by omega); omega)) (fun c147 => ?_) (fun c147 => ?_)
          · refine ph_iinc (pc := 155) C d_M_clear_155 rfl rfl ?_
            refine ph_goto (pc := 158) (tgt := 118) C d_M_clear_158 (by decide) ?_
            refine ph_loc (l2 := [(0, .ref (o)), (1, .int (ph_i ((f0 : Int)))), (2, .int (ph_i (((i + 1 : Nat) : Int))))]) ⟨rfl, rfl, rfl, trivial⟩ ?_
            exact ih (i + 1) S1 τ hA hs hV hf1 (by omega) (by omega) hE
          · refine ph_aload_n (pc := 150) C d_M_clear_150 rfl ?_
            refine ph_iload_n (pc := 151) C d_M_clear_151 rfl ?_
            refine ph_callV (pc := 152) (rest := []) C d_M_clear_152 (c_M_enlist l D dT A KX L ad τ S1 o hA hs hV i (by omega)) (cwV 1 C.hts (gdV tw_569 tw_571 se_38 tw_2 tw_572) rfl rfl rfl ⟨rfl, by decide, by decide, by decide⟩ ⟨by decide, by decide⟩) hA.live hA.ob rfl rfl rfl rfl rfl (Nat.le_of_ble_eq_true rfl) ⟨by decide, by decide⟩ ?_
            rintro r1 L1 ad1 τ ⟨g1, g2, ⟨hA, hs⟩, g4⟩; obtain rfl := g1.symm; obtain rfl := g2.symm; subst g4
            refine ph_iinc (pc := 155) C d_M_clear_155 rfl rfl ?_
            refine ph_goto (pc := 158) (tgt := 118) C d_M_clear_158 (by decide) ?_
            refine ph_loc (l2 := [(0, .ref (o)), (1, .int (ph_i ((f0 : Int)))), (2, .int (ph_i (((i + 1 : Nat) : Int))))]) ⟨rfl, rfl, rfl, trivial⟩ ?_
            exact ih (i + 1) S1 τ hA hs hV hf1 (by omega) (by omega) hE
  have loop2 : ∀ (n : Nat) (s0 : Nat) (S1 τ : ph_T), MA o L ad τ → MS S1 τ → IV S1 → LC S1 3 f0 → S1 3 f0 4 = S 3 f0 4 → S1 0 0 1 = (s0 : Int) + n → (if S 3 f0 4 = 0 then S1 else liF n s0 S1) = clrA S f0 → ph_W p l e ({ frames := 1, cells := 0, slots := 0, locals := 21 } : Room) s m [.ref (o), .int (ph_i ((f0 : Int)))].toArray below meth c D CLs dT kd A 3 (MQ below (ph_Q D CLs dT kd A (fun r L' ad' τ' => L' = L ∧ ad' = ad ∧ (MA o L ad τ' ∧ MS (clearS S f0) τ') ∧ r = none)) [.ref (o), .int (ph_i ((f0 : Int)))].toArray s 0 0 A) L ad τ 0 0 79 (ph_mk [(0, .ref (o)), (1, .int (ph_i ((f0 : Int)))), (2, .int (ph_i ((s0 : Int))))]) [] := by
    intro n
    induction n with
    | zero =>
      intro s0 S1 τ hA hs hV hf1 h4 h1 hE
      have hc := hV.c
      refine ph_iload_n (pc := 79) C d_M_clear_79 rfl ?_
      refine ph_aload_n (pc := 80) C d_M_clear_80 rfl ?_
      refine gt_M_93 (pc := 81) C d_M_clear_81 hA.live hA.ob (z := S1 0 0 1) hs.c0 ?_
      refine ph_icmp_ge (pc := 84) (tgt := 116) C d_M_clear_84 (by decide) (by first | omega | (have := hV.f hf1; omega) | (have := hV.i (show LC S1 2 i by simp only [LC]; omega); have := stm_r (z := S1 2 i 5) (by omega); omega)) (by first | omega | (have := hV.f hf1; omega) | (have := hV.i (show LC S1 2 i by simp only [LC]; omega); have := stm_r (z := S1 2 i 5) (by omega); omega)) (fun c84 => ?_) (fun c84 => ?_)
      · refine ph_iconst (pc := 116) C d_M_clear_116 ?_
        refine ph_istore_n (pc := 117) C d_M_clear_117 (by decide) rfl ?_
        refine ph_loc (l2 := [(0, .ref (o)), (1, .int (ph_i ((f0 : Int)))), (2, .int (ph_i (((1 : Nat) : Int))))]) ⟨rfl, rfl, rfl, trivial⟩ ?_
        exact loop3 (S1 0 0 3).toNat 1 S1 τ hA hs hV hf1 (by omega) (by omega) (by rw [← hE]; first | (rw [if_pos (by omega)]) | (exfalso; omega) | (split <;> rfl))
      · exfalso; omega
    | succ n ih =>
      intro s0 S1 τ hA hs hV hf1 h4 h1 hE
      have hc := hV.c
      refine ph_iload_n (pc := 79) C d_M_clear_79 rfl ?_
      refine ph_aload_n (pc := 80) C d_M_clear_80 rfl ?_
      refine gt_M_93 (pc := 81) C d_M_clear_81 hA.live hA.ob (z := S1 0 0 1) hs.c0 ?_
      refine ph_icmp_ge (pc := 84) (tgt := 116) C d_M_clear_84 (by decide) (by first | omega | (have := hV.f hf1; omega) | (have := hV.i (show LC S1 2 i by simp only [LC]; omega); have := stm_r (z := S1 2 i 5) (by omega); omega)) (by first | omega | (have := hV.f hf1; omega) | (have := hV.i (show LC S1 2 i by simp only [LC]; omega); have := stm_r (z := S1 2 i 5) (by omega); omega)) (fun c84 => ?_) (fun c84 => ?_)
      · refine ph_iconst (pc := 116) C d_M_clear_116 ?_
        refine ph_istore_n (pc := 117) C d_M_clear_117 (by decide) rfl ?_
        refine ph_loc (l2 := [(0, .ref (o)), (1, .int (ph_i ((f0 : Int)))), (2, .int (ph_i (((1 : Nat) : Int))))]) ⟨rfl, rfl, rfl, trivial⟩ ?_
        exact loop3 (S1 0 0 3).toNat 1 S1 τ hA hs hV hf1 (by omega) (by omega) (by rw [← hE]; first | (rw [if_pos (by omega)]) | (exfalso; omega) | (split <;> rfl))
      · refine ph_aload_n (pc := 87) C d_M_clear_87 rfl ?_
        refine gt_M_60 (pc := 88) C d_M_clear_88 hA.live hA.ob (hA.rf (k := 20) rfl) ?_
        refine ph_iload_n (pc := 91) C d_M_clear_91 rfl ?_
        refine ph_zald (pc := 92) C d_M_clear_92 (hA.ar (k := 20) rfl) rfl rfl rfl f0 rfl (by have := hf1; simp only [LC] at this; omega) (by decide) ?_
        refine ph_ti (y := S1 3 f0 4) (hs.f41 hf1) ?_
        refine ph_if_eq (pc := 93) (tgt := 116) C d_M_clear_93 (by decide) (by first | omega | (have := hV.f hf1; omega) | (have := hV.i (show LC S1 2 i by simp only [LC]; omega); have := stm_r (z := S1 2 i 5) (by omega); omega)) (fun c93 => ?_) (fun c93 => ?_)
        · refine ph_iconst (pc := 116) C d_M_clear_116 ?_
          refine ph_istore_n (pc := 117) C d_M_clear_117 (by decide) rfl ?_
          refine ph_loc (l2 := [(0, .ref (o)), (1, .int (ph_i ((f0 : Int)))), (2, .int (ph_i (((1 : Nat) : Int))))]) ⟨rfl, rfl, rfl, trivial⟩ ?_
          exact loop3 (S1 0 0 3).toNat 1 S1 τ hA hs hV hf1 (by omega) (by omega) (by rw [← hE]; first | (rw [if_pos (by omega)]) | (exfalso; omega) | (split <;> rfl))
        · refine ph_aload_n (pc := 96) C d_M_clear_96 rfl ?_
          refine gt_M_13 (pc := 97) C d_M_clear_97 hA.live hA.ob (hA.rf (k := 2) rfl) ?_
          refine ph_iload_n (pc := 100) C d_M_clear_100 rfl ?_
          refine ph_iconst (pc := 101) C d_M_clear_101 ?_
          refine ph_zast (pc := 102) (z := 0) C d_M_clear_102 (by omega) (hA.ar (k := 2) rfl) rfl rfl rfl s0 rfl (by have := (show LC S1 1 s0 by simp only [LC]; omega); simp only [LC] at this; omega) (by decide) ?_
          have hs : MS (ph_up S1 1 s0 2 (0)) (ph_up τ 23 0 s0 (0)) := hs.sput (g := 23) (by decide) (show LC S1 1 s0 by simp only [LC]; omega) 0
          have hA : MA o L ad (ph_up τ 23 0 s0 (0)) := hA.puta (k := 2) _
          generalize ph_up τ 23 0 s0 (0) = τ at hA hs ⊢
          refine ph_aload_n (pc := 103) C d_M_clear_103 rfl ?_
          refine gt_M_24 (pc := 104) C d_M_clear_104 hA.live hA.ob (hA.rf (k := 5) rfl) ?_
          refine ph_iload_n (pc := 107) C d_M_clear_107 rfl ?_
          refine ph_iconst (pc := 108) C d_M_clear_108 ?_
          refine ph_iast (pc := 109) (z := 0) C d_M_clear_109 (hA.ar (k := 5) rfl) rfl rfl rfl s0 rfl (by have := (show LC S1 1 s0 by simp only [LC]; omega); simp only [LC] at this; omega) (by decide) ?_
          have hs : MS (lightS S1 s0) (ph_up τ 26 0 s0 (0)) := hs.sput (g := 26) (by decide) (by simp only [LC, up_ne _ (show (0 : Nat) ≠ 1 by decide)]; omega) 0
          have hA : MA o L ad (ph_up τ 26 0 s0 (0)) := hA.puta (k := 5) _
          generalize ph_up τ 26 0 s0 (0) = τ at hA hs ⊢
          refine ph_iinc (pc := 110) C d_M_clear_110 rfl rfl ?_
          refine ph_goto (pc := 113) (tgt := 79) C d_M_clear_113 (by decide) ?_
          refine ph_loc (l2 := [(0, .ref (o)), (1, .int (ph_i ((f0 : Int)))), (2, .int (ph_i (((s0 + 1 : Nat) : Int))))]) ⟨rfl, rfl, rfl, trivial⟩ ?_
          exact ih (s0 + 1) (lightS S1 s0) τ hA hs hV.lightS (by simp only [LC, lightS_g (show (0 : Nat) ≠ 1 by decide)]; exact hf1) (by rw [lightS_g (by decide)]; exact h4) (by rw [lightS_g (by decide)]; omega) (by rw [← hE, if_neg (by omega), if_neg (by omega), liF_s])
  have loop1 : ∀ (n : Nat) (i : Nat) (S1 τ : ph_T), MA o L ad τ → MS S1 τ → IV S1 → LC S1 3 f0 → S1 3 f0 4 = S 3 f0 4 → 1 ≤ i → S1 0 0 3 = (i : Int) + n - 1 → S1 0 0 3 = S 0 0 3 → S1 0 0 1 = S 0 0 1 → (if S 3 f0 4 = 0 then S1 else ebF (f0 : Int) n i S1) = (if S 3 f0 4 = 0 then (ph_up S 0 0 6 (f0 : Int)) else ebF (f0 : Int) (S 0 0 3).toNat 1 (ph_up S 0 0 6 (f0 : Int))) → ph_W p l e ({ frames := 1, cells := 0, slots := 0, locals := 21 } : Room) s m [.ref (o), .int (ph_i ((f0 : Int)))].toArray below meth c D CLs dT kd A 3 (MQ below (ph_Q D CLs dT kd A (fun r L' ad' τ' => L' = L ∧ ad' = ad ∧ (MA o L ad τ' ∧ MS (clearS S f0) τ') ∧ r = none)) [.ref (o), .int (ph_i ((f0 : Int)))].toArray s 0 0 A) L ad τ 0 0 9 (ph_mk [(0, .ref (o)), (1, .int (ph_i ((f0 : Int)))), (2, .int (ph_i ((i : Int))))]) [] := by
    intro n
    induction n with
    | zero =>
      intro i S1 τ hA hs hV hf1 h4 h0 h1 h3 h5 hE
      have hc := hV.c
      have hf8 := id hf1
      simp only [LC] at hf8
      refine ph_iload_n (pc := 9) C d_M_clear_9 rfl ?_
      refine ph_aload_n (pc := 10) C d_M_clear_10 rfl ?_
      refine gt_M_104 (pc := 11) C d_M_clear_11 hA.live hA.ob (z := S1 0 0 3) hs.c7 ?_
      refine ph_icmp_gt (pc := 14) (tgt := 77) C d_M_clear_14 (by decide) (by first | omega | (have := hV.f hf1; omega) | (have := hV.i (show LC S1 2 i by simp only [LC]; omega); have := stm_r (z := S1 2 i 5) (by omega); omega)) (by first | omega | (have := hV.f hf1; omega) | (have := hV.i (show LC S1 2 i by simp only [LC]; omega); have := stm_r (z := S1 2 i 5) (by omega); omega)) (fun c14 => ?_) (fun c14 => ?_)
      · refine ph_iconst (pc := 77) C d_M_clear_77 ?_
        refine ph_istore_n (pc := 78) C d_M_clear_78 (by decide) rfl ?_
        refine ph_loc (l2 := [(0, .ref (o)), (1, .int (ph_i ((f0 : Int)))), (2, .int (ph_i (((0 : Nat) : Int))))]) ⟨rfl, rfl, rfl, trivial⟩ ?_
        exact loop2 (S 0 0 1).toNat 0 S1 τ hA hs hV hf1 h4 (by omega) (by unfold clrA; by_cases z : S 3 f0 4 = 0; (rw [if_pos z, if_pos z] at hE; rw [if_pos z, if_pos z]; exact hE); (rw [if_neg z, if_neg z] at hE; rw [if_neg z, if_neg z]; unfold emptyS; rw [ph_up_no _ _ (by omega), ph_up_no _ _ (by omega), ← hE]; rfl))
      · exfalso; omega
    | succ n ih =>
      intro i S1 τ hA hs hV hf1 h4 h0 h1 h3 h5 hE
      have hc := hV.c
      have hf8 := id hf1
      simp only [LC] at hf8
      refine ph_iload_n (pc := 9) C d_M_clear_9 rfl ?_
      refine ph_aload_n (pc := 10) C d_M_clear_10 rfl ?_
      refine gt_M_104 (pc := 11) C d_M_clear_11 hA.live hA.ob (z := S1 0 0 3) hs.c7 ?_
      refine ph_icmp_gt (pc := 14) (tgt := 77) C d_M_clear_14 (by decide) (by first | omega | (have := hV.f hf1; omega) | (have := hV.i (show LC S1 2 i by simp only [LC]; omega); have := stm_r (z := S1 2 i 5) (by omega); omega)) (by first | omega | (have := hV.f hf1; omega) | (have := hV.i (show LC S1 2 i by simp only [LC]; omega); have := stm_r (z := S1 2 i 5) (by omega); omega)) (fun c14 => ?_) (fun c14 => ?_)
      · exfalso; omega
      · refine ph_aload_n (pc := 17) C d_M_clear_17 rfl ?_
        refine gt_M_90 (pc := 18) C d_M_clear_18 hA.live hA.ob (hA.rf (k := 32) rfl) ?_
        refine ph_iload_n (pc := 21) C d_M_clear_21 rfl ?_
        refine ph_aload_n (pc := 22) C d_M_clear_22 rfl ?_
        refine gt_M_60 (pc := 23) C d_M_clear_23 hA.live hA.ob (hA.rf (k := 20) rfl) ?_
        refine ph_iload_n (pc := 26) C d_M_clear_26 rfl ?_
        refine ph_zald (pc := 27) C d_M_clear_27 (hA.ar (k := 20) rfl) rfl rfl rfl f0 rfl (by have := hf1; simp only [LC] at this; omega) (by decide) ?_
        refine ph_ti (y := S1 3 f0 4) (hs.f41 hf1) ?_
        refine ph_if_eq (pc := 28) (tgt := 44) C d_M_clear_28 (by decide) (by first | omega | (have := hV.f hf1; omega) | (have := hV.i (show LC S1 2 i by simp only [LC]; omega); have := stm_r (z := S1 2 i 5) (by omega); omega)) (fun c28 => ?_) (fun c28 => ?_)
        · refine ph_iconst (pc := 44) C d_M_clear_44 ?_
          refine ph_zast (pc := 45) (z := 0) C d_M_clear_45 (by omega) (hA.ar (k := 32) rfl) rfl rfl rfl i rfl (by omega) (by decide) ?_
          have e53 : ph_up τ 53 0 i (0) 53 0 i = 0 := ph_up_at _ _ _ _ _
          have hs : MS S1 (ph_up τ 53 0 i (0)) := ms_swp hs (by omega)
          have hA : MA o L ad (ph_up τ 53 0 i (0)) := hA.puta (k := 32) _
          generalize ph_up τ 53 0 i (0) = τ at hA hs e53 ⊢
          refine ph_aload_n (pc := 46) C d_M_clear_46 rfl ?_
          refine gt_M_36 (pc := 47) C d_M_clear_47 hA.live hA.ob (hA.rf (k := 10) rfl) ?_
          refine ph_iload_n (pc := 50) C d_M_clear_50 rfl ?_
          refine ph_aload_n (pc := 51) C d_M_clear_51 rfl ?_
          refine gt_M_90 (pc := 52) C d_M_clear_52 hA.live hA.ob (hA.rf (k := 32) rfl) ?_
          refine ph_iload_n (pc := 55) C d_M_clear_55 rfl ?_
          refine ph_zald (pc := 56) C d_M_clear_56 (hA.ar (k := 32) rfl) rfl rfl rfl i rfl (by omega) (by decide) ?_
          refine ph_ti (y := 0) (e53) ?_
          refine ph_if_eq (pc := 57) (tgt := 64) C d_M_clear_57 (by decide) (by first | omega | (have := hV.f hf1; omega) | (have := hV.i (show LC S1 2 i by simp only [LC]; omega); have := stm_r (z := S1 2 i 5) (by omega); omega)) (fun c57 => ?_) (fun c57 => ?_)
          · refine ph_aload_n (pc := 64) C d_M_clear_64 rfl ?_
            refine gt_M_36 (pc := 65) C d_M_clear_65 hA.live hA.ob (hA.rf (k := 10) rfl) ?_
            refine ph_iload_n (pc := 68) C d_M_clear_68 rfl ?_
            refine ph_iald (pc := 69) C d_M_clear_69 (hA.ar (k := 10) rfl) rfl rfl rfl i rfl (by have := (show LC S1 2 i by simp only [LC]; omega); simp only [LC] at this; omega) (by decide) ?_
            refine ph_ti (y := stm (S1 2 i 5)) (hs.i31 (show LC S1 2 i by simp only [LC]; omega)) ?_
            refine ph_iast (pc := 70) (z := stm (S1 2 i 5)) C d_M_clear_70 (hA.ar (k := 10) rfl) rfl rfl rfl i rfl (by have := (show LC S1 2 i by simp only [LC]; omega); simp only [LC] at this; omega) (by decide) ?_
            rw [up_same (show τ 31 0 i = stm (S1 2 i 5) from hs.i31 (show LC S1 2 i by simp only [LC]; omega))]
            refine ph_iinc (pc := 71) C d_M_clear_71 rfl rfl ?_
            refine ph_goto (pc := 74) (tgt := 9) C d_M_clear_74 (by decide) ?_
            refine ph_loc (l2 := [(0, .ref (o)), (1, .int (ph_i ((f0 : Int)))), (2, .int (ph_i (((i + 1 : Nat) : Int))))]) ⟨rfl, rfl, rfl, trivial⟩ ?_
            exact ih (i + 1) S1 τ hA hs hV hf1 h4 (by omega) (by omega) h3 h5 (by rw [← hE]; first | (rw [if_pos (by omega), if_pos (by omega)]) | (rw [if_neg (by omega), if_neg (by omega), ebF_f (fun q => absurd ((stm_0 (by have := hV.i (show LC S1 2 i by simp only [LC]; omega); omega)).mpr q) (by assumption))]))
          · exact absurd rfl c57
        · refine ph_aload_n (pc := 31) C d_M_clear_31 rfl ?_
          refine gt_M_36 (pc := 32) C d_M_clear_32 hA.live hA.ob (hA.rf (k := 10) rfl) ?_
          refine ph_iload_n (pc := 35) C d_M_clear_35 rfl ?_
          refine ph_iald (pc := 36) C d_M_clear_36 (hA.ar (k := 10) rfl) rfl rfl rfl i rfl (by have := (show LC S1 2 i by simp only [LC]; omega); simp only [LC] at this; omega) (by decide) ?_
          refine ph_ti (y := stm (S1 2 i 5)) (hs.i31 (show LC S1 2 i by simp only [LC]; omega)) ?_
          refine ph_if_ne (pc := 37) (tgt := 44) C d_M_clear_37 (by decide) (by first | omega | (have := hV.f hf1; omega) | (have := hV.i (show LC S1 2 i by simp only [LC]; omega); have := stm_r (z := S1 2 i 5) (by omega); omega)) (fun c37 => ?_) (fun c37 => ?_)
          · refine ph_iconst (pc := 44) C d_M_clear_44 ?_
            refine ph_zast (pc := 45) (z := 0) C d_M_clear_45 (by omega) (hA.ar (k := 32) rfl) rfl rfl rfl i rfl (by omega) (by decide) ?_
            have e53 : ph_up τ 53 0 i (0) 53 0 i = 0 := ph_up_at _ _ _ _ _
            have hs : MS S1 (ph_up τ 53 0 i (0)) := ms_swp hs (by omega)
            have hA : MA o L ad (ph_up τ 53 0 i (0)) := hA.puta (k := 32) _
            generalize ph_up τ 53 0 i (0) = τ at hA hs e53 ⊢
            refine ph_aload_n (pc := 46) C d_M_clear_46 rfl ?_
            refine gt_M_36 (pc := 47) C d_M_clear_47 hA.live hA.ob (hA.rf (k := 10) rfl) ?_
            refine ph_iload_n (pc := 50) C d_M_clear_50 rfl ?_
            refine ph_aload_n (pc := 51) C d_M_clear_51 rfl ?_
            refine gt_M_90 (pc := 52) C d_M_clear_52 hA.live hA.ob (hA.rf (k := 32) rfl) ?_
            refine ph_iload_n (pc := 55) C d_M_clear_55 rfl ?_
            refine ph_zald (pc := 56) C d_M_clear_56 (hA.ar (k := 32) rfl) rfl rfl rfl i rfl (by omega) (by decide) ?_
            refine ph_ti (y := 0) (e53) ?_
            refine ph_if_eq (pc := 57) (tgt := 64) C d_M_clear_57 (by decide) (by first | omega | (have := hV.f hf1; omega) | (have := hV.i (show LC S1 2 i by simp only [LC]; omega); have := stm_r (z := S1 2 i 5) (by omega); omega)) (fun c57 => ?_) (fun c57 => ?_)
            · refine ph_aload_n (pc := 64) C d_M_clear_64 rfl ?_
              refine gt_M_36 (pc := 65) C d_M_clear_65 hA.live hA.ob (hA.rf (k := 10) rfl) ?_
              refine ph_iload_n (pc := 68) C d_M_clear_68 rfl ?_
              refine ph_iald (pc := 69) C d_M_clear_69 (hA.ar (k := 10) rfl) rfl rfl rfl i rfl (by have := (show LC S1 2 i by simp only [LC]; omega); simp only [LC] at this; omega) (by decide) ?_
              refine ph_ti (y := stm (S1 2 i 5)) (hs.i31 (show LC S1 2 i by simp only [LC]; omega)) ?_
              refine ph_iast (pc := 70) (z := stm (S1 2 i 5)) C d_M_clear_70 (hA.ar (k := 10) rfl) rfl rfl rfl i rfl (by have := (show LC S1 2 i by simp only [LC]; omega); simp only [LC] at this; omega) (by decide) ?_
              rw [up_same (show τ 31 0 i = stm (S1 2 i 5) from hs.i31 (show LC S1 2 i by simp only [LC]; omega))]
              refine ph_iinc (pc := 71) C d_M_clear_71 rfl rfl ?_
              refine ph_goto (pc := 74) (tgt := 9) C d_M_clear_74 (by decide) ?_
              refine ph_loc (l2 := [(0, .ref (o)), (1, .int (ph_i ((f0 : Int)))), (2, .int (ph_i (((i + 1 : Nat) : Int))))]) ⟨rfl, rfl, rfl, trivial⟩ ?_
              exact ih (i + 1) S1 τ hA hs hV hf1 h4 (by omega) (by omega) h3 h5 (by rw [← hE]; first | (rw [if_pos (by omega), if_pos (by omega)]) | (rw [if_neg (by omega), if_neg (by omega), ebF_f (fun q => absurd ((stm_0 (by have := hV.i (show LC S1 2 i by simp only [LC]; omega); omega)).mpr q) (by assumption))]))
            · exact absurd rfl c57
          · refine ph_iconst (pc := 40) C d_M_clear_40 ?_
            refine ph_goto (pc := 41) (tgt := 45) C d_M_clear_41 (by decide) ?_
            refine ph_zast (pc := 45) (z := 1) C d_M_clear_45 (by omega) (hA.ar (k := 32) rfl) rfl rfl rfl i rfl (by omega) (by decide) ?_
            have e53 : ph_up τ 53 0 i (1) 53 0 i = 1 := ph_up_at _ _ _ _ _
            have hs : MS S1 (ph_up τ 53 0 i (1)) := ms_swp hs (by omega)
            have hA : MA o L ad (ph_up τ 53 0 i (1)) := hA.puta (k := 32) _
            generalize ph_up τ 53 0 i (1) = τ at hA hs e53 ⊢
            refine ph_aload_n (pc := 46) C d_M_clear_46 rfl ?_
            refine gt_M_36 (pc := 47) C d_M_clear_47 hA.live hA.ob (hA.rf (k := 10) rfl) ?_
            refine ph_iload_n (pc := 50) C d_M_clear_50 rfl ?_
            refine ph_aload_n (pc := 51) C d_M_clear_51 rfl ?_
            refine gt_M_90 (pc := 52) C d_M_clear_52 hA.live hA.ob (hA.rf (k := 32) rfl) ?_
            refine ph_iload_n (pc := 55) C d_M_clear_55 rfl ?_
            refine ph_zald (pc := 56) C d_M_clear_56 (hA.ar (k := 32) rfl) rfl rfl rfl i rfl (by omega) (by decide) ?_
            refine ph_ti (y := 1) (e53) ?_
            refine ph_if_eq (pc := 57) (tgt := 64) C d_M_clear_57 (by decide) (by first | omega | (have := hV.f hf1; omega) | (have := hV.i (show LC S1 2 i by simp only [LC]; omega); have := stm_r (z := S1 2 i 5) (by omega); omega)) (fun c57 => ?_) (fun c57 => ?_)
            · exact absurd c57 (by decide)
            · refine ph_iconst (pc := 60) C d_M_clear_60 ?_
              refine ph_goto (pc := 61) (tgt := 70) C d_M_clear_61 (by decide) ?_
              refine ph_iast (pc := 70) (z := 1) C d_M_clear_70 (hA.ar (k := 10) rfl) rfl rfl rfl i rfl (by have := (show LC S1 2 i by simp only [LC]; omega); simp only [LC] at this; omega) (by decide) ?_
              have hs : MS (takeS S1 i (f0 : Int)) (ph_up τ 31 0 i (1)) := ms_take hs (show LC S1 2 i by simp only [LC]; omega) _
              have hA : MA o L ad (ph_up τ 31 0 i (1)) := hA.puta (k := 10) _
              generalize ph_up τ 31 0 i (1) = τ at hA hs ⊢
              refine ph_iinc (pc := 71) C d_M_clear_71 rfl rfl ?_
              refine ph_goto (pc := 74) (tgt := 9) C d_M_clear_74 (by decide) ?_
              refine ph_loc (l2 := [(0, .ref (o)), (1, .int (ph_i ((f0 : Int)))), (2, .int (ph_i (((i + 1 : Nat) : Int))))]) ⟨rfl, rfl, rfl, trivial⟩ ?_
              exact ih (i + 1) (takeS S1 i (f0 : Int)) τ hA hs (hV.takeS (by omega)) (by simp only [LC, takeS_g (show (0 : Nat) ≠ 2 by decide)]; exact hf1) (by rw [takeS_g (by decide)]; exact h4) (by omega) (by rw [takeS_g (by decide)]; omega) (by rw [takeS_g (by decide)]; exact h3) (by rw [takeS_g (by decide)]; exact h5) (by rw [← hE, if_neg (by omega), if_neg (by omega), ebF_t ((stm_0 (by have := hV.i (show LC S1 2 i by simp only [LC]; omega); omega)).mp (by assumption))])
  refine ph_aload_n (pc := 0) C d_M_clear_0 rfl ?_
  refine gt_M_72 (pc := 1) C d_M_clear_1 hA.live hA.ob (hA.rf (k := 24) rfl) ?_
  refine ph_iload_n (pc := 4) C d_M_clear_4 rfl ?_
  refine ph_iconst (pc := 5) C d_M_clear_5 ?_
  refine ph_zast (pc := 6) (z := 1) C d_M_clear_6 (by omega) (hA.ar (k := 24) rfl) rfl rfl rfl f0 rfl (by have := hf; simp only [LC] at this; omega) (by decide) ?_
  have hs : MS (ph_up S 0 0 6 (f0 : Int)) (ph_up τ 45 0 f0 (1)) := ms_clr hs hf h6
  have hA : MA o L ad (ph_up τ 45 0 f0 (1)) := hA.puta (k := 24) _
  generalize ph_up τ 45 0 f0 (1) = τ at hA hs ⊢
  refine ph_iconst (pc := 7) C d_M_clear_7 ?_
  refine ph_istore_n (pc := 8) C d_M_clear_8 (by decide) rfl ?_
  refine ph_loc (l2 := [(0, .ref (o)), (1, .int (ph_i ((f0 : Int)))), (2, .int (ph_i (((1 : Nat) : Int))))]) ⟨rfl, rfl, rfl, trivial⟩ ?_
  exact loop1 (S 0 0 3).toNat 1 (ph_up S 0 0 6 (f0 : Int)) τ hA hs hV6 (by simp only [LC] at hf ⊢; rw [ph_up_no _ _ (by omega)]; exact hf) (by rw [up_ne _ (by decide)]) (by omega) (by rw [ph_up_no _ _ (by omega)]; omega) (ph_up_no _ _ (by omega)) (ph_up_no _ _ (by omega)) rfl
