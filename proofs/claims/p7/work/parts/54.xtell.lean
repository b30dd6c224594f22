/-! ===== tell, plant of the other side ===== -/
set_option maxHeartbeats 4000000 in
set_option maxRecDepth 100000 in
theorem c_M_tell (l : Launch) (D : va_G) (dT : Nat → ClassId) (A : Nat → Prop) (KX : State → Prop) (L : Nat → Nat → Prop) (ad : Nat → Nat → Nat) (τ : ph_T) (S : ph_T) (o : Nat) (hA : MA o L ad τ) (hs : MS S τ) (hV : IV S) (k0 : Nat) (hk : 1 ≤ k0 ∧ k0 ≤ 6) (s0 : Nat) (hl : LC S 1 s0) (t b : Int) (ht : t = S 0 0 11) (hb : 0 ≤ b ∧ b ≤ S 0 0 5) (hf : τ 20 0 31 = fstv b S) : ph_M l y_M_tell (.code y_M_tell b_M_tell 7 (some .int) :: TB) ({ frames := 2, cells := 0, slots := 0, locals := 48 } : Room) D CLs (TY dT) dT kd A KX [.ref (o), .int (ph_i ((k0 : Int))), .int (ph_i ((s0 : Int))), .long (ph_l (t)), .int (ph_i (0))] L ad τ (fun r L' ad' τ' => L' = L ∧ ad' = ad ∧ (MA o L ad τ' ∧ MS (tellS S k0 ((s0 : Int)) ((dbm S s0 : Nat) : Int)) τ' ∧ τ' 20 0 31 = fstv b (tellS S k0 ((s0 : Int)) ((dbm S s0 : Nat) : Int))) ∧ r = some (.int (ph_i (tellv S)))) 0 0 := by
  refine ph_M.of (cc := b_M_tell) (maxL := 7) (ret := (some .int)) (by decide) rfl (Nat.le_of_ble_eq_true rfl) ?_
  intro p e s m below meth c C0 hr hlk hnm
  have C := C0.sub
  refine ph_loc (l2 := [(0, .ref (o)), (1, .int (ph_i ((k0 : Int)))), (2, .int (ph_i ((s0 : Int)))), (3, .long (ph_l (t))), (5, .int (ph_i (0)))]) ⟨rfl, rfl, rfl, rfl, rfl, trivial⟩ ?_
  have hc := hV.c
  have hm := hs.ml.r
  have hk6 : k0 ≤ 6 := hk.2
  have hr9 := hV.r hk6
  have hs8 := id hl
  simp only [LC] at hs8
  have loop : ∀ (n : Nat) (i acc : Nat) (τ : ph_T) (F : Nat), MA o L ad τ → MS (tlS S k0 ((s0 : Int)) acc) τ → τ 20 0 31 = fstv b S → (F : Int) = S 0 0 5 + 1 → 1 ≤ i → S 0 0 3 = (i : Int) + n - 1 → S 0 0 5 < 40 → acc < 2 ^ i → dbF S s0 n i acc = dbm S s0 → ph_W p l e ({ frames := 2, cells := 0, slots := 0, locals := 48 } : Room) s m [.ref (o), .int (ph_i ((k0 : Int))), .int (ph_i ((s0 : Int))), .long (ph_l (t)), .int (ph_i (0))].toArray below meth c D CLs dT kd A 7 (MQ below (ph_Q D CLs dT kd A (fun r L' ad' τ' => L' = L ∧ ad' = ad ∧ (MA o L ad τ' ∧ MS (tellS S k0 ((s0 : Int)) ((dbm S s0 : Nat) : Int)) τ' ∧ τ' 20 0 31 = fstv b (tellS S k0 ((s0 : Int)) ((dbm S s0 : Nat) : Int))) ∧ r = some (.int (ph_i (tellv S))))) [.ref (o), .int (ph_i ((k0 : Int))), .int (ph_i ((s0 : Int))), .long (ph_l (t)), .int (ph_i (0))].toArray s 0 0 A) L ad τ 0 0 131 (ph_mk [(0, .ref (o)), (1, .int (ph_i ((k0 : Int)))), (2, .int (ph_i ((s0 : Int)))), (3, .long (ph_l (t))), (5, .int (ph_i (0))), (6, .int (ph_i ((i : Int))))]) [] := by
    intro n
    induction n with
    | zero =>
      intro i acc τ F hA hs hf hF h1 h2 h40 h6 hacc
      have t3 : (tlS S k0 ((s0 : Int)) acc) 0 0 3 = S 0 0 3 := tlS_0 (by decide)
      have t5 : (tlS S k0 ((s0 : Int)) acc) 0 0 5 = S 0 0 5 + 1 := tlS_5
      have t1 : (tlS S k0 ((s0 : Int)) acc) 0 0 1 = S 0 0 1 := tlS_0 (by decide)
      have t11 : (tlS S k0 ((s0 : Int)) acc) 0 0 11 = S 0 0 11 := tlS_0 (by decide)
      have hV2 : IV (tlS S k0 ((s0 : Int)) acc) := iv_tl hV h40 hk (by omega) (bit_61 h6 (by omega))
      have hm := hs.ml.r
      refine ph_iload (pc := 131) C d_M_tell_131 rfl ?_
      refine ph_aload_n (pc := 133) C d_M_tell_133 rfl ?_
      refine gt_M_104 (pc := 134) C d_M_tell_134 hA.live hA.ob (z := (tlS S k0 ((s0 : Int)) acc) 0 0 3) hs.c7 ?_
      refine ph_icmp_gt (pc := 137) (tgt := 181) C d_M_tell_137 (by decide) (by omega) (by omega) (fun c137 => ?_) (fun c137 => ?_)
      · refine ph_aload_n (pc := 181) C d_M_tell_181 rfl ?_
        refine ph_aload_n (pc := 182) C d_M_tell_182 rfl ?_
        refine gt_M_135 (pc := 183) C d_M_tell_183 hA.live hA.ob (z := τ 20 0 31) rfl ?_
        refine ph_if_ne (pc := 186) (tgt := 196) C d_M_tell_186 (by decide) (by omega) (fun c186 => ?_) (fun c186 => ?_)
        · refine ph_aload_n (pc := 196) C d_M_tell_196 rfl ?_
          refine gt_M_135 (pc := 197) C d_M_tell_197 hA.live hA.ob (z := τ 20 0 31) rfl ?_
          refine pt_M_135 (pc := 200) C d_M_tell_200 hA.live hA.ob ?_
          have hs : MS (tlS S k0 ((s0 : Int)) acc) (ph_up τ 20 0 31 (τ 20 0 31)) := hs.fst (by omega)
          have hA : MA o L ad (ph_up τ 20 0 31 (τ 20 0 31)) := hA.putf (k := 31) _ rfl
          obtain ⟨v31, h31⟩ : ∃ v, v = τ 20 0 31 := ⟨_, rfl⟩
          have hf2 : ph_up τ 20 0 31 (τ 20 0 31) 20 0 31 = v31 := by rw [h31]; exact ph_up_at _ _ _ _ _
          generalize ph_up τ 20 0 31 (τ 20 0 31) = τ2 at hA hs hf2 ⊢
          refine ph_aload_n (pc := 203) C d_M_tell_203 rfl ?_
          refine gt_M_97 (pc := 204) C d_M_tell_204 hA.live hA.ob (z := (tlS S k0 ((s0 : Int)) acc) 0 0 5) hs.c16 ?_
          exact ph_iret (pc := 207) C d_M_tell_207 hr hlk rfl (by decide) (by decide) ⟨rfl, rfl, ⟨hA, by rw [tlS_tell (by omega), ← hacc]; exact hs, by rw [tlS_tell (by omega), hf2]; unfold fstv at hf ⊢; rw [tlS_5, if_pos (by omega)]; split at hf <;> omega⟩, (by rw [tlS_5, tellv, if_neg (by omega)])⟩
        · refine ph_aload_n (pc := 189) C d_M_tell_189 rfl ?_
          refine gt_M_97 (pc := 190) C d_M_tell_190 hA.live hA.ob (z := (tlS S k0 ((s0 : Int)) acc) 0 0 5) hs.c16 ?_
          refine ph_goto (pc := 193) (tgt := 200) C d_M_tell_193 (by decide) ?_
          refine pt_M_135 (pc := 200) C d_M_tell_200 hA.live hA.ob ?_
          have hs : MS (tlS S k0 ((s0 : Int)) acc) (ph_up τ 20 0 31 ((tlS S k0 ((s0 : Int)) acc) 0 0 5)) := hs.fst (by omega)
          have hA : MA o L ad (ph_up τ 20 0 31 ((tlS S k0 ((s0 : Int)) acc) 0 0 5)) := hA.putf (k := 31) _ rfl
          obtain ⟨v31, h31⟩ : ∃ v, v = (tlS S k0 ((s0 : Int)) acc) 0 0 5 := ⟨_, rfl⟩
          have hf2 : ph_up τ 20 0 31 ((tlS S k0 ((s0 : Int)) acc) 0 0 5) 20 0 31 = v31 := by rw [h31]; exact ph_up_at _ _ _ _ _
          generalize ph_up τ 20 0 31 ((tlS S k0 ((s0 : Int)) acc) 0 0 5) = τ2 at hA hs hf2 ⊢
          refine ph_aload_n (pc := 203) C d_M_tell_203 rfl ?_
          refine gt_M_97 (pc := 204) C d_M_tell_204 hA.live hA.ob (z := (tlS S k0 ((s0 : Int)) acc) 0 0 5) hs.c16 ?_
          exact ph_iret (pc := 207) C d_M_tell_207 hr hlk rfl (by decide) (by decide) ⟨rfl, rfl, ⟨hA, by rw [tlS_tell (by omega), ← hacc]; exact hs, by rw [tlS_tell (by omega), hf2]; unfold fstv at hf ⊢; rw [tlS_5, if_pos (by omega)]; split at hf <;> omega⟩, (by rw [tlS_5, tellv, if_neg (by omega)])⟩
      · exfalso; omega
    | succ n ih =>
      intro i acc τ F hA hs hf hF h1 h2 h40 h6 hacc
      have t3 : (tlS S k0 ((s0 : Int)) acc) 0 0 3 = S 0 0 3 := tlS_0 (by decide)
      have t5 : (tlS S k0 ((s0 : Int)) acc) 0 0 5 = S 0 0 5 + 1 := tlS_5
      have t1 : (tlS S k0 ((s0 : Int)) acc) 0 0 1 = S 0 0 1 := tlS_0 (by decide)
      have t11 : (tlS S k0 ((s0 : Int)) acc) 0 0 11 = S 0 0 11 := tlS_0 (by decide)
      have hV2 : IV (tlS S k0 ((s0 : Int)) acc) := iv_tl hV h40 hk (by omega) (bit_61 h6 (by omega))
      have hm := hs.ml.r
      refine ph_iload (pc := 131) C d_M_tell_131 rfl ?_
      refine ph_aload_n (pc := 133) C d_M_tell_133 rfl ?_
      refine gt_M_104 (pc := 134) C d_M_tell_134 hA.live hA.ob (z := (tlS S k0 ((s0 : Int)) acc) 0 0 3) hs.c7 ?_
      refine ph_icmp_gt (pc := 137) (tgt := 181) C d_M_tell_137 (by decide) (by omega) (by omega) (fun c137 => ?_) (fun c137 => ?_)
      · exfalso; omega
      · refine ph_aload_n (pc := 140) C d_M_tell_140 rfl ?_
        refine gt_M_75 (pc := 141) C d_M_tell_141 hA.live hA.ob (hA.rf (k := 25) rfl) ?_
        refine ph_bipush (pc := 144) C d_M_tell_144 (by decide) ?_
        refine ph_aload_n (pc := 146) C d_M_tell_146 rfl ?_
        refine gt_M_97 (pc := 147) C d_M_tell_147 hA.live hA.ob (z := (tlS S k0 ((s0 : Int)) acc) 0 0 5) hs.c16 ?_
        refine ph_imul (pc := 150) C d_M_tell_150 ?_
        refine ph_iload (pc := 151) C d_M_tell_151 rfl ?_
        refine ph_iadd (pc := 153) C d_M_tell_153 ?_
        refine ph_iload_n (pc := 154) C d_M_tell_154 rfl ?_
        refine ph_if_lt (pc := 155) (tgt := 173) C d_M_tell_155 (by decide) (by omega) (fun c155 => ?_) (fun c155 => ?_)
        · refine ph_iconst (pc := 173) C d_M_tell_173 ?_
          refine ph_zast (pc := 174) (z := 0) C d_M_tell_174 (by omega) (hA.ar (k := 25) rfl) rfl rfl rfl (61 * F + i) (by omega) (by omega) (by decide) ?_
          have hs : MS (tlS S k0 ((s0 : Int)) acc) (ph_up τ 46 0 (61 * F + i) (0)) := ms_db hs (by omega) hF (by omega) (by rw [bit_hi h6, ph_b0 (by decide)]) (fun q hq => rfl)
          have hA : MA o L ad (ph_up τ 46 0 (61 * F + i) (0)) := hA.puta (k := 25) _
          have hf : ph_up τ 46 0 (61 * F + i) (0) 20 0 31 = fstv b S := by rw [up_ne _ (by decide)]; exact hf
          generalize ph_up τ 46 0 (61 * F + i) (0) = τ at hA hs hf ⊢
          refine ph_iinc (pc := 175) C d_M_tell_175 rfl rfl ?_
          refine ph_goto (pc := 178) (tgt := 131) C d_M_tell_178 (by decide) ?_
          refine ph_loc (l2 := [(0, .ref (o)), (1, .int (ph_i ((k0 : Int)))), (2, .int (ph_i ((s0 : Int)))), (3, .long (ph_l (t))), (5, .int (ph_i (0))), (6, .int (ph_i (((i + 1 : Nat) : Int))))]) ⟨rfl, rfl, rfl, rfl, rfl, rfl, trivial⟩ ?_
          exact ih (i + 1) acc τ F hA hs hf hF (by omega) (by omega) (by omega) (Nat.lt_of_lt_of_le h6 (Nat.pow_le_pow_right (by decide) (by omega))) (by rw [← hacc, dbF_f (fun q => by first | exact absurd (tlS_in.mpr q) (by assumption) | omega)])
        · refine ph_aload_n (pc := 158) C d_M_tell_158 rfl ?_
          refine ph_iload (pc := 159) C d_M_tell_159 rfl ?_
          refine ph_iload_n (pc := 161) C d_M_tell_161 rfl ?_
          refine ph_lload_n (pc := 162) C d_M_tell_162 rfl ?_
          refine ph_callV (pc := 163) (rest := [.int (ph_i (((61) * ((tlS S k0 ((s0 : Int)) acc) 0 0 5)) + ((i : Int)))), .ref (ad 46 0)]) C d_M_tell_163 (c_M_isDoubt l D dT A KX L ad τ (tlS S k0 ((s0 : Int)) acc) o hA hs hV2 i s0 (show LC (tlS S k0 ((s0 : Int)) acc) 2 i by simp only [LC]; omega) (by simp only [LC]; omega) t (by omega)) (cwV 3 C.hts (gdV tw_520 tw_522 se_30 tw_2 tw_523) rfl rfl rfl ⟨rfl, by decide, by decide, by decide⟩ ⟨by decide, by decide⟩) hA.live hA.ob rfl rfl rfl rfl rfl (Nat.le_of_ble_eq_true rfl) ⟨by decide, by decide⟩ ?_
          rintro r1 L1 ad1 τ1 ⟨g1, g2, g3, g4⟩; obtain rfl := g1.symm; obtain rfl := g2.symm; obtain rfl := g3.symm; subst g4
          refine ph_bif_eq (pc := 166) (tgt := 173) C d_M_tell_166 (by decide) (fun c166 => ?_) (fun c166 => ?_)
          · refine ph_iconst (pc := 173) C d_M_tell_173 ?_
            refine ph_zast (pc := 174) (z := 0) C d_M_tell_174 (by omega) (hA.ar (k := 25) rfl) rfl rfl rfl (61 * F + i) (by omega) (by omega) (by decide) ?_
            have hs : MS (tlS S k0 ((s0 : Int)) acc) (ph_up τ 46 0 (61 * F + i) (0)) := ms_db hs (by omega) hF (by omega) (by rw [bit_hi h6, ph_b0 (by decide)]) (fun q hq => rfl)
            have hA : MA o L ad (ph_up τ 46 0 (61 * F + i) (0)) := hA.puta (k := 25) _
            have hf : ph_up τ 46 0 (61 * F + i) (0) 20 0 31 = fstv b S := by rw [up_ne _ (by decide)]; exact hf
            generalize ph_up τ 46 0 (61 * F + i) (0) = τ at hA hs hf ⊢
            refine ph_iinc (pc := 175) C d_M_tell_175 rfl rfl ?_
            refine ph_goto (pc := 178) (tgt := 131) C d_M_tell_178 (by decide) ?_
            refine ph_loc (l2 := [(0, .ref (o)), (1, .int (ph_i ((k0 : Int)))), (2, .int (ph_i ((s0 : Int)))), (3, .long (ph_l (t))), (5, .int (ph_i (0))), (6, .int (ph_i (((i + 1 : Nat) : Int))))]) ⟨rfl, rfl, rfl, rfl, rfl, rfl, trivial⟩ ?_
            exact ih (i + 1) acc τ F hA hs hf hF (by omega) (by omega) (by omega) (Nat.lt_of_lt_of_le h6 (Nat.pow_le_pow_right (by decide) (by omega))) (by rw [← hacc, dbF_f (fun q => by first | exact absurd (tlS_in.mpr q) (by assumption) | omega)])
          · refine ph_iconst (pc := 169) C d_M_tell_169 ?_
            refine ph_goto (pc := 170) (tgt := 174) C d_M_tell_170 (by decide) ?_
            refine ph_zast (pc := 174) (z := 1) C d_M_tell_174 (by omega) (hA.ar (k := 25) rfl) rfl rfl rfl (61 * F + i) (by omega) (by omega) (by decide) ?_
            have hs : MS (tlS S k0 ((s0 : Int)) (acc ||| 2 ^ i)) (ph_up τ 46 0 (61 * F + i) (1)) := ms_db hs (by omega) hF (by omega) (by rw [bit_at, ph_b1 rfl]) (fun q hq => bit_or hq)
            have hA : MA o L ad (ph_up τ 46 0 (61 * F + i) (1)) := hA.puta (k := 25) _
            have hf : ph_up τ 46 0 (61 * F + i) (1) 20 0 31 = fstv b S := by rw [up_ne _ (by decide)]; exact hf
            generalize ph_up τ 46 0 (61 * F + i) (1) = τ at hA hs hf ⊢
            refine ph_iinc (pc := 175) C d_M_tell_175 rfl rfl ?_
            refine ph_goto (pc := 178) (tgt := 131) C d_M_tell_178 (by decide) ?_
            refine ph_loc (l2 := [(0, .ref (o)), (1, .int (ph_i ((k0 : Int)))), (2, .int (ph_i ((s0 : Int)))), (3, .long (ph_l (t))), (5, .int (ph_i (0))), (6, .int (ph_i (((i + 1 : Nat) : Int))))]) ⟨rfl, rfl, rfl, rfl, rfl, rfl, trivial⟩ ?_
            exact ih (i + 1) (acc ||| 2 ^ i) τ F hA hs hf hF (by omega) (by omega) (by omega) (bit_nx h6) (by rw [← hacc, dbF_t (tlS_in.mp (by assumption))])
  refine ph_aload_n (pc := 0) C d_M_tell_0 rfl ?_
  refine gt_M_97 (pc := 1) C d_M_tell_1 hA.live hA.ob (z := S 0 0 5) hs.c16 ?_
  refine ph_bipush (pc := 4) C d_M_tell_4 (by decide) ?_
  refine ph_icmp_ne (pc := 6) (tgt := 11) C d_M_tell_6 (by decide) (by omega) (by omega) (fun c6 => ?_) (fun c6 => ?_)
  · refine ph_aload_n (pc := 11) C d_M_tell_11 rfl ?_
    refine ph_dup (pc := 12) C d_M_tell_12 rfl ?_
    refine gt_M_97 (pc := 13) C d_M_tell_13 hA.live hA.ob (z := S 0 0 5) hs.c16 ?_
    refine ph_iconst (pc := 16) C d_M_tell_16 ?_
    refine ph_iadd (pc := 17) C d_M_tell_17 ?_
    refine pt_M_97 (pc := 18) C d_M_tell_18 hA.live hA.ob ?_
    obtain ⟨σ, hw⟩ : ∃ σ : ph_T, σ = τ := ⟨_, rfl⟩
    rw [← hw] at hs
    obtain ⟨F, hF⟩ : ∃ F : Nat, (F : Int) = S 0 0 5 + 1 := ⟨(S 0 0 5 + 1).toNat, by omega⟩
    rw [← hw] at hf
    have hw : (ph_up σ 20 0 16 ((S 0 0 5) + (1))) = ph_up τ 20 0 16 ((S 0 0 5) + (1)) := by rw [hw]
    have hA : MA o L ad (ph_up τ 20 0 16 ((S 0 0 5) + (1))) := hA.putf (k := 16) _ rfl
    generalize ph_up τ 20 0 16 ((S 0 0 5) + (1)) = τ at hA hw ⊢
    refine ph_aload_n (pc := 21) C d_M_tell_21 rfl ?_
    refine gt_M_51 (pc := 22) C d_M_tell_22 hA.live hA.ob (hA.rf (k := 17) rfl) ?_
    refine ph_aload_n (pc := 25) C d_M_tell_25 rfl ?_
    refine gt_M_97 (pc := 26) C d_M_tell_26 hA.live hA.ob (z := S 0 0 5 + 1) (by rw [← hw]; simp [ph_up]) ?_
    refine ph_iload_n (pc := 29) C d_M_tell_29 rfl ?_
    refine ph_iast (pc := 30) (z := (k0 : Int)) C d_M_tell_30 (hA.ar (k := 17) rfl) rfl rfl rfl F hF.symm (by omega) (by decide) ?_
    have hw : (ph_up (ph_up σ 20 0 16 ((S 0 0 5) + (1))) 38 0 F ((k0 : Int))) = ph_up τ 38 0 F ((k0 : Int)) := by rw [hw]
    have hA : MA o L ad (ph_up τ 38 0 F ((k0 : Int))) := hA.puta (k := 17) _
    generalize ph_up τ 38 0 F ((k0 : Int)) = τ at hA hw ⊢
    refine ph_aload_n (pc := 31) C d_M_tell_31 rfl ?_
    refine gt_M_54 (pc := 32) C d_M_tell_32 hA.live hA.ob (hA.rf (k := 18) rfl) ?_
    refine ph_aload_n (pc := 35) C d_M_tell_35 rfl ?_
    refine gt_M_97 (pc := 36) C d_M_tell_36 hA.live hA.ob (z := S 0 0 5 + 1) (by rw [← hw]; simp [ph_up]) ?_
    refine ph_iload_n (pc := 39) C d_M_tell_39 rfl ?_
    refine ph_iast (pc := 40) (z := (s0 : Int)) C d_M_tell_40 (hA.ar (k := 18) rfl) rfl rfl rfl F hF.symm (by omega) (by decide) ?_
    have hw : (ph_up (ph_up (ph_up σ 20 0 16 ((S 0 0 5) + (1))) 38 0 F ((k0 : Int))) 39 0 F ((s0 : Int))) = ph_up τ 39 0 F ((s0 : Int)) := by rw [hw]
    have hA : MA o L ad (ph_up τ 39 0 F ((s0 : Int))) := hA.puta (k := 18) _
    generalize ph_up τ 39 0 F ((s0 : Int)) = τ at hA hw ⊢
    refine ph_aload_n (pc := 41) C d_M_tell_41 rfl ?_
    refine gt_M_57 (pc := 42) C d_M_tell_42 hA.live hA.ob (hA.rf (k := 19) rfl) ?_
    refine ph_aload_n (pc := 45) C d_M_tell_45 rfl ?_
    refine gt_M_97 (pc := 46) C d_M_tell_46 hA.live hA.ob (z := S 0 0 5 + 1) (by rw [← hw]; simp [ph_up]) ?_
    refine ph_lload_n (pc := 49) C d_M_tell_49 rfl ?_
    refine ph_last (pc := 50) (z := t) C d_M_tell_50 (hA.ar (k := 19) rfl) rfl rfl rfl F hF.symm (by omega) (by decide) ?_
    have hw : (ph_up (ph_up (ph_up (ph_up σ 20 0 16 ((S 0 0 5) + (1))) 38 0 F ((k0 : Int))) 39 0 F ((s0 : Int))) 40 0 F (t)) = ph_up τ 40 0 F (t) := by rw [hw]
    have hA : MA o L ad (ph_up τ 40 0 F (t)) := hA.puta (k := 19) _
    generalize ph_up τ 40 0 F (t) = τ at hA hw ⊢
    refine ph_aload_n (pc := 51) C d_M_tell_51 rfl ?_
    refine gt_M_66 (pc := 52) C d_M_tell_52 hA.live hA.ob (hA.rf (k := 22) rfl) ?_
    refine ph_aload_n (pc := 55) C d_M_tell_55 rfl ?_
    refine gt_M_97 (pc := 56) C d_M_tell_56 hA.live hA.ob (z := S 0 0 5 + 1) (by rw [← hw]; simp [ph_up]) ?_
    refine ph_iload (pc := 59) C d_M_tell_59 rfl ?_
    refine ph_zast (pc := 61) (z := 0) C d_M_tell_61 (by omega) (hA.ar (k := 22) rfl) rfl rfl rfl F hF.symm (by omega) (by decide) ?_
    have hw : (ph_up (ph_up (ph_up (ph_up (ph_up σ 20 0 16 ((S 0 0 5) + (1))) 38 0 F ((k0 : Int))) 39 0 F ((s0 : Int))) 40 0 F (t)) 43 0 F (0)) = ph_up τ 43 0 F (0) := by rw [hw]
    have hA : MA o L ad (ph_up τ 43 0 F (0)) := hA.puta (k := 22) _
    generalize ph_up τ 43 0 F (0) = τ at hA hw ⊢
    refine ph_aload_n (pc := 62) C d_M_tell_62 rfl ?_
    refine gt_M_63 (pc := 63) C d_M_tell_63 hA.live hA.ob (hA.rf (k := 21) rfl) ?_
    refine ph_aload_n (pc := 66) C d_M_tell_66 rfl ?_
    refine gt_M_97 (pc := 67) C d_M_tell_67 hA.live hA.ob (z := S 0 0 5 + 1) (by rw [← hw]; simp [ph_up]) ?_
    refine ph_aload_n (pc := 70) C d_M_tell_70 rfl ?_
    refine gt_M_81 (pc := 71) C d_M_tell_71 hA.live hA.ob (hA.rf (k := 27) rfl) ?_
    refine ph_iload_n (pc := 74) C d_M_tell_74 rfl ?_
    refine ph_zald (pc := 75) C d_M_tell_75 (hA.ar (k := 27) rfl) rfl rfl rfl k0 rfl (by omega) (by decide) ?_
    refine ph_ti (y := S 8 0 k0) ((by rw [← hw]; simp [ph_up, hs.r48 hk6])) ?_
    refine ph_zast (pc := 76) (z := S 8 0 k0) C d_M_tell_76 (by omega) (hA.ar (k := 21) rfl) rfl rfl rfl F hF.symm (by omega) (by decide) ?_
    have hw : (ph_up (ph_up (ph_up (ph_up (ph_up (ph_up σ 20 0 16 ((S 0 0 5) + (1))) 38 0 F ((k0 : Int))) 39 0 F ((s0 : Int))) 40 0 F (t)) 43 0 F (0)) 42 0 F (S 8 0 k0)) = ph_up τ 42 0 F (S 8 0 k0) := by rw [hw]
    have hA : MA o L ad (ph_up τ 42 0 F (S 8 0 k0)) := hA.puta (k := 21) _
    generalize ph_up τ 42 0 F (S 8 0 k0) = τ at hA hw ⊢
    refine ph_aload_n (pc := 77) C d_M_tell_77 rfl ?_
    refine gt_M_78 (pc := 78) C d_M_tell_78 hA.live hA.ob (hA.rf (k := 26) rfl) ?_
    refine ph_iload_n (pc := 81) C d_M_tell_81 rfl ?_
    refine ph_aload_n (pc := 82) C d_M_tell_82 rfl ?_
    refine gt_M_78 (pc := 83) C d_M_tell_83 hA.live hA.ob (hA.rf (k := 26) rfl) ?_
    refine ph_iload_n (pc := 86) C d_M_tell_86 rfl ?_
    refine ph_zald (pc := 87) C d_M_tell_87 (hA.ar (k := 26) rfl) rfl rfl rfl k0 rfl (by omega) (by decide) ?_
    refine ph_ti (y := S 7 0 k0) ((by rw [← hw]; simp [ph_up, hs.r47 hk6])) ?_
    refine ph_if_ne (pc := 88) (tgt := 100) C d_M_tell_88 (by decide) (by omega) (fun c88 => ?_) (fun c88 => ?_)
    · refine ph_iconst (pc := 100) C d_M_tell_100 ?_
      refine ph_goto (pc := 101) (tgt := 105) C d_M_tell_101 (by decide) ?_
      refine ph_zast (pc := 105) (z := 1) C d_M_tell_105 (by omega) (hA.ar (k := 26) rfl) rfl rfl rfl k0 rfl (by omega) (by decide) ?_
      have hw : (ph_up (ph_up (ph_up (ph_up (ph_up (ph_up (ph_up σ 20 0 16 ((S 0 0 5) + (1))) 38 0 F ((k0 : Int))) 39 0 F ((s0 : Int))) 40 0 F (t)) 43 0 F (0)) 42 0 F (S 8 0 k0)) 47 0 k0 (1)) = ph_up τ 47 0 k0 (1) := by rw [hw]
      have hA : MA o L ad (ph_up τ 47 0 k0 (1)) := hA.puta (k := 26) _
      generalize ph_up τ 47 0 k0 (1) = τ at hA hw ⊢
      refine ph_aload_n (pc := 106) C d_M_tell_106 rfl ?_
      refine gt_M_81 (pc := 107) C d_M_tell_107 hA.live hA.ob (hA.rf (k := 27) rfl) ?_
      refine ph_iload_n (pc := 110) C d_M_tell_110 rfl ?_
      refine ph_iconst (pc := 111) C d_M_tell_111 ?_
      refine ph_zast (pc := 112) (z := 0) C d_M_tell_112 (by omega) (hA.ar (k := 27) rfl) rfl rfl rfl k0 rfl (by omega) (by decide) ?_
      have hw : (ph_up (ph_up (ph_up (ph_up (ph_up (ph_up (ph_up (ph_up σ 20 0 16 ((S 0 0 5) + (1))) 38 0 F ((k0 : Int))) 39 0 F ((s0 : Int))) 40 0 F (t)) 43 0 F (0)) 42 0 F (S 8 0 k0)) 47 0 k0 (1)) 48 0 k0 (0)) = ph_up τ 48 0 k0 (0) := by rw [hw]
      have hA : MA o L ad (ph_up τ 48 0 k0 (0)) := hA.puta (k := 27) _
      generalize ph_up τ 48 0 k0 (0) = τ at hA hw ⊢
      refine ph_aload_n (pc := 113) C d_M_tell_113 rfl ?_
      refine gt_M_60 (pc := 114) C d_M_tell_114 hA.live hA.ob (hA.rf (k := 20) rfl) ?_
      refine ph_aload_n (pc := 117) C d_M_tell_117 rfl ?_
      refine gt_M_97 (pc := 118) C d_M_tell_118 hA.live hA.ob (z := S 0 0 5 + 1) (by rw [← hw]; simp [ph_up]) ?_
      refine ph_aload_n (pc := 121) C d_M_tell_121 rfl ?_
      refine gt_M_78 (pc := 122) C d_M_tell_122 hA.live hA.ob (hA.rf (k := 26) rfl) ?_
      refine ph_iload_n (pc := 125) C d_M_tell_125 rfl ?_
      refine ph_zald (pc := 126) C d_M_tell_126 (hA.ar (k := 26) rfl) rfl rfl rfl k0 rfl (by omega) (by decide) ?_
      refine ph_ti (y := 1) ((by rw [← hw]; simp [ph_up])) ?_
      refine ph_zast (pc := 127) (z := 1) C d_M_tell_127 (by omega) (hA.ar (k := 20) rfl) rfl rfl rfl F hF.symm (by omega) (by decide) ?_
      have hw : (ph_up (ph_up (ph_up (ph_up (ph_up (ph_up (ph_up (ph_up (ph_up σ 20 0 16 ((S 0 0 5) + (1))) 38 0 F ((k0 : Int))) 39 0 F ((s0 : Int))) 40 0 F (t)) 43 0 F (0)) 42 0 F (S 8 0 k0)) 47 0 k0 (1)) 48 0 k0 (0)) 41 0 F (1)) = ph_up τ 41 0 F (1) := by rw [hw]
      have hA : MA o L ad (ph_up τ 41 0 F (1)) := hA.puta (k := 20) _
      generalize ph_up τ 41 0 F (1) = τ at hA hw ⊢
      refine ph_iconst (pc := 128) C d_M_tell_128 ?_
      refine ph_istore (pc := 129) C d_M_tell_129 (by decide) rfl ?_
      refine ph_loc (l2 := [(0, .ref (o)), (1, .int (ph_i ((k0 : Int)))), (2, .int (ph_i ((s0 : Int)))), (3, .long (ph_l (t))), (5, .int (ph_i (0))), (6, .int (ph_i (((1 : Nat) : Int))))]) ⟨rfl, rfl, rfl, rfl, rfl, rfl, trivial⟩ ?_
      exact loop (S 0 0 3).toNat 1 0 τ F hA (by rw [← hw]; exact ms_tell0 hs hV (by omega) hF hk6 ht (ph_b0 (by omega)).symm (by rw [thr_7]; first | (rw [if_pos ⟨rfl, by omega⟩]) | (rw [if_neg (fun q => q.2 (by omega))]; omega) | (split <;> omega))) (by rw [← hw]; simp [ph_up]; exact hf) hF (by omega) (by omega) (by omega) (by decide) (by rfl)
    · refine ph_aload_n (pc := 91) C d_M_tell_91 rfl ?_
      refine gt_M_81 (pc := 92) C d_M_tell_92 hA.live hA.ob (hA.rf (k := 27) rfl) ?_
      refine ph_iload_n (pc := 95) C d_M_tell_95 rfl ?_
      refine ph_zald (pc := 96) C d_M_tell_96 (hA.ar (k := 27) rfl) rfl rfl rfl k0 rfl (by omega) (by decide) ?_
      refine ph_ti (y := S 8 0 k0) ((by rw [← hw]; simp [ph_up, hs.r48 hk6])) ?_
      refine ph_if_eq (pc := 97) (tgt := 104) C d_M_tell_97 (by decide) (by omega) (fun c97 => ?_) (fun c97 => ?_)
      · refine ph_iconst (pc := 104) C d_M_tell_104 ?_
        refine ph_zast (pc := 105) (z := 0) C d_M_tell_105 (by omega) (hA.ar (k := 26) rfl) rfl rfl rfl k0 rfl (by omega) (by decide) ?_
        have hw : (ph_up (ph_up (ph_up (ph_up (ph_up (ph_up (ph_up σ 20 0 16 ((S 0 0 5) + (1))) 38 0 F ((k0 : Int))) 39 0 F ((s0 : Int))) 40 0 F (t)) 43 0 F (0)) 42 0 F (S 8 0 k0)) 47 0 k0 (0)) = ph_up τ 47 0 k0 (0) := by rw [hw]
        have hA : MA o L ad (ph_up τ 47 0 k0 (0)) := hA.puta (k := 26) _
        generalize ph_up τ 47 0 k0 (0) = τ at hA hw ⊢
        refine ph_aload_n (pc := 106) C d_M_tell_106 rfl ?_
        refine gt_M_81 (pc := 107) C d_M_tell_107 hA.live hA.ob (hA.rf (k := 27) rfl) ?_
        refine ph_iload_n (pc := 110) C d_M_tell_110 rfl ?_
        refine ph_iconst (pc := 111) C d_M_tell_111 ?_
        refine ph_zast (pc := 112) (z := 0) C d_M_tell_112 (by omega) (hA.ar (k := 27) rfl) rfl rfl rfl k0 rfl (by omega) (by decide) ?_
        have hw : (ph_up (ph_up (ph_up (ph_up (ph_up (ph_up (ph_up (ph_up σ 20 0 16 ((S 0 0 5) + (1))) 38 0 F ((k0 : Int))) 39 0 F ((s0 : Int))) 40 0 F (t)) 43 0 F (0)) 42 0 F (S 8 0 k0)) 47 0 k0 (0)) 48 0 k0 (0)) = ph_up τ 48 0 k0 (0) := by rw [hw]
        have hA : MA o L ad (ph_up τ 48 0 k0 (0)) := hA.puta (k := 27) _
        generalize ph_up τ 48 0 k0 (0) = τ at hA hw ⊢
        refine ph_aload_n (pc := 113) C d_M_tell_113 rfl ?_
        refine gt_M_60 (pc := 114) C d_M_tell_114 hA.live hA.ob (hA.rf (k := 20) rfl) ?_
        refine ph_aload_n (pc := 117) C d_M_tell_117 rfl ?_
        refine gt_M_97 (pc := 118) C d_M_tell_118 hA.live hA.ob (z := S 0 0 5 + 1) (by rw [← hw]; simp [ph_up]) ?_
        refine ph_aload_n (pc := 121) C d_M_tell_121 rfl ?_
        refine gt_M_78 (pc := 122) C d_M_tell_122 hA.live hA.ob (hA.rf (k := 26) rfl) ?_
        refine ph_iload_n (pc := 125) C d_M_tell_125 rfl ?_
        refine ph_zald (pc := 126) C d_M_tell_126 (hA.ar (k := 26) rfl) rfl rfl rfl k0 rfl (by omega) (by decide) ?_
        refine ph_ti (y := 0) ((by rw [← hw]; simp [ph_up])) ?_
        refine ph_zast (pc := 127) (z := 0) C d_M_tell_127 (by omega) (hA.ar (k := 20) rfl) rfl rfl rfl F hF.symm (by omega) (by decide) ?_
        have hw : (ph_up (ph_up (ph_up (ph_up (ph_up (ph_up (ph_up (ph_up (ph_up σ 20 0 16 ((S 0 0 5) + (1))) 38 0 F ((k0 : Int))) 39 0 F ((s0 : Int))) 40 0 F (t)) 43 0 F (0)) 42 0 F (S 8 0 k0)) 47 0 k0 (0)) 48 0 k0 (0)) 41 0 F (0)) = ph_up τ 41 0 F (0) := by rw [hw]
        have hA : MA o L ad (ph_up τ 41 0 F (0)) := hA.puta (k := 20) _
        generalize ph_up τ 41 0 F (0) = τ at hA hw ⊢
        refine ph_iconst (pc := 128) C d_M_tell_128 ?_
        refine ph_istore (pc := 129) C d_M_tell_129 (by decide) rfl ?_
        refine ph_loc (l2 := [(0, .ref (o)), (1, .int (ph_i ((k0 : Int)))), (2, .int (ph_i ((s0 : Int)))), (3, .long (ph_l (t))), (5, .int (ph_i (0))), (6, .int (ph_i (((1 : Nat) : Int))))]) ⟨rfl, rfl, rfl, rfl, rfl, rfl, trivial⟩ ?_
        exact loop (S 0 0 3).toNat 1 0 τ F hA (by rw [← hw]; exact ms_tell0 hs hV (by omega) hF hk6 ht (ph_b0 (by omega)).symm (by rw [thr_7]; first | (rw [if_pos ⟨rfl, by omega⟩]) | (rw [if_neg (fun q => q.2 (by omega))]; omega) | (split <;> omega))) (by rw [← hw]; simp [ph_up]; exact hf) hF (by omega) (by omega) (by omega) (by decide) (by rfl)
      · refine ph_iconst (pc := 100) C d_M_tell_100 ?_
        refine ph_goto (pc := 101) (tgt := 105) C d_M_tell_101 (by decide) ?_
        refine ph_zast (pc := 105) (z := 1) C d_M_tell_105 (by omega) (hA.ar (k := 26) rfl) rfl rfl rfl k0 rfl (by omega) (by decide) ?_
        have hw : (ph_up (ph_up (ph_up (ph_up (ph_up (ph_up (ph_up σ 20 0 16 ((S 0 0 5) + (1))) 38 0 F ((k0 : Int))) 39 0 F ((s0 : Int))) 40 0 F (t)) 43 0 F (0)) 42 0 F (S 8 0 k0)) 47 0 k0 (1)) = ph_up τ 47 0 k0 (1) := by rw [hw]
        have hA : MA o L ad (ph_up τ 47 0 k0 (1)) := hA.puta (k := 26) _
        generalize ph_up τ 47 0 k0 (1) = τ at hA hw ⊢
        refine ph_aload_n (pc := 106) C d_M_tell_106 rfl ?_
        refine gt_M_81 (pc := 107) C d_M_tell_107 hA.live hA.ob (hA.rf (k := 27) rfl) ?_
        refine ph_iload_n (pc := 110) C d_M_tell_110 rfl ?_
        refine ph_iconst (pc := 111) C d_M_tell_111 ?_
        refine ph_zast (pc := 112) (z := 0) C d_M_tell_112 (by omega) (hA.ar (k := 27) rfl) rfl rfl rfl k0 rfl (by omega) (by decide) ?_
        have hw : (ph_up (ph_up (ph_up (ph_up (ph_up (ph_up (ph_up (ph_up σ 20 0 16 ((S 0 0 5) + (1))) 38 0 F ((k0 : Int))) 39 0 F ((s0 : Int))) 40 0 F (t)) 43 0 F (0)) 42 0 F (S 8 0 k0)) 47 0 k0 (1)) 48 0 k0 (0)) = ph_up τ 48 0 k0 (0) := by rw [hw]
        have hA : MA o L ad (ph_up τ 48 0 k0 (0)) := hA.puta (k := 27) _
        generalize ph_up τ 48 0 k0 (0) = τ at hA hw ⊢
        refine ph_aload_n (pc := 113) C d_M_tell_113 rfl ?_
        refine gt_M_60 (pc := 114) C d_M_tell_114 hA.live hA.ob (hA.rf (k := 20) rfl) ?_
        refine ph_aload_n (pc := 117) C d_M_tell_117 rfl ?_
        refine gt_M_97 (pc := 118) C d_M_tell_118 hA.live hA.ob (z := S 0 0 5 + 1) (by rw [← hw]; simp [ph_up]) ?_
        refine ph_aload_n (pc := 121) C d_M_tell_121 rfl ?_
        refine gt_M_78 (pc := 122) C d_M_tell_122 hA.live hA.ob (hA.rf (k := 26) rfl) ?_
        refine ph_iload_n (pc := 125) C d_M_tell_125 rfl ?_
        refine ph_zald (pc := 126) C d_M_tell_126 (hA.ar (k := 26) rfl) rfl rfl rfl k0 rfl (by omega) (by decide) ?_
        refine ph_ti (y := 1) ((by rw [← hw]; simp [ph_up])) ?_
        refine ph_zast (pc := 127) (z := 1) C d_M_tell_127 (by omega) (hA.ar (k := 20) rfl) rfl rfl rfl F hF.symm (by omega) (by decide) ?_
        have hw : (ph_up (ph_up (ph_up (ph_up (ph_up (ph_up (ph_up (ph_up (ph_up σ 20 0 16 ((S 0 0 5) + (1))) 38 0 F ((k0 : Int))) 39 0 F ((s0 : Int))) 40 0 F (t)) 43 0 F (0)) 42 0 F (S 8 0 k0)) 47 0 k0 (1)) 48 0 k0 (0)) 41 0 F (1)) = ph_up τ 41 0 F (1) := by rw [hw]
        have hA : MA o L ad (ph_up τ 41 0 F (1)) := hA.puta (k := 20) _
        generalize ph_up τ 41 0 F (1) = τ at hA hw ⊢
        refine ph_iconst (pc := 128) C d_M_tell_128 ?_
        refine ph_istore (pc := 129) C d_M_tell_129 (by decide) rfl ?_
        refine ph_loc (l2 := [(0, .ref (o)), (1, .int (ph_i ((k0 : Int)))), (2, .int (ph_i ((s0 : Int)))), (3, .long (ph_l (t))), (5, .int (ph_i (0))), (6, .int (ph_i (((1 : Nat) : Int))))]) ⟨rfl, rfl, rfl, rfl, rfl, rfl, trivial⟩ ?_
        exact loop (S 0 0 3).toNat 1 0 τ F hA (by rw [← hw]; exact ms_tell0 hs hV (by omega) hF hk6 ht (ph_b0 (by omega)).symm (by rw [thr_7]; first | (rw [if_pos ⟨rfl, by omega⟩]) | (rw [if_neg (fun q => q.2 (by omega))]; omega) | (split <;> omega))) (by rw [← hw]; simp [ph_up]; exact hf) hF (by omega) (by omega) (by omega) (by decide) (by rfl)
  · refine ph_iconst (pc := 9) C d_M_tell_9 ?_
    exact ph_iret (pc := 10) C d_M_tell_10 hr hlk rfl (by decide) (by decide) ⟨rfl, rfl, ⟨hA, by rw [tell_full (by omega)]; exact hs, by rw [tell_full (by omega)]; exact hf⟩, (by rw [tellv, if_pos (by omega)])⟩
set_option maxHeartbeats 4000000 in
set_option maxRecDepth 100000 in
theorem c_M_tellP (l : Launch) (D : va_G) (dT : Nat → ClassId) (A : Nat → Prop) (KX : State → Prop) (L : Nat → Nat → Prop) (ad : Nat → Nat → Nat) (τ : ph_T) (S : ph_T) (o : Nat) (hA : MA o L ad τ) (hs : MS S τ) (hV : IV S) (k0 : Nat) (hk : 1 ≤ k0 ∧ k0 ≤ 6)  (t b : Int) (ht : t = S 0 0 11) (hb : 0 ≤ b ∧ b ≤ S 0 0 5) (hf : τ 20 0 31 = fstv b S) : ph_M l y_M_tell (.code y_M_tell b_M_tell 7 (some .int) :: TB) ({ frames := 2, cells := 0, slots := 0, locals := 48 } : Room) D CLs (TY dT) dT kd A KX [.ref (o), .int (ph_i ((k0 : Int))), .int (ph_i (-1)), .long (ph_l (t)), .int (ph_i (1))] L ad τ (fun r L' ad' τ' => L' = L ∧ ad' = ad ∧ (MA o L ad τ' ∧ MS (tellS S k0 (-1) ((0 : Nat) : Int)) τ' ∧ τ' 20 0 31 = fstv b (tellS S k0 (-1) ((0 : Nat) : Int))) ∧ r = some (.int (ph_i (tellv S)))) 0 0 := by
  refine ph_M.of (cc := b_M_tell) (maxL := 7) (ret := (some .int)) (by decide) rfl (Nat.le_of_ble_eq_true rfl) ?_
  intro p e s m below meth c C0 hr hlk hnm
  have C := C0.sub
  refine ph_loc (l2 := [(0, .ref (o)), (1, .int (ph_i ((k0 : Int)))), (2, .int (ph_i (-1))), (3, .long (ph_l (t))), (5, .int (ph_i (1)))]) ⟨rfl, rfl, rfl, rfl, rfl, trivial⟩ ?_
  have hc := hV.c
  have hm := hs.ml.r
  have hk6 : k0 ≤ 6 := hk.2
  have hr9 := hV.r hk6
  have loop : ∀ (n : Nat) (i acc : Nat) (τ : ph_T) (F : Nat), MA o L ad τ → MS (tlS S k0 (-1) acc) τ → τ 20 0 31 = fstv b S → (F : Int) = S 0 0 5 + 1 → 1 ≤ i → S 0 0 3 = (i : Int) + n - 1 → S 0 0 5 < 40 → acc < 2 ^ i → acc = 0 → ph_W p l e ({ frames := 2, cells := 0, slots := 0, locals := 48 } : Room) s m [.ref (o), .int (ph_i ((k0 : Int))), .int (ph_i (-1)), .long (ph_l (t)), .int (ph_i (1))].toArray below meth c D CLs dT kd A 7 (MQ below (ph_Q D CLs dT kd A (fun r L' ad' τ' => L' = L ∧ ad' = ad ∧ (MA o L ad τ' ∧ MS (tellS S k0 (-1) ((0 : Nat) : Int)) τ' ∧ τ' 20 0 31 = fstv b (tellS S k0 (-1) ((0 : Nat) : Int))) ∧ r = some (.int (ph_i (tellv S))))) [.ref (o), .int (ph_i ((k0 : Int))), .int (ph_i (-1)), .long (ph_l (t)), .int (ph_i (1))].toArray s 0 0 A) L ad τ 0 0 131 (ph_mk [(0, .ref (o)), (1, .int (ph_i ((k0 : Int)))), (2, .int (ph_i (-1))), (3, .long (ph_l (t))), (5, .int (ph_i (1))), (6, .int (ph_i ((i : Int))))]) [] := by
    intro n
    induction n with
    | zero =>
      intro i acc τ F hA hs hf hF h1 h2 h40 h6 hacc
      have t3 : (tlS S k0 (-1) acc) 0 0 3 = S 0 0 3 := tlS_0 (by decide)
      have t5 : (tlS S k0 (-1) acc) 0 0 5 = S 0 0 5 + 1 := tlS_5
      have t1 : (tlS S k0 (-1) acc) 0 0 1 = S 0 0 1 := tlS_0 (by decide)
      have t11 : (tlS S k0 (-1) acc) 0 0 11 = S 0 0 11 := tlS_0 (by decide)
      have hV2 : IV (tlS S k0 (-1) acc) := iv_tl hV h40 hk (by omega) (bit_61 h6 (by omega))
      have hm := hs.ml.r
      refine ph_iload (pc := 131) C d_M_tell_131 rfl ?_
      refine ph_aload_n (pc := 133) C d_M_tell_133 rfl ?_
      refine gt_M_104 (pc := 134) C d_M_tell_134 hA.live hA.ob (z := (tlS S k0 (-1) acc) 0 0 3) hs.c7 ?_
      refine ph_icmp_gt (pc := 137) (tgt := 181) C d_M_tell_137 (by decide) (by omega) (by omega) (fun c137 => ?_) (fun c137 => ?_)
      · refine ph_aload_n (pc := 181) C d_M_tell_181 rfl ?_
        refine ph_aload_n (pc := 182) C d_M_tell_182 rfl ?_
        refine gt_M_135 (pc := 183) C d_M_tell_183 hA.live hA.ob (z := τ 20 0 31) rfl ?_
        refine ph_if_ne (pc := 186) (tgt := 196) C d_M_tell_186 (by decide) (by omega) (fun c186 => ?_) (fun c186 => ?_)
        · refine ph_aload_n (pc := 196) C d_M_tell_196 rfl ?_
          refine gt_M_135 (pc := 197) C d_M_tell_197 hA.live hA.ob (z := τ 20 0 31) rfl ?_
          refine pt_M_135 (pc := 200) C d_M_tell_200 hA.live hA.ob ?_
          have hs : MS (tlS S k0 (-1) acc) (ph_up τ 20 0 31 (τ 20 0 31)) := hs.fst (by omega)
          have hA : MA o L ad (ph_up τ 20 0 31 (τ 20 0 31)) := hA.putf (k := 31) _ rfl
          obtain ⟨v31, h31⟩ : ∃ v, v = τ 20 0 31 := ⟨_, rfl⟩
          have hf2 : ph_up τ 20 0 31 (τ 20 0 31) 20 0 31 = v31 := by rw [h31]; exact ph_up_at _ _ _ _ _
          generalize ph_up τ 20 0 31 (τ 20 0 31) = τ2 at hA hs hf2 ⊢
          refine ph_aload_n (pc := 203) C d_M_tell_203 rfl ?_
          refine gt_M_97 (pc := 204) C d_M_tell_204 hA.live hA.ob (z := (tlS S k0 (-1) acc) 0 0 5) hs.c16 ?_
          exact ph_iret (pc := 207) C d_M_tell_207 hr hlk rfl (by decide) (by decide) ⟨rfl, rfl, ⟨hA, by rw [tlS_tell (by omega), ← hacc]; exact hs, by rw [tlS_tell (by omega), hf2]; unfold fstv at hf ⊢; rw [tlS_5, if_pos (by omega)]; split at hf <;> omega⟩, (by rw [tlS_5, tellv, if_neg (by omega)])⟩
        · refine ph_aload_n (pc := 189) C d_M_tell_189 rfl ?_
          refine gt_M_97 (pc := 190) C d_M_tell_190 hA.live hA.ob (z := (tlS S k0 (-1) acc) 0 0 5) hs.c16 ?_
          refine ph_goto (pc := 193) (tgt := 200) C d_M_tell_193 (by decide) ?_
          refine pt_M_135 (pc := 200) C d_M_tell_200 hA.live hA.ob ?_
          have hs : MS (tlS S k0 (-1) acc) (ph_up τ 20 0 31 ((tlS S k0 (-1) acc) 0 0 5)) := hs.fst (by omega)
          have hA : MA o L ad (ph_up τ 20 0 31 ((tlS S k0 (-1) acc) 0 0 5)) := hA.putf (k := 31) _ rfl
          obtain ⟨v31, h31⟩ : ∃ v, v = (tlS S k0 (-1) acc) 0 0 5 := ⟨_, rfl⟩
          have hf2 : ph_up τ 20 0 31 ((tlS S k0 (-1) acc) 0 0 5) 20 0 31 = v31 := by rw [h31]; exact ph_up_at _ _ _ _ _
          generalize ph_up τ 20 0 31 ((tlS S k0 (-1) acc) 0 0 5) = τ2 at hA hs hf2 ⊢
          refine ph_aload_n (pc := 203) C d_M_tell_203 rfl ?_
          refine gt_M_97 (pc := 204) C d_M_tell_204 hA.live hA.ob (z := (tlS S k0 (-1) acc) 0 0 5) hs.c16 ?_
          exact ph_iret (pc := 207) C d_M_tell_207 hr hlk rfl (by decide) (by decide) ⟨rfl, rfl, ⟨hA, by rw [tlS_tell (by omega), ← hacc]; exact hs, by rw [tlS_tell (by omega), hf2]; unfold fstv at hf ⊢; rw [tlS_5, if_pos (by omega)]; split at hf <;> omega⟩, (by rw [tlS_5, tellv, if_neg (by omega)])⟩
      · exfalso; omega
    | succ n ih =>
      intro i acc τ F hA hs hf hF h1 h2 h40 h6 hacc
      have t3 : (tlS S k0 (-1) acc) 0 0 3 = S 0 0 3 := tlS_0 (by decide)
      have t5 : (tlS S k0 (-1) acc) 0 0 5 = S 0 0 5 + 1 := tlS_5
      have t1 : (tlS S k0 (-1) acc) 0 0 1 = S 0 0 1 := tlS_0 (by decide)
      have t11 : (tlS S k0 (-1) acc) 0 0 11 = S 0 0 11 := tlS_0 (by decide)
      have hV2 : IV (tlS S k0 (-1) acc) := iv_tl hV h40 hk (by omega) (bit_61 h6 (by omega))
      have hm := hs.ml.r
      refine ph_iload (pc := 131) C d_M_tell_131 rfl ?_
      refine ph_aload_n (pc := 133) C d_M_tell_133 rfl ?_
      refine gt_M_104 (pc := 134) C d_M_tell_134 hA.live hA.ob (z := (tlS S k0 (-1) acc) 0 0 3) hs.c7 ?_
      refine ph_icmp_gt (pc := 137) (tgt := 181) C d_M_tell_137 (by decide) (by omega) (by omega) (fun c137 => ?_) (fun c137 => ?_)
      · exfalso; omega
      · refine ph_aload_n (pc := 140) C d_M_tell_140 rfl ?_
        refine gt_M_75 (pc := 141) C d_M_tell_141 hA.live hA.ob (hA.rf (k := 25) rfl) ?_
        refine ph_bipush (pc := 144) C d_M_tell_144 (by decide) ?_
        refine ph_aload_n (pc := 146) C d_M_tell_146 rfl ?_
        refine gt_M_97 (pc := 147) C d_M_tell_147 hA.live hA.ob (z := (tlS S k0 (-1) acc) 0 0 5) hs.c16 ?_
        refine ph_imul (pc := 150) C d_M_tell_150 ?_
        refine ph_iload (pc := 151) C d_M_tell_151 rfl ?_
        refine ph_iadd (pc := 153) C d_M_tell_153 ?_
        refine ph_iload_n (pc := 154) C d_M_tell_154 rfl ?_
        refine ph_if_lt (pc := 155) (tgt := 173) C d_M_tell_155 (by decide) (by omega) (fun c155 => ?_) (fun c155 => ?_)
        · refine ph_iconst (pc := 173) C d_M_tell_173 ?_
          refine ph_zast (pc := 174) (z := 0) C d_M_tell_174 (by omega) (hA.ar (k := 25) rfl) rfl rfl rfl (61 * F + i) (by omega) (by omega) (by decide) ?_
          have hs : MS (tlS S k0 (-1) acc) (ph_up τ 46 0 (61 * F + i) (0)) := ms_db hs (by omega) hF (by omega) (by rw [bit_hi h6, ph_b0 (by decide)]) (fun q hq => rfl)
          have hA : MA o L ad (ph_up τ 46 0 (61 * F + i) (0)) := hA.puta (k := 25) _
          have hf : ph_up τ 46 0 (61 * F + i) (0) 20 0 31 = fstv b S := by rw [up_ne _ (by decide)]; exact hf
          generalize ph_up τ 46 0 (61 * F + i) (0) = τ at hA hs hf ⊢
          refine ph_iinc (pc := 175) C d_M_tell_175 rfl rfl ?_
          refine ph_goto (pc := 178) (tgt := 131) C d_M_tell_178 (by decide) ?_
          refine ph_loc (l2 := [(0, .ref (o)), (1, .int (ph_i ((k0 : Int)))), (2, .int (ph_i (-1))), (3, .long (ph_l (t))), (5, .int (ph_i (1))), (6, .int (ph_i (((i + 1 : Nat) : Int))))]) ⟨rfl, rfl, rfl, rfl, rfl, rfl, trivial⟩ ?_
          exact ih (i + 1) acc τ F hA hs hf hF (by omega) (by omega) (by omega) (Nat.lt_of_lt_of_le h6 (Nat.pow_le_pow_right (by decide) (by omega))) hacc
        · exfalso; omega
  refine ph_aload_n (pc := 0) C d_M_tell_0 rfl ?_
  refine gt_M_97 (pc := 1) C d_M_tell_1 hA.live hA.ob (z := S 0 0 5) hs.c16 ?_
  refine ph_bipush (pc := 4) C d_M_tell_4 (by decide) ?_
  refine ph_icmp_ne (pc := 6) (tgt := 11) C d_M_tell_6 (by decide) (by omega) (by omega) (fun c6 => ?_) (fun c6 => ?_)
  · refine ph_aload_n (pc := 11) C d_M_tell_11 rfl ?_
    refine ph_dup (pc := 12) C d_M_tell_12 rfl ?_
    refine gt_M_97 (pc := 13) C d_M_tell_13 hA.live hA.ob (z := S 0 0 5) hs.c16 ?_
    refine ph_iconst (pc := 16) C d_M_tell_16 ?_
    refine ph_iadd (pc := 17) C d_M_tell_17 ?_
    refine pt_M_97 (pc := 18) C d_M_tell_18 hA.live hA.ob ?_
    obtain ⟨σ, hw⟩ : ∃ σ : ph_T, σ = τ := ⟨_, rfl⟩
    rw [← hw] at hs
    obtain ⟨F, hF⟩ : ∃ F : Nat, (F : Int) = S 0 0 5 + 1 := ⟨(S 0 0 5 + 1).toNat, by omega⟩
    rw [← hw] at hf
    have hw : (ph_up σ 20 0 16 ((S 0 0 5) + (1))) = ph_up τ 20 0 16 ((S 0 0 5) + (1)) := by rw [hw]
    have hA : MA o L ad (ph_up τ 20 0 16 ((S 0 0 5) + (1))) := hA.putf (k := 16) _ rfl
    generalize ph_up τ 20 0 16 ((S 0 0 5) + (1)) = τ at hA hw ⊢
    refine ph_aload_n (pc := 21) C d_M_tell_21 rfl ?_
    refine gt_M_51 (pc := 22) C d_M_tell_22 hA.live hA.ob (hA.rf (k := 17) rfl) ?_
    refine ph_aload_n (pc := 25) C d_M_tell_25 rfl ?_
    refine gt_M_97 (pc := 26) C d_M_tell_26 hA.live hA.ob (z := S 0 0 5 + 1) (by rw [← hw]; simp [ph_up]) ?_
    refine ph_iload_n (pc := 29) C d_M_tell_29 rfl ?_
    refine ph_iast (pc := 30) (z := (k0 : Int)) C d_M_tell_30 (hA.ar (k := 17) rfl) rfl rfl rfl F hF.symm (by omega) (by decide) ?_
    have hw : (ph_up (ph_up σ 20 0 16 ((S 0 0 5) + (1))) 38 0 F ((k0 : Int))) = ph_up τ 38 0 F ((k0 : Int)) := by rw [hw]
    have hA : MA o L ad (ph_up τ 38 0 F ((k0 : Int))) := hA.puta (k := 17) _
    generalize ph_up τ 38 0 F ((k0 : Int)) = τ at hA hw ⊢
    refine ph_aload_n (pc := 31) C d_M_tell_31 rfl ?_
    refine gt_M_54 (pc := 32) C d_M_tell_32 hA.live hA.ob (hA.rf (k := 18) rfl) ?_
    refine ph_aload_n (pc := 35) C d_M_tell_35 rfl ?_
    refine gt_M_97 (pc := 36) C d_M_tell_36 hA.live hA.ob (z := S 0 0 5 + 1) (by rw [← hw]; simp [ph_up]) ?_
    refine ph_iload_n (pc := 39) C d_M_tell_39 rfl ?_
    refine ph_iast (pc := 40) (z := -1) C d_M_tell_40 (hA.ar (k := 18) rfl) rfl rfl rfl F hF.symm (by omega) (by decide) ?_
    have hw : (ph_up (ph_up (ph_up σ 20 0 16 ((S 0 0 5) + (1))) 38 0 F ((k0 : Int))) 39 0 F (-1)) = ph_up τ 39 0 F (-1) := by rw [hw]
    have hA : MA o L ad (ph_up τ 39 0 F (-1)) := hA.puta (k := 18) _
    generalize ph_up τ 39 0 F (-1) = τ at hA hw ⊢
    refine ph_aload_n (pc := 41) C d_M_tell_41 rfl ?_
    refine gt_M_57 (pc := 42) C d_M_tell_42 hA.live hA.ob (hA.rf (k := 19) rfl) ?_
    refine ph_aload_n (pc := 45) C d_M_tell_45 rfl ?_
    refine gt_M_97 (pc := 46) C d_M_tell_46 hA.live hA.ob (z := S 0 0 5 + 1) (by rw [← hw]; simp [ph_up]) ?_
    refine ph_lload_n (pc := 49) C d_M_tell_49 rfl ?_
    refine ph_last (pc := 50) (z := t) C d_M_tell_50 (hA.ar (k := 19) rfl) rfl rfl rfl F hF.symm (by omega) (by decide) ?_
    have hw : (ph_up (ph_up (ph_up (ph_up σ 20 0 16 ((S 0 0 5) + (1))) 38 0 F ((k0 : Int))) 39 0 F (-1)) 40 0 F (t)) = ph_up τ 40 0 F (t) := by rw [hw]
    have hA : MA o L ad (ph_up τ 40 0 F (t)) := hA.puta (k := 19) _
    generalize ph_up τ 40 0 F (t) = τ at hA hw ⊢
    refine ph_aload_n (pc := 51) C d_M_tell_51 rfl ?_
    refine gt_M_66 (pc := 52) C d_M_tell_52 hA.live hA.ob (hA.rf (k := 22) rfl) ?_
    refine ph_aload_n (pc := 55) C d_M_tell_55 rfl ?_
    refine gt_M_97 (pc := 56) C d_M_tell_56 hA.live hA.ob (z := S 0 0 5 + 1) (by rw [← hw]; simp [ph_up]) ?_
    refine ph_iload (pc := 59) C d_M_tell_59 rfl ?_
    refine ph_zast (pc := 61) (z := 1) C d_M_tell_61 (by omega) (hA.ar (k := 22) rfl) rfl rfl rfl F hF.symm (by omega) (by decide) ?_
    have hw : (ph_up (ph_up (ph_up (ph_up (ph_up σ 20 0 16 ((S 0 0 5) + (1))) 38 0 F ((k0 : Int))) 39 0 F (-1)) 40 0 F (t)) 43 0 F (1)) = ph_up τ 43 0 F (1) := by rw [hw]
    have hA : MA o L ad (ph_up τ 43 0 F (1)) := hA.puta (k := 22) _
    generalize ph_up τ 43 0 F (1) = τ at hA hw ⊢
    refine ph_aload_n (pc := 62) C d_M_tell_62 rfl ?_
    refine gt_M_63 (pc := 63) C d_M_tell_63 hA.live hA.ob (hA.rf (k := 21) rfl) ?_
    refine ph_aload_n (pc := 66) C d_M_tell_66 rfl ?_
    refine gt_M_97 (pc := 67) C d_M_tell_67 hA.live hA.ob (z := S 0 0 5 + 1) (by rw [← hw]; simp [ph_up]) ?_
    refine ph_aload_n (pc := 70) C d_M_tell_70 rfl ?_
    refine gt_M_81 (pc := 71) C d_M_tell_71 hA.live hA.ob (hA.rf (k := 27) rfl) ?_
    refine ph_iload_n (pc := 74) C d_M_tell_74 rfl ?_
    refine ph_zald (pc := 75) C d_M_tell_75 (hA.ar (k := 27) rfl) rfl rfl rfl k0 rfl (by omega) (by decide) ?_
    refine ph_ti (y := S 8 0 k0) ((by rw [← hw]; simp [ph_up, hs.r48 hk6])) ?_
    refine ph_zast (pc := 76) (z := S 8 0 k0) C d_M_tell_76 (by omega) (hA.ar (k := 21) rfl) rfl rfl rfl F hF.symm (by omega) (by decide) ?_
    have hw : (ph_up (ph_up (ph_up (ph_up (ph_up (ph_up σ 20 0 16 ((S 0 0 5) + (1))) 38 0 F ((k0 : Int))) 39 0 F (-1)) 40 0 F (t)) 43 0 F (1)) 42 0 F (S 8 0 k0)) = ph_up τ 42 0 F (S 8 0 k0) := by rw [hw]
    have hA : MA o L ad (ph_up τ 42 0 F (S 8 0 k0)) := hA.puta (k := 21) _
    generalize ph_up τ 42 0 F (S 8 0 k0) = τ at hA hw ⊢
    refine ph_aload_n (pc := 77) C d_M_tell_77 rfl ?_
    refine gt_M_78 (pc := 78) C d_M_tell_78 hA.live hA.ob (hA.rf (k := 26) rfl) ?_
    refine ph_iload_n (pc := 81) C d_M_tell_81 rfl ?_
    refine ph_aload_n (pc := 82) C d_M_tell_82 rfl ?_
    refine gt_M_78 (pc := 83) C d_M_tell_83 hA.live hA.ob (hA.rf (k := 26) rfl) ?_
    refine ph_iload_n (pc := 86) C d_M_tell_86 rfl ?_
    refine ph_zald (pc := 87) C d_M_tell_87 (hA.ar (k := 26) rfl) rfl rfl rfl k0 rfl (by omega) (by decide) ?_
    refine ph_ti (y := S 7 0 k0) ((by rw [← hw]; simp [ph_up, hs.r47 hk6])) ?_
    refine ph_if_ne (pc := 88) (tgt := 100) C d_M_tell_88 (by decide) (by omega) (fun c88 => ?_) (fun c88 => ?_)
    · refine ph_iconst (pc := 100) C d_M_tell_100 ?_
      refine ph_goto (pc := 101) (tgt := 105) C d_M_tell_101 (by decide) ?_
      refine ph_zast (pc := 105) (z := 1) C d_M_tell_105 (by omega) (hA.ar (k := 26) rfl) rfl rfl rfl k0 rfl (by omega) (by decide) ?_
      have hw : (ph_up (ph_up (ph_up (ph_up (ph_up (ph_up (ph_up σ 20 0 16 ((S 0 0 5) + (1))) 38 0 F ((k0 : Int))) 39 0 F (-1)) 40 0 F (t)) 43 0 F (1)) 42 0 F (S 8 0 k0)) 47 0 k0 (1)) = ph_up τ 47 0 k0 (1) := by rw [hw]
      have hA : MA o L ad (ph_up τ 47 0 k0 (1)) := hA.puta (k := 26) _
      generalize ph_up τ 47 0 k0 (1) = τ at hA hw ⊢
      refine ph_aload_n (pc := 106) C d_M_tell_106 rfl ?_
      refine gt_M_81 (pc := 107) C d_M_tell_107 hA.live hA.ob (hA.rf (k := 27) rfl) ?_
      refine ph_iload_n (pc := 110) C d_M_tell_110 rfl ?_
      refine ph_iconst (pc := 111) C d_M_tell_111 ?_
      refine ph_zast (pc := 112) (z := 0) C d_M_tell_112 (by omega) (hA.ar (k := 27) rfl) rfl rfl rfl k0 rfl (by omega) (by decide) ?_
      have hw : (ph_up (ph_up (ph_up (ph_up (ph_up (ph_up (ph_up (ph_up σ 20 0 16 ((S 0 0 5) + (1))) 38 0 F ((k0 : Int))) 39 0 F (-1)) 40 0 F (t)) 43 0 F (1)) 42 0 F (S 8 0 k0)) 47 0 k0 (1)) 48 0 k0 (0)) = ph_up τ 48 0 k0 (0) := by rw [hw]
      have hA : MA o L ad (ph_up τ 48 0 k0 (0)) := hA.puta (k := 27) _
      generalize ph_up τ 48 0 k0 (0) = τ at hA hw ⊢
      refine ph_aload_n (pc := 113) C d_M_tell_113 rfl ?_
      refine gt_M_60 (pc := 114) C d_M_tell_114 hA.live hA.ob (hA.rf (k := 20) rfl) ?_
      refine ph_aload_n (pc := 117) C d_M_tell_117 rfl ?_
      refine gt_M_97 (pc := 118) C d_M_tell_118 hA.live hA.ob (z := S 0 0 5 + 1) (by rw [← hw]; simp [ph_up]) ?_
      refine ph_aload_n (pc := 121) C d_M_tell_121 rfl ?_
      refine gt_M_78 (pc := 122) C d_M_tell_122 hA.live hA.ob (hA.rf (k := 26) rfl) ?_
      refine ph_iload_n (pc := 125) C d_M_tell_125 rfl ?_
      refine ph_zald (pc := 126) C d_M_tell_126 (hA.ar (k := 26) rfl) rfl rfl rfl k0 rfl (by omega) (by decide) ?_
      refine ph_ti (y := 1) ((by rw [← hw]; simp [ph_up])) ?_
      refine ph_zast (pc := 127) (z := 1) C d_M_tell_127 (by omega) (hA.ar (k := 20) rfl) rfl rfl rfl F hF.symm (by omega) (by decide) ?_
      have hw : (ph_up (ph_up (ph_up (ph_up (ph_up (ph_up (ph_up (ph_up (ph_up σ 20 0 16 ((S 0 0 5) + (1))) 38 0 F ((k0 : Int))) 39 0 F (-1)) 40 0 F (t)) 43 0 F (1)) 42 0 F (S 8 0 k0)) 47 0 k0 (1)) 48 0 k0 (0)) 41 0 F (1)) = ph_up τ 41 0 F (1) := by rw [hw]
      have hA : MA o L ad (ph_up τ 41 0 F (1)) := hA.puta (k := 20) _
      generalize ph_up τ 41 0 F (1) = τ at hA hw ⊢
      refine ph_iconst (pc := 128) C d_M_tell_128 ?_
      refine ph_istore (pc := 129) C d_M_tell_129 (by decide) rfl ?_
      refine ph_loc (l2 := [(0, .ref (o)), (1, .int (ph_i ((k0 : Int)))), (2, .int (ph_i (-1))), (3, .long (ph_l (t))), (5, .int (ph_i (1))), (6, .int (ph_i (((1 : Nat) : Int))))]) ⟨rfl, rfl, rfl, rfl, rfl, rfl, trivial⟩ ?_
      exact loop (S 0 0 3).toNat 1 0 τ F hA (by rw [← hw]; exact ms_tell0 hs hV (by omega) hF hk6 ht (ph_b1 rfl).symm (by rw [thr_7]; first | (rw [if_pos ⟨rfl, by omega⟩]) | (rw [if_neg (fun q => q.2 (by omega))]; omega) | (split <;> omega))) (by rw [← hw]; simp [ph_up]; exact hf) hF (by omega) (by omega) (by omega) (by decide) (by rfl)
    · refine ph_aload_n (pc := 91) C d_M_tell_91 rfl ?_
      refine gt_M_81 (pc := 92) C d_M_tell_92 hA.live hA.ob (hA.rf (k := 27) rfl) ?_
      refine ph_iload_n (pc := 95) C d_M_tell_95 rfl ?_
      refine ph_zald (pc := 96) C d_M_tell_96 (hA.ar (k := 27) rfl) rfl rfl rfl k0 rfl (by omega) (by decide) ?_
      refine ph_ti (y := S 8 0 k0) ((by rw [← hw]; simp [ph_up, hs.r48 hk6])) ?_
      refine ph_if_eq (pc := 97) (tgt := 104) C d_M_tell_97 (by decide) (by omega) (fun c97 => ?_) (fun c97 => ?_)
      · refine ph_iconst (pc := 104) C d_M_tell_104 ?_
        refine ph_zast (pc := 105) (z := 0) C d_M_tell_105 (by omega) (hA.ar (k := 26) rfl) rfl rfl rfl k0 rfl (by omega) (by decide) ?_
        have hw : (ph_up (ph_up (ph_up (ph_up (ph_up (ph_up (ph_up σ 20 0 16 ((S 0 0 5) + (1))) 38 0 F ((k0 : Int))) 39 0 F (-1)) 40 0 F (t)) 43 0 F (1)) 42 0 F (S 8 0 k0)) 47 0 k0 (0)) = ph_up τ 47 0 k0 (0) := by rw [hw]
        have hA : MA o L ad (ph_up τ 47 0 k0 (0)) := hA.puta (k := 26) _
        generalize ph_up τ 47 0 k0 (0) = τ at hA hw ⊢
        refine ph_aload_n (pc := 106) C d_M_tell_106 rfl ?_
        refine gt_M_81 (pc := 107) C d_M_tell_107 hA.live hA.ob (hA.rf (k := 27) rfl) ?_
        refine ph_iload_n (pc := 110) C d_M_tell_110 rfl ?_
        refine ph_iconst (pc := 111) C d_M_tell_111 ?_
        refine ph_zast (pc := 112) (z := 0) C d_M_tell_112 (by omega) (hA.ar (k := 27) rfl) rfl rfl rfl k0 rfl (by omega) (by decide) ?_
        have hw : (ph_up (ph_up (ph_up (ph_up (ph_up (ph_up (ph_up (ph_up σ 20 0 16 ((S 0 0 5) + (1))) 38 0 F ((k0 : Int))) 39 0 F (-1)) 40 0 F (t)) 43 0 F (1)) 42 0 F (S 8 0 k0)) 47 0 k0 (0)) 48 0 k0 (0)) = ph_up τ 48 0 k0 (0) := by rw [hw]
        have hA : MA o L ad (ph_up τ 48 0 k0 (0)) := hA.puta (k := 27) _
        generalize ph_up τ 48 0 k0 (0) = τ at hA hw ⊢
        refine ph_aload_n (pc := 113) C d_M_tell_113 rfl ?_
        refine gt_M_60 (pc := 114) C d_M_tell_114 hA.live hA.ob (hA.rf (k := 20) rfl) ?_
        refine ph_aload_n (pc := 117) C d_M_tell_117 rfl ?_
        refine gt_M_97 (pc := 118) C d_M_tell_118 hA.live hA.ob (z := S 0 0 5 + 1) (by rw [← hw]; simp [ph_up]) ?_
        refine ph_aload_n (pc := 121) C d_M_tell_121 rfl ?_
        refine gt_M_78 (pc := 122) C d_M_tell_122 hA.live hA.ob (hA.rf (k := 26) rfl) ?_
        refine ph_iload_n (pc := 125) C d_M_tell_125 rfl ?_
        refine ph_zald (pc := 126) C d_M_tell_126 (hA.ar (k := 26) rfl) rfl rfl rfl k0 rfl (by omega) (by decide) ?_
        refine ph_ti (y := 0) ((by rw [← hw]; simp [ph_up])) ?_
        refine ph_zast (pc := 127) (z := 0) C d_M_tell_127 (by omega) (hA.ar (k := 20) rfl) rfl rfl rfl F hF.symm (by omega) (by decide) ?_
        have hw : (ph_up (ph_up (ph_up (ph_up (ph_up (ph_up (ph_up (ph_up (ph_up σ 20 0 16 ((S 0 0 5) + (1))) 38 0 F ((k0 : Int))) 39 0 F (-1)) 40 0 F (t)) 43 0 F (1)) 42 0 F (S 8 0 k0)) 47 0 k0 (0)) 48 0 k0 (0)) 41 0 F (0)) = ph_up τ 41 0 F (0) := by rw [hw]
        have hA : MA o L ad (ph_up τ 41 0 F (0)) := hA.puta (k := 20) _
        generalize ph_up τ 41 0 F (0) = τ at hA hw ⊢
        refine ph_iconst (pc := 128) C d_M_tell_128 ?_
        refine ph_istore (pc := 129) C d_M_tell_129 (by decide) rfl ?_
        refine ph_loc (l2 := [(0, .ref (o)), (1, .int (ph_i ((k0 : Int)))), (2, .int (ph_i (-1))), (3, .long (ph_l (t))), (5, .int (ph_i (1))), (6, .int (ph_i (((1 : Nat) : Int))))]) ⟨rfl, rfl, rfl, rfl, rfl, rfl, trivial⟩ ?_
        exact loop (S 0 0 3).toNat 1 0 τ F hA (by rw [← hw]; exact ms_tell0 hs hV (by omega) hF hk6 ht (ph_b1 rfl).symm (by rw [thr_7]; first | (rw [if_pos ⟨rfl, by omega⟩]) | (rw [if_neg (fun q => q.2 (by omega))]; omega) | (split <;> omega))) (by rw [← hw]; simp [ph_up]; exact hf) hF (by omega) (by omega) (by omega) (by decide) (by rfl)
      · refine ph_iconst (pc := 100) C d_M_tell_100 ?_
        refine ph_goto (pc := 101) (tgt := 105) C d_M_tell_101 (by decide) ?_
        refine ph_zast (pc := 105) (z := 1) C d_M_tell_105 (by omega) (hA.ar (k := 26) rfl) rfl rfl rfl k0 rfl (by omega) (by decide) ?_
        have hw : (ph_up (ph_up (ph_up (ph_up (ph_up (ph_up (ph_up σ 20 0 16 ((S 0 0 5) + (1))) 38 0 F ((k0 : Int))) 39 0 F (-1)) 40 0 F (t)) 43 0 F (1)) 42 0 F (S 8 0 k0)) 47 0 k0 (1)) = ph_up τ 47 0 k0 (1) := by rw [hw]
        have hA : MA o L ad (ph_up τ 47 0 k0 (1)) := hA.puta (k := 26) _
        generalize ph_up τ 47 0 k0 (1) = τ at hA hw ⊢
        refine ph_aload_n (pc := 106) C d_M_tell_106 rfl ?_
        refine gt_M_81 (pc := 107) C d_M_tell_107 hA.live hA.ob (hA.rf (k := 27) rfl) ?_
        refine ph_iload_n (pc := 110) C d_M_tell_110 rfl ?_
        refine ph_iconst (pc := 111) C d_M_tell_111 ?_
        refine ph_zast (pc := 112) (z := 0) C d_M_tell_112 (by omega) (hA.ar (k := 27) rfl) rfl rfl rfl k0 rfl (by omega) (by decide) ?_
        have hw : (ph_up (ph_up (ph_up (ph_up (ph_up (ph_up (ph_up (ph_up σ 20 0 16 ((S 0 0 5) + (1))) 38 0 F ((k0 : Int))) 39 0 F (-1)) 40 0 F (t)) 43 0 F (1)) 42 0 F (S 8 0 k0)) 47 0 k0 (1)) 48 0 k0 (0)) = ph_up τ 48 0 k0 (0) := by rw [hw]
        have hA : MA o L ad (ph_up τ 48 0 k0 (0)) := hA.puta (k := 27) _
        generalize ph_up τ 48 0 k0 (0) = τ at hA hw ⊢
        refine ph_aload_n (pc := 113) C d_M_tell_113 rfl ?_
        refine gt_M_60 (pc := 114) C d_M_tell_114 hA.live hA.ob (hA.rf (k := 20) rfl) ?_
        refine ph_aload_n (pc := 117) C d_M_tell_117 rfl ?_
        refine gt_M_97 (pc := 118) C d_M_tell_118 hA.live hA.ob (z := S 0 0 5 + 1) (by rw [← hw]; simp [ph_up]) ?_
        refine ph_aload_n (pc := 121) C d_M_tell_121 rfl ?_
        refine gt_M_78 (pc := 122) C d_M_tell_122 hA.live hA.ob (hA.rf (k := 26) rfl) ?_
        refine ph_iload_n (pc := 125) C d_M_tell_125 rfl ?_
        refine ph_zald (pc := 126) C d_M_tell_126 (hA.ar (k := 26) rfl) rfl rfl rfl k0 rfl (by omega) (by decide) ?_
        refine ph_ti (y := 1) ((by rw [← hw]; simp [ph_up])) ?_
        refine ph_zast (pc := 127) (z := 1) C d_M_tell_127 (by omega) (hA.ar (k := 20) rfl) rfl rfl rfl F hF.symm (by omega) (by decide) ?_
        have hw : (ph_up (ph_up (ph_up (ph_up (ph_up (ph_up (ph_up (ph_up (ph_up σ 20 0 16 ((S 0 0 5) + (1))) 38 0 F ((k0 : Int))) 39 0 F (-1)) 40 0 F (t)) 43 0 F (1)) 42 0 F (S 8 0 k0)) 47 0 k0 (1)) 48 0 k0 (0)) 41 0 F (1)) = ph_up τ 41 0 F (1) := by rw [hw]
        have hA : MA o L ad (ph_up τ 41 0 F (1)) := hA.puta (k := 20) _
        generalize ph_up τ 41 0 F (1) = τ at hA hw ⊢
        refine ph_iconst (pc := 128) C d_M_tell_128 ?_
        refine ph_istore (pc := 129) C d_M_tell_129 (by decide) rfl ?_
        refine ph_loc (l2 := [(0, .ref (o)), (1, .int (ph_i ((k0 : Int)))), (2, .int (ph_i (-1))), (3, .long (ph_l (t))), (5, .int (ph_i (1))), (6, .int (ph_i (((1 : Nat) : Int))))]) ⟨rfl, rfl, rfl, rfl, rfl, rfl, trivial⟩ ?_
        exact loop (S 0 0 3).toNat 1 0 τ F hA (by rw [← hw]; exact ms_tell0 hs hV (by omega) hF hk6 ht (ph_b1 rfl).symm (by rw [thr_7]; first | (rw [if_pos ⟨rfl, by omega⟩]) | (rw [if_neg (fun q => q.2 (by omega))]; omega) | (split <;> omega))) (by rw [← hw]; simp [ph_up]; exact hf) hF (by omega) (by omega) (by omega) (by decide) (by rfl)
  · refine ph_iconst (pc := 9) C d_M_tell_9 ?_
    exact ph_iret (pc := 10) C d_M_tell_10 hr hlk rfl (by decide) (by decide) ⟨rfl, rfl, ⟨hA, by rw [tell_full (by omega)]; exact hs, by rw [tell_full (by omega)]; exact hf⟩, (by rw [tellv, if_pos (by omega)])⟩
set_option maxHeartbeats 4000000 in
set_option maxRecDepth 100000 in
theorem c_M_plant (l : Launch) (D : va_G) (dT : Nat → ClassId) (A : Nat → Prop) (KX : State → Prop) (L : Nat → Nat → Prop) (ad : Nat → Nat → Nat) (τ : ph_T) (S : ph_T) (o : Nat) (hA : MA o L ad τ) (hs : MS S τ) (hV : IV S) (x t : Int) (hx : ph_ri x) (ht : ph_rl t) : ph_M l y_M_plant (.code y_M_plant b_M_plant 4 (some .int) :: TB) ({ frames := 3, cells := 0, slots := 0, locals := 74 } : Room) D CLs (TY dT) dT kd A KX [.ref (o), .int (ph_i (x)), .long (ph_l (t))] L ad τ (fun r L' ad' τ' => L' = L ∧ ad' = ad ∧ (MA o L ad τ' ∧ MS (plantG S x t) τ') ∧ r = some (.int (ph_i (plantv S x t)))) 0 0 := by
  refine ph_M.of (cc := b_M_plant) (maxL := 4) (ret := (some .int)) (by decide) rfl (Nat.le_of_ble_eq_true rfl) ?_
  intro p e s m below meth c C0 hr hlk hnm
  have C := C0.sub
  refine ph_loc (l2 := [(0, .ref (o)), (1, .int (ph_i (x))), (2, .long (ph_l (t)))]) ⟨rfl, rfl, rfl, trivial⟩ ?_
  have hc := hV.c
  have hm := hs.ml.r
  refine ph_iload_n (pc := 0) C d_M_plant_0 rfl ?_
  refine ph_i2l (pc := 1) C d_M_plant_1 (by omega) ?_
  refine ph_lconst (pc := 2) C d_M_plant_2 1 (by decide) ?_
  refine ph_ldc2 (pc := 3) C d_M_plant_3 (6) (by decide) tw_585 ?_
  refine ph_callS (pc := 6) (rest := []) C d_M_plant_6 (c_M_isIn l D dT A KX L ad τ (x) (1) (6) (by omega) (by omega) (by omega)) (cwS 3 C.hts (gdS tw_494 tw_495 tw_2 tw_496) rfl rfl rfl ⟨rfl, by decide, by decide, by decide⟩ ⟨by decide, by decide⟩) rfl rfl (Nat.le_of_ble_eq_true rfl) ⟨by decide, by decide⟩ ?_
  rintro r1 L1 ad1 τ1 ⟨g1, g2, g3, g4⟩; obtain rfl := g1.symm; obtain rfl := g2.symm; obtain rfl := g3.symm; subst g4
  refine ph_bif_eq (pc := 9) (tgt := 26) C d_M_plant_9 (by decide) (fun c9 => ?_) (fun c9 => ?_)
  · refine ph_bipush (pc := 26) C d_M_plant_26 (by decide) ?_
    exact ph_iret (pc := 28) C d_M_plant_28 hr hlk rfl (by decide) (by decide) ⟨rfl, rfl, ⟨hA, by rw [plantG_f (fun q => by first | exact absurd q.2.2.1 (by assumption) | (have q1 := q.1; have q2 := q.2.1; omega)), plantS_f (fun q => by first | exact absurd q.2.2.1 (by assumption) | (have q1 := q.1; have q2 := q.2.1; omega))]; exact hs⟩, (by rw [plantv, if_pos (fun q => by have q1 := q.1; have q2 := q.2; omega)])⟩
  · refine ph_lload_n (pc := 12) C d_M_plant_12 rfl ?_
    refine ph_aload_n (pc := 13) C d_M_plant_13 rfl ?_
    refine gt_M_115 (pc := 14) C d_M_plant_14 hA.live hA.ob (z := S 0 0 11) hs.c30 ?_
    refine ph_ldc2 (pc := 17) C d_M_plant_17 (1000000000) (by decide) tw_497 ?_
    refine ph_callS (pc := 20) (rest := []) C d_M_plant_20 (c_M_isIn l D dT A KX L ad τ (t) (S 0 0 11) (1000000000) (by omega) (by omega) (by omega)) (cwS 3 C.hts (gdS tw_494 tw_495 tw_2 tw_496) rfl rfl rfl ⟨rfl, by decide, by decide, by decide⟩ ⟨by decide, by decide⟩) rfl rfl (Nat.le_of_ble_eq_true rfl) ⟨by decide, by decide⟩ ?_
    rintro r1 L1 ad1 τ1 ⟨g1, g2, g3, g4⟩; obtain rfl := g1.symm; obtain rfl := g2.symm; obtain rfl := g3.symm; subst g4
    refine ph_bif_ne (pc := 23) (tgt := 29) C d_M_plant_23 (by decide) (fun c23 => ?_) (fun c23 => ?_)
    · refine ph_aload_n (pc := 29) C d_M_plant_29 rfl ?_
      refine ph_callV (pc := 30) (rest := []) C d_M_plant_30 (c_M_stands l D dT A KX L ad τ S o hA hs hV) (cwV 0 C.hts (gdV tw_499 tw_501 se_26 tw_2 tw_502) rfl rfl rfl ⟨rfl, by decide, by decide, by decide⟩ ⟨by decide, by decide⟩) hA.live hA.ob rfl rfl rfl rfl rfl (Nat.le_of_ble_eq_true rfl) ⟨by decide, by decide⟩ ?_
      rintro r1 L1 ad1 τ1 ⟨g1, g2, g3, g4⟩; obtain rfl := g1.symm; obtain rfl := g2.symm; obtain rfl := g3.symm; subst g4
      refine ph_bif_eq (pc := 33) (tgt := 39) C d_M_plant_33 (by decide) (fun c33 => ?_) (fun c33 => ?_)
      · refine ph_aload_n (pc := 39) C d_M_plant_39 rfl ?_
        refine ph_lload_n (pc := 40) C d_M_plant_40 rfl ?_
        refine pt_M_115 (pc := 41) C d_M_plant_41 hA.live hA.ob ?_
        have hs : MS (ph_up S 0 0 11 (t)) (ph_up τ 20 0 30 (t)) := hs.clk _
        have hA : MA o L ad (ph_up τ 20 0 30 (t)) := hA.putf (k := 30) (t) rfl
        generalize ph_up τ 20 0 30 (t) = τ at hA hs ⊢
        have hV := hV.up0 (k := 11) (z := t) (by omega) (by omega) (by omega) (by omega)
        have p5 : ph_up S 0 0 11 t 0 0 5 = S 0 0 5 := ph_up_no _ _ (by omega)
        have p11 : ph_up S 0 0 11 t 0 0 11 = t := ph_up_at _ _ _ _ _
        refine ph_aload_n (pc := 44) C d_M_plant_44 rfl ?_
        refine ph_iconst (pc := 45) C d_M_plant_45 ?_
        refine pt_M_135 (pc := 46) C d_M_plant_46 hA.live hA.ob ?_
        have hf : ph_up τ 20 0 31 (0) 20 0 31 = 0 := ph_up_at _ _ _ _ _
        have hs : MS (ph_up S 0 0 11 (t)) (ph_up τ 20 0 31 (0)) := hs.fst (by omega)
        have hA : MA o L ad (ph_up τ 20 0 31 (0)) := hA.putf (k := 31) _ rfl
        generalize ph_up τ 20 0 31 (0) = τ at hA hs hf ⊢
        refine ph_aload_n (pc := 49) C d_M_plant_49 rfl ?_
        refine ph_iload_n (pc := 50) C d_M_plant_50 rfl ?_
        refine ph_iconst (pc := 51) C d_M_plant_51 ?_
        refine ph_lload_n (pc := 52) C d_M_plant_52 rfl ?_
        refine ph_iconst (pc := 53) C d_M_plant_53 ?_
        obtain ⟨k0, hk0⟩ : ∃ k0 : Nat, x = (k0 : Int) := ⟨x.toNat, by omega⟩
        subst hk0
        refine ph_callV (pc := 54) (rest := []) C d_M_plant_54 (c_M_tellP l D dT A KX L ad τ (ph_up S 0 0 11 (t)) o hA hs hV k0 (by omega) t (S 0 0 5) p11.symm ⟨by omega, by omega⟩ (by rw [hf]; unfold fstv; rw [if_neg (by omega)])) (cwV 4 C.hts (gdV tw_516 tw_518 se_29 tw_2 tw_519) rfl rfl rfl ⟨rfl, by decide, by decide, by decide⟩ ⟨by decide, by decide⟩) hA.live hA.ob rfl rfl rfl rfl rfl (Nat.le_of_ble_eq_true rfl) ⟨by decide, by decide⟩ ?_
        rintro r1 L1 ad1 τ ⟨g1, g2, ⟨hA, hs, -⟩, g4⟩; obtain rfl := g1.symm; obtain rfl := g2.symm; subst g4
        have hrun : runs S := Classical.not_not.mp (by assumption)
        refine ph_iret (pc := 57) C d_M_plant_57 hr hlk rfl (by decide) (by decide) ⟨rfl, rfl, ⟨hA, ?_⟩, (by rw [plantv, if_neg (not_not_intro ⟨by omega, by omega, by omega⟩), if_pos hrun, tellv, p5])⟩
        by_cases h40 : 40 ≤ S 0 0 5
        · rw [plantG_t ⟨by omega, by omega, hrun, h40⟩]
          rw [tell_full (by omega)] at hs
          exact hs
        · rw [plantG_f (fun q => h40 q.2.2.2), plantS_t ⟨by omega, by omega, hrun, by omega⟩, Int.toNat_natCast]
          exact hs
      · refine ph_bipush (pc := 36) C d_M_plant_36 (by decide) ?_
        exact ph_iret (pc := 38) C d_M_plant_38 hr hlk rfl (by decide) (by decide) ⟨rfl, rfl, ⟨hA, by rw [plantG_f (fun q => by first | exact absurd q.2.2.1 (by assumption) | (have q1 := q.1; have q2 := q.2.1; omega)), plantS_f (fun q => by first | exact absurd q.2.2.1 (by assumption) | (have q1 := q.1; have q2 := q.2.1; omega))]; exact hs⟩, (by rw [plantv, if_neg (not_not_intro ⟨by omega, by omega, by omega⟩), if_neg (by assumption)])⟩
    · refine ph_bipush (pc := 26) C d_M_plant_26 (by decide) ?_
      exact ph_iret (pc := 28) C d_M_plant_28 hr hlk rfl (by decide) (by decide) ⟨rfl, rfl, ⟨hA, by rw [plantG_f (fun q => by first | exact absurd q.2.2.1 (by assumption) | (have q1 := q.1; have q2 := q.2.1; omega)), plantS_f (fun q => by first | exact absurd q.2.2.1 (by assumption) | (have q1 := q.1; have q2 := q.2.1; omega))]; exact hs⟩, (by rw [plantv, if_pos (fun q => by have q1 := q.1; have q2 := q.2; omega)])⟩
