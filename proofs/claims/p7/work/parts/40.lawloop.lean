/-! ===== the law's loop ===== -/
set_option maxHeartbeats 40000000 in
set_option maxRecDepth 100000 in
theorem law_loop {p : Program} {l : Launch} {e : Env} {s : State} {m : MethodId} {below : List Frame} {meth : Method} {c : Code} {D : va_G} {dT : Nat → ClassId} {A : Nat → Prop} {aR aT b N : Nat} {xs : Nat → Int32} (C : ph_C p s m #[.ref b] c b_L_law 4 R_L TB D CLs (TY dT) A (KJ dT A aR aT)) (hrt : meth.sig.returnType = ret) (hlk : meth.locks = false) (hX : va_X b N xs s s.heap) (hbl : b < s.heap.size) (hA : ∀ q : Nat, A q → s.heap.size ≤ q) (hN : N ≤ 2560)
    (Rel : Nat → ph_T → ph_T → Prop) (hIV : ∀ n S M, Rel n S M → IV S)
    (hm_sensor : ∀ (n : Nat) (S M : ph_T) (z0 : Int), 5 * n + 5 ≤ 2560 → Rel n S M → ph_rl z0 → ∃ (r : Room), rmOk r ∧ mcon l y_M_sensor b_M_sensor 4 (some .int) r [.long (ph_l z0)] M (fun v M1 => Rel (n + 1) (senS S z0) M1))
    (hm_item : ∀ (n : Nat) (S M : ph_T) (z0 z1 : Int), 5 * n + 5 ≤ 2560 → Rel n S M → ph_rl z0 → ph_rl z1 → ∃ (r : Room), rmOk r ∧ mcon l y_M_item b_M_item 6 (some .int) r [.long (ph_l z0), .long (ph_l z1)] M (fun v M1 => Rel (n + 1) (itS S z0 z1) M1))
    (hm_edge : ∀ (n : Nat) (S M : ph_T) (z0 z1 z2 : Int), 5 * n + 5 ≤ 2560 → Rel n S M → ph_ri z0 → (z1 = 0 ∨ z1 = 1) → ph_rl z2 → ∃ (r : Room), rmOk r ∧ mcon l y_M_edge b_M_edge 5 (some .int) r [.int (ph_i z0), .int (ph_i z1), .long (ph_l z2)] M (fun v M1 => Rel (n + 1) (edgeS S z0 z1 z2) M1))
    (hm_doubt : ∀ (n : Nat) (S M : ph_T) (z0 z1 : Int), 5 * n + 5 ≤ 2560 → Rel n S M → ph_ri z0 → ph_ri z1 → ∃ (r : Room), rmOk r ∧ mcon l y_M_doubt b_M_doubt 5 (some .int) r [.int (ph_i z0), .int (ph_i z1)] M (fun v M1 => Rel (n + 1) (S) M1))
    (hm_cause : ∀ (n : Nat) (S M : ph_T) (z0 : Int), 5 * n + 5 ≤ 2560 → Rel n S M → ph_ri z0 → ∃ (r : Room), rmOk r ∧ mcon l y_M_cause b_M_cause 6 (some .int) r [.int (ph_i z0)] M (fun v M1 => Rel (n + 1) (S) M1))
    (hm_step : ∀ (n : Nat) (S M : ph_T) (z0 z1 : Int), 5 * n + 5 ≤ 2560 → Rel n S M → ph_ri z0 → ph_ri z1 → ∃ (r : Room), rmOk r ∧ mcon l y_M_step b_M_step 6 (some .int) r [.int (ph_i z0), .int (ph_i z1)] M (fun v M1 => Rel (n + 1) (stepS S z0 z1) M1 ∧ stepv S z0 z1 = v))
    (hm_feed : ∀ (n : Nat) (S M : ph_T) (z0 : Int), 5 * n + 5 ≤ 2560 → Rel n S M → ph_ri z0 → ∃ (r : Room), rmOk r ∧ mcon l y_M_feed b_M_feed 4 (some .int) r [.int (ph_i z0)] M (fun v M1 => Rel (n + 1) (feedS S z0) M1))
    (hm_listed : ∀ (n : Nat) (S M : ph_T) (z0 : Int), 5 * n + 5 ≤ 2560 → Rel n S M → ph_ri z0 → ∃ (r : Room), rmOk r ∧ mcon l y_M_listed b_M_listed 2 (some .int) r [.int (ph_i z0)] M (fun v M1 => Rel (n + 1) (S) M1))
    (hm_rule : ∀ (n : Nat) (S M : ph_T) (z0 z1 z2 : Int), 5 * n + 5 ≤ 2560 → Rel n S M → ph_ri z0 → ph_ri z1 → (z2 = 0 ∨ z2 = 1) → ∃ (r : Room), rmOk r ∧ mcon l y_M_rule b_M_rule 5 (some .int) r [.int (ph_i z0), .int (ph_i z1), .int (ph_i z2)] M (fun v M1 => Rel (n + 1) (ruleS S z0 z1 z2) M1))
    (hm_plant : ∀ (n : Nat) (S M : ph_T) (z0 z1 : Int), 5 * n + 5 ≤ 2560 → Rel n S M → ph_ri z0 → ph_rl z1 → ∃ (r : Room), rmOk r ∧ mcon l y_M_plant b_M_plant 4 (some .int) r [.int (ph_i z0), .long (ph_l z1)] M (fun v M1 => Rel (n + 1) (plantS S z0 z1) M1))
    (hm_alarm : ∀ (n : Nat) (S M : ph_T) (z0 z1 : Int), 5 * n + 5 ≤ 2560 → Rel n S M → ph_ri z0 → ph_ri z1 → ∃ (r : Room), rmOk r ∧ mcon l y_M_alarm b_M_alarm 6 (some .int) r [.int (ph_i z0), .int (ph_i z1)] M (fun v M1 => Rel (n + 1) (S) M1))
    (hm_count : ∀ (n : Nat) (S M : ph_T) (z0 : Int), 5 * n + 5 ≤ 2560 → Rel n S M → ph_ri z0 → ∃ (r : Room), rmOk r ∧ mcon l y_M_count b_M_count 2 (some .int) r [.int (ph_i z0)] M (fun v M1 => Rel (n + 1) (S) M1))
    (hm_goesOn : ∀ (n : Nat) (S M : ph_T), 5 * n + 5 ≤ 2560 → Rel n S M → ∃ (r : Room), rmOk r ∧ mcon l y_M_goesOn b_M_goesOn 1 (some .boolean) r [] M (fun v M1 => Rel (n + 1) (S) M1))
    (hm_none : ∀ (n : Nat) (S M : ph_T), 5 * n + 5 ≤ 2560 → Rel n S M → Rel (n + 1) S M) :
    ∀ (f n : Nat) (S M : ph_T) (x o : Nat) (L : Nat → Nat → Prop) (ad : Nat → Nat → Nat) (τ : ph_T) (cs sl : Nat), N < 5 * n + 5 * f → 5 * n ≤ N → cs ≤ 40 + 77 * n → sl ≤ 6000 + 1083 * n → Rel n S M → JR S x L ad τ → JF S L → MR M o L ad τ → ph_W p l e room_1 s m #[.ref b] below meth c D CLs dT kd A 4 (lw_Z below #[.ref b] s) L ad τ cs sl 18 (ph_mk [(0, .ref b), (1, .ref x), (2, .ref o), (3, .int (ph_i ((5 * n : Nat) : Int)))]) [] := by
  have hbA : ¬ A b := fun q => absurd (hA b q) (by omega)
  have q1 : room_1.cells = 600000 := rfl
  have q2 : room_1.slots = 7302250 := rfl
  have q3 : room_1.frames = 9 := rfl
  have q4 : room_1.locals = 332 := rfl
  intro f
  induction f with
  | zero =>
    intro n S M x o L ad τ cs sl h1 h2
    exfalso; omega
  | succ f ih =>
    intro n S M x o L ad τ cs sl hfu hn hcs hsl hRel hI hF hMR
    have hV := hIV n S M hRel
    refine ph_iload_n (pc := 18) C d_L_law_18 rfl ?_
    refine ph_aload_n (pc := 19) C d_L_law_19 rfl ?_
    refine ph_sln (pc := 20) C d_L_law_20 hX hbl hbA ?_
    refine ph_iconst (pc := 21) C d_L_law_21 ?_
    refine ph_isub (pc := 22) C d_L_law_22 ?_
    refine ph_icmp_gt (pc := 23) (tgt := 667) C d_L_law_23 (by decide) (by omega) (by omega) (fun c23 => ?_) (fun c23 => ?_)
    · refine ph_iconst (pc := 667) C d_L_law_667 ?_
      exact lw_end (pc := 668) C d_L_law_668 hrt hlk hA (by omega) (by omega)
    · refine ph_aload_n (pc := 26) C d_L_law_26 rfl ?_
      refine ph_iload_n (pc := 27) C d_L_law_27 rfl ?_
      refine ph_sel (pc := 28) C d_L_law_28 hX hbl hbA (5 * n) (by omega) (by omega) (by omega) ?_
      refine ph_bipush (pc := 29) C d_L_law_29 (by decide) ?_
      refine ph_iand (pc := 31) C d_L_law_31 (lw_k ((xs (5 * n)).toInt)) (lw_io _) ?_
      have hk := lw_kr ((xs (5 * n)).toInt)
      rcases (show lw_k ((xs (5 * n)).toInt) = 0 ∨ lw_k ((xs (5 * n)).toInt) = 1 ∨ lw_k ((xs (5 * n)).toInt) = 2 ∨ lw_k ((xs (5 * n)).toInt) = 3 ∨ lw_k ((xs (5 * n)).toInt) = 4 ∨ lw_k ((xs (5 * n)).toInt) = 5 ∨ lw_k ((xs (5 * n)).toInt) = 6 ∨ lw_k ((xs (5 * n)).toInt) = 7 ∨ lw_k ((xs (5 * n)).toInt) = 8 ∨ lw_k ((xs (5 * n)).toInt) = 9 ∨ lw_k ((xs (5 * n)).toInt) = 10 ∨ lw_k ((xs (5 * n)).toInt) = 11 ∨ lw_k ((xs (5 * n)).toInt) = 12 ∨ 12 < lw_k ((xs (5 * n)).toInt) by omega) with hq | hq | hq | hq | hq | hq | hq | hq | hq | hq | hq | hq | hq | hq
      · refine ph_ti (y := 0) hq ?_
        refine ph_swI (pc := 32) (tgt := 100) C d_L_law_32 (by omega) (by omega) (by omega) rfl (by decide) ?_
        refine ph_aload_n (pc := 100) C d_L_law_100 rfl ?_
        refine ph_aload_n (pc := 101) C d_L_law_101 rfl ?_
        refine ph_iload_n (pc := 102) C d_L_law_102 rfl ?_
        refine ph_iconst (pc := 103) C d_L_law_103 ?_
        refine ph_iadd (pc := 104) C d_L_law_104 ?_
        refine ph_sel (pc := 105) C d_L_law_105 hX hbl hbA (5 * n + 1) (by omega) (by omega) (by omega) ?_
        refine ph_i2l (pc := 106) C d_L_law_106 (lw_ri _) ?_
        refine ph_bipush (pc := 107) C d_L_law_107 (by decide) ?_
        refine ph_lshl (pc := 109) C d_L_law_109 (lw_s ((xs (5 * n + 1)).toInt)) (lw_lo _) ?_
        refine ph_aload_n (pc := 110) C d_L_law_110 rfl ?_
        refine ph_iload_n (pc := 111) C d_L_law_111 rfl ?_
        refine ph_iconst (pc := 112) C d_L_law_112 ?_
        refine ph_iadd (pc := 113) C d_L_law_113 ?_
        refine ph_sel (pc := 114) C d_L_law_114 hX hbl hbA (5 * n + 2) (by omega) (by omega) (by omega) ?_
        refine ph_i2l (pc := 115) C d_L_law_115 (lw_ri _) ?_
        refine ph_ldc2 (pc := 116) C d_L_law_116 (4294967295) (by decide) tw_607 ?_
        refine ph_land (pc := 119) C d_L_law_119 (lw_n ((xs (5 * n + 2)).toInt)) (lw_lo _) ?_
        refine ph_lor (pc := 120) C d_L_law_120 (lw_j ((xs (5 * n + 1)).toInt) ((xs (5 * n + 2)).toInt)) (lw_lo _) ?_
        obtain ⟨rr, ⟨ho1, ho2, ho3, ho4⟩, hmc⟩ := hm_sensor n S M (lw_j ((xs (5 * n + 1)).toInt) ((xs (5 * n + 2)).toInt)) (by omega) hRel (lw_jr _ _)
        refine lw_J (pc := 121) (S' := senS S (lw_j ((xs (5 * n + 1)).toInt) ((xs (5 * n + 2)).toInt))) (v := senv S (lw_j ((xs (5 * n + 1)).toInt) ((xs (5 * n + 2)).toInt))) (rest := []) C d_L_law_121 hI hMR (fun A1 => c_J_sensor l D dT A1 (KJ dT A1 aR aT) _ ad τ S x hI.sub hV hF.sub (lw_j ((xs (5 * n + 1)).toInt) ((xs (5 * n + 2)).toInt)) (lw_jr _ _)) (fun r L1 ad1 τ1 h => h) (cwV 1 C.hts (gdV tw_59 tw_60 tw_61 tw_1 tw_62) rfl rfl rfl ⟨rfl, by decide, by decide, by decide⟩ ⟨by decide, by decide⟩) rfl rfl (Nat.le_of_ble_eq_true rfl) ⟨by omega, by omega⟩ ?_
        intro L ad τ hI hF hMR
        refine ph_pop (pc := 124) C d_L_law_124 rfl ?_
        refine ph_aload_n (pc := 125) C d_L_law_125 rfl ?_
        refine ph_aload_n (pc := 126) C d_L_law_126 rfl ?_
        refine ph_iload_n (pc := 127) C d_L_law_127 rfl ?_
        refine ph_iconst (pc := 128) C d_L_law_128 ?_
        refine ph_iadd (pc := 129) C d_L_law_129 ?_
        refine ph_sel (pc := 130) C d_L_law_130 hX hbl hbA (5 * n + 1) (by omega) (by omega) (by omega) ?_
        refine ph_i2l (pc := 131) C d_L_law_131 (lw_ri _) ?_
        refine ph_bipush (pc := 132) C d_L_law_132 (by decide) ?_
        refine ph_lshl (pc := 134) C d_L_law_134 (lw_s ((xs (5 * n + 1)).toInt)) (lw_lo _) ?_
        refine ph_aload_n (pc := 135) C d_L_law_135 rfl ?_
        refine ph_iload_n (pc := 136) C d_L_law_136 rfl ?_
        refine ph_iconst (pc := 137) C d_L_law_137 ?_
        refine ph_iadd (pc := 138) C d_L_law_138 ?_
        refine ph_sel (pc := 139) C d_L_law_139 hX hbl hbA (5 * n + 2) (by omega) (by omega) (by omega) ?_
        refine ph_i2l (pc := 140) C d_L_law_140 (lw_ri _) ?_
        refine ph_ldc2 (pc := 141) C d_L_law_141 (4294967295) (by decide) tw_607 ?_
        refine ph_land (pc := 144) C d_L_law_144 (lw_n ((xs (5 * n + 2)).toInt)) (lw_lo _) ?_
        refine ph_lor (pc := 145) C d_L_law_145 (lw_j ((xs (5 * n + 1)).toInt) ((xs (5 * n + 2)).toInt)) (lw_lo _) ?_
        refine lw_M (pc := 146) (rest := []) C d_L_law_146 hI hF hMR hmc (cwV 1 C.hts (gdV tw_482 tw_483 tw_484 tw_2 tw_485) rfl rfl rfl ⟨rfl, by decide, by decide, by decide⟩ ⟨by omega, by omega⟩) rfl rfl (Nat.le_of_ble_eq_true rfl) ⟨by omega, by omega⟩ ?_
        intro L ad τ M1 vv hI hF hMR hRel1
        refine ph_pop (pc := 149) C d_L_law_149 rfl ?_
        refine ph_goto (pc := 150) (tgt := 661) C d_L_law_150 (by decide) ?_
        refine ph_iinc (pc := 661) C d_L_law_661 rfl rfl ?_
        refine ph_goto (pc := 664) (tgt := 18) C d_L_law_664 (by decide) ?_
        refine ph_loc (l2 := [(0, .ref b), (1, .ref x), (2, .ref o), (3, .int (ph_i ((5 * (n + 1) : Nat) : Int)))]) ⟨rfl, rfl, rfl, (congrArg (fun z => some (Value.int (ph_i z))) (show (((5 * n : Nat) : Int)) + (5) = ((5 * (n + 1) : Nat) : Int) by omega)), trivial⟩ ?_
        exact ih (n + 1) (senS S (lw_j ((xs (5 * n + 1)).toInt) ((xs (5 * n + 2)).toInt))) M1 x o L ad τ _ _ (by omega) (by omega) (by omega) (by omega) hRel1 hI hF hMR
      · refine ph_ti (y := 1) hq ?_
        refine ph_swI (pc := 32) (tgt := 153) C d_L_law_32 (by omega) (by omega) (by omega) rfl (by decide) ?_
        refine ph_aload_n (pc := 153) C d_L_law_153 rfl ?_
        refine ph_aload_n (pc := 154) C d_L_law_154 rfl ?_
        refine ph_iload_n (pc := 155) C d_L_law_155 rfl ?_
        refine ph_iconst (pc := 156) C d_L_law_156 ?_
        refine ph_iadd (pc := 157) C d_L_law_157 ?_
        refine ph_sel (pc := 158) C d_L_law_158 hX hbl hbA (5 * n + 1) (by omega) (by omega) (by omega) ?_
        refine ph_i2l (pc := 159) C d_L_law_159 (lw_ri _) ?_
        refine ph_bipush (pc := 160) C d_L_law_160 (by decide) ?_
        refine ph_lshl (pc := 162) C d_L_law_162 (lw_s ((xs (5 * n + 1)).toInt)) (lw_lo _) ?_
        refine ph_aload_n (pc := 163) C d_L_law_163 rfl ?_
        refine ph_iload_n (pc := 164) C d_L_law_164 rfl ?_
        refine ph_iconst (pc := 165) C d_L_law_165 ?_
        refine ph_iadd (pc := 166) C d_L_law_166 ?_
        refine ph_sel (pc := 167) C d_L_law_167 hX hbl hbA (5 * n + 2) (by omega) (by omega) (by omega) ?_
        refine ph_i2l (pc := 168) C d_L_law_168 (lw_ri _) ?_
        refine ph_ldc2 (pc := 169) C d_L_law_169 (4294967295) (by decide) tw_607 ?_
        refine ph_land (pc := 172) C d_L_law_172 (lw_n ((xs (5 * n + 2)).toInt)) (lw_lo _) ?_
        refine ph_lor (pc := 173) C d_L_law_173 (lw_j ((xs (5 * n + 1)).toInt) ((xs (5 * n + 2)).toInt)) (lw_lo _) ?_
        refine ph_aload_n (pc := 174) C d_L_law_174 rfl ?_
        refine ph_iload_n (pc := 175) C d_L_law_175 rfl ?_
        refine ph_iconst (pc := 176) C d_L_law_176 ?_
        refine ph_iadd (pc := 177) C d_L_law_177 ?_
        refine ph_sel (pc := 178) C d_L_law_178 hX hbl hbA (5 * n + 3) (by omega) (by omega) (by omega) ?_
        refine ph_i2l (pc := 179) C d_L_law_179 (lw_ri _) ?_
        refine ph_bipush (pc := 180) C d_L_law_180 (by decide) ?_
        refine ph_lshl (pc := 182) C d_L_law_182 (lw_s ((xs (5 * n + 3)).toInt)) (lw_lo _) ?_
        refine ph_aload_n (pc := 183) C d_L_law_183 rfl ?_
        refine ph_iload_n (pc := 184) C d_L_law_184 rfl ?_
        refine ph_iconst (pc := 185) C d_L_law_185 ?_
        refine ph_iadd (pc := 186) C d_L_law_186 ?_
        refine ph_sel (pc := 187) C d_L_law_187 hX hbl hbA (5 * n + 4) (by omega) (by omega) (by omega) ?_
        refine ph_i2l (pc := 188) C d_L_law_188 (lw_ri _) ?_
        refine ph_ldc2 (pc := 189) C d_L_law_189 (4294967295) (by decide) tw_607 ?_
        refine ph_land (pc := 192) C d_L_law_192 (lw_n ((xs (5 * n + 4)).toInt)) (lw_lo _) ?_
        refine ph_lor (pc := 193) C d_L_law_193 (lw_j ((xs (5 * n + 3)).toInt) ((xs (5 * n + 4)).toInt)) (lw_lo _) ?_
        obtain ⟨rr, ⟨ho1, ho2, ho3, ho4⟩, hmc⟩ := hm_item n S M (lw_j ((xs (5 * n + 1)).toInt) ((xs (5 * n + 2)).toInt)) (lw_j ((xs (5 * n + 3)).toInt) ((xs (5 * n + 4)).toInt)) (by omega) hRel (lw_jr _ _) (lw_jr _ _)
        refine lw_J (pc := 194) (S' := itS S (lw_j ((xs (5 * n + 1)).toInt) ((xs (5 * n + 2)).toInt)) (lw_j ((xs (5 * n + 3)).toInt) ((xs (5 * n + 4)).toInt))) (v := itv S (lw_j ((xs (5 * n + 1)).toInt) ((xs (5 * n + 2)).toInt)) (lw_j ((xs (5 * n + 3)).toInt) ((xs (5 * n + 4)).toInt))) (rest := []) C d_L_law_194 hI hMR (fun A1 => c_J_item l D dT A1 (KJ dT A1 aR aT) _ ad τ S x hI.sub hV hF.sub (lw_j ((xs (5 * n + 1)).toInt) ((xs (5 * n + 2)).toInt)) (lw_j ((xs (5 * n + 3)).toInt) ((xs (5 * n + 4)).toInt)) (lw_jr _ _) (lw_jr _ _)) (fun r L1 ad1 τ1 h => h) (cwV 2 C.hts (gdV tw_95 tw_96 tw_97 tw_1 tw_98) rfl rfl rfl ⟨rfl, by decide, by decide, by decide⟩ ⟨by decide, by decide⟩) rfl rfl (Nat.le_of_ble_eq_true rfl) ⟨by omega, by omega⟩ ?_
        intro L ad τ hI hF hMR
        refine ph_pop (pc := 197) C d_L_law_197 rfl ?_
        refine ph_aload_n (pc := 198) C d_L_law_198 rfl ?_
        refine ph_aload_n (pc := 199) C d_L_law_199 rfl ?_
        refine ph_iload_n (pc := 200) C d_L_law_200 rfl ?_
        refine ph_iconst (pc := 201) C d_L_law_201 ?_
        refine ph_iadd (pc := 202) C d_L_law_202 ?_
        refine ph_sel (pc := 203) C d_L_law_203 hX hbl hbA (5 * n + 1) (by omega) (by omega) (by omega) ?_
        refine ph_i2l (pc := 204) C d_L_law_204 (lw_ri _) ?_
        refine ph_bipush (pc := 205) C d_L_law_205 (by decide) ?_
        refine ph_lshl (pc := 207) C d_L_law_207 (lw_s ((xs (5 * n + 1)).toInt)) (lw_lo _) ?_
        refine ph_aload_n (pc := 208) C d_L_law_208 rfl ?_
        refine ph_iload_n (pc := 209) C d_L_law_209 rfl ?_
        refine ph_iconst (pc := 210) C d_L_law_210 ?_
        refine ph_iadd (pc := 211) C d_L_law_211 ?_
        refine ph_sel (pc := 212) C d_L_law_212 hX hbl hbA (5 * n + 2) (by omega) (by omega) (by omega) ?_
        refine ph_i2l (pc := 213) C d_L_law_213 (lw_ri _) ?_
        refine ph_ldc2 (pc := 214) C d_L_law_214 (4294967295) (by decide) tw_607 ?_
        refine ph_land (pc := 217) C d_L_law_217 (lw_n ((xs (5 * n + 2)).toInt)) (lw_lo _) ?_
        refine ph_lor (pc := 218) C d_L_law_218 (lw_j ((xs (5 * n + 1)).toInt) ((xs (5 * n + 2)).toInt)) (lw_lo _) ?_
        refine ph_aload_n (pc := 219) C d_L_law_219 rfl ?_
        refine ph_iload_n (pc := 220) C d_L_law_220 rfl ?_
        refine ph_iconst (pc := 221) C d_L_law_221 ?_
        refine ph_iadd (pc := 222) C d_L_law_222 ?_
        refine ph_sel (pc := 223) C d_L_law_223 hX hbl hbA (5 * n + 3) (by omega) (by omega) (by omega) ?_
        refine ph_i2l (pc := 224) C d_L_law_224 (lw_ri _) ?_
        refine ph_bipush (pc := 225) C d_L_law_225 (by decide) ?_
        refine ph_lshl (pc := 227) C d_L_law_227 (lw_s ((xs (5 * n + 3)).toInt)) (lw_lo _) ?_
        refine ph_aload_n (pc := 228) C d_L_law_228 rfl ?_
        refine ph_iload_n (pc := 229) C d_L_law_229 rfl ?_
        refine ph_iconst (pc := 230) C d_L_law_230 ?_
        refine ph_iadd (pc := 231) C d_L_law_231 ?_
        refine ph_sel (pc := 232) C d_L_law_232 hX hbl hbA (5 * n + 4) (by omega) (by omega) (by omega) ?_
        refine ph_i2l (pc := 233) C d_L_law_233 (lw_ri _) ?_
        refine ph_ldc2 (pc := 234) C d_L_law_234 (4294967295) (by decide) tw_607 ?_
        refine ph_land (pc := 237) C d_L_law_237 (lw_n ((xs (5 * n + 4)).toInt)) (lw_lo _) ?_
        refine ph_lor (pc := 238) C d_L_law_238 (lw_j ((xs (5 * n + 3)).toInt) ((xs (5 * n + 4)).toInt)) (lw_lo _) ?_
        refine lw_M (pc := 239) (rest := []) C d_L_law_239 hI hF hMR hmc (cwV 2 C.hts (gdV tw_488 tw_489 tw_490 tw_2 tw_491) rfl rfl rfl ⟨rfl, by decide, by decide, by decide⟩ ⟨by omega, by omega⟩) rfl rfl (Nat.le_of_ble_eq_true rfl) ⟨by omega, by omega⟩ ?_
        intro L ad τ M1 vv hI hF hMR hRel1
        refine ph_pop (pc := 242) C d_L_law_242 rfl ?_
        refine ph_goto (pc := 243) (tgt := 661) C d_L_law_243 (by decide) ?_
        refine ph_iinc (pc := 661) C d_L_law_661 rfl rfl ?_
        refine ph_goto (pc := 664) (tgt := 18) C d_L_law_664 (by decide) ?_
        refine ph_loc (l2 := [(0, .ref b), (1, .ref x), (2, .ref o), (3, .int (ph_i ((5 * (n + 1) : Nat) : Int)))]) ⟨rfl, rfl, rfl, (congrArg (fun z => some (Value.int (ph_i z))) (show (((5 * n : Nat) : Int)) + (5) = ((5 * (n + 1) : Nat) : Int) by omega)), trivial⟩ ?_
        exact ih (n + 1) (itS S (lw_j ((xs (5 * n + 1)).toInt) ((xs (5 * n + 2)).toInt)) (lw_j ((xs (5 * n + 3)).toInt) ((xs (5 * n + 4)).toInt))) M1 x o L ad τ _ _ (by omega) (by omega) (by omega) (by omega) hRel1 hI hF hMR
      · refine ph_ti (y := 2) hq ?_
        refine ph_swI (pc := 32) (tgt := 246) C d_L_law_32 (by omega) (by omega) (by omega) rfl (by decide) ?_
        refine ph_aload_n (pc := 246) C d_L_law_246 rfl ?_
        refine ph_aload_n (pc := 247) C d_L_law_247 rfl ?_
        refine ph_iload_n (pc := 248) C d_L_law_248 rfl ?_
        refine ph_iconst (pc := 249) C d_L_law_249 ?_
        refine ph_iadd (pc := 250) C d_L_law_250 ?_
        refine ph_sel (pc := 251) C d_L_law_251 hX hbl hbA (5 * n + 1) (by omega) (by omega) (by omega) ?_
        refine ph_aload_n (pc := 252) C d_L_law_252 rfl ?_
        refine ph_iload_n (pc := 253) C d_L_law_253 rfl ?_
        refine ph_iconst (pc := 254) C d_L_law_254 ?_
        refine ph_iadd (pc := 255) C d_L_law_255 ?_
        refine ph_sel (pc := 256) C d_L_law_256 hX hbl hbA (5 * n + 2) (by omega) (by omega) (by omega) ?_
        refine ph_nez (pc := 257) C d_L_law_257 d_L_law_260 d_L_law_261 d_L_law_264 (lw_ri _) ?_
        refine ph_aload_n (pc := 265) C d_L_law_265 rfl ?_
        refine ph_iload_n (pc := 266) C d_L_law_266 rfl ?_
        refine ph_iconst (pc := 267) C d_L_law_267 ?_
        refine ph_iadd (pc := 268) C d_L_law_268 ?_
        refine ph_sel (pc := 269) C d_L_law_269 hX hbl hbA (5 * n + 3) (by omega) (by omega) (by omega) ?_
        refine ph_i2l (pc := 270) C d_L_law_270 (lw_ri _) ?_
        refine ph_bipush (pc := 271) C d_L_law_271 (by decide) ?_
        refine ph_lshl (pc := 273) C d_L_law_273 (lw_s ((xs (5 * n + 3)).toInt)) (lw_lo _) ?_
        refine ph_aload_n (pc := 274) C d_L_law_274 rfl ?_
        refine ph_iload_n (pc := 275) C d_L_law_275 rfl ?_
        refine ph_iconst (pc := 276) C d_L_law_276 ?_
        refine ph_iadd (pc := 277) C d_L_law_277 ?_
        refine ph_sel (pc := 278) C d_L_law_278 hX hbl hbA (5 * n + 4) (by omega) (by omega) (by omega) ?_
        refine ph_i2l (pc := 279) C d_L_law_279 (lw_ri _) ?_
        refine ph_ldc2 (pc := 280) C d_L_law_280 (4294967295) (by decide) tw_607 ?_
        refine ph_land (pc := 283) C d_L_law_283 (lw_n ((xs (5 * n + 4)).toInt)) (lw_lo _) ?_
        refine ph_lor (pc := 284) C d_L_law_284 (lw_j ((xs (5 * n + 3)).toInt) ((xs (5 * n + 4)).toInt)) (lw_lo _) ?_
        obtain ⟨rr, ⟨ho1, ho2, ho3, ho4⟩, hmc⟩ := hm_edge n S M ((xs (5 * n + 1)).toInt) (ph_b (¬ (xs (5 * n + 2)).toInt = 0)) (lw_j ((xs (5 * n + 3)).toInt) ((xs (5 * n + 4)).toInt)) (by omega) hRel (lw_ri _) (ph_bb _) (lw_jr _ _)
        refine lw_J (pc := 285) (S' := edgeS S ((xs (5 * n + 1)).toInt) (ph_b (¬ (xs (5 * n + 2)).toInt = 0)) (lw_j ((xs (5 * n + 3)).toInt) ((xs (5 * n + 4)).toInt))) (v := edgev S ((xs (5 * n + 1)).toInt) (ph_b (¬ (xs (5 * n + 2)).toInt = 0)) (lw_j ((xs (5 * n + 3)).toInt) ((xs (5 * n + 4)).toInt))) (rest := []) C d_L_law_285 hI hMR (fun A1 => c_J_edge l D dT A1 (KJ dT A1 aR aT) _ ad τ S x hI.sub hV hF.sub ((xs (5 * n + 1)).toInt) (ph_b (¬ (xs (5 * n + 2)).toInt = 0)) (lw_j ((xs (5 * n + 3)).toInt) ((xs (5 * n + 4)).toInt)) (lw_ri _) (ph_bb _) (lw_jr _ _)) (fun r L1 ad1 τ1 h => h) (cwV 3 C.hts (gdV tw_147 tw_148 tw_149 tw_1 tw_150) rfl rfl rfl ⟨rfl, by decide, by decide, by decide⟩ ⟨by decide, by decide⟩) rfl rfl (Nat.le_of_ble_eq_true rfl) ⟨by omega, by omega⟩ ?_
        intro L ad τ hI hF hMR
        refine ph_pop (pc := 288) C d_L_law_288 rfl ?_
        refine ph_aload_n (pc := 289) C d_L_law_289 rfl ?_
        refine ph_aload_n (pc := 290) C d_L_law_290 rfl ?_
        refine ph_iload_n (pc := 291) C d_L_law_291 rfl ?_
        refine ph_iconst (pc := 292) C d_L_law_292 ?_
        refine ph_iadd (pc := 293) C d_L_law_293 ?_
        refine ph_sel (pc := 294) C d_L_law_294 hX hbl hbA (5 * n + 1) (by omega) (by omega) (by omega) ?_
        refine ph_aload_n (pc := 295) C d_L_law_295 rfl ?_
        refine ph_iload_n (pc := 296) C d_L_law_296 rfl ?_
        refine ph_iconst (pc := 297) C d_L_law_297 ?_
        refine ph_iadd (pc := 298) C d_L_law_298 ?_
        refine ph_sel (pc := 299) C d_L_law_299 hX hbl hbA (5 * n + 2) (by omega) (by omega) (by omega) ?_
        refine ph_nez (pc := 300) C d_L_law_300 d_L_law_303 d_L_law_304 d_L_law_307 (lw_ri _) ?_
        refine ph_aload_n (pc := 308) C d_L_law_308 rfl ?_
        refine ph_iload_n (pc := 309) C d_L_law_309 rfl ?_
        refine ph_iconst (pc := 310) C d_L_law_310 ?_
        refine ph_iadd (pc := 311) C d_L_law_311 ?_
        refine ph_sel (pc := 312) C d_L_law_312 hX hbl hbA (5 * n + 3) (by omega) (by omega) (by omega) ?_
        refine ph_i2l (pc := 313) C d_L_law_313 (lw_ri _) ?_
        refine ph_bipush (pc := 314) C d_L_law_314 (by decide) ?_
        refine ph_lshl (pc := 316) C d_L_law_316 (lw_s ((xs (5 * n + 3)).toInt)) (lw_lo _) ?_
        refine ph_aload_n (pc := 317) C d_L_law_317 rfl ?_
        refine ph_iload_n (pc := 318) C d_L_law_318 rfl ?_
        refine ph_iconst (pc := 319) C d_L_law_319 ?_
        refine ph_iadd (pc := 320) C d_L_law_320 ?_
        refine ph_sel (pc := 321) C d_L_law_321 hX hbl hbA (5 * n + 4) (by omega) (by omega) (by omega) ?_
        refine ph_i2l (pc := 322) C d_L_law_322 (lw_ri _) ?_
        refine ph_ldc2 (pc := 323) C d_L_law_323 (4294967295) (by decide) tw_607 ?_
        refine ph_land (pc := 326) C d_L_law_326 (lw_n ((xs (5 * n + 4)).toInt)) (lw_lo _) ?_
        refine ph_lor (pc := 327) C d_L_law_327 (lw_j ((xs (5 * n + 3)).toInt) ((xs (5 * n + 4)).toInt)) (lw_lo _) ?_
        refine lw_M (pc := 328) (rest := []) C d_L_law_328 hI hF hMR hmc (cwV 3 C.hts (gdV tw_503 tw_504 tw_505 tw_2 tw_506) rfl rfl rfl ⟨rfl, by decide, by decide, by decide⟩ ⟨by omega, by omega⟩) rfl rfl (Nat.le_of_ble_eq_true rfl) ⟨by omega, by omega⟩ ?_
        intro L ad τ M1 vv hI hF hMR hRel1
        refine ph_pop (pc := 331) C d_L_law_331 rfl ?_
        refine ph_goto (pc := 332) (tgt := 661) C d_L_law_332 (by decide) ?_
        refine ph_iinc (pc := 661) C d_L_law_661 rfl rfl ?_
        refine ph_goto (pc := 664) (tgt := 18) C d_L_law_664 (by decide) ?_
        refine ph_loc (l2 := [(0, .ref b), (1, .ref x), (2, .ref o), (3, .int (ph_i ((5 * (n + 1) : Nat) : Int)))]) ⟨rfl, rfl, rfl, (congrArg (fun z => some (Value.int (ph_i z))) (show (((5 * n : Nat) : Int)) + (5) = ((5 * (n + 1) : Nat) : Int) by omega)), trivial⟩ ?_
        exact ih (n + 1) (edgeS S ((xs (5 * n + 1)).toInt) (ph_b (¬ (xs (5 * n + 2)).toInt = 0)) (lw_j ((xs (5 * n + 3)).toInt) ((xs (5 * n + 4)).toInt))) M1 x o L ad τ _ _ (by omega) (by omega) (by omega) (by omega) hRel1 hI hF hMR
      · refine ph_ti (y := 3) hq ?_
        refine ph_swI (pc := 32) (tgt := 335) C d_L_law_32 (by omega) (by omega) (by omega) rfl (by decide) ?_
        refine ph_aload_n (pc := 335) C d_L_law_335 rfl ?_
        refine ph_aload_n (pc := 336) C d_L_law_336 rfl ?_
        refine ph_iload_n (pc := 337) C d_L_law_337 rfl ?_
        refine ph_iconst (pc := 338) C d_L_law_338 ?_
        refine ph_iadd (pc := 339) C d_L_law_339 ?_
        refine ph_sel (pc := 340) C d_L_law_340 hX hbl hbA (5 * n + 1) (by omega) (by omega) (by omega) ?_
        refine ph_aload_n (pc := 341) C d_L_law_341 rfl ?_
        refine ph_iload_n (pc := 342) C d_L_law_342 rfl ?_
        refine ph_iconst (pc := 343) C d_L_law_343 ?_
        refine ph_iadd (pc := 344) C d_L_law_344 ?_
        refine ph_sel (pc := 345) C d_L_law_345 hX hbl hbA (5 * n + 2) (by omega) (by omega) (by omega) ?_
        obtain ⟨rr, ⟨ho1, ho2, ho3, ho4⟩, hmc⟩ := hm_doubt n S M ((xs (5 * n + 1)).toInt) ((xs (5 * n + 2)).toInt) (by omega) hRel (lw_ri _) (lw_ri _)
        refine lw_J (pc := 346) (S' := S) (v := doubtv S ((xs (5 * n + 1)).toInt) ((xs (5 * n + 2)).toInt)) (rest := []) C d_L_law_346 hI hMR (fun A1 => c_J_doubt l D dT A1 (KJ dT A1 aR aT) _ ad τ S x hI.sub hV ((xs (5 * n + 1)).toInt) ((xs (5 * n + 2)).toInt) (lw_ri _) (lw_ri _)) (fun r L1 ad1 τ1 h => by obtain ⟨rfl, rfl, rfl, rfl⟩ := h; exact ⟨hI.sub, hF.sub, rfl⟩) (cwV 2 C.hts (gdV tw_276 tw_277 tw_278 tw_1 tw_279) rfl rfl rfl ⟨rfl, by decide, by decide, by decide⟩ ⟨by decide, by decide⟩) rfl rfl (Nat.le_of_ble_eq_true rfl) ⟨by omega, by omega⟩ ?_
        intro L ad τ hI hF hMR
        refine ph_pop (pc := 349) C d_L_law_349 rfl ?_
        refine ph_aload_n (pc := 350) C d_L_law_350 rfl ?_
        refine ph_aload_n (pc := 351) C d_L_law_351 rfl ?_
        refine ph_iload_n (pc := 352) C d_L_law_352 rfl ?_
        refine ph_iconst (pc := 353) C d_L_law_353 ?_
        refine ph_iadd (pc := 354) C d_L_law_354 ?_
        refine ph_sel (pc := 355) C d_L_law_355 hX hbl hbA (5 * n + 1) (by omega) (by omega) (by omega) ?_
        refine ph_aload_n (pc := 356) C d_L_law_356 rfl ?_
        refine ph_iload_n (pc := 357) C d_L_law_357 rfl ?_
        refine ph_iconst (pc := 358) C d_L_law_358 ?_
        refine ph_iadd (pc := 359) C d_L_law_359 ?_
        refine ph_sel (pc := 360) C d_L_law_360 hX hbl hbA (5 * n + 2) (by omega) (by omega) (by omega) ?_
        refine lw_M (pc := 361) (rest := []) C d_L_law_361 hI hF hMR hmc (cwV 2 C.hts (gdV tw_547 tw_548 tw_549 tw_2 tw_550) rfl rfl rfl ⟨rfl, by decide, by decide, by decide⟩ ⟨by omega, by omega⟩) rfl rfl (Nat.le_of_ble_eq_true rfl) ⟨by omega, by omega⟩ ?_
        intro L ad τ M1 vv hI hF hMR hRel1
        refine ph_pop (pc := 364) C d_L_law_364 rfl ?_
        refine ph_goto (pc := 365) (tgt := 661) C d_L_law_365 (by decide) ?_
        refine ph_iinc (pc := 661) C d_L_law_661 rfl rfl ?_
        refine ph_goto (pc := 664) (tgt := 18) C d_L_law_664 (by decide) ?_
        refine ph_loc (l2 := [(0, .ref b), (1, .ref x), (2, .ref o), (3, .int (ph_i ((5 * (n + 1) : Nat) : Int)))]) ⟨rfl, rfl, rfl, (congrArg (fun z => some (Value.int (ph_i z))) (show (((5 * n : Nat) : Int)) + (5) = ((5 * (n + 1) : Nat) : Int) by omega)), trivial⟩ ?_
        exact ih (n + 1) (S) M1 x o L ad τ _ _ (by omega) (by omega) (by omega) (by omega) hRel1 hI hF hMR
      · refine ph_ti (y := 4) hq ?_
        refine ph_swI (pc := 32) (tgt := 368) C d_L_law_32 (by omega) (by omega) (by omega) rfl (by decide) ?_
        refine ph_aload_n (pc := 368) C d_L_law_368 rfl ?_
        refine ph_aload_n (pc := 369) C d_L_law_369 rfl ?_
        refine ph_iload_n (pc := 370) C d_L_law_370 rfl ?_
        refine ph_iconst (pc := 371) C d_L_law_371 ?_
        refine ph_iadd (pc := 372) C d_L_law_372 ?_
        refine ph_sel (pc := 373) C d_L_law_373 hX hbl hbA (5 * n + 1) (by omega) (by omega) (by omega) ?_
        obtain ⟨rr, ⟨ho1, ho2, ho3, ho4⟩, hmc⟩ := hm_cause n S M ((xs (5 * n + 1)).toInt) (by omega) hRel (lw_ri _)
        refine lw_J (pc := 374) (S' := S) (v := causev S ((xs (5 * n + 1)).toInt)) (rest := []) C d_L_law_374 hI hMR (fun A1 => c_J_cause l D dT A1 (KJ dT A1 aR aT) _ ad τ S x hI.sub hV ((xs (5 * n + 1)).toInt) (lw_ri _)) (fun r L1 ad1 τ1 h => by obtain ⟨rfl, rfl, rfl, rfl⟩ := h; exact ⟨hI.sub, hF.sub, rfl⟩) (cwV 1 C.hts (gdV tw_288 tw_289 tw_290 tw_1 tw_291) rfl rfl rfl ⟨rfl, by decide, by decide, by decide⟩ ⟨by decide, by decide⟩) rfl rfl (Nat.le_of_ble_eq_true rfl) ⟨by omega, by omega⟩ ?_
        intro L ad τ hI hF hMR
        refine ph_pop (pc := 377) C d_L_law_377 rfl ?_
        refine ph_aload_n (pc := 378) C d_L_law_378 rfl ?_
        refine ph_aload_n (pc := 379) C d_L_law_379 rfl ?_
        refine ph_iload_n (pc := 380) C d_L_law_380 rfl ?_
        refine ph_iconst (pc := 381) C d_L_law_381 ?_
        refine ph_iadd (pc := 382) C d_L_law_382 ?_
        refine ph_sel (pc := 383) C d_L_law_383 hX hbl hbA (5 * n + 1) (by omega) (by omega) (by omega) ?_
        refine lw_M (pc := 384) (rest := []) C d_L_law_384 hI hF hMR hmc (cwV 1 C.hts (gdV tw_555 tw_556 tw_557 tw_2 tw_558) rfl rfl rfl ⟨rfl, by decide, by decide, by decide⟩ ⟨by omega, by omega⟩) rfl rfl (Nat.le_of_ble_eq_true rfl) ⟨by omega, by omega⟩ ?_
        intro L ad τ M1 vv hI hF hMR hRel1
        refine ph_pop (pc := 387) C d_L_law_387 rfl ?_
        refine ph_goto (pc := 388) (tgt := 661) C d_L_law_388 (by decide) ?_
        refine ph_iinc (pc := 661) C d_L_law_661 rfl rfl ?_
        refine ph_goto (pc := 664) (tgt := 18) C d_L_law_664 (by decide) ?_
        refine ph_loc (l2 := [(0, .ref b), (1, .ref x), (2, .ref o), (3, .int (ph_i ((5 * (n + 1) : Nat) : Int)))]) ⟨rfl, rfl, rfl, (congrArg (fun z => some (Value.int (ph_i z))) (show (((5 * n : Nat) : Int)) + (5) = ((5 * (n + 1) : Nat) : Int) by omega)), trivial⟩ ?_
        exact ih (n + 1) (S) M1 x o L ad τ _ _ (by omega) (by omega) (by omega) (by omega) hRel1 hI hF hMR
      · refine ph_ti (y := 5) hq ?_
        refine ph_swI (pc := 32) (tgt := 391) C d_L_law_32 (by omega) (by omega) (by omega) rfl (by decide) ?_
        refine ph_aload_n (pc := 391) C d_L_law_391 rfl ?_
        refine ph_aload_n (pc := 392) C d_L_law_392 rfl ?_
        refine ph_iload_n (pc := 393) C d_L_law_393 rfl ?_
        refine ph_iconst (pc := 394) C d_L_law_394 ?_
        refine ph_iadd (pc := 395) C d_L_law_395 ?_
        refine ph_sel (pc := 396) C d_L_law_396 hX hbl hbA (5 * n + 1) (by omega) (by omega) (by omega) ?_
        refine ph_aload_n (pc := 397) C d_L_law_397 rfl ?_
        refine ph_iload_n (pc := 398) C d_L_law_398 rfl ?_
        refine ph_iconst (pc := 399) C d_L_law_399 ?_
        refine ph_iadd (pc := 400) C d_L_law_400 ?_
        refine ph_sel (pc := 401) C d_L_law_401 hX hbl hbA (5 * n + 2) (by omega) (by omega) (by omega) ?_
        obtain ⟨rr, ⟨ho1, ho2, ho3, ho4⟩, hmc⟩ := hm_step n S M ((xs (5 * n + 1)).toInt) ((xs (5 * n + 2)).toInt) (by omega) hRel (lw_ri _) (lw_ri _)
        refine lw_J (pc := 402) (S' := stepS S ((xs (5 * n + 1)).toInt) ((xs (5 * n + 2)).toInt)) (v := stepv S ((xs (5 * n + 1)).toInt) ((xs (5 * n + 2)).toInt)) (rest := []) C d_L_law_402 hI hMR (fun A1 => c_J_step l D dT A1 (KJ dT A1 aR aT) _ ad τ S x hI.sub hV aR aT (fun U h => h) ((xs (5 * n + 1)).toInt) ((xs (5 * n + 2)).toInt) (lw_ri _) (lw_ri _)) (fun r L1 ad1 τ1 h => by obtain ⟨rfl, rfl, h3, rfl⟩ := h; exact ⟨h3, JF_eq hF.sub (fun k hk => (stepS_0 (by omega) (by omega))), rfl⟩) (cwV 2 C.hts (gdV tw_300 tw_301 tw_302 tw_1 tw_303) rfl rfl rfl ⟨rfl, by decide, by decide, by decide⟩ ⟨by decide, by decide⟩) rfl rfl (Nat.le_of_ble_eq_true rfl) ⟨by omega, by omega⟩ ?_
        intro L ad τ hI hF hMR
        refine ph_aload_n (pc := 405) C d_L_law_405 rfl ?_
        refine ph_aload_n (pc := 406) C d_L_law_406 rfl ?_
        refine ph_iload_n (pc := 407) C d_L_law_407 rfl ?_
        refine ph_iconst (pc := 408) C d_L_law_408 ?_
        refine ph_iadd (pc := 409) C d_L_law_409 ?_
        refine ph_sel (pc := 410) C d_L_law_410 hX hbl hbA (5 * n + 1) (by omega) (by omega) (by omega) ?_
        refine ph_aload_n (pc := 411) C d_L_law_411 rfl ?_
        refine ph_iload_n (pc := 412) C d_L_law_412 rfl ?_
        refine ph_iconst (pc := 413) C d_L_law_413 ?_
        refine ph_iadd (pc := 414) C d_L_law_414 ?_
        refine ph_sel (pc := 415) C d_L_law_415 hX hbl hbA (5 * n + 2) (by omega) (by omega) (by omega) ?_
        refine lw_M (pc := 416) (rest := [.int (ph_i (stepv S ((xs (5 * n + 1)).toInt) ((xs (5 * n + 2)).toInt)))]) C d_L_law_416 hI hF hMR hmc (cwV 2 C.hts (gdV tw_560 tw_561 tw_562 tw_2 tw_563) rfl rfl rfl ⟨rfl, by decide, by decide, by decide⟩ ⟨by omega, by omega⟩) rfl rfl (Nat.le_of_ble_eq_true rfl) ⟨by omega, by omega⟩ ?_
        intro L ad τ M1 vv hI hF hMR hRel1; obtain ⟨hRel1, heq⟩ := hRel1
        refine ph_ceq (pc := 419) (tgt := 661) C d_L_law_419 (by decide) heq ?_
        refine ph_iinc (pc := 661) C d_L_law_661 rfl rfl ?_
        refine ph_goto (pc := 664) (tgt := 18) C d_L_law_664 (by decide) ?_
        refine ph_loc (l2 := [(0, .ref b), (1, .ref x), (2, .ref o), (3, .int (ph_i ((5 * (n + 1) : Nat) : Int)))]) ⟨rfl, rfl, rfl, (congrArg (fun z => some (Value.int (ph_i z))) (show (((5 * n : Nat) : Int)) + (5) = ((5 * (n + 1) : Nat) : Int) by omega)), trivial⟩ ?_
        exact ih (n + 1) (stepS S ((xs (5 * n + 1)).toInt) ((xs (5 * n + 2)).toInt)) M1 x o L ad τ _ _ (by omega) (by omega) (by omega) (by omega) hRel1 hI hF hMR
      · refine ph_ti (y := 6) hq ?_
        refine ph_swI (pc := 32) (tgt := 424) C d_L_law_32 (by omega) (by omega) (by omega) rfl (by decide) ?_
        refine ph_aload_n (pc := 424) C d_L_law_424 rfl ?_
        refine ph_aload_n (pc := 425) C d_L_law_425 rfl ?_
        refine ph_iload_n (pc := 426) C d_L_law_426 rfl ?_
        refine ph_iconst (pc := 427) C d_L_law_427 ?_
        refine ph_iadd (pc := 428) C d_L_law_428 ?_
        refine ph_sel (pc := 429) C d_L_law_429 hX hbl hbA (5 * n + 1) (by omega) (by omega) (by omega) ?_
        obtain ⟨rr, ⟨ho1, ho2, ho3, ho4⟩, hmc⟩ := hm_feed n S M ((xs (5 * n + 1)).toInt) (by omega) hRel (lw_ri _)
        refine lw_J (pc := 430) (S' := feedS S ((xs (5 * n + 1)).toInt)) (v := feedv S ((xs (5 * n + 1)).toInt)) (rest := []) C d_L_law_430 hI hMR (fun A1 => c_J_feed l D dT A1 (KJ dT A1 aR aT) _ ad τ S x hI.sub hV ((xs (5 * n + 1)).toInt) (lw_ri _)) (fun r L1 ad1 τ1 h => by obtain ⟨rfl, rfl, h3, rfl⟩ := h; exact ⟨h3, JF_eq hF.sub (fun k hk => (feedS_0 (by omega))), rfl⟩) (cwV 1 C.hts (gdV tw_333 tw_334 tw_335 tw_1 tw_336) rfl rfl rfl ⟨rfl, by decide, by decide, by decide⟩ ⟨by decide, by decide⟩) rfl rfl (Nat.le_of_ble_eq_true rfl) ⟨by omega, by omega⟩ ?_
        intro L ad τ hI hF hMR
        refine ph_pop (pc := 433) C d_L_law_433 rfl ?_
        refine ph_aload_n (pc := 434) C d_L_law_434 rfl ?_
        refine ph_aload_n (pc := 435) C d_L_law_435 rfl ?_
        refine ph_iload_n (pc := 436) C d_L_law_436 rfl ?_
        refine ph_iconst (pc := 437) C d_L_law_437 ?_
        refine ph_iadd (pc := 438) C d_L_law_438 ?_
        refine ph_sel (pc := 439) C d_L_law_439 hX hbl hbA (5 * n + 1) (by omega) (by omega) (by omega) ?_
        refine lw_M (pc := 440) (rest := []) C d_L_law_440 hI hF hMR hmc (cwV 1 C.hts (gdV tw_573 tw_574 tw_575 tw_2 tw_576) rfl rfl rfl ⟨rfl, by decide, by decide, by decide⟩ ⟨by omega, by omega⟩) rfl rfl (Nat.le_of_ble_eq_true rfl) ⟨by omega, by omega⟩ ?_
        intro L ad τ M1 vv hI hF hMR hRel1
        refine ph_pop (pc := 443) C d_L_law_443 rfl ?_
        refine ph_goto (pc := 444) (tgt := 661) C d_L_law_444 (by decide) ?_
        refine ph_iinc (pc := 661) C d_L_law_661 rfl rfl ?_
        refine ph_goto (pc := 664) (tgt := 18) C d_L_law_664 (by decide) ?_
        refine ph_loc (l2 := [(0, .ref b), (1, .ref x), (2, .ref o), (3, .int (ph_i ((5 * (n + 1) : Nat) : Int)))]) ⟨rfl, rfl, rfl, (congrArg (fun z => some (Value.int (ph_i z))) (show (((5 * n : Nat) : Int)) + (5) = ((5 * (n + 1) : Nat) : Int) by omega)), trivial⟩ ?_
        exact ih (n + 1) (feedS S ((xs (5 * n + 1)).toInt)) M1 x o L ad τ _ _ (by omega) (by omega) (by omega) (by omega) hRel1 hI hF hMR
      · refine ph_ti (y := 7) hq ?_
        refine ph_swI (pc := 32) (tgt := 447) C d_L_law_32 (by omega) (by omega) (by omega) rfl (by decide) ?_
        refine ph_aload_n (pc := 447) C d_L_law_447 rfl ?_
        refine ph_aload_n (pc := 448) C d_L_law_448 rfl ?_
        refine ph_iload_n (pc := 449) C d_L_law_449 rfl ?_
        refine ph_iconst (pc := 450) C d_L_law_450 ?_
        refine ph_iadd (pc := 451) C d_L_law_451 ?_
        refine ph_sel (pc := 452) C d_L_law_452 hX hbl hbA (5 * n + 1) (by omega) (by omega) (by omega) ?_
        obtain ⟨rr, ⟨ho1, ho2, ho3, ho4⟩, hmc⟩ := hm_listed n S M ((xs (5 * n + 1)).toInt) (by omega) hRel (lw_ri _)
        refine lw_J (pc := 453) (S' := S) (v := listv S ((xs (5 * n + 1)).toInt)) (rest := []) C d_L_law_453 hI hMR (fun A1 => c_J_listed l D dT A1 (KJ dT A1 aR aT) _ ad τ S x hI.sub hV ((xs (5 * n + 1)).toInt) (lw_ri _)) (fun r L1 ad1 τ1 h => by obtain ⟨rfl, rfl, rfl, rfl⟩ := h; exact ⟨hI.sub, hF.sub, rfl⟩) (cwV 1 C.hts (gdV tw_341 tw_342 tw_343 tw_1 tw_344) rfl rfl rfl ⟨rfl, by decide, by decide, by decide⟩ ⟨by decide, by decide⟩) rfl rfl (Nat.le_of_ble_eq_true rfl) ⟨by omega, by omega⟩ ?_
        intro L ad τ hI hF hMR
        refine ph_pop (pc := 456) C d_L_law_456 rfl ?_
        refine ph_aload_n (pc := 457) C d_L_law_457 rfl ?_
        refine ph_aload_n (pc := 458) C d_L_law_458 rfl ?_
        refine ph_iload_n (pc := 459) C d_L_law_459 rfl ?_
        refine ph_iconst (pc := 460) C d_L_law_460 ?_
        refine ph_iadd (pc := 461) C d_L_law_461 ?_
        refine ph_sel (pc := 462) C d_L_law_462 hX hbl hbA (5 * n + 1) (by omega) (by omega) (by omega) ?_
        refine lw_M (pc := 463) (rest := []) C d_L_law_463 hI hF hMR hmc (cwV 1 C.hts (gdV tw_577 tw_578 tw_579 tw_2 tw_580) rfl rfl rfl ⟨rfl, by decide, by decide, by decide⟩ ⟨by omega, by omega⟩) rfl rfl (Nat.le_of_ble_eq_true rfl) ⟨by omega, by omega⟩ ?_
        intro L ad τ M1 vv hI hF hMR hRel1
        refine ph_pop (pc := 466) C d_L_law_466 rfl ?_
        refine ph_goto (pc := 467) (tgt := 661) C d_L_law_467 (by decide) ?_
        refine ph_iinc (pc := 661) C d_L_law_661 rfl rfl ?_
        refine ph_goto (pc := 664) (tgt := 18) C d_L_law_664 (by decide) ?_
        refine ph_loc (l2 := [(0, .ref b), (1, .ref x), (2, .ref o), (3, .int (ph_i ((5 * (n + 1) : Nat) : Int)))]) ⟨rfl, rfl, rfl, (congrArg (fun z => some (Value.int (ph_i z))) (show (((5 * n : Nat) : Int)) + (5) = ((5 * (n + 1) : Nat) : Int) by omega)), trivial⟩ ?_
        exact ih (n + 1) (S) M1 x o L ad τ _ _ (by omega) (by omega) (by omega) (by omega) hRel1 hI hF hMR
      · refine ph_ti (y := 8) hq ?_
        refine ph_swI (pc := 32) (tgt := 470) C d_L_law_32 (by omega) (by omega) (by omega) rfl (by decide) ?_
        refine ph_aload_n (pc := 470) C d_L_law_470 rfl ?_
        refine ph_aload_n (pc := 471) C d_L_law_471 rfl ?_
        refine ph_iload_n (pc := 472) C d_L_law_472 rfl ?_
        refine ph_iconst (pc := 473) C d_L_law_473 ?_
        refine ph_iadd (pc := 474) C d_L_law_474 ?_
        refine ph_sel (pc := 475) C d_L_law_475 hX hbl hbA (5 * n + 1) (by omega) (by omega) (by omega) ?_
        refine ph_aload_n (pc := 476) C d_L_law_476 rfl ?_
        refine ph_iload_n (pc := 477) C d_L_law_477 rfl ?_
        refine ph_iconst (pc := 478) C d_L_law_478 ?_
        refine ph_iadd (pc := 479) C d_L_law_479 ?_
        refine ph_sel (pc := 480) C d_L_law_480 hX hbl hbA (5 * n + 2) (by omega) (by omega) (by omega) ?_
        refine ph_aload_n (pc := 481) C d_L_law_481 rfl ?_
        refine ph_iload_n (pc := 482) C d_L_law_482 rfl ?_
        refine ph_iconst (pc := 483) C d_L_law_483 ?_
        refine ph_iadd (pc := 484) C d_L_law_484 ?_
        refine ph_sel (pc := 485) C d_L_law_485 hX hbl hbA (5 * n + 3) (by omega) (by omega) (by omega) ?_
        refine ph_nez (pc := 486) C d_L_law_486 d_L_law_489 d_L_law_490 d_L_law_493 (lw_ri _) ?_
        obtain ⟨rr, ⟨ho1, ho2, ho3, ho4⟩, hmc⟩ := hm_rule n S M ((xs (5 * n + 1)).toInt) ((xs (5 * n + 2)).toInt) (ph_b (¬ (xs (5 * n + 3)).toInt = 0)) (by omega) hRel (lw_ri _) (lw_ri _) (ph_bb _)
        refine lw_J (pc := 494) (S' := ruleS S ((xs (5 * n + 1)).toInt) ((xs (5 * n + 2)).toInt) (ph_b (¬ (xs (5 * n + 3)).toInt = 0))) (v := rulev S ((xs (5 * n + 1)).toInt) ((xs (5 * n + 2)).toInt)) (rest := []) C d_L_law_494 hI hMR (fun A1 => c_J_rule l D dT A1 (KJ dT A1 aR aT) _ ad τ S x hI.sub hV ((xs (5 * n + 1)).toInt) ((xs (5 * n + 2)).toInt) (ph_b (¬ (xs (5 * n + 3)).toInt = 0)) (lw_ri _) (lw_ri _) (ph_bb _)) (fun r L1 ad1 τ1 h => by obtain ⟨rfl, rfl, h3, rfl⟩ := h; exact ⟨h3, JF_eq hF.sub (fun k hk => ruleS_0), rfl⟩) (cwV 3 C.hts (gdV tw_345 tw_346 tw_347 tw_1 tw_348) rfl rfl rfl ⟨rfl, by decide, by decide, by decide⟩ ⟨by decide, by decide⟩) rfl rfl (Nat.le_of_ble_eq_true rfl) ⟨by omega, by omega⟩ ?_
        intro L ad τ hI hF hMR
        refine ph_pop (pc := 497) C d_L_law_497 rfl ?_
        refine ph_aload_n (pc := 498) C d_L_law_498 rfl ?_
        refine ph_aload_n (pc := 499) C d_L_law_499 rfl ?_
        refine ph_iload_n (pc := 500) C d_L_law_500 rfl ?_
        refine ph_iconst (pc := 501) C d_L_law_501 ?_
        refine ph_iadd (pc := 502) C d_L_law_502 ?_
        refine ph_sel (pc := 503) C d_L_law_503 hX hbl hbA (5 * n + 1) (by omega) (by omega) (by omega) ?_
        refine ph_aload_n (pc := 504) C d_L_law_504 rfl ?_
        refine ph_iload_n (pc := 505) C d_L_law_505 rfl ?_
        refine ph_iconst (pc := 506) C d_L_law_506 ?_
        refine ph_iadd (pc := 507) C d_L_law_507 ?_
        refine ph_sel (pc := 508) C d_L_law_508 hX hbl hbA (5 * n + 2) (by omega) (by omega) (by omega) ?_
        refine ph_aload_n (pc := 509) C d_L_law_509 rfl ?_
        refine ph_iload_n (pc := 510) C d_L_law_510 rfl ?_
        refine ph_iconst (pc := 511) C d_L_law_511 ?_
        refine ph_iadd (pc := 512) C d_L_law_512 ?_
        refine ph_sel (pc := 513) C d_L_law_513 hX hbl hbA (5 * n + 3) (by omega) (by omega) (by omega) ?_
        refine ph_nez (pc := 514) C d_L_law_514 d_L_law_517 d_L_law_518 d_L_law_521 (lw_ri _) ?_
        refine lw_M (pc := 522) (rest := []) C d_L_law_522 hI hF hMR hmc (cwV 3 C.hts (gdV tw_581 tw_582 tw_583 tw_2 tw_584) rfl rfl rfl ⟨rfl, by decide, by decide, by decide⟩ ⟨by omega, by omega⟩) rfl rfl (Nat.le_of_ble_eq_true rfl) ⟨by omega, by omega⟩ ?_
        intro L ad τ M1 vv hI hF hMR hRel1
        refine ph_pop (pc := 525) C d_L_law_525 rfl ?_
        refine ph_goto (pc := 526) (tgt := 661) C d_L_law_526 (by decide) ?_
        refine ph_iinc (pc := 661) C d_L_law_661 rfl rfl ?_
        refine ph_goto (pc := 664) (tgt := 18) C d_L_law_664 (by decide) ?_
        refine ph_loc (l2 := [(0, .ref b), (1, .ref x), (2, .ref o), (3, .int (ph_i ((5 * (n + 1) : Nat) : Int)))]) ⟨rfl, rfl, rfl, (congrArg (fun z => some (Value.int (ph_i z))) (show (((5 * n : Nat) : Int)) + (5) = ((5 * (n + 1) : Nat) : Int) by omega)), trivial⟩ ?_
        exact ih (n + 1) (ruleS S ((xs (5 * n + 1)).toInt) ((xs (5 * n + 2)).toInt) (ph_b (¬ (xs (5 * n + 3)).toInt = 0))) M1 x o L ad τ _ _ (by omega) (by omega) (by omega) (by omega) hRel1 hI hF hMR
      · refine ph_ti (y := 9) hq ?_
        refine ph_swI (pc := 32) (tgt := 529) C d_L_law_32 (by omega) (by omega) (by omega) rfl (by decide) ?_
        refine ph_aload_n (pc := 529) C d_L_law_529 rfl ?_
        refine ph_aload_n (pc := 530) C d_L_law_530 rfl ?_
        refine ph_iload_n (pc := 531) C d_L_law_531 rfl ?_
        refine ph_iconst (pc := 532) C d_L_law_532 ?_
        refine ph_iadd (pc := 533) C d_L_law_533 ?_
        refine ph_sel (pc := 534) C d_L_law_534 hX hbl hbA (5 * n + 1) (by omega) (by omega) (by omega) ?_
        refine ph_aload_n (pc := 535) C d_L_law_535 rfl ?_
        refine ph_iload_n (pc := 536) C d_L_law_536 rfl ?_
        refine ph_iconst (pc := 537) C d_L_law_537 ?_
        refine ph_iadd (pc := 538) C d_L_law_538 ?_
        refine ph_sel (pc := 539) C d_L_law_539 hX hbl hbA (5 * n + 2) (by omega) (by omega) (by omega) ?_
        refine ph_i2l (pc := 540) C d_L_law_540 (lw_ri _) ?_
        refine ph_bipush (pc := 541) C d_L_law_541 (by decide) ?_
        refine ph_lshl (pc := 543) C d_L_law_543 (lw_s ((xs (5 * n + 2)).toInt)) (lw_lo _) ?_
        refine ph_aload_n (pc := 544) C d_L_law_544 rfl ?_
        refine ph_iload_n (pc := 545) C d_L_law_545 rfl ?_
        refine ph_iconst (pc := 546) C d_L_law_546 ?_
        refine ph_iadd (pc := 547) C d_L_law_547 ?_
        refine ph_sel (pc := 548) C d_L_law_548 hX hbl hbA (5 * n + 3) (by omega) (by omega) (by omega) ?_
        refine ph_i2l (pc := 549) C d_L_law_549 (lw_ri _) ?_
        refine ph_ldc2 (pc := 550) C d_L_law_550 (4294967295) (by decide) tw_607 ?_
        refine ph_land (pc := 553) C d_L_law_553 (lw_n ((xs (5 * n + 3)).toInt)) (lw_lo _) ?_
        refine ph_lor (pc := 554) C d_L_law_554 (lw_j ((xs (5 * n + 2)).toInt) ((xs (5 * n + 3)).toInt)) (lw_lo _) ?_
        obtain ⟨rr, ⟨ho1, ho2, ho3, ho4⟩, hmc⟩ := hm_plant n S M ((xs (5 * n + 1)).toInt) (lw_j ((xs (5 * n + 2)).toInt) ((xs (5 * n + 3)).toInt)) (by omega) hRel (lw_ri _) (lw_jr _ _)
        refine lw_J (pc := 555) (S' := plantS S ((xs (5 * n + 1)).toInt) (lw_j ((xs (5 * n + 2)).toInt) ((xs (5 * n + 3)).toInt))) (v := plantv S ((xs (5 * n + 1)).toInt) (lw_j ((xs (5 * n + 2)).toInt) ((xs (5 * n + 3)).toInt))) (rest := []) C d_L_law_555 hI hMR (fun A1 => c_J_plant l D dT A1 (KJ dT A1 aR aT) _ ad τ S x hI.sub hV hF.sub ((xs (5 * n + 1)).toInt) (lw_j ((xs (5 * n + 2)).toInt) ((xs (5 * n + 3)).toInt)) (lw_ri _) (lw_jr _ _)) (fun r L1 ad1 τ1 h => h) (cwV 2 C.hts (gdV tw_352 tw_353 tw_354 tw_1 tw_355) rfl rfl rfl ⟨rfl, by decide, by decide, by decide⟩ ⟨by decide, by decide⟩) rfl rfl (Nat.le_of_ble_eq_true rfl) ⟨by omega, by omega⟩ ?_
        intro L ad τ hI hF hMR
        refine ph_pop (pc := 558) C d_L_law_558 rfl ?_
        refine ph_aload_n (pc := 559) C d_L_law_559 rfl ?_
        refine ph_aload_n (pc := 560) C d_L_law_560 rfl ?_
        refine ph_iload_n (pc := 561) C d_L_law_561 rfl ?_
        refine ph_iconst (pc := 562) C d_L_law_562 ?_
        refine ph_iadd (pc := 563) C d_L_law_563 ?_
        refine ph_sel (pc := 564) C d_L_law_564 hX hbl hbA (5 * n + 1) (by omega) (by omega) (by omega) ?_
        refine ph_aload_n (pc := 565) C d_L_law_565 rfl ?_
        refine ph_iload_n (pc := 566) C d_L_law_566 rfl ?_
        refine ph_iconst (pc := 567) C d_L_law_567 ?_
        refine ph_iadd (pc := 568) C d_L_law_568 ?_
        refine ph_sel (pc := 569) C d_L_law_569 hX hbl hbA (5 * n + 2) (by omega) (by omega) (by omega) ?_
        refine ph_i2l (pc := 570) C d_L_law_570 (lw_ri _) ?_
        refine ph_bipush (pc := 571) C d_L_law_571 (by decide) ?_
        refine ph_lshl (pc := 573) C d_L_law_573 (lw_s ((xs (5 * n + 2)).toInt)) (lw_lo _) ?_
        refine ph_aload_n (pc := 574) C d_L_law_574 rfl ?_
        refine ph_iload_n (pc := 575) C d_L_law_575 rfl ?_
        refine ph_iconst (pc := 576) C d_L_law_576 ?_
        refine ph_iadd (pc := 577) C d_L_law_577 ?_
        refine ph_sel (pc := 578) C d_L_law_578 hX hbl hbA (5 * n + 3) (by omega) (by omega) (by omega) ?_
        refine ph_i2l (pc := 579) C d_L_law_579 (lw_ri _) ?_
        refine ph_ldc2 (pc := 580) C d_L_law_580 (4294967295) (by decide) tw_607 ?_
        refine ph_land (pc := 583) C d_L_law_583 (lw_n ((xs (5 * n + 3)).toInt)) (lw_lo _) ?_
        refine ph_lor (pc := 584) C d_L_law_584 (lw_j ((xs (5 * n + 2)).toInt) ((xs (5 * n + 3)).toInt)) (lw_lo _) ?_
        refine lw_M (pc := 585) (rest := []) C d_L_law_585 hI hF hMR hmc (cwV 2 C.hts (gdV tw_586 tw_587 tw_588 tw_2 tw_589) rfl rfl rfl ⟨rfl, by decide, by decide, by decide⟩ ⟨by omega, by omega⟩) rfl rfl (Nat.le_of_ble_eq_true rfl) ⟨by omega, by omega⟩ ?_
        intro L ad τ M1 vv hI hF hMR hRel1
        refine ph_pop (pc := 588) C d_L_law_588 rfl ?_
        refine ph_goto (pc := 589) (tgt := 661) C d_L_law_589 (by decide) ?_
        refine ph_iinc (pc := 661) C d_L_law_661 rfl rfl ?_
        refine ph_goto (pc := 664) (tgt := 18) C d_L_law_664 (by decide) ?_
        refine ph_loc (l2 := [(0, .ref b), (1, .ref x), (2, .ref o), (3, .int (ph_i ((5 * (n + 1) : Nat) : Int)))]) ⟨rfl, rfl, rfl, (congrArg (fun z => some (Value.int (ph_i z))) (show (((5 * n : Nat) : Int)) + (5) = ((5 * (n + 1) : Nat) : Int) by omega)), trivial⟩ ?_
        exact ih (n + 1) (plantS S ((xs (5 * n + 1)).toInt) (lw_j ((xs (5 * n + 2)).toInt) ((xs (5 * n + 3)).toInt))) M1 x o L ad τ _ _ (by omega) (by omega) (by omega) (by omega) hRel1 hI hF hMR
      · refine ph_ti (y := 10) hq ?_
        refine ph_swI (pc := 32) (tgt := 592) C d_L_law_32 (by omega) (by omega) (by omega) rfl (by decide) ?_
        refine ph_aload_n (pc := 592) C d_L_law_592 rfl ?_
        refine ph_aload_n (pc := 593) C d_L_law_593 rfl ?_
        refine ph_iload_n (pc := 594) C d_L_law_594 rfl ?_
        refine ph_iconst (pc := 595) C d_L_law_595 ?_
        refine ph_iadd (pc := 596) C d_L_law_596 ?_
        refine ph_sel (pc := 597) C d_L_law_597 hX hbl hbA (5 * n + 1) (by omega) (by omega) (by omega) ?_
        refine ph_aload_n (pc := 598) C d_L_law_598 rfl ?_
        refine ph_iload_n (pc := 599) C d_L_law_599 rfl ?_
        refine ph_iconst (pc := 600) C d_L_law_600 ?_
        refine ph_iadd (pc := 601) C d_L_law_601 ?_
        refine ph_sel (pc := 602) C d_L_law_602 hX hbl hbA (5 * n + 2) (by omega) (by omega) (by omega) ?_
        obtain ⟨rr, ⟨ho1, ho2, ho3, ho4⟩, hmc⟩ := hm_alarm n S M ((xs (5 * n + 1)).toInt) ((xs (5 * n + 2)).toInt) (by omega) hRel (lw_ri _) (lw_ri _)
        refine lw_J (pc := 603) (S' := S) (v := alarmv S ((xs (5 * n + 1)).toInt) ((xs (5 * n + 2)).toInt)) (rest := []) C d_L_law_603 hI hMR (fun A1 => c_J_alarm l D dT A1 (KJ dT A1 aR aT) _ ad τ S x hI.sub hV aR aT (fun U h => h) ((xs (5 * n + 1)).toInt) ((xs (5 * n + 2)).toInt) (lw_ri _) (lw_ri _)) (fun r L1 ad1 τ1 h => by obtain ⟨rfl, rfl, rfl, rfl⟩ := h; exact ⟨hI.sub, hF.sub, rfl⟩) (cwV 2 C.hts (gdV tw_356 tw_357 tw_358 tw_1 tw_359) rfl rfl rfl ⟨rfl, by decide, by decide, by decide⟩ ⟨by decide, by decide⟩) rfl rfl (Nat.le_of_ble_eq_true rfl) ⟨by omega, by omega⟩ ?_
        intro L ad τ hI hF hMR
        refine ph_pop (pc := 606) C d_L_law_606 rfl ?_
        refine ph_aload_n (pc := 607) C d_L_law_607 rfl ?_
        refine ph_aload_n (pc := 608) C d_L_law_608 rfl ?_
        refine ph_iload_n (pc := 609) C d_L_law_609 rfl ?_
        refine ph_iconst (pc := 610) C d_L_law_610 ?_
        refine ph_iadd (pc := 611) C d_L_law_611 ?_
        refine ph_sel (pc := 612) C d_L_law_612 hX hbl hbA (5 * n + 1) (by omega) (by omega) (by omega) ?_
        refine ph_aload_n (pc := 613) C d_L_law_613 rfl ?_
        refine ph_iload_n (pc := 614) C d_L_law_614 rfl ?_
        refine ph_iconst (pc := 615) C d_L_law_615 ?_
        refine ph_iadd (pc := 616) C d_L_law_616 ?_
        refine ph_sel (pc := 617) C d_L_law_617 hX hbl hbA (5 * n + 2) (by omega) (by omega) (by omega) ?_
        refine lw_M (pc := 618) (rest := []) C d_L_law_618 hI hF hMR hmc (cwV 2 C.hts (gdV tw_590 tw_591 tw_592 tw_2 tw_593) rfl rfl rfl ⟨rfl, by decide, by decide, by decide⟩ ⟨by omega, by omega⟩) rfl rfl (Nat.le_of_ble_eq_true rfl) ⟨by omega, by omega⟩ ?_
        intro L ad τ M1 vv hI hF hMR hRel1
        refine ph_pop (pc := 621) C d_L_law_621 rfl ?_
        refine ph_goto (pc := 622) (tgt := 661) C d_L_law_622 (by decide) ?_
        refine ph_iinc (pc := 661) C d_L_law_661 rfl rfl ?_
        refine ph_goto (pc := 664) (tgt := 18) C d_L_law_664 (by decide) ?_
        refine ph_loc (l2 := [(0, .ref b), (1, .ref x), (2, .ref o), (3, .int (ph_i ((5 * (n + 1) : Nat) : Int)))]) ⟨rfl, rfl, rfl, (congrArg (fun z => some (Value.int (ph_i z))) (show (((5 * n : Nat) : Int)) + (5) = ((5 * (n + 1) : Nat) : Int) by omega)), trivial⟩ ?_
        exact ih (n + 1) (S) M1 x o L ad τ _ _ (by omega) (by omega) (by omega) (by omega) hRel1 hI hF hMR
      · refine ph_ti (y := 11) hq ?_
        refine ph_swI (pc := 32) (tgt := 625) C d_L_law_32 (by omega) (by omega) (by omega) rfl (by decide) ?_
        refine ph_aload_n (pc := 625) C d_L_law_625 rfl ?_
        refine ph_aload_n (pc := 626) C d_L_law_626 rfl ?_
        refine ph_iload_n (pc := 627) C d_L_law_627 rfl ?_
        refine ph_iconst (pc := 628) C d_L_law_628 ?_
        refine ph_iadd (pc := 629) C d_L_law_629 ?_
        refine ph_sel (pc := 630) C d_L_law_630 hX hbl hbA (5 * n + 1) (by omega) (by omega) (by omega) ?_
        obtain ⟨rr, ⟨ho1, ho2, ho3, ho4⟩, hmc⟩ := hm_count n S M ((xs (5 * n + 1)).toInt) (by omega) hRel (lw_ri _)
        refine lw_J (pc := 631) (S' := S) (v := countv S ((xs (5 * n + 1)).toInt)) (rest := []) C d_L_law_631 hI hMR (fun A1 => c_J_count l D dT A1 (KJ dT A1 aR aT) _ ad τ S x hI.sub hV ((xs (5 * n + 1)).toInt) (lw_ri _)) (fun r L1 ad1 τ1 h => by obtain ⟨rfl, rfl, rfl, rfl⟩ := h; exact ⟨hI.sub, hF.sub, rfl⟩) (cwV 1 C.hts (gdV tw_370 tw_371 tw_372 tw_1 tw_373) rfl rfl rfl ⟨rfl, by decide, by decide, by decide⟩ ⟨by decide, by decide⟩) rfl rfl (Nat.le_of_ble_eq_true rfl) ⟨by omega, by omega⟩ ?_
        intro L ad τ hI hF hMR
        refine ph_pop (pc := 634) C d_L_law_634 rfl ?_
        refine ph_aload_n (pc := 635) C d_L_law_635 rfl ?_
        refine ph_aload_n (pc := 636) C d_L_law_636 rfl ?_
        refine ph_iload_n (pc := 637) C d_L_law_637 rfl ?_
        refine ph_iconst (pc := 638) C d_L_law_638 ?_
        refine ph_iadd (pc := 639) C d_L_law_639 ?_
        refine ph_sel (pc := 640) C d_L_law_640 hX hbl hbA (5 * n + 1) (by omega) (by omega) (by omega) ?_
        refine lw_M (pc := 641) (rest := []) C d_L_law_641 hI hF hMR hmc (cwV 1 C.hts (gdV tw_599 tw_600 tw_601 tw_2 tw_602) rfl rfl rfl ⟨rfl, by decide, by decide, by decide⟩ ⟨by omega, by omega⟩) rfl rfl (Nat.le_of_ble_eq_true rfl) ⟨by omega, by omega⟩ ?_
        intro L ad τ M1 vv hI hF hMR hRel1
        refine ph_pop (pc := 644) C d_L_law_644 rfl ?_
        refine ph_goto (pc := 645) (tgt := 661) C d_L_law_645 (by decide) ?_
        refine ph_iinc (pc := 661) C d_L_law_661 rfl rfl ?_
        refine ph_goto (pc := 664) (tgt := 18) C d_L_law_664 (by decide) ?_
        refine ph_loc (l2 := [(0, .ref b), (1, .ref x), (2, .ref o), (3, .int (ph_i ((5 * (n + 1) : Nat) : Int)))]) ⟨rfl, rfl, rfl, (congrArg (fun z => some (Value.int (ph_i z))) (show (((5 * n : Nat) : Int)) + (5) = ((5 * (n + 1) : Nat) : Int) by omega)), trivial⟩ ?_
        exact ih (n + 1) (S) M1 x o L ad τ _ _ (by omega) (by omega) (by omega) (by omega) hRel1 hI hF hMR
      · refine ph_ti (y := 12) hq ?_
        refine ph_swI (pc := 32) (tgt := 648) C d_L_law_32 (by omega) (by omega) (by omega) rfl (by decide) ?_
        refine ph_aload_n (pc := 648) C d_L_law_648 rfl ?_
        obtain ⟨rr, ⟨ho1, ho2, ho3, ho4⟩, hmc⟩ := hm_goesOn n S M  (by omega) hRel 
        refine lw_J (pc := 649) (S' := S) (v := ph_b (runs S)) (rest := []) C d_L_law_649 hI hMR (fun A1 => c_J_goesOn l D dT A1 (KJ dT A1 aR aT) _ ad τ S x hI.sub hV  ) (fun r L1 ad1 τ1 h => by obtain ⟨rfl, rfl, rfl, rfl⟩ := h; exact ⟨hI.sub, hF.sub, rfl⟩) (cwV 0 C.hts (gdV tw_374 tw_112 tw_113 tw_1 tw_114) rfl rfl rfl ⟨rfl, by decide, by decide, by decide⟩ ⟨by decide, by decide⟩) rfl rfl (Nat.le_of_ble_eq_true rfl) ⟨by omega, by omega⟩ ?_
        intro L ad τ hI hF hMR
        refine ph_pop (pc := 652) C d_L_law_652 rfl ?_
        refine ph_aload_n (pc := 653) C d_L_law_653 rfl ?_
        refine lw_M (pc := 654) (rest := []) C d_L_law_654 hI hF hMR hmc (cwV 0 C.hts (gdV tw_603 tw_604 tw_605 tw_2 tw_606) rfl rfl rfl ⟨rfl, by decide, by decide, by decide⟩ ⟨by omega, by omega⟩) rfl rfl (Nat.le_of_ble_eq_true rfl) ⟨by omega, by omega⟩ ?_
        intro L ad τ M1 vv hI hF hMR hRel1
        refine ph_pop (pc := 657) C d_L_law_657 rfl ?_
        refine ph_goto (pc := 658) (tgt := 661) C d_L_law_658 (by decide) ?_
        refine ph_iinc (pc := 661) C d_L_law_661 rfl rfl ?_
        refine ph_goto (pc := 664) (tgt := 18) C d_L_law_664 (by decide) ?_
        refine ph_loc (l2 := [(0, .ref b), (1, .ref x), (2, .ref o), (3, .int (ph_i ((5 * (n + 1) : Nat) : Int)))]) ⟨rfl, rfl, rfl, (congrArg (fun z => some (Value.int (ph_i z))) (show (((5 * n : Nat) : Int)) + (5) = ((5 * (n + 1) : Nat) : Int) by omega)), trivial⟩ ?_
        exact ih (n + 1) (S) M1 x o L ad τ _ _ (by omega) (by omega) (by omega) (by omega) hRel1 hI hF hMR
      · refine ph_swO (pc := 32) (tgt := 661) C d_L_law_32 (by omega) (Or.inr hq) (by decide) ?_
        refine ph_iinc (pc := 661) C d_L_law_661 rfl rfl ?_
        refine ph_goto (pc := 664) (tgt := 18) C d_L_law_664 (by decide) ?_
        refine ph_loc (l2 := [(0, .ref b), (1, .ref x), (2, .ref o), (3, .int (ph_i ((5 * (n + 1) : Nat) : Int)))]) ⟨rfl, rfl, rfl, (congrArg (fun z => some (Value.int (ph_i z))) (show (((5 * n : Nat) : Int)) + (5) = ((5 * (n + 1) : Nat) : Int) by omega)), trivial⟩ ?_
        exact ih (n + 1) (S) M x o L ad τ _ _ (by omega) (by omega) (by omega) (by omega) (hm_none n S M (by omega) hRel) hI hF hMR
