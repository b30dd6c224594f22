/-! ===== the entry of the law ===== -/
theorem JR.new20 {S : ph_T} {o a : Nat} {L : Nat → Nat → Prop} {ad : Nat → Nat → Nat} {τ : ph_T} {f : Nat → Int} (h : JR S o L ad τ) : JR S o (ph_Ln L 20 0) (ph_an ad 20 0 a) (ph_tn τ 20 0 f) := by
  have ha : ∀ g i, g < 10 → ph_an ad 20 0 a g i = ad g i := fun g i hg => if_neg (by omega)
  have ht : ∀ g i, g < 10 → ph_tn τ 20 0 f g i = τ g i := fun g i hg => if_neg (by omega)
  refine ⟨fun g i hl => Or.inl (h.1 g i hl), by rw [ha 0 0 (by decide)]; exact h.ob, fun g i k hl hd => by rw [ht g i (LC_lt10 hl)]; exact h.dat hl hd, ⟨?_, ?_, ?_, ?_, ?_, ?_⟩, fun i hl => ?_, fun i hl => ?_, fun i hl => ?_⟩
  · rw [ht 0 0 (by decide), ha 4 0 (by decide)]; exact h.r0
  · rw [ht 0 0 (by decide), ha 5 0 (by decide)]; exact h.r2
  · rw [ht 0 0 (by decide), ha 6 0 (by decide)]; exact h.r4
  · rw [ht 0 0 (by decide), ha 7 0 (by decide)]; exact h.r7
  · rw [ht 0 0 (by decide), ha 8 0 (by decide)]; exact h.r8
  · rw [ht 0 0 (by decide), ha 9 0 (by decide)]; exact h.r9
  · rw [ht 4 0 (by decide), ha 1 i (by decide)]; exact h.e4 hl
  · rw [ht 5 0 (by decide), ha 2 i (by decide)]; exact h.e5 hl
  · rw [ht 6 0 (by decide), ha 3 i (by decide)]; exact h.e6 hl
theorem JF.new20 {S : ph_T} {L : Nat → Nat → Prop} (h : JF S L) : JF S (ph_Ln L 20 0) := fun g i hg hl => by
  rcases hl with q | ⟨q, -⟩
  · exact h g i hg q
  · omega
theorem df20 (k : Nat) (hk : mrf k = false) : ph_df [0, 2, 2, 2, 2, 2, 2, 0, 2, 2, 2, 2, 2, 2, 2, 0, 0, 2, 2, 2, 2, 2, 2, 2, 2, 2, 2, 2, 2, 2, 1, 0, 2] k = 0 := by
  by_cases h : k < 33
  · exact (by decide : ∀ k, k < 33 → mrf k = false → ph_df [0, 2, 2, 2, 2, 2, 2, 0, 2, 2, 2, 2, 2, 2, 2, 0, 0, 2, 2, 2, 2, 2, 2, 2, 2, 2, 2, 2, 2, 2, 1, 0, 2] k = 0) k h hk
  · unfold ph_df
    rw [List.getElem?_eq_none (by simp; omega)]
set_option maxHeartbeats 40000000 in
set_option maxRecDepth 100000 in
theorem whole_open {p : Program} {e : Env} {s : State} {m : MethodId} {below : List Frame} {meth : Method} {c : Code} (l : Launch) {b N : Nat} {xs : Nat → Int32} (hN : N ≤ 2560) (C0 : lw_At p s m meth c b N xs)
    (Rel : Nat → ph_T → ph_T → Prop) (hIV : ∀ n S M, Rel n S M → IV S)
    (hm_sensor : ∀ (n : Nat) (S M : ph_T) (z0 : Int), 5 * n + 5 ≤ 2560 → Rel n S M → ph_rl z0 → ∃ (r : Room), rmOk r ∧ mcon l y_M_sensor b_M_sensor 4 (some .int) r [.long (ph_l z0)] M (fun v M1 => Rel (n + 1) (senS S z0) M1))
    (hm_item : ∀ (n : Nat) (S M : ph_T) (z0 z1 : Int), 5 * n + 5 ≤ 2560 → Rel n S M → ph_rl z0 → ph_rl z1 → ∃ (r : Room), rmOk r ∧ mcon l y_M_item b_M_item 6 (some .int) r [.long (ph_l z0), .long (ph_l z1)] M (fun v M1 => Rel (n + 1) (itS S z0 z1) M1))
    (hm_edge : ∀ (n : Nat) (S M : ph_T) (z0 z1 z2 : Int), 5 * n + 5 ≤ 2560 → Rel n S M → ph_ri z0 → (z1 = 0 ∨ z1 = 1) → ph_rl z2 → ∃ (r : Room), rmOk r ∧ mcon l y_M_edge b_M_edge 5 (some .int) r [.int (ph_i z0), .int (ph_i z1), .long (ph_l z2)] M (fun v M1 => Rel (n + 1) (edgeS S z0 z1 z2) M1))
    (hm_doubt : ∀ (n : Nat) (S M : ph_T) (z0 z1 : Int), 5 * n + 5 ≤ 2560 → Rel n S M → ph_ri z0 → ph_ri z1 → ∃ (r : Room), rmOk r ∧ mcon l y_M_doubt b_M_doubt 5 (some .int) r [.int (ph_i z0), .int (ph_i z1)] M (fun v M1 => Rel (n + 1) (S) M1))
    (hm_cause : ∀ (n : Nat) (S M : ph_T) (z0 : Int), 5 * n + 5 ≤ 2560 → Rel n S M → ph_ri z0 → ∃ (r : Room), rmOk r ∧ mcon l y_M_cause b_M_cause 6 (some .int) r [.int (ph_i z0)] M (fun v M1 => Rel (n + 1) (S) M1))
    (hm_step : ∀ (n : Nat) (S M : ph_T) (z0 z1 : Int), 5 * n + 5 ≤ 2560 → Rel n S M → ph_ri z0 → ph_ri z1 → ∃ (r : Room), rmOk r ∧ mcon l y_M_step b_M_step 6 (some .int) r [.int (ph_i z0), .int (ph_i z1)] M (fun v M1 => Rel (n + 1) (stepS S z0 z1) M1 ∧ stepv S z0 z1 = v))
    (hm_feed : ∀ (n : Nat) (S M : ph_T) (z0 : Int), 5 * n + 5 ≤ 2560 → Rel n S M → ph_ri z0 → ∃ (r : Room), rmOk r ∧ mcon l y_M_feed b_M_feed 4 (some .int) r [.int (ph_i z0)] M (fun v M1 => Rel (n + 1) (feedS S z0) M1))
    (hm_listed : ∀ (n : Nat) (S M : ph_T) (z0 : Int), 5 * n + 5 ≤ 2560 → Rel n S M → ph_ri z0 → ∃ (r : Room), rmOk r ∧ mcon l y_M_listed b_M_listed 2 (some .int) r [.int (ph_i z0)] M (fun v M1 => Rel (n + 1) (S) M1))
    (hm_rule : ∀ (n : Nat) (S M : ph_T) (z0 z1 z2 : Int), 5 * n + 5 ≤ 2560 → Rel n S M → ph_ri z0 → ph_ri z1 → (z2 = 0 ∨ z2 = 1) → ∃ (r : Room), rmOk r ∧ mcon l y_M_rule b_M_rule 5 (some .int) r [.int (ph_i z0), .int (ph_i z1), .int (ph_i z2)] M (fun v M1 => Rel (n + 1) (ruleS S z0 z1 z2) M1))
    (hm_plant : ∀ (n : Nat) (S M : ph_T) (z0 z1 : Int), 5 * n + 5 ≤ 2560 → Rel n S M → ph_ri z0 → ph_rl z1 → ∃ (r : Room), rmOk r ∧ mcon l y_M_plant b_M_plant 4 (some .int) r [.int (ph_i z0), .long (ph_l z1)] M (fun v M1 => Rel (n + 1) (plantS S z0 z1) M1))
    (hm_alarm : ∀ (n : Nat) (S M : ph_T) (z0 z1 : Int), 5 * n + 5 ≤ 2560 → Rel n S M → ph_ri z0 → ph_ri z1 → ∃ (r : Room), rmOk r ∧ mcon l y_M_alarm b_M_alarm 6 (some .int) r [.int (ph_i z0), .int (ph_i z1)] M (fun v M1 => Rel (n + 1) (S) M1))
    (hm_count : ∀ (n : Nat) (S M : ph_T) (z0 : Int), 5 * n + 5 ≤ 2560 → Rel n S M → ph_ri z0 → ∃ (r : Room), rmOk r ∧ mcon l y_M_count b_M_count 2 (some .int) r [.int (ph_i z0)] M (fun v M1 => Rel (n + 1) (S) M1))
    (hm_goesOn : ∀ (n : Nat) (S M : ph_T), 5 * n + 5 ≤ 2560 → Rel n S M → ∃ (r : Room), rmOk r ∧ mcon l y_M_goesOn b_M_goesOn 1 (some .boolean) r [] M (fun v M1 => Rel (n + 1) (S) M1))
    (hm_none : ∀ (n : Nat) (S M : ph_T), 5 * n + 5 ≤ 2560 → Rel n S M → Rel (n + 1) S M)
    (M00 : ph_T) (h00 : Rel 0 S00 M00) (rI : Room) (hrI : rI.frames ≤ 8 ∧ rI.cells ≤ 30 ∧ rI.slots ≤ 5700 ∧ rI.locals ≤ 290) (hinit : ∀ (D : va_G) (dT : Nat → ClassId) (A : Nat → Prop) (KX : State → Prop) (L : Nat → Nat → Prop) (ad : Nat → Nat → Nat) (τ : ph_T) (o : Nat), L 20 0 → ad 20 0 = o → (∀ k, mrf k = false → τ 20 0 k = 0) → (∀ g i, 20 < g → ¬ L g i) → ph_M l y_M_init (.code y_M_init b_M_init 1 none :: TB) rI D CLs (TY dT) dT kd A KX [.ref o] L ad τ (fun r L' ad' τ' => MR M00 o L' ad' τ' ∧ r = none) rI.cells rI.slots) :
    W p l e room_1 s m #[Value.ref b] below meth c s.heap [] 0 0 (lw_Z below #[Value.ref b] s) (entryFrame m ([Value.ref b] : List Value).toArray 4) := by
  obtain ⟨hx, hb, hr, hml, hown, hts, hX, hbl, hlocks, hgv⟩ := id C0
  have hs := flat_of_before _ hgv
  have htb := TB_in hts
  obtain ⟨c0, iS0, hKn0⟩ := u_known (C := R_J) (T := F_J) (N := 12) (n := 12) htb in_J (htb _ tw_7)
  obtain ⟨c1, iS1, hKn1⟩ := u_known (C := R_S) (T := F_S) (N := 6) (n := 6) htb in_S (htb _ tw_65)
  obtain ⟨c2, iS2, hKn2⟩ := u_known (C := R_I) (T := F_I) (N := 7) (n := 7) htb in_I (htb _ tw_115)
  obtain ⟨c3, iS3, hKn3⟩ := u_known (C := R_F) (T := F_F) (N := 7) (n := 7) htb in_F (htb _ tw_172)
  obtain ⟨c4, iS4, hKn4⟩ := u_known (C := R_M) (T := F_M) (N := 33) (n := 33) htb in_M (htb _ tw_376)
  obtain ⟨t0, hAr0⟩ := lw_ar (htb _ tw_58) (fun C h => by cases h)
  obtain ⟨t1, hAr1⟩ := lw_ar (htb _ tw_57) (fun C h => by cases h)
  obtain ⟨t2, hAr2⟩ := lw_ar (htb _ tw_481) (fun C h => by cases h)
  have hO3 := hts (.arrayOver (.object "JamRules$Sensor")) (by decide +kernel)
  obtain ⟨t3, hAr3⟩ := lw_ao hO3
  have hO4 := hts (.arrayOver (.object "JamRules$Item")) (by decide +kernel)
  obtain ⟨t4, hAr4⟩ := lw_ao hO4
  have hO5 := hts (.arrayOver (.object "JamRules$Fault")) (by decide +kernel)
  obtain ⟨t5, hAr5⟩ := lw_ao hO5
  obtain ⟨D, hD⟩ : ∃ D : va_G, ∀ (k : Nat) (q : vw_C), CLs[k]? = some q → u_Kn s q.1 q.2.1 q.2.2 (D.1 k) (D.2 k) := by
    refine ⟨(fun k => match k with | 0 => c0 | 1 => c1 | 2 => c2 | 3 => c3 | _ => c4, fun k => match k with | 0 => iS0 | 1 => iS1 | 2 => iS2 | 3 => iS3 | _ => iS4), fun k q hq => ?_⟩
    match k, hq with
    | 0, hq => cases hq; exact hKn0
    | 1, hq => cases hq; exact hKn1
    | 2, hq => cases hq; exact hKn2
    | 3, hq => cases hq; exact hKn3
    | 4, hq => cases hq; exact hKn4
    | k + 5, hq => simp at hq
  obtain ⟨dT, hdT⟩ : ∃ dT : Nat → ClassId, ∀ (k : Nat) (q : ClassId × FieldType), (TY dT)[k]? = some q → ArrOfT s q.1 q.2 ∧ va_RA s q.1 q.2 := by
    refine ⟨fun k => match k with | 0 => t0 | 1 => t1 | 2 => t2 | 3 => t3 | 4 => t4 | _ => t5, fun k q hq => ?_⟩
    match k, hq with
    | 0, hq => cases hq; exact hAr0
    | 1, hq => cases hq; exact hAr1
    | 2, hq => cases hq; exact hAr2
    | 3, hq => cases hq; exact hAr3
    | 4, hq => cases hq; exact hAr4
    | 5, hq => cases hq; exact hAr5
    | k + 6, hq => simp at hq
  have hel_RANKS : ∀ j : Nat, j < 7 → (Term.elem (.static "JamRules" "RANKS" "[I") (.int (Int32.ofNat j))).eval #[Value.ref b] s none [] s = some (.int (ph_i (rkT j))) := by
    intro j hj
    rcases (show j = 0 ∨ j = 1 ∨ j = 2 ∨ j = 3 ∨ j = 4 ∨ j = 5 ∨ j = 6 by omega) with rfl | rfl | rfl | rfl | rfl | rfl | rfl
    · exact va_eqt (t := Term.elem (.static "JamRules" "RANKS" "[I") (.int 0)) (z := 0) (hs (.eq (.elem (.static "JamRules" "RANKS" "[I") (.int 0)) (.int 0)) (by decide +kernel))
    · exact va_eqt (t := Term.elem (.static "JamRules" "RANKS" "[I") (.int 1)) (z := 2) (hs (.eq (.elem (.static "JamRules" "RANKS" "[I") (.int 1)) (.int 2)) (by decide +kernel))
    · exact va_eqt (t := Term.elem (.static "JamRules" "RANKS" "[I") (.int 2)) (z := 4) (hs (.eq (.elem (.static "JamRules" "RANKS" "[I") (.int 2)) (.int 4)) (by decide +kernel))
    · exact va_eqt (t := Term.elem (.static "JamRules" "RANKS" "[I") (.int 3)) (z := 3) (hs (.eq (.elem (.static "JamRules" "RANKS" "[I") (.int 3)) (.int 3)) (by decide +kernel))
    · exact va_eqt (t := Term.elem (.static "JamRules" "RANKS" "[I") (.int 4)) (z := 1) (hs (.eq (.elem (.static "JamRules" "RANKS" "[I") (.int 4)) (.int 1)) (by decide +kernel))
    · exact va_eqt (t := Term.elem (.static "JamRules" "RANKS" "[I") (.int 5)) (z := 6) (hs (.eq (.elem (.static "JamRules" "RANKS" "[I") (.int 5)) (.int 6)) (by decide +kernel))
    · exact va_eqt (t := Term.elem (.static "JamRules" "RANKS" "[I") (.int 6)) (z := 7) (hs (.eq (.elem (.static "JamRules" "RANKS" "[I") (.int 6)) (.int 7)) (by decide +kernel))
  obtain ⟨aRANKS, ev_RANKS, hT_RANKS⟩ := va_Tof (N := 7) (A := fun q : Nat => s.heap.size ≤ q) (by decide) (hs (.arrayOf (.static "JamRules" "RANKS" "[I") .int) (by decide +kernel)) (va_eqt (t := Term.length (.static "JamRules" "RANKS" "[I")) (z := 7) (hs (.eq (.length (.static "JamRules" "RANKS" "[I")) (.int 7)) (by decide +kernel))) hel_RANKS (fun a h => Nat.not_le.mpr h)
  have hZ_RANKS := va_Zref (A := fun q : Nat => s.heap.size ≤ q) (hts (.laysStatic "JamRules" "RANKS" "[I") (by decide +kernel)) (hts (.initialized "JamRules") (by decide +kernel)) ev_RANKS (fun a h => Nat.not_le.mpr h)
  have hel_STEPS : ∀ j : Nat, j < 18 → (Term.elem (.static "JamRules" "STEPS" "[I") (.int (Int32.ofNat j))).eval #[Value.ref b] s none [] s = some (.int (ph_i (stT j))) := by
    intro j hj
    rcases (show j = 0 ∨ j = 1 ∨ j = 2 ∨ j = 3 ∨ j = 4 ∨ j = 5 ∨ j = 6 ∨ j = 7 ∨ j = 8 ∨ j = 9 ∨ j = 10 ∨ j = 11 ∨ j = 12 ∨ j = 13 ∨ j = 14 ∨ j = 15 ∨ j = 16 ∨ j = 17 by omega) with rfl | rfl | rfl | rfl | rfl | rfl | rfl | rfl | rfl | rfl | rfl | rfl | rfl | rfl | rfl | rfl | rfl | rfl
    · exact va_eqt (t := Term.elem (.static "JamRules" "STEPS" "[I") (.int 0)) (z := 1) (hs (.eq (.elem (.static "JamRules" "STEPS" "[I") (.int 0)) (.int 1)) (by decide +kernel))
    · exact va_eqt (t := Term.elem (.static "JamRules" "STEPS" "[I") (.int 1)) (z := 0) (hs (.eq (.elem (.static "JamRules" "STEPS" "[I") (.int 1)) (.int 0)) (by decide +kernel))
    · exact va_eqt (t := Term.elem (.static "JamRules" "STEPS" "[I") (.int 2)) (z := 0) (hs (.eq (.elem (.static "JamRules" "STEPS" "[I") (.int 2)) (.int 0)) (by decide +kernel))
    · exact va_eqt (t := Term.elem (.static "JamRules" "STEPS" "[I") (.int 3)) (z := 1) (hs (.eq (.elem (.static "JamRules" "STEPS" "[I") (.int 3)) (.int 1)) (by decide +kernel))
    · exact va_eqt (t := Term.elem (.static "JamRules" "STEPS" "[I") (.int 4)) (z := 2) (hs (.eq (.elem (.static "JamRules" "STEPS" "[I") (.int 4)) (.int 2)) (by decide +kernel))
    · exact va_eqt (t := Term.elem (.static "JamRules" "STEPS" "[I") (.int 5)) (z := 0) (hs (.eq (.elem (.static "JamRules" "STEPS" "[I") (.int 5)) (.int 0)) (by decide +kernel))
    · exact va_eqt (t := Term.elem (.static "JamRules" "STEPS" "[I") (.int 6)) (z := 1) (hs (.eq (.elem (.static "JamRules" "STEPS" "[I") (.int 6)) (.int 1)) (by decide +kernel))
    · exact va_eqt (t := Term.elem (.static "JamRules" "STEPS" "[I") (.int 7)) (z := 3) (hs (.eq (.elem (.static "JamRules" "STEPS" "[I") (.int 7)) (.int 3)) (by decide +kernel))
    · exact va_eqt (t := Term.elem (.static "JamRules" "STEPS" "[I") (.int 8)) (z := 0) (hs (.eq (.elem (.static "JamRules" "STEPS" "[I") (.int 8)) (.int 0)) (by decide +kernel))
    · exact va_eqt (t := Term.elem (.static "JamRules" "STEPS" "[I") (.int 9)) (z := 1) (hs (.eq (.elem (.static "JamRules" "STEPS" "[I") (.int 9)) (.int 1)) (by decide +kernel))
    · exact va_eqt (t := Term.elem (.static "JamRules" "STEPS" "[I") (.int 10)) (z := 0) (hs (.eq (.elem (.static "JamRules" "STEPS" "[I") (.int 10)) (.int 0)) (by decide +kernel))
    · exact va_eqt (t := Term.elem (.static "JamRules" "STEPS" "[I") (.int 11)) (z := 0) (hs (.eq (.elem (.static "JamRules" "STEPS" "[I") (.int 11)) (.int 0)) (by decide +kernel))
    · exact va_eqt (t := Term.elem (.static "JamRules" "STEPS" "[I") (.int 12)) (z := 4) (hs (.eq (.elem (.static "JamRules" "STEPS" "[I") (.int 12)) (.int 4)) (by decide +kernel))
    · exact va_eqt (t := Term.elem (.static "JamRules" "STEPS" "[I") (.int 13)) (z := 3) (hs (.eq (.elem (.static "JamRules" "STEPS" "[I") (.int 13)) (.int 3)) (by decide +kernel))
    · exact va_eqt (t := Term.elem (.static "JamRules" "STEPS" "[I") (.int 14)) (z := 5) (hs (.eq (.elem (.static "JamRules" "STEPS" "[I") (.int 14)) (.int 5)) (by decide +kernel))
    · exact va_eqt (t := Term.elem (.static "JamRules" "STEPS" "[I") (.int 15)) (z := 4) (hs (.eq (.elem (.static "JamRules" "STEPS" "[I") (.int 15)) (.int 4)) (by decide +kernel))
    · exact va_eqt (t := Term.elem (.static "JamRules" "STEPS" "[I") (.int 16)) (z := 5) (hs (.eq (.elem (.static "JamRules" "STEPS" "[I") (.int 16)) (.int 5)) (by decide +kernel))
    · exact va_eqt (t := Term.elem (.static "JamRules" "STEPS" "[I") (.int 17)) (z := 0) (hs (.eq (.elem (.static "JamRules" "STEPS" "[I") (.int 17)) (.int 0)) (by decide +kernel))
  obtain ⟨aSTEPS, ev_STEPS, hT_STEPS⟩ := va_Tof (N := 18) (A := fun q : Nat => s.heap.size ≤ q) (by decide) (hs (.arrayOf (.static "JamRules" "STEPS" "[I") .int) (by decide +kernel)) (va_eqt (t := Term.length (.static "JamRules" "STEPS" "[I")) (z := 18) (hs (.eq (.length (.static "JamRules" "STEPS" "[I")) (.int 18)) (by decide +kernel))) hel_STEPS (fun a h => Nat.not_le.mpr h)
  have hZ_STEPS := va_Zref (A := fun q : Nat => s.heap.size ≤ q) (hts (.laysStatic "JamRules" "STEPS" "[I") (by decide +kernel)) (hts (.initialized "JamRules") (by decide +kernel)) ev_STEPS (fun a h => Nat.not_le.mpr h)
  have hKJ : KJ dT (fun q : Nat => s.heap.size ≤ q) aRANKS aSTEPS s := ⟨⟨hZ_RANKS, hT_RANKS⟩, ⟨hZ_STEPS, hT_STEPS⟩, ⟨va_AO.of hO3, va_AO.of hO4, va_AO.of hO5⟩, va_Nw.of rfl (hts (.fieldLinkNest "JamRules$Fault" 35 "JamRules" "RANKS" "[I" "JamRules") (by decide +kernel))⟩
  have C : ph_C p s m #[Value.ref b] c b_L_law 4 R_L TB D CLs (TY dT) (fun q : Nat => s.heap.size ≤ q) (KJ dT (fun q : Nat => s.heap.size ≤ q) aRANKS aSTEPS) := ⟨⟨hx, hb, hml, hown, htb⟩, ⟨hD, hdT⟩, fun q h => h, hKJ, KJ_keep dT _ aRANKS aSTEPS⟩
  have hl := lv_entry ([Value.ref b]) (n := 4) (Nat.le_of_ble_eq_true rfl)
  rw [lg_entry_eq]
  suffices G : ph_W p l e room_1 s m #[Value.ref b] below meth c D CLs dT kd (fun q : Nat => s.heap.size ≤ q) 4 (lw_Z below #[Value.ref b] s) (fun _ _ => False) (fun _ _ => 0) (fun _ _ _ => 0) 0 0 0 (ph_mk (lv_args 0 [Value.ref b])) [] from G s.heap [] _ ⟨fun _ _ h => h.elim, fun _ _ _ _ h => h.elim⟩ va_S.rf (ph_has.of hl)
  refine ph_loc (l2 := [(0, .ref b)]) ⟨rfl, trivial⟩ ?_
  refine ph_new (pc := 0) (g := 0) C d_L_law_0 0 (fun h => h) rfl rfl in_J t_J_ok tw_6 tw_7 tw_1 (fun j hj => by rcases (show j = 0 ∨ j = 1 ∨ j = 2 ∨ j = 3 ∨ j = 4 ∨ j = 5 ∨ j = 6 ∨ j = 7 ∨ j = 8 ∨ j = 9 ∨ j = 10 ∨ j = 11 by omega) with rfl | rfl | rfl | rfl | rfl | rfl | rfl | rfl | rfl | rfl | rfl | rfl <;> rfl) (by decide) (by decide) ?_
  intro x hfr
  have l0 : ph_Ln (fun _ _ => False) 0 0 0 0 := Or.inr ⟨rfl, rfl⟩
  have a0 : ph_an (fun _ _ => 0) 0 0 x 0 0 = x := if_pos ⟨rfl, rfl⟩
  have n0 : ∀ g i, g ≠ 0 → ¬ ph_Ln (fun _ _ => False) 0 0 g i := fun g i hg h => h.elim (fun q => q) (fun q => hg q.1)
  generalize ph_Ln (fun _ _ => False) 0 0 = L at l0 n0 ⊢
  generalize ph_an (fun _ _ => 0) 0 0 x = ad at a0 ⊢
  generalize ph_tn (fun _ _ _ => 0) 0 0 _ = τ
  refine ph_dup (pc := 3) C d_L_law_3 rfl ?_
  refine ph_callIF (pc := 4) (rest := [.ref x]) C d_L_law_4 cJ (fun A1 => KJ dT A1 aRANKS aSTEPS) (fun A1 h U hk => KJ_nar h U hk) (fun A1 => KJ_keep dT A1 aRANKS aSTEPS) (fun A1 => c_J_init l D dT A1 (KJ dT A1 aRANKS aSTEPS) _ ad τ x aRANKS aSTEPS (fun U h => h) ⟨rfl, l0⟩ a0 (fun g i h0 h1 h => n0 g i h0 h.2)) (cwI 0 C.hts (gdI tw_10) rfl rfl rfl (C.hts _ tw_1) (C.hts _ tw_8) (C.hts _ tw_9) rfl (by decide) ⟨by decide, by decide⟩) rfl rfl (Nat.le_of_ble_eq_true rfl) ⟨by decide, by decide⟩ ?_
  rintro r L1 ad1 τ1 ⟨hI, hF, rfl⟩
  have hI : JR S00 x (fr_L cJ L1 L) (fr_a cJ ad1 ad) (fr_t cJ τ1 τ) := hI.ext
  have hF : JF S00 (fr_L cJ L1 L) := hF.ext
  have n1 : ∀ g i, 20 ≤ g → ¬ fr_L cJ L1 L g i := fun g i hg h => by
    rcases h with ⟨q, -⟩ | ⟨-, q⟩
    · rw [cJ_0 hg] at q; cases q
    · exact n0 g i (by omega) q
  generalize fr_L cJ L1 L = L at hI hF n1 ⊢
  generalize fr_a cJ ad1 ad = ad at hI ⊢
  generalize fr_t cJ τ1 τ = τ at hI ⊢
  refine ph_astore_n (pc := 7) C d_L_law_7 (by decide) rfl ?_
  refine ph_new (pc := 8) (g := 20) C d_L_law_8 0 (n1 20 0 (by decide)) rfl rfl in_M t_M_ok tw_375 tw_376 tw_2 (fun j hj => by rcases (show j = 0 ∨ j = 1 ∨ j = 2 ∨ j = 3 ∨ j = 4 ∨ j = 5 ∨ j = 6 ∨ j = 7 ∨ j = 8 ∨ j = 9 ∨ j = 10 ∨ j = 11 ∨ j = 12 ∨ j = 13 ∨ j = 14 ∨ j = 15 ∨ j = 16 ∨ j = 17 ∨ j = 18 ∨ j = 19 ∨ j = 20 ∨ j = 21 ∨ j = 22 ∨ j = 23 ∨ j = 24 ∨ j = 25 ∨ j = 26 ∨ j = 27 ∨ j = 28 ∨ j = 29 ∨ j = 30 ∨ j = 31 ∨ j = 32 by omega) with rfl | rfl | rfl | rfl | rfl | rfl | rfl | rfl | rfl | rfl | rfl | rfl | rfl | rfl | rfl | rfl | rfl | rfl | rfl | rfl | rfl | rfl | rfl | rfl | rfl | rfl | rfl | rfl | rfl | rfl | rfl | rfl | rfl <;> rfl) (by decide) (by decide) ?_
  intro o hfr2
  have hI := hI.new20 (a := o) (f := ph_df [0, 2, 2, 2, 2, 2, 2, 0, 2, 2, 2, 2, 2, 2, 2, 0, 0, 2, 2, 2, 2, 2, 2, 2, 2, 2, 2, 2, 2, 2, 1, 0, 2])
  have hF := hF.new20
  have l2 : ph_Ln L 20 0 20 0 := Or.inr ⟨rfl, rfl⟩
  have a2 : ph_an ad 20 0 o 20 0 = o := if_pos ⟨rfl, rfl⟩
  have n2 : ∀ g i, 20 < g → ¬ ph_Ln L 20 0 g i := fun g i hg h => h.elim (fun q => n1 g i (by omega) q) (fun q => by omega)
  have z2 : ∀ k, mrf k = false → ph_tn τ 20 0 (ph_df [0, 2, 2, 2, 2, 2, 2, 0, 2, 2, 2, 2, 2, 2, 2, 0, 0, 2, 2, 2, 2, 2, 2, 2, 2, 2, 2, 2, 2, 2, 1, 0, 2]) 20 0 k = 0 := fun k hk => by rw [tn_at]; exact df20 k hk
  generalize ph_Ln L 20 0 = L at hI hF l2 n2 ⊢
  generalize ph_an ad 20 0 o = ad at hI a2 ⊢
  generalize ph_tn τ 20 0 (ph_df [0, 2, 2, 2, 2, 2, 2, 0, 2, 2, 2, 2, 2, 2, 2, 0, 0, 2, 2, 2, 2, 2, 2, 2, 2, 2, 2, 2, 2, 2, 1, 0, 2]) = τ at hI z2 ⊢
  refine ph_dup (pc := 11) C d_L_law_11 rfl ?_
  refine ph_callIF (pc := 12) (rest := [.ref o]) C d_L_law_12 cM (fun A1 => KJ dT A1 aRANKS aSTEPS) (fun A1 h U hk => KJ_nar h U hk) (fun A1 => KJ_keep dT A1 aRANKS aSTEPS) (fun A1 => hinit D dT A1 (KJ dT A1 aRANKS aSTEPS) _ ad τ o ⟨rfl, l2⟩ a2 z2 (fun g i hg h => n2 g i hg h.2)) (cwI 0 C.hts (gdI tw_379) rfl rfl rfl (C.hts _ tw_2) (C.hts _ tw_377) (C.hts _ tw_378) rfl (by decide) ⟨by show _ ≤ 9; omega, by show _ ≤ 332; omega⟩) rfl rfl (Nat.le_of_ble_eq_true rfl) ⟨by show _ ≤ 600000; omega, by show _ ≤ 7302250; omega⟩ ?_
  rintro r L1 ad1 τ1 ⟨hMR, rfl⟩
  have hI : JR S00 x (fr_L cM L1 L) (fr_a cM ad1 ad) (fr_t cM τ1 τ) := hI.extM
  have hF : JF S00 (fr_L cM L1 L) := hF.extM
  have hMR : MR M00 o (fr_L cM L1 L) (fr_a cM ad1 ad) (fr_t cM τ1 τ) := hMR.ext
  generalize fr_L cM L1 L = L at hI hF hMR ⊢
  generalize fr_a cM ad1 ad = ad at hI hMR ⊢
  generalize fr_t cM τ1 τ = τ at hI hMR ⊢
  refine ph_astore_n (pc := 15) C d_L_law_15 (by decide) rfl ?_
  refine ph_iconst (pc := 16) C d_L_law_16 ?_
  refine ph_istore_n (pc := 17) C d_L_law_17 (by decide) rfl ?_
  refine ph_loc (l2 := [(0, .ref b), (1, .ref x), (2, .ref o), (3, .int (ph_i ((5 * 0 : Nat) : Int)))]) ⟨rfl, rfl, rfl, rfl, trivial⟩ ?_
  exact law_loop C hr hlocks hX hbl (fun q h => h) hN Rel hIV hm_sensor hm_item hm_edge hm_doubt hm_cause hm_step hm_feed hm_listed hm_rule hm_plant hm_alarm hm_count hm_goesOn hm_none (N + 1) 0 S00 M00 x o L ad τ _ _ (by omega) (by omega) (by omega) (by omega) h00 hI hF hMR
