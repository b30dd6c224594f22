/-! ===== the relation of both sides, and that every call keeps it ===== -/
def Rel (_n : Nat) (S M : ph_T) : Prop := IV S ∧ DB S ∧ ∃ S2 : ph_T, MS S2 M ∧ IV S2 ∧ DB S2 ∧ GI S2 ∧ (S2 = S ∨ (40 ≤ S 0 0 5 ∧ FE S S2))
theorem Rel.iv (n : Nat) (S M : ph_T) (h : Rel n S M) : IV S := h.1
theorem h00 : Rel 0 S00 mz_4 := ⟨iv_S00, db_S00, S00, ms_S00, iv_S00, db_S00, gi_S00, Or.inl rfl⟩
theorem FE.both {S S1 S2 S3 : ph_T} (h : FE S S2) (h1 : FE S S1) (h2 : FE S2 S3) : FE S1 S3 := h1.sy.tr (h.tr h2)
theorem cm_sensor (l : Launch) (S M : ph_T) (z0 : Int) (hs : MS S M) (hV : IV S) (hG : GI S) (hz0 : ph_rl z0) : mcon l y_M_sensor b_M_sensor 4 (some .int) ({ frames := 0, cells := 0, slots := 0, locals := 0 } : Room) [.long (ph_l z0)] M (fun v M1 => MS (senS S z0) M1 ∧ senv S z0 = v) :=
  mcon_w hs (fun D dT A KX L ad τ o hA hs => c_M_sensor l D dT A KX L ad τ S o hA hs hV z0 hz0)
theorem cm_item (l : Launch) (S M : ph_T) (z0 z1 : Int) (hs : MS S M) (hV : IV S) (hG : GI S) (hz0 : ph_rl z0) (hz1 : ph_rl z1) : mcon l y_M_item b_M_item 6 (some .int) ({ frames := 1, cells := 0, slots := 0, locals := 25 } : Room) [.long (ph_l z0), .long (ph_l z1)] M (fun v M1 => MS (itS S z0 z1) M1 ∧ itv S z0 z1 = v) :=
  mcon_w hs (fun D dT A KX L ad τ o hA hs => c_M_item l D dT A KX L ad τ S o hA hs hV z0 z1 hz0 hz1)
theorem cm_edge (l : Launch) (S M : ph_T) (z0 z1 z2 : Int) (hs : MS S M) (hV : IV S) (hG : GI S) (hz0 : ph_ri z0) (hz1 : (z1 = 0 ∨ z1 = 1)) (hz2 : ph_rl z2) : mcon l y_M_edge b_M_edge 5 (some .int) ({ frames := 4, cells := 0, slots := 0, locals := 102 } : Room) [.int (ph_i z0), .int (ph_i z1), .long (ph_l z2)] M (fun v M1 => MS (edgeS S z0 z1 z2) M1 ∧ edgev S z0 z1 z2 = v) :=
  mcon_w hs (fun D dT A KX L ad τ o hA hs => c_M_edge l D dT A KX L ad τ S o hA hs hV hG z0 z1 z2 hz0 hz1 hz2)
theorem cm_doubt (l : Launch) (S M : ph_T) (z0 z1 : Int) (hs : MS S M) (hV : IV S) (hG : GI S) (hz0 : ph_ri z0) (hz1 : ph_ri z1) : mcon l y_M_doubt b_M_doubt 5 (some .int) ({ frames := 1, cells := 0, slots := 0, locals := 21 } : Room) [.int (ph_i z0), .int (ph_i z1)] M (fun v M1 => MS (S) M1 ∧ doubtv S z0 z1 = v) :=
  mcon_r hs (fun D dT A KX L ad τ o hA hs => c_M_doubt l D dT A KX L ad τ S o hA hs hV z0 z1 hz0 hz1)
theorem cm_cause (l : Launch) (S M : ph_T) (z0 : Int) (hs : MS S M) (hV : IV S) (hG : GI S) (hz0 : ph_ri z0) : mcon l y_M_cause b_M_cause 6 (some .int) ({ frames := 1, cells := 0, slots := 0, locals := 21 } : Room) [.int (ph_i z0)] M (fun v M1 => MS (S) M1 ∧ causev S z0 = v) :=
  mcon_r hs (fun D dT A KX L ad τ o hA hs => c_M_cause l D dT A KX L ad τ S o hA hs hV z0 hz0)
theorem cm_step (l : Launch) (S M : ph_T) (z0 z1 : Int) (hs : MS S M) (hV : IV S) (hG : GI S) (hz0 : ph_ri z0) (hz1 : ph_ri z1) : mcon l y_M_step b_M_step 6 (some .int) ({ frames := 2, cells := 0, slots := 0, locals := 43 } : Room) [.int (ph_i z0), .int (ph_i z1)] M (fun v M1 => MS (stepS S z0 z1) M1 ∧ stepv S z0 z1 = v) :=
  mcon_w hs (fun D dT A KX L ad τ o hA hs => c_M_step l D dT A KX L ad τ S o hA hs hV hG z0 z1 hz0 hz1)
theorem cm_feed (l : Launch) (S M : ph_T) (z0 : Int) (hs : MS S M) (hV : IV S) (hG : GI S) (hz0 : ph_ri z0) : mcon l y_M_feed b_M_feed 4 (some .int) ({ frames := 0, cells := 0, slots := 0, locals := 0 } : Room) [.int (ph_i z0)] M (fun _ M1 => MS (feedS S z0) M1) :=
  fun D dT A KX L ad τ o hM => (c_M_feed l D dT A KX L ad τ S o hM.ma (hs.of rfl hM) hV z0 hz0).mono (fun r L' ad' τ' q => by
    obtain ⟨rfl, rfl, ⟨h1, h2⟩, v, rfl⟩ := q
    exact ⟨τ', v, h1.mr, h2, rfl⟩)
theorem cm_listed (l : Launch) (S M : ph_T) (z0 : Int) (hs : MS S M) (hV : IV S) (hG : GI S) (hz0 : ph_ri z0) : mcon l y_M_listed b_M_listed 2 (some .int) ({ frames := 0, cells := 0, slots := 0, locals := 0 } : Room) [.int (ph_i z0)] M (fun _ M1 => MS (S) M1) :=
  fun D dT A KX L ad τ o hM => (c_M_listed l D dT A KX L ad τ S o hM.ma (hs.of rfl hM) hV z0 hz0).mono (fun r L' ad' τ' q => by
    obtain ⟨rfl, rfl, rfl, rfl⟩ := q
    exact ⟨τ', _, hM.ma.mr, hs.of rfl hM, rfl⟩)
theorem cm_rule (l : Launch) (S M : ph_T) (z0 z1 z2 : Int) (hs : MS S M) (hV : IV S) (hG : GI S) (hz0 : ph_ri z0) (hz1 : ph_ri z1) (hz2 : (z2 = 0 ∨ z2 = 1)) : mcon l y_M_rule b_M_rule 5 (some .int) ({ frames := 1, cells := 0, slots := 0, locals := 25 } : Room) [.int (ph_i z0), .int (ph_i z1), .int (ph_i z2)] M (fun v M1 => MS (ruleS S z0 z1 z2) M1 ∧ rulev S z0 z1 = v) :=
  mcon_w hs (fun D dT A KX L ad τ o hA hs => c_M_rule l D dT A KX L ad τ S o hA hs hV z0 z1 z2 hz0 hz1 hz2)
theorem cm_plant (l : Launch) (S M : ph_T) (z0 z1 : Int) (hs : MS S M) (hV : IV S) (hG : GI S) (hz0 : ph_ri z0) (hz1 : ph_rl z1) : mcon l y_M_plant b_M_plant 4 (some .int) ({ frames := 3, cells := 0, slots := 0, locals := 74 } : Room) [.int (ph_i z0), .long (ph_l z1)] M (fun v M1 => MS (plantG S z0 z1) M1 ∧ plantv S z0 z1 = v) :=
  mcon_w hs (fun D dT A KX L ad τ o hA hs => c_M_plant l D dT A KX L ad τ S o hA hs hV z0 z1 hz0 hz1)
theorem cm_alarm (l : Launch) (S M : ph_T) (z0 z1 : Int) (hs : MS S M) (hV : IV S) (hG : GI S) (hz0 : ph_ri z0) (hz1 : ph_ri z1) : mcon l y_M_alarm b_M_alarm 6 (some .int) ({ frames := 1, cells := 0, slots := 0, locals := 25 } : Room) [.int (ph_i z0), .int (ph_i z1)] M (fun v M1 => MS (S) M1 ∧ alarmv S z0 z1 = v) :=
  mcon_r hs (fun D dT A KX L ad τ o hA hs => c_M_alarm l D dT A KX L ad τ S o hA hs hV z0 z1 hz0 hz1)
theorem cm_count (l : Launch) (S M : ph_T) (z0 : Int) (hs : MS S M) (hV : IV S) (hG : GI S) (hz0 : ph_ri z0) : mcon l y_M_count b_M_count 2 (some .int) ({ frames := 1, cells := 0, slots := 0, locals := 21 } : Room) [.int (ph_i z0)] M (fun v M1 => MS (S) M1 ∧ countv S z0 = v) :=
  mcon_r hs (fun D dT A KX L ad τ o hA hs => c_M_count l D dT A KX L ad τ S o hA hs hV z0 hz0)
theorem cm_goesOn (l : Launch) (S M : ph_T) (hs : MS S M) (hV : IV S) (hG : GI S)  : mcon l y_M_goesOn b_M_goesOn 1 (some .boolean) ({ frames := 1, cells := 0, slots := 0, locals := 23 } : Room) [] M (fun v M1 => MS (S) M1 ∧ ph_b (runs S) = v) :=
  mcon_r hs (fun D dT A KX L ad τ o hA hs => c_M_goesOn l D dT A KX L ad τ S o hA hs hV )
set_option maxHeartbeats 4000000 in
theorem hk_sensor (l : Launch) : ∀ (n : Nat) (S M : ph_T) (z0 : Int), 5 * n + 5 ≤ 2560 → Rel n S M → ph_rl z0 → ∃ (r : Room), rmOk r ∧ mcon l y_M_sensor b_M_sensor 4 (some .int) r [.long (ph_l z0)] M (fun v M1 => Rel (n + 1) (senS S z0) M1) := by
  intro n S M z0 hn hR hz0
  obtain ⟨hV, hD, S2, hs, hV2, hD2, hG2, hq⟩ := hR
  refine ⟨({ frames := 0, cells := 0, slots := 0, locals := 0 } : Room), ⟨by decide, by decide, by decide, by decide⟩, (cm_sensor l S2 M z0 hs hV2 hG2 hz0).mono (fun v M1 hp => ?_)⟩
  obtain ⟨h1, h2⟩ := hp
  have hR1 : Rel (n + 1) (senS S z0) M1 := by
    refine ⟨iv_sen hV, hD.sen z0, _, h1, iv_sen hV2, hD2.sen z0, hG2.sen hV2 z0, ?_⟩
    rcases hq with rfl | ⟨h40, hfe⟩
    · exact Or.inl rfl
    · exact Or.inr ⟨((FE.sen S z0)).full h40, hfe.both (FE.sen S z0) (FE.sen S2 z0)⟩
  exact hR1
set_option maxHeartbeats 4000000 in
theorem hk_item (l : Launch) : ∀ (n : Nat) (S M : ph_T) (z0 z1 : Int), 5 * n + 5 ≤ 2560 → Rel n S M → ph_rl z0 → ph_rl z1 → ∃ (r : Room), rmOk r ∧ mcon l y_M_item b_M_item 6 (some .int) r [.long (ph_l z0), .long (ph_l z1)] M (fun v M1 => Rel (n + 1) (itS S z0 z1) M1) := by
  intro n S M z0 z1 hn hR hz0 hz1
  obtain ⟨hV, hD, S2, hs, hV2, hD2, hG2, hq⟩ := hR
  refine ⟨({ frames := 1, cells := 0, slots := 0, locals := 25 } : Room), ⟨by decide, by decide, by decide, by decide⟩, (cm_item l S2 M z0 z1 hs hV2 hG2 hz0 hz1).mono (fun v M1 hp => ?_)⟩
  obtain ⟨h1, h2⟩ := hp
  have hR1 : Rel (n + 1) (itS S z0 z1) M1 := by
    refine ⟨iv_it hV, hD.it z0 z1, _, h1, iv_it hV2, hD2.it z0 z1, hG2.it hV2 z0 z1, ?_⟩
    rcases hq with rfl | ⟨h40, hfe⟩
    · exact Or.inl rfl
    · exact Or.inr ⟨((FE.it S z0 z1)).full h40, hfe.both (FE.it S z0 z1) (FE.it S2 z0 z1)⟩
  exact hR1
set_option maxHeartbeats 4000000 in
theorem hk_edge (l : Launch) : ∀ (n : Nat) (S M : ph_T) (z0 z1 z2 : Int), 5 * n + 5 ≤ 2560 → Rel n S M → ph_ri z0 → (z1 = 0 ∨ z1 = 1) → ph_rl z2 → ∃ (r : Room), rmOk r ∧ mcon l y_M_edge b_M_edge 5 (some .int) r [.int (ph_i z0), .int (ph_i z1), .long (ph_l z2)] M (fun v M1 => Rel (n + 1) (edgeS S z0 z1 z2) M1) := by
  intro n S M z0 z1 z2 hn hR hz0 hz1 hz2
  obtain ⟨hV, hD, S2, hs, hV2, hD2, hG2, hq⟩ := hR
  refine ⟨({ frames := 4, cells := 0, slots := 0, locals := 102 } : Room), ⟨by decide, by decide, by decide, by decide⟩, (cm_edge l S2 M z0 z1 z2 hs hV2 hG2 hz0 hz1 hz2).mono (fun v M1 hp => ?_)⟩
  obtain ⟨h1, h2⟩ := hp
  have hR1 : Rel (n + 1) (edgeS S z0 z1 z2) M1 := by
    refine ⟨iv_edge hV, hD.edge hV z0 z1 z2, _, h1, iv_edge hV2, hD2.edge hV2 z0 z1 z2, hG2.edge hV2 z0 z1 z2, ?_⟩
    rcases hq with rfl | ⟨h40, hfe⟩
    · exact Or.inl rfl
    · exact Or.inr ⟨((FE.edge z0 z1 z2 h40)).full h40, hfe.both (FE.edge z0 z1 z2 h40) (FE.edge z0 z1 z2 (by rw [hfe.1]; exact h40))⟩
  exact hR1
set_option maxHeartbeats 4000000 in
theorem hk_doubt (l : Launch) : ∀ (n : Nat) (S M : ph_T) (z0 z1 : Int), 5 * n + 5 ≤ 2560 → Rel n S M → ph_ri z0 → ph_ri z1 → ∃ (r : Room), rmOk r ∧ mcon l y_M_doubt b_M_doubt 5 (some .int) r [.int (ph_i z0), .int (ph_i z1)] M (fun v M1 => Rel (n + 1) (S) M1) := by
  intro n S M z0 z1 hn hR hz0 hz1
  obtain ⟨hV, hD, S2, hs, hV2, hD2, hG2, hq⟩ := hR
  refine ⟨({ frames := 1, cells := 0, slots := 0, locals := 21 } : Room), ⟨by decide, by decide, by decide, by decide⟩, (cm_doubt l S2 M z0 z1 hs hV2 hG2 hz0 hz1).mono (fun v M1 hp => ?_)⟩
  obtain ⟨h1, h2⟩ := hp
  exact ⟨hV, hD, S2, h1, hV2, hD2, hG2, hq⟩
set_option maxHeartbeats 4000000 in
theorem hk_cause (l : Launch) : ∀ (n : Nat) (S M : ph_T) (z0 : Int), 5 * n + 5 ≤ 2560 → Rel n S M → ph_ri z0 → ∃ (r : Room), rmOk r ∧ mcon l y_M_cause b_M_cause 6 (some .int) r [.int (ph_i z0)] M (fun v M1 => Rel (n + 1) (S) M1) := by
  intro n S M z0 hn hR hz0
  obtain ⟨hV, hD, S2, hs, hV2, hD2, hG2, hq⟩ := hR
  refine ⟨({ frames := 1, cells := 0, slots := 0, locals := 21 } : Room), ⟨by decide, by decide, by decide, by decide⟩, (cm_cause l S2 M z0 hs hV2 hG2 hz0).mono (fun v M1 hp => ?_)⟩
  obtain ⟨h1, h2⟩ := hp
  exact ⟨hV, hD, S2, h1, hV2, hD2, hG2, hq⟩
set_option maxHeartbeats 4000000 in
theorem hk_step (l : Launch) : ∀ (n : Nat) (S M : ph_T) (z0 z1 : Int), 5 * n + 5 ≤ 2560 → Rel n S M → ph_ri z0 → ph_ri z1 → ∃ (r : Room), rmOk r ∧ mcon l y_M_step b_M_step 6 (some .int) r [.int (ph_i z0), .int (ph_i z1)] M (fun v M1 => Rel (n + 1) (stepS S z0 z1) M1 ∧ stepv S z0 z1 = v) := by
  intro n S M z0 z1 hn hR hz0 hz1
  obtain ⟨hV, hD, S2, hs, hV2, hD2, hG2, hq⟩ := hR
  refine ⟨({ frames := 2, cells := 0, slots := 0, locals := 43 } : Room), ⟨by decide, by decide, by decide, by decide⟩, (cm_step l S2 M z0 z1 hs hV2 hG2 hz0 hz1).mono (fun v M1 hp => ?_)⟩
  obtain ⟨h1, h2⟩ := hp
  have hR1 : Rel (n + 1) (stepS S z0 z1) M1 := by
    refine ⟨IV.stepS hV, hD.step z0 z1, _, h1, IV.stepS hV2, hD2.step z0 z1, hG2.step hV2 z0 z1, ?_⟩
    rcases hq with rfl | ⟨h40, hfe⟩
    · exact Or.inl rfl
    · exact Or.inr ⟨by rw [stepS_0 (by decide) (by decide)]; exact h40, fe_step hfe z0 z1⟩
  refine ⟨hR1, ?_⟩
  rcases hq with rfl | ⟨h40, hfe⟩
  · exact h2
  · rw [← h2]; exact (fe_stepv hfe z0 z1).symm
set_option maxHeartbeats 4000000 in
theorem hk_feed (l : Launch) : ∀ (n : Nat) (S M : ph_T) (z0 : Int), 5 * n + 5 ≤ 2560 → Rel n S M → ph_ri z0 → ∃ (r : Room), rmOk r ∧ mcon l y_M_feed b_M_feed 4 (some .int) r [.int (ph_i z0)] M (fun v M1 => Rel (n + 1) (feedS S z0) M1) := by
  intro n S M z0 hn hR hz0
  obtain ⟨hV, hD, S2, hs, hV2, hD2, hG2, hq⟩ := hR
  refine ⟨({ frames := 0, cells := 0, slots := 0, locals := 0 } : Room), ⟨by decide, by decide, by decide, by decide⟩, (cm_feed l S2 M z0 hs hV2 hG2 hz0).mono (fun v M1 hp => ?_)⟩
  have h1 := hp
  have hR1 : Rel (n + 1) (feedS S z0) M1 := by
    refine ⟨IV.feedS hV, hD.feed z0, _, h1, IV.feedS hV2, hD2.feed z0, hG2.feed z0, ?_⟩
    rcases hq with rfl | ⟨h40, hfe⟩
    · exact Or.inl rfl
    · exact Or.inr ⟨((FE.feed S z0)).full h40, hfe.both (FE.feed S z0) (FE.feed S2 z0)⟩
  exact hR1
set_option maxHeartbeats 4000000 in
theorem hk_listed (l : Launch) : ∀ (n : Nat) (S M : ph_T) (z0 : Int), 5 * n + 5 ≤ 2560 → Rel n S M → ph_ri z0 → ∃ (r : Room), rmOk r ∧ mcon l y_M_listed b_M_listed 2 (some .int) r [.int (ph_i z0)] M (fun v M1 => Rel (n + 1) (S) M1) := by
  intro n S M z0 hn hR hz0
  obtain ⟨hV, hD, S2, hs, hV2, hD2, hG2, hq⟩ := hR
  refine ⟨({ frames := 0, cells := 0, slots := 0, locals := 0 } : Room), ⟨by decide, by decide, by decide, by decide⟩, (cm_listed l S2 M z0 hs hV2 hG2 hz0).mono (fun v M1 hp => ?_)⟩
  have h1 := hp
  exact ⟨hV, hD, S2, h1, hV2, hD2, hG2, hq⟩
set_option maxHeartbeats 4000000 in
theorem hk_rule (l : Launch) : ∀ (n : Nat) (S M : ph_T) (z0 z1 z2 : Int), 5 * n + 5 ≤ 2560 → Rel n S M → ph_ri z0 → ph_ri z1 → (z2 = 0 ∨ z2 = 1) → ∃ (r : Room), rmOk r ∧ mcon l y_M_rule b_M_rule 5 (some .int) r [.int (ph_i z0), .int (ph_i z1), .int (ph_i z2)] M (fun v M1 => Rel (n + 1) (ruleS S z0 z1 z2) M1) := by
  intro n S M z0 z1 z2 hn hR hz0 hz1 hz2
  obtain ⟨hV, hD, S2, hs, hV2, hD2, hG2, hq⟩ := hR
  refine ⟨({ frames := 1, cells := 0, slots := 0, locals := 25 } : Room), ⟨by decide, by decide, by decide, by decide⟩, (cm_rule l S2 M z0 z1 z2 hs hV2 hG2 hz0 hz1 hz2).mono (fun v M1 hp => ?_)⟩
  obtain ⟨h1, h2⟩ := hp
  have hR1 : Rel (n + 1) (ruleS S z0 z1 z2) M1 := by
    refine ⟨IV.ruleS hV hz2, hD.rule z0 z1 z2, _, h1, IV.ruleS hV2 hz2, hD2.rule z0 z1 z2, hG2.rule z0 z1 z2, ?_⟩
    rcases hq with rfl | ⟨h40, hfe⟩
    · exact Or.inl rfl
    · exact Or.inr ⟨by rw [ruleS_0]; exact h40, fe_rule hfe z0 z1 z2⟩
  exact hR1
set_option maxHeartbeats 4000000 in
theorem hk_plant (l : Launch) : ∀ (n : Nat) (S M : ph_T) (z0 z1 : Int), 5 * n + 5 ≤ 2560 → Rel n S M → ph_ri z0 → ph_rl z1 → ∃ (r : Room), rmOk r ∧ mcon l y_M_plant b_M_plant 4 (some .int) r [.int (ph_i z0), .long (ph_l z1)] M (fun v M1 => Rel (n + 1) (plantS S z0 z1) M1) := by
  intro n S M z0 z1 hn hR hz0 hz1
  obtain ⟨hV, hD, S2, hs, hV2, hD2, hG2, hq⟩ := hR
  refine ⟨({ frames := 3, cells := 0, slots := 0, locals := 74 } : Room), ⟨by decide, by decide, by decide, by decide⟩, (cm_plant l S2 M z0 z1 hs hV2 hG2 hz0 hz1).mono (fun v M1 hp => ?_)⟩
  obtain ⟨h1, h2⟩ := hp
  have hR1 : Rel (n + 1) (plantS S z0 z1) M1 := by
    rcases Classical.em (plG S2 z0 z1) with g | g
    · rw [plantG_t g] at h1
      have hfu : FE S2 (ph_up S2 0 0 11 z1) := FE.up S2 z1 (by omega)
      have h40 : 40 ≤ S 0 0 5 := by
        rcases hq with rfl | ⟨h40, -⟩
        · exact g.2.2.2
        · exact h40
      have hfe : FE S S2 := by
        rcases hq with rfl | ⟨-, hfe⟩
        · exact FE.rf _
        · exact hfe
      rw [FE.plant z0 z1 h40]
      exact ⟨hV, hD, _, h1, hV2.up0 (k := 11) (by omega) (by omega) (by omega) (fun _ => g.2.1), hD2.up z1 (by omega), hG2.clk z1, Or.inr ⟨h40, hfe.tr hfu⟩⟩
    · rw [plantG_f g] at h1
      refine ⟨IV.plantS hV, hD.plant hV z0 z1, _, h1, IV.plantS hV2, hD2.plant hV2 z0 z1, hG2.plant hV2 z0 z1, ?_⟩
      rcases hq with rfl | ⟨h40, hfe⟩
      · exact Or.inl rfl
      · rw [FE.plant z0 z1 h40, FE.plant z0 z1 (by rw [hfe.1]; exact h40)]
        exact Or.inr ⟨h40, hfe⟩
  exact hR1
set_option maxHeartbeats 4000000 in
theorem hk_alarm (l : Launch) : ∀ (n : Nat) (S M : ph_T) (z0 z1 : Int), 5 * n + 5 ≤ 2560 → Rel n S M → ph_ri z0 → ph_ri z1 → ∃ (r : Room), rmOk r ∧ mcon l y_M_alarm b_M_alarm 6 (some .int) r [.int (ph_i z0), .int (ph_i z1)] M (fun v M1 => Rel (n + 1) (S) M1) := by
  intro n S M z0 z1 hn hR hz0 hz1
  obtain ⟨hV, hD, S2, hs, hV2, hD2, hG2, hq⟩ := hR
  refine ⟨({ frames := 1, cells := 0, slots := 0, locals := 25 } : Room), ⟨by decide, by decide, by decide, by decide⟩, (cm_alarm l S2 M z0 z1 hs hV2 hG2 hz0 hz1).mono (fun v M1 hp => ?_)⟩
  obtain ⟨h1, h2⟩ := hp
  exact ⟨hV, hD, S2, h1, hV2, hD2, hG2, hq⟩
set_option maxHeartbeats 4000000 in
theorem hk_count (l : Launch) : ∀ (n : Nat) (S M : ph_T) (z0 : Int), 5 * n + 5 ≤ 2560 → Rel n S M → ph_ri z0 → ∃ (r : Room), rmOk r ∧ mcon l y_M_count b_M_count 2 (some .int) r [.int (ph_i z0)] M (fun v M1 => Rel (n + 1) (S) M1) := by
  intro n S M z0 hn hR hz0
  obtain ⟨hV, hD, S2, hs, hV2, hD2, hG2, hq⟩ := hR
  refine ⟨({ frames := 1, cells := 0, slots := 0, locals := 21 } : Room), ⟨by decide, by decide, by decide, by decide⟩, (cm_count l S2 M z0 hs hV2 hG2 hz0).mono (fun v M1 hp => ?_)⟩
  obtain ⟨h1, h2⟩ := hp
  exact ⟨hV, hD, S2, h1, hV2, hD2, hG2, hq⟩
set_option maxHeartbeats 4000000 in
theorem hk_goesOn (l : Launch) : ∀ (n : Nat) (S M : ph_T), 5 * n + 5 ≤ 2560 → Rel n S M → ∃ (r : Room), rmOk r ∧ mcon l y_M_goesOn b_M_goesOn 1 (some .boolean) r [] M (fun v M1 => Rel (n + 1) (S) M1) := by
  intro n S M hn hR
  obtain ⟨hV, hD, S2, hs, hV2, hD2, hG2, hq⟩ := hR
  refine ⟨({ frames := 1, cells := 0, slots := 0, locals := 23 } : Room), ⟨by decide, by decide, by decide, by decide⟩, (cm_goesOn l S2 M  hs hV2 hG2 ).mono (fun v M1 hp => ?_)⟩
  obtain ⟨h1, h2⟩ := hp
  exact ⟨hV, hD, S2, h1, hV2, hD2, hG2, hq⟩
theorem hk_none : ∀ (n : Nat) (S M : ph_T), 5 * n + 5 ≤ 2560 → Rel n S M → Rel (n + 1) S M := fun n S M _ h => h
