/-! ===== one call on an object as new ===== -/
def Rel (n : Nat) (S M : ph_T) : Prop := IV S ∧ (n = 0 → S = S00 ∧ M = mz_4)
theorem Rel.iv (n : Nat) (S M : ph_T) (h : Rel n S M) : IV S := h.1
theorem S00_0 (k : Nat) : S00 0 0 k = 0 := rfl
set_option maxHeartbeats 4000000 in
theorem hk_sensor (l : Launch) : ∀ (n : Nat) (S M : ph_T) (z0 : Int), 5 * n + 5 ≤ 5 → Rel n S M → ph_rl z0 → ∃ (r : Room), rmOk r ∧ mcon l y_M_sensor b_M_sensor 4 (some .int) r [.long (ph_l z0)] M (fun v M1 => Rel (n + 1) (senS S z0) M1 ∧ senv S z0 = v) := by
  intro n S M z0 hn hR hz0
  obtain ⟨hV, h0⟩ := hR
  obtain ⟨rfl, rfl⟩ := h0 (by omega)
  exact ⟨({ frames := 0, cells := 0, slots := 0, locals := 0 } : Room), ⟨by decide, by decide, by decide, by decide⟩, (mcon_w ms_S00 (fun D dT A KX L ad τ o hA hs => c_M_sensor l D dT A KX L ad τ S00 o hA hs iv_S00 z0 hz0)).mono (fun v M1 hp => ⟨⟨iv_sen hV, fun q => absurd q (by omega)⟩, hp.2⟩)⟩
set_option maxHeartbeats 4000000 in
theorem hk_item (l : Launch) : ∀ (n : Nat) (S M : ph_T) (z0 z1 : Int), 5 * n + 5 ≤ 5 → Rel n S M → ph_rl z0 → ph_rl z1 → ∃ (r : Room), rmOk r ∧ mcon l y_M_item b_M_item 6 (some .int) r [.long (ph_l z0), .long (ph_l z1)] M (fun v M1 => Rel (n + 1) (itS S z0 z1) M1 ∧ itv S z0 z1 = v) := by
  intro n S M z0 z1 hn hR hz0 hz1
  obtain ⟨hV, h0⟩ := hR
  obtain ⟨rfl, rfl⟩ := h0 (by omega)
  exact ⟨({ frames := 1, cells := 0, slots := 0, locals := 25 } : Room), ⟨by decide, by decide, by decide, by decide⟩, (mcon_w ms_S00 (fun D dT A KX L ad τ o hA hs => c_M_item l D dT A KX L ad τ S00 o hA hs iv_S00 z0 z1 hz0 hz1)).mono (fun v M1 hp => ⟨⟨iv_it hV, fun q => absurd q (by omega)⟩, hp.2⟩)⟩
set_option maxHeartbeats 4000000 in
theorem hk_edge (l : Launch) : ∀ (n : Nat) (S M : ph_T) (z0 z1 z2 : Int), 5 * n + 5 ≤ 5 → Rel n S M → ph_ri z0 → (z1 = 0 ∨ z1 = 1) → ph_rl z2 → ∃ (r : Room), rmOk r ∧ mcon l y_M_edge b_M_edge 5 (some .int) r [.int (ph_i z0), .int (ph_i z1), .long (ph_l z2)] M (fun v M1 => Rel (n + 1) (edgeS S z0 z1 z2) M1 ∧ edgev S z0 z1 z2 = v) := by
  intro n S M z0 z1 z2 hn hR hz0 hz1 hz2
  obtain ⟨hV, h0⟩ := hR
  obtain ⟨rfl, rfl⟩ := h0 (by omega)
  exact ⟨({ frames := 4, cells := 0, slots := 0, locals := 102 } : Room), ⟨by decide, by decide, by decide, by decide⟩, (mcon_r (v := -11) ms_S00 (fun D dT A KX L ad τ o hA hs => c_M_edgeR l D dT A KX L ad τ S00 o hA hs iv_S00 (S00_0 1) z0 z1 z2 hz0)).mono (fun v M1 hp => ⟨⟨iv_edge hV, fun q => absurd q (by omega)⟩, by rw [edgev, if_pos (by rw [S00_0]; omega)]; exact hp.2⟩)⟩
set_option maxHeartbeats 4000000 in
theorem hk_doubt (l : Launch) : ∀ (n : Nat) (S M : ph_T) (z0 z1 : Int), 5 * n + 5 ≤ 5 → Rel n S M → ph_ri z0 → ph_ri z1 → ∃ (r : Room), rmOk r ∧ mcon l y_M_doubt b_M_doubt 5 (some .int) r [.int (ph_i z0), .int (ph_i z1)] M (fun v M1 => Rel (n + 1) (S) M1 ∧ doubtv S z0 z1 = v) := by
  intro n S M z0 z1 hn hR hz0 hz1
  obtain ⟨hV, h0⟩ := hR
  obtain ⟨rfl, rfl⟩ := h0 (by omega)
  exact ⟨({ frames := 1, cells := 0, slots := 0, locals := 21 } : Room), ⟨by decide, by decide, by decide, by decide⟩, (mcon_r ms_S00 (fun D dT A KX L ad τ o hA hs => c_M_doubt l D dT A KX L ad τ S00 o hA hs iv_S00 z0 z1 hz0 hz1)).mono (fun v M1 hp => ⟨⟨hV, fun q => absurd q (by omega)⟩, hp.2⟩)⟩
set_option maxHeartbeats 4000000 in
theorem hk_cause (l : Launch) : ∀ (n : Nat) (S M : ph_T) (z0 : Int), 5 * n + 5 ≤ 5 → Rel n S M → ph_ri z0 → ∃ (r : Room), rmOk r ∧ mcon l y_M_cause b_M_cause 6 (some .int) r [.int (ph_i z0)] M (fun v M1 => Rel (n + 1) (S) M1 ∧ causev S z0 = v) := by
  intro n S M z0 hn hR hz0
  obtain ⟨hV, h0⟩ := hR
  obtain ⟨rfl, rfl⟩ := h0 (by omega)
  exact ⟨({ frames := 1, cells := 0, slots := 0, locals := 21 } : Room), ⟨by decide, by decide, by decide, by decide⟩, (mcon_r ms_S00 (fun D dT A KX L ad τ o hA hs => c_M_cause l D dT A KX L ad τ S00 o hA hs iv_S00 z0 hz0)).mono (fun v M1 hp => ⟨⟨hV, fun q => absurd q (by omega)⟩, hp.2⟩)⟩
set_option maxHeartbeats 4000000 in
theorem hk_step (l : Launch) : ∀ (n : Nat) (S M : ph_T) (z0 z1 : Int), 5 * n + 5 ≤ 5 → Rel n S M → ph_ri z0 → ph_ri z1 → ∃ (r : Room), rmOk r ∧ mcon l y_M_step b_M_step 6 (some .int) r [.int (ph_i z0), .int (ph_i z1)] M (fun v M1 => Rel (n + 1) (stepS S z0 z1) M1 ∧ stepv S z0 z1 = v) := by
  intro n S M z0 z1 hn hR hz0 hz1
  obtain ⟨hV, h0⟩ := hR
  obtain ⟨rfl, rfl⟩ := h0 (by omega)
  exact ⟨({ frames := 2, cells := 0, slots := 0, locals := 43 } : Room), ⟨by decide, by decide, by decide, by decide⟩, (mcon_r (v := -11) ms_S00 (fun D dT A KX L ad τ o hA hs => c_M_stepR l D dT A KX L ad τ S00 o hA hs iv_S00 (S00_0 5) z0 z1 hz0)).mono (fun v M1 hp => ⟨⟨IV.stepS hV, fun q => absurd q (by omega)⟩, by rw [stepv, if_pos (by rw [S00_0]; omega)]; exact hp.2⟩)⟩
set_option maxHeartbeats 4000000 in
theorem hk_feed (l : Launch) : ∀ (n : Nat) (S M : ph_T) (z0 : Int), 5 * n + 5 ≤ 5 → Rel n S M → ph_ri z0 → ∃ (r : Room), rmOk r ∧ mcon l y_M_feed b_M_feed 4 (some .int) r [.int (ph_i z0)] M (fun v M1 => Rel (n + 1) (feedS S z0) M1 ∧ feedv S z0 = v) := by
  intro n S M z0 hn hR hz0
  obtain ⟨hV, h0⟩ := hR
  obtain ⟨rfl, rfl⟩ := h0 (by omega)
  exact ⟨({ frames := 0, cells := 0, slots := 0, locals := 0 } : Room), ⟨by decide, by decide, by decide, by decide⟩, (mcon_r (v := -11) ms_S00 (fun D dT A KX L ad τ o hA hs => c_M_feedR l D dT A KX L ad τ S00 o hA hs iv_S00 (S00_0 3) z0 hz0)).mono (fun v M1 hp => ⟨⟨IV.feedS hV, fun q => absurd q (by omega)⟩, by rw [feedv, if_pos (by rw [S00_0]; omega)]; exact hp.2⟩)⟩
set_option maxHeartbeats 4000000 in
theorem hk_listed (l : Launch) : ∀ (n : Nat) (S M : ph_T) (z0 : Int), 5 * n + 5 ≤ 5 → Rel n S M → ph_ri z0 → ∃ (r : Room), rmOk r ∧ mcon l y_M_listed b_M_listed 2 (some .int) r [.int (ph_i z0)] M (fun v M1 => Rel (n + 1) (S) M1 ∧ listv S z0 = v) := by
  intro n S M z0 hn hR hz0
  obtain ⟨hV, h0⟩ := hR
  obtain ⟨rfl, rfl⟩ := h0 (by omega)
  refine ⟨({ frames := 0, cells := 0, slots := 0, locals := 0 } : Room), ⟨by decide, by decide, by decide, by decide⟩, fun D dT A KX L ad τ o hM => ?_⟩
  have hs := ms_S00.of rfl hM
  refine (c_M_listed l D dT A KX L ad τ S00 o hM.ma hs iv_S00 z0 hz0).mono (fun r L1 ad1 τ1 q => ?_)
  obtain ⟨rfl, rfl, rfl, rfl⟩ := q
  have e : τ1 20 0 15 = 0 := hM.dat (k := 15) rfl
  refine ⟨τ1, _, hM.ma.mr, ⟨⟨hV, fun q => absurd q (by omega)⟩, ?_⟩, rfl⟩
  rw [e, listv, S00_0]
  rw [if_neg (by omega), if_neg (by omega)]
set_option maxHeartbeats 4000000 in
theorem hk_rule (l : Launch) : ∀ (n : Nat) (S M : ph_T) (z0 z1 z2 : Int), 5 * n + 5 ≤ 5 → Rel n S M → ph_ri z0 → ph_ri z1 → (z2 = 0 ∨ z2 = 1) → ∃ (r : Room), rmOk r ∧ mcon l y_M_rule b_M_rule 5 (some .int) r [.int (ph_i z0), .int (ph_i z1), .int (ph_i z2)] M (fun v M1 => Rel (n + 1) (ruleS S z0 z1 z2) M1 ∧ rulev S z0 z1 = v) := by
  intro n S M z0 z1 z2 hn hR hz0 hz1 hz2
  obtain ⟨hV, h0⟩ := hR
  obtain ⟨rfl, rfl⟩ := h0 (by omega)
  exact ⟨({ frames := 1, cells := 0, slots := 0, locals := 25 } : Room), ⟨by decide, by decide, by decide, by decide⟩, (mcon_w ms_S00 (fun D dT A KX L ad τ o hA hs => c_M_rule l D dT A KX L ad τ S00 o hA hs iv_S00 z0 z1 z2 hz0 hz1 hz2)).mono (fun v M1 hp => ⟨⟨IV.ruleS hV hz2, fun q => absurd q (by omega)⟩, hp.2⟩)⟩
set_option maxHeartbeats 4000000 in
theorem hk_plant (l : Launch) : ∀ (n : Nat) (S M : ph_T) (z0 z1 : Int), 5 * n + 5 ≤ 5 → Rel n S M → ph_ri z0 → ph_rl z1 → ∃ (r : Room), rmOk r ∧ mcon l y_M_plant b_M_plant 4 (some .int) r [.int (ph_i z0), .long (ph_l z1)] M (fun v M1 => Rel (n + 1) (plantS S z0 z1) M1 ∧ plantv S z0 z1 = v) := by
  intro n S M z0 z1 hn hR hz0 hz1
  obtain ⟨hV, h0⟩ := hR
  obtain ⟨rfl, rfl⟩ := h0 (by omega)
  exact ⟨({ frames := 3, cells := 0, slots := 0, locals := 74 } : Room), ⟨by decide, by decide, by decide, by decide⟩, (mcon_w ms_S00 (fun D dT A KX L ad τ o hA hs => c_M_plant l D dT A KX L ad τ S00 o hA hs iv_S00 z0 z1 hz0 hz1)).mono (fun v M1 hp => ⟨⟨IV.plantS hV, fun q => absurd q (by omega)⟩, hp.2⟩)⟩
set_option maxHeartbeats 4000000 in
theorem hk_alarm (l : Launch) : ∀ (n : Nat) (S M : ph_T) (z0 z1 : Int), 5 * n + 5 ≤ 5 → Rel n S M → ph_ri z0 → ph_ri z1 → ∃ (r : Room), rmOk r ∧ mcon l y_M_alarm b_M_alarm 6 (some .int) r [.int (ph_i z0), .int (ph_i z1)] M (fun v M1 => Rel (n + 1) (S) M1 ∧ alarmv S z0 z1 = v) := by
  intro n S M z0 z1 hn hR hz0 hz1
  obtain ⟨hV, h0⟩ := hR
  obtain ⟨rfl, rfl⟩ := h0 (by omega)
  exact ⟨({ frames := 1, cells := 0, slots := 0, locals := 25 } : Room), ⟨by decide, by decide, by decide, by decide⟩, (mcon_r ms_S00 (fun D dT A KX L ad τ o hA hs => c_M_alarm l D dT A KX L ad τ S00 o hA hs iv_S00 z0 z1 hz0 hz1)).mono (fun v M1 hp => ⟨⟨hV, fun q => absurd q (by omega)⟩, hp.2⟩)⟩
set_option maxHeartbeats 4000000 in
theorem hk_count (l : Launch) : ∀ (n : Nat) (S M : ph_T) (z0 : Int), 5 * n + 5 ≤ 5 → Rel n S M → ph_ri z0 → ∃ (r : Room), rmOk r ∧ mcon l y_M_count b_M_count 2 (some .int) r [.int (ph_i z0)] M (fun v M1 => Rel (n + 1) (S) M1 ∧ countv S z0 = v) := by
  intro n S M z0 hn hR hz0
  obtain ⟨hV, h0⟩ := hR
  obtain ⟨rfl, rfl⟩ := h0 (by omega)
  exact ⟨({ frames := 1, cells := 0, slots := 0, locals := 21 } : Room), ⟨by decide, by decide, by decide, by decide⟩, (mcon_r ms_S00 (fun D dT A KX L ad τ o hA hs => c_M_count l D dT A KX L ad τ S00 o hA hs iv_S00 z0 hz0)).mono (fun v M1 hp => ⟨⟨hV, fun q => absurd q (by omega)⟩, hp.2⟩)⟩
set_option maxHeartbeats 4000000 in
theorem hk_goesOn (l : Launch) : ∀ (n : Nat) (S M : ph_T), 5 * n + 5 ≤ 5 → Rel n S M → ∃ (r : Room), rmOk r ∧ mcon l y_M_goesOn b_M_goesOn 1 (some .boolean) r [] M (fun v M1 => Rel (n + 1) (S) M1 ∧ ph_b (runs S) = v) := by
  intro n S M hn hR
  obtain ⟨hV, h0⟩ := hR
  obtain ⟨rfl, rfl⟩ := h0 (by omega)
  exact ⟨({ frames := 1, cells := 0, slots := 0, locals := 23 } : Room), ⟨by decide, by decide, by decide, by decide⟩, (mcon_r ms_S00 (fun D dT A KX L ad τ o hA hs => c_M_goesOn l D dT A KX L ad τ S00 o hA hs iv_S00 )).mono (fun v M1 hp => ⟨⟨hV, fun q => absurd q (by omega)⟩, hp.2⟩)⟩
theorem hk_none : ∀ (n : Nat) (S M : ph_T), 5 * n + 5 ≤ 5 → Rel n S M → Rel (n + 1) S M := fun n S M _ h => ⟨h.1, fun q => absurd q (by omega)⟩
theorem h00 : Rel 0 S00 mz_4 := ⟨iv_S00, fun _ => ⟨rfl, rfl⟩⟩
