/-! ===== more reads of the class ===== -/
set_option maxHeartbeats 4000000 in
set_option maxRecDepth 100000 in
theorem c_J_goesOn (l : Launch) (D : va_G) (dT : Nat → ClassId) (A : Nat → Prop) (KX : State → Prop) (L : Nat → Nat → Prop) (ad : Nat → Nat → Nat) (τ : ph_T) (S : ph_T) (o : Nat) (hI : JR S o L ad τ) (hV : IV S)  : ph_M l y_J_goesOn (.code y_J_goesOn b_J_goesOn 2 (some .boolean) :: TB) ({ frames := 0, cells := 0, slots := 0, locals := 0 } : Room) D CLs (TY dT) dT kd A KX [.ref (o)] L ad τ (fun r L' ad' τ' => L' = L ∧ ad' = ad ∧ τ' = τ ∧ r = some (.int (ph_i (ph_b (runs S))))) 0 0 := by
  refine ph_M.of (cc := b_J_goesOn) (maxL := 2) (ret := (some .boolean)) (by decide) rfl (Nat.le_of_ble_eq_true rfl) ?_
  intro p e s m below meth c C0 hr hlk hnm
  have C := C0.sub
  refine ph_loc (l2 := [(0, .ref (o))]) ⟨rfl, trivial⟩ ?_
  have hc := hV.c
  have loop : ∀ (n : Nat) (i : Nat), S 0 0 5 - S 0 0 6 ≤ 5 → S 0 0 6 < (i : Int) → S 0 0 5 = (i : Int) + n - 1 → (∀ f : Nat, S 0 0 6 < (f : Int) → (f : Int) < (i : Int) → S 3 f 4 = 0) → ph_W p l e ({ frames := 0, cells := 0, slots := 0, locals := 0 } : Room) s m [.ref (o)].toArray below meth c D CLs dT kd A 2 (MQ below (ph_Q D CLs dT kd A (fun r L' ad' τ' => L' = L ∧ ad' = ad ∧ τ' = τ ∧ r = some (.int (ph_i (ph_b (runs S)))))) [.ref (o)].toArray s 0 0 A) L ad τ 0 0 22 (ph_mk [(0, .ref (o)), (1, .int (ph_i ((i : Int))))]) [] := by
    intro n
    induction n with
    | zero =>
      intro i h0 h1 h2 h3
      refine ph_iload_n (pc := 22) C d_J_goesOn_22 rfl ?_
      refine ph_aload_n (pc := 23) C d_J_goesOn_23 rfl ?_
      refine gt_J_34 (pc := 24) C d_J_goesOn_24 (hI.live (g := 0) (i := 0) rfl) hI.ob (hI.dat rfl rfl) ?_
      refine ph_icmp_gt (pc := 27) (tgt := 50) C d_J_goesOn_27 (by decide) (by first | omega | (have := hV.f (show LC S 3 i by simp only [LC]; omega); omega)) (by first | omega | (have := hV.f (show LC S 3 i by simp only [LC]; omega); omega)) (fun c27 => ?_) (fun c27 => ?_)
      · refine ph_iconst (pc := 50) C d_J_goesOn_50 ?_
        exact ph_iret (pc := 51) C d_J_goesOn_51 hr hlk (by decide) (by decide) (by decide) ⟨rfl, rfl, rfl, (ph_bt (⟨by omega, fun f h1 h2 => by first | exact h3 f h1 (by omega) | omega⟩))⟩
      · refine ph_aload_n (pc := 30) C d_J_goesOn_30 rfl ?_
        refine gt_J_30 (pc := 31) C d_J_goesOn_31 (hI.live (g := 0) (i := 0) rfl) hI.ob hI.r4 ?_
        refine ph_iload_n (pc := 34) C d_J_goesOn_34 rfl ?_
        refine ph_aald (pc := 35) (t := 2) C d_J_goesOn_35 (hI.live (g := 6) (i := 0) rfl) rfl rfl rfl i rfl (by have := (show LC S 3 i by simp only [LC]; omega); simp only [LC] at this; omega) (by decide) (ph_vr (hI.e6 (show LC S 3 i by simp only [LC]; omega))) ?_
        refine gt_J_169 (pc := 36) C d_J_goesOn_36 (hI.live (show LC S 3 i by simp only [LC]; omega)) rfl (hI.dat (show LC S 3 i by simp only [LC]; omega) rfl) ?_
        refine ph_if_eq (pc := 39) (tgt := 44) C d_J_goesOn_39 (by decide) (by first | omega | (have := hV.f (show LC S 3 i by simp only [LC]; omega); omega)) (fun c39 => ?_) (fun c39 => ?_)
        · refine ph_iinc (pc := 44) C d_J_goesOn_44 rfl rfl ?_
          refine ph_goto (pc := 47) (tgt := 22) C d_J_goesOn_47 (by decide) ?_
          refine ph_iload_n (pc := 22) C d_J_goesOn_22 rfl ?_
          refine ph_aload_n (pc := 23) C d_J_goesOn_23 rfl ?_
          refine gt_J_34 (pc := 24) C d_J_goesOn_24 (hI.live (g := 0) (i := 0) rfl) hI.ob (hI.dat rfl rfl) ?_
          refine ph_icmp_gt (pc := 27) (tgt := 50) C d_J_goesOn_27 (by decide) (by first | omega | (have := hV.f (show LC S 3 i by simp only [LC]; omega); omega)) (by first | omega | (have := hV.f (show LC S 3 i by simp only [LC]; omega); omega)) (fun c27 => ?_) (fun c27 => ?_)
          · refine ph_iconst (pc := 50) C d_J_goesOn_50 ?_
            exact ph_iret (pc := 51) C d_J_goesOn_51 hr hlk (by decide) (by decide) (by decide) ⟨rfl, rfl, rfl, (ph_bt (⟨by omega, fun f h1 h2 => by first | exact h3 f h1 (by omega) | omega⟩))⟩
          · exfalso; omega
        · refine ph_iconst (pc := 42) C d_J_goesOn_42 ?_
          exact ph_iret (pc := 43) C d_J_goesOn_43 hr hlk (by decide) (by decide) (by decide) ⟨rfl, rfl, rfl, (ph_bf (fun h => by first | (have := h.1; omega) | exact absurd (h.2 i (by omega) (by omega)) (by assumption)))⟩
    | succ n ih =>
      intro i h0 h1 h2 h3
      refine ph_iload_n (pc := 22) C d_J_goesOn_22 rfl ?_
      refine ph_aload_n (pc := 23) C d_J_goesOn_23 rfl ?_
      refine gt_J_34 (pc := 24) C d_J_goesOn_24 (hI.live (g := 0) (i := 0) rfl) hI.ob (hI.dat rfl rfl) ?_
      refine ph_icmp_gt (pc := 27) (tgt := 50) C d_J_goesOn_27 (by decide) (by first | omega | (have := hV.f (show LC S 3 i by simp only [LC]; omega); omega)) (by first | omega | (have := hV.f (show LC S 3 i by simp only [LC]; omega); omega)) (fun c27 => ?_) (fun c27 => ?_)
      · exfalso; omega
      · refine ph_aload_n (pc := 30) C d_J_goesOn_30 rfl ?_
        refine gt_J_30 (pc := 31) C d_J_goesOn_31 (hI.live (g := 0) (i := 0) rfl) hI.ob hI.r4 ?_
        refine ph_iload_n (pc := 34) C d_J_goesOn_34 rfl ?_
        refine ph_aald (pc := 35) (t := 2) C d_J_goesOn_35 (hI.live (g := 6) (i := 0) rfl) rfl rfl rfl i rfl (by have := (show LC S 3 i by simp only [LC]; omega); simp only [LC] at this; omega) (by decide) (ph_vr (hI.e6 (show LC S 3 i by simp only [LC]; omega))) ?_
        refine gt_J_169 (pc := 36) C d_J_goesOn_36 (hI.live (show LC S 3 i by simp only [LC]; omega)) rfl (hI.dat (show LC S 3 i by simp only [LC]; omega) rfl) ?_
        refine ph_if_eq (pc := 39) (tgt := 44) C d_J_goesOn_39 (by decide) (by first | omega | (have := hV.f (show LC S 3 i by simp only [LC]; omega); omega)) (fun c39 => ?_) (fun c39 => ?_)
        · refine ph_iinc (pc := 44) C d_J_goesOn_44 rfl rfl ?_
          refine ph_goto (pc := 47) (tgt := 22) C d_J_goesOn_47 (by decide) ?_
          refine ph_loc (l2 := [(0, .ref (o)), (1, .int (ph_i (((i + 1 : Nat) : Int))))]) ⟨rfl, rfl, trivial⟩ ?_
          exact ih (i + 1) h0 (by omega) (by omega) (fun f q1 q2 => (Nat.lt_or_ge f i).elim (fun q => h3 f q1 (by omega)) (fun q => by rw [show f = i by omega]; assumption))
        · refine ph_iconst (pc := 42) C d_J_goesOn_42 ?_
          exact ph_iret (pc := 43) C d_J_goesOn_43 hr hlk (by decide) (by decide) (by decide) ⟨rfl, rfl, rfl, (ph_bf (fun h => by first | (have := h.1; omega) | exact absurd (h.2 i (by omega) (by omega)) (by assumption)))⟩
  refine ph_aload_n (pc := 0) C d_J_goesOn_0 rfl ?_
  refine gt_J_34 (pc := 1) C d_J_goesOn_1 (hI.live (g := 0) (i := 0) rfl) hI.ob (hI.dat rfl rfl) ?_
  refine ph_aload_n (pc := 4) C d_J_goesOn_4 rfl ?_
  refine gt_J_37 (pc := 5) C d_J_goesOn_5 (hI.live (g := 0) (i := 0) rfl) hI.ob (hI.dat rfl rfl) ?_
  refine ph_isub (pc := 8) C d_J_goesOn_8 ?_
  refine ph_iconst (pc := 9) C d_J_goesOn_9 ?_
  refine ph_icmp_le (pc := 10) (tgt := 15) C d_J_goesOn_10 (by decide) (by omega) (by omega) (fun c10 => ?_) (fun c10 => ?_)
  · refine ph_aload_n (pc := 15) C d_J_goesOn_15 rfl ?_
    refine gt_J_37 (pc := 16) C d_J_goesOn_16 (hI.live (g := 0) (i := 0) rfl) hI.ob (hI.dat rfl rfl) ?_
    refine ph_iconst (pc := 19) C d_J_goesOn_19 ?_
    refine ph_iadd (pc := 20) C d_J_goesOn_20 ?_
    refine ph_istore_n (pc := 21) C d_J_goesOn_21 (by decide) rfl ?_
    refine ph_loc (l2 := [(0, .ref (o)), (1, .int (ph_i ((((S 0 0 6).toNat + 1 : Nat) : Int))))]) ⟨rfl, (congrArg (fun z => some (Value.int (ph_i z))) (show (S 0 0 6 + 1 : Int) = (((S 0 0 6).toNat + 1 : Nat) : Int) by omega)), trivial⟩ ?_
    exact loop (S 0 0 5 - S 0 0 6).toNat ((S 0 0 6).toNat + 1) (by omega) (by omega) (by omega) (fun f q1 q2 => by omega)
  · refine ph_iconst (pc := 13) C d_J_goesOn_13 ?_
    exact ph_iret (pc := 14) C d_J_goesOn_14 hr hlk (by decide) (by decide) (by decide) ⟨rfl, rfl, rfl, (ph_bf (fun h => by first | (have := h.1; omega) | exact absurd (h.2 i (by omega) (by omega)) (by assumption)))⟩
