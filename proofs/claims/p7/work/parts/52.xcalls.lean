/-! ===== sensor, item, rule, alarm of the other side ===== -/
set_option maxHeartbeats 4000000 in
set_option maxRecDepth 100000 in
theorem c_M_sensor (l : Launch) (D : va_G) (dT : Nat → ClassId) (A : Nat → Prop) (KX : State → Prop) (L : Nat → Nat → Prop) (ad : Nat → Nat → Nat) (τ : ph_T) (S : ph_T) (o : Nat) (hA : MA o L ad τ) (hs : MS S τ) (hV : IV S) (x : Int) (hx : ph_rl x) : ph_M l y_M_sensor (.code y_M_sensor b_M_sensor 4 (some .int) :: TB) ({ frames := 0, cells := 0, slots := 0, locals := 0 } : Room) D CLs (TY dT) dT kd A KX [.ref (o), .long (ph_l (x))] L ad τ (fun r L' ad' τ' => L' = L ∧ ad' = ad ∧ (MA o L ad τ' ∧ MS (senS S x) τ') ∧ r = some (.int (ph_i (senv S x)))) 0 0 := by
  refine ph_M.of (cc := b_M_sensor) (maxL := 4) (ret := (some .int)) (by decide) rfl (Nat.le_of_ble_eq_true rfl) ?_
  intro p e s m below meth c C0 hr hlk hnm
  have C := C0.sub
  refine ph_loc (l2 := [(0, .ref (o)), (1, .long (ph_l (x)))]) ⟨rfl, rfl, trivial⟩ ?_
  have hc := hV.c
  have hm := hs.ml.r
  have hbr := bef_r hV
  refine ph_lload_n (pc := 0) C d_M_sensor_0 rfl ?_
  refine ph_ldc2 (pc := 1) C d_M_sensor_1 (100000) (by decide) tw_486 ?_
  refine ph_l_gt (pc := 4) (tgt := 43) C d_M_sensor_4 d_M_sensor_5 (by decide) (by first | omega | (have := hV.s (show LC S 1 (S 0 0 1 - 1).toNat by simp only [LC]; omega); omega)) (by first | omega | (have := hV.s (show LC S 1 (S 0 0 1 - 1).toNat by simp only [LC]; omega); omega)) (fun c4 => ?_) (fun c4 => ?_)
  · refine ph_iconst (pc := 43) C d_M_sensor_43 ?_
    refine ph_istore_n (pc := 44) C d_M_sensor_44 (by decide) rfl ?_
    refine ph_iload_n (pc := 45) C d_M_sensor_45 rfl ?_
    refine ph_if_ne (pc := 46) (tgt := 52) C d_M_sensor_46 (by decide) (by first | omega | (have := hV.s (show LC S 1 (S 0 0 1 - 1).toNat by simp only [LC]; omega); omega)) (fun c46 => ?_) (fun c46 => ?_)
    · exact absurd rfl c46
    · refine ph_bipush (pc := 49) C d_M_sensor_49 (by decide) ?_
      exact ph_iret (pc := 51) C d_M_sensor_51 hr hlk rfl (by decide) (by decide) ⟨rfl, rfl, ⟨hA, by rw [senS_f (fun q => by have q1 := q.1; have q2 := q.2.1; have q3 := q.2.2.1; have q4 := q.2.2.2; omega)]; exact hs⟩, (by rw [senv, if_pos (by omega)])⟩
  · refine ph_lload_n (pc := 8) C d_M_sensor_8 rfl ?_
    refine ph_aload_n (pc := 9) C d_M_sensor_9 rfl ?_
    refine gt_M_93 (pc := 10) C d_M_sensor_10 hA.live hA.ob (z := S 0 0 1) hs.c0 ?_
    refine ph_if_ne (pc := 13) (tgt := 20) C d_M_sensor_13 (by decide) (by first | omega | (have := hV.s (show LC S 1 (S 0 0 1 - 1).toNat by simp only [LC]; omega); omega)) (fun c13 => ?_) (fun c13 => ?_)
    · refine ph_aload_n (pc := 20) C d_M_sensor_20 rfl ?_
      refine gt_M_7 (pc := 21) C d_M_sensor_21 hA.live hA.ob (hA.rf (k := 1) rfl) ?_
      refine ph_aload_n (pc := 24) C d_M_sensor_24 rfl ?_
      refine gt_M_93 (pc := 25) C d_M_sensor_25 hA.live hA.ob (z := S 0 0 1) hs.c0 ?_
      refine ph_iconst (pc := 28) C d_M_sensor_28 ?_
      refine ph_isub (pc := 29) C d_M_sensor_29 ?_
      refine ph_lald (pc := 30) C d_M_sensor_30 (hA.ar (k := 1) rfl) rfl rfl rfl (S 0 0 1 - 1).toNat (by omega) (by have := (show LC S 1 (S 0 0 1 - 1).toNat by simp only [LC]; omega); simp only [LC] at this; omega) (by decide) ?_
      refine ph_tl (y := S 1 (S 0 0 1 - 1).toNat 0) (hs.s22 (show LC S 1 (S 0 0 1 - 1).toNat by simp only [LC]; omega)) ?_
      have hbe : bef S = S 1 (S 0 0 1 - 1).toNat 0 := by first | rw [bef, if_pos (by assumption)] | rw [bef, if_neg (by assumption)]
      refine ph_tl (y := bef S) hbe.symm ?_
      refine ph_ldc2 (pc := 31) C d_M_sensor_31 (100) (by decide) tw_487 ?_
      clear hbe
      refine ph_ladd (pc := 34) C d_M_sensor_34 ?_
      refine ph_l_lt (pc := 35) (tgt := 43) C d_M_sensor_35 d_M_sensor_36 (by decide) (by first | omega | (have := hV.s (show LC S 1 (S 0 0 1 - 1).toNat by simp only [LC]; omega); omega)) (by first | omega | (have := hV.s (show LC S 1 (S 0 0 1 - 1).toNat by simp only [LC]; omega); omega)) (fun c35 => ?_) (fun c35 => ?_)
      · refine ph_iconst (pc := 43) C d_M_sensor_43 ?_
        refine ph_istore_n (pc := 44) C d_M_sensor_44 (by decide) rfl ?_
        refine ph_iload_n (pc := 45) C d_M_sensor_45 rfl ?_
        refine ph_if_ne (pc := 46) (tgt := 52) C d_M_sensor_46 (by decide) (by first | omega | (have := hV.s (show LC S 1 (S 0 0 1 - 1).toNat by simp only [LC]; omega); omega)) (fun c46 => ?_) (fun c46 => ?_)
        · exact absurd rfl c46
        · refine ph_bipush (pc := 49) C d_M_sensor_49 (by decide) ?_
          exact ph_iret (pc := 51) C d_M_sensor_51 hr hlk rfl (by decide) (by decide) ⟨rfl, rfl, ⟨hA, by rw [senS_f (fun q => by have q1 := q.1; have q2 := q.2.1; have q3 := q.2.2.1; have q4 := q.2.2.2; omega)]; exact hs⟩, (by rw [senv, if_pos (by omega)])⟩
      · refine ph_iconst (pc := 39) C d_M_sensor_39 ?_
        refine ph_goto (pc := 40) (tgt := 44) C d_M_sensor_40 (by decide) ?_
        refine ph_istore_n (pc := 44) C d_M_sensor_44 (by decide) rfl ?_
        refine ph_iload_n (pc := 45) C d_M_sensor_45 rfl ?_
        refine ph_if_ne (pc := 46) (tgt := 52) C d_M_sensor_46 (by decide) (by first | omega | (have := hV.s (show LC S 1 (S 0 0 1 - 1).toNat by simp only [LC]; omega); omega)) (fun c46 => ?_) (fun c46 => ?_)
        · refine ph_aload_n (pc := 52) C d_M_sensor_52 rfl ?_
          refine gt_M_104 (pc := 53) C d_M_sensor_53 hA.live hA.ob (z := S 0 0 3) hs.c7 ?_
          refine ph_if_le (pc := 56) (tgt := 62) C d_M_sensor_56 (by decide) (by first | omega | (have := hV.s (show LC S 1 (S 0 0 1 - 1).toNat by simp only [LC]; omega); omega)) (fun c56 => ?_) (fun c56 => ?_)
          · refine ph_aload_n (pc := 62) C d_M_sensor_62 rfl ?_
            refine gt_M_93 (pc := 63) C d_M_sensor_63 hA.live hA.ob (z := S 0 0 1) hs.c0 ?_
            refine ph_bipush (pc := 66) C d_M_sensor_66 (by decide) ?_
            refine ph_icmp_ne (pc := 68) (tgt := 74) C d_M_sensor_68 (by decide) (by first | omega | (have := hV.s (show LC S 1 (S 0 0 1 - 1).toNat by simp only [LC]; omega); omega)) (by first | omega | (have := hV.s (show LC S 1 (S 0 0 1 - 1).toNat by simp only [LC]; omega); omega)) (fun c68 => ?_) (fun c68 => ?_)
            · refine ph_aload_n (pc := 74) C d_M_sensor_74 rfl ?_
              refine gt_M_7 (pc := 75) C d_M_sensor_75 hA.live hA.ob (hA.rf (k := 1) rfl) ?_
              refine ph_aload_n (pc := 78) C d_M_sensor_78 rfl ?_
              refine gt_M_93 (pc := 79) C d_M_sensor_79 hA.live hA.ob (z := S 0 0 1) hs.c0 ?_
              refine ph_lload_n (pc := 82) C d_M_sensor_82 rfl ?_
              refine ph_last (pc := 83) (z := x) C d_M_sensor_83 (hA.ar (k := 1) rfl) rfl rfl rfl (S 0 0 1).toNat (by omega) (by omega) (by decide) ?_
              have e22 : ph_up τ 22 0 (S 0 0 1).toNat (x) 22 0 (S 0 0 1).toNat = x := ph_up_at _ _ _ _ _
              have hs : MS S (ph_up τ 22 0 (S 0 0 1).toNat (x)) := hs.p22 (by simp only [LC]; omega) _
              have hA : MA o L ad (ph_up τ 22 0 (S 0 0 1).toNat (x)) := hA.puta (k := 1) _
              generalize ph_up τ 22 0 (S 0 0 1).toNat (x) = τ at hA hs e22 ⊢
              refine ph_aload_n (pc := 84) C d_M_sensor_84 rfl ?_
              refine ph_dup (pc := 85) C d_M_sensor_85 rfl ?_
              refine gt_M_93 (pc := 86) C d_M_sensor_86 hA.live hA.ob (z := S 0 0 1) hs.c0 ?_
              refine ph_iconst (pc := 89) C d_M_sensor_89 ?_
              refine ph_iadd (pc := 90) C d_M_sensor_90 ?_
              refine pt_M_93 (pc := 91) C d_M_sensor_91 hA.live hA.ob ?_
              have hs : MS (addS S (svl x)) (ph_up τ 20 0 0 ((S 0 0 1) + (1))) := ms_addS hs (by omega) e22
              have hA : MA o L ad (ph_up τ 20 0 0 ((S 0 0 1) + (1))) := hA.putf (k := 0) _ rfl
              generalize ph_up τ 20 0 0 ((S 0 0 1) + (1)) = τ at hA hs ⊢
              refine ph_aload_n (pc := 94) C d_M_sensor_94 rfl ?_
              refine gt_M_93 (pc := 95) C d_M_sensor_95 hA.live hA.ob (z := (addS S (svl x)) 0 0 1) hs.c0 ?_
              refine ph_iconst (pc := 98) C d_M_sensor_98 ?_
              refine ph_isub (pc := 99) C d_M_sensor_99 ?_
              exact ph_iret (pc := 100) C d_M_sensor_100 hr hlk rfl (by decide) (by decide) ⟨rfl, rfl, ⟨hA, by rw [senS_t ⟨by omega, by omega, by omega, by omega⟩]; exact hs⟩, (by rw [addS_c, senv, if_neg (by omega), if_neg (by omega), if_neg (by omega), show S 0 0 1 + 1 - 1 = S 0 0 1 by omega])⟩
            · refine ph_bipush (pc := 71) C d_M_sensor_71 (by decide) ?_
              exact ph_iret (pc := 73) C d_M_sensor_73 hr hlk rfl (by decide) (by decide) ⟨rfl, rfl, ⟨hA, by rw [senS_f (fun q => by have q1 := q.1; have q2 := q.2.1; have q3 := q.2.2.1; have q4 := q.2.2.2; omega)]; exact hs⟩, (by rw [senv, if_neg (by omega), if_neg (by omega), if_pos (by omega)])⟩
          · refine ph_bipush (pc := 59) C d_M_sensor_59 (by decide) ?_
            exact ph_iret (pc := 61) C d_M_sensor_61 hr hlk rfl (by decide) (by decide) ⟨rfl, rfl, ⟨hA, by rw [senS_f (fun q => by have q1 := q.1; have q2 := q.2.1; have q3 := q.2.2.1; have q4 := q.2.2.2; omega)]; exact hs⟩, (by rw [senv, if_neg (by omega), if_pos (by omega)])⟩
        · exact absurd c46 (by decide)
    · refine ph_lconst (pc := 16) C d_M_sensor_16 0 (by decide) ?_
      refine ph_goto (pc := 17) (tgt := 31) C d_M_sensor_17 (by decide) ?_
      have hbe : bef S = 0 := by first | rw [bef, if_pos (by assumption)] | rw [bef, if_neg (by assumption)]
      refine ph_tl (y := bef S) hbe.symm ?_
      refine ph_ldc2 (pc := 31) C d_M_sensor_31 (100) (by decide) tw_487 ?_
      clear hbe
      refine ph_ladd (pc := 34) C d_M_sensor_34 ?_
      refine ph_l_lt (pc := 35) (tgt := 43) C d_M_sensor_35 d_M_sensor_36 (by decide) (by first | omega | (have := hV.s (show LC S 1 (S 0 0 1 - 1).toNat by simp only [LC]; omega); omega)) (by first | omega | (have := hV.s (show LC S 1 (S 0 0 1 - 1).toNat by simp only [LC]; omega); omega)) (fun c35 => ?_) (fun c35 => ?_)
      · refine ph_iconst (pc := 43) C d_M_sensor_43 ?_
        refine ph_istore_n (pc := 44) C d_M_sensor_44 (by decide) rfl ?_
        refine ph_iload_n (pc := 45) C d_M_sensor_45 rfl ?_
        refine ph_if_ne (pc := 46) (tgt := 52) C d_M_sensor_46 (by decide) (by first | omega | (have := hV.s (show LC S 1 (S 0 0 1 - 1).toNat by simp only [LC]; omega); omega)) (fun c46 => ?_) (fun c46 => ?_)
        · exact absurd rfl c46
        · refine ph_bipush (pc := 49) C d_M_sensor_49 (by decide) ?_
          exact ph_iret (pc := 51) C d_M_sensor_51 hr hlk rfl (by decide) (by decide) ⟨rfl, rfl, ⟨hA, by rw [senS_f (fun q => by have q1 := q.1; have q2 := q.2.1; have q3 := q.2.2.1; have q4 := q.2.2.2; omega)]; exact hs⟩, (by rw [senv, if_pos (by omega)])⟩
      · refine ph_iconst (pc := 39) C d_M_sensor_39 ?_
        refine ph_goto (pc := 40) (tgt := 44) C d_M_sensor_40 (by decide) ?_
        refine ph_istore_n (pc := 44) C d_M_sensor_44 (by decide) rfl ?_
        refine ph_iload_n (pc := 45) C d_M_sensor_45 rfl ?_
        refine ph_if_ne (pc := 46) (tgt := 52) C d_M_sensor_46 (by decide) (by first | omega | (have := hV.s (show LC S 1 (S 0 0 1 - 1).toNat by simp only [LC]; omega); omega)) (fun c46 => ?_) (fun c46 => ?_)
        · refine ph_aload_n (pc := 52) C d_M_sensor_52 rfl ?_
          refine gt_M_104 (pc := 53) C d_M_sensor_53 hA.live hA.ob (z := S 0 0 3) hs.c7 ?_
          refine ph_if_le (pc := 56) (tgt := 62) C d_M_sensor_56 (by decide) (by first | omega | (have := hV.s (show LC S 1 (S 0 0 1 - 1).toNat by simp only [LC]; omega); omega)) (fun c56 => ?_) (fun c56 => ?_)
          · refine ph_aload_n (pc := 62) C d_M_sensor_62 rfl ?_
            refine gt_M_93 (pc := 63) C d_M_sensor_63 hA.live hA.ob (z := S 0 0 1) hs.c0 ?_
            refine ph_bipush (pc := 66) C d_M_sensor_66 (by decide) ?_
            refine ph_icmp_ne (pc := 68) (tgt := 74) C d_M_sensor_68 (by decide) (by first | omega | (have := hV.s (show LC S 1 (S 0 0 1 - 1).toNat by simp only [LC]; omega); omega)) (by first | omega | (have := hV.s (show LC S 1 (S 0 0 1 - 1).toNat by simp only [LC]; omega); omega)) (fun c68 => ?_) (fun c68 => ?_)
            · refine ph_aload_n (pc := 74) C d_M_sensor_74 rfl ?_
              refine gt_M_7 (pc := 75) C d_M_sensor_75 hA.live hA.ob (hA.rf (k := 1) rfl) ?_
              refine ph_aload_n (pc := 78) C d_M_sensor_78 rfl ?_
              refine gt_M_93 (pc := 79) C d_M_sensor_79 hA.live hA.ob (z := S 0 0 1) hs.c0 ?_
              refine ph_lload_n (pc := 82) C d_M_sensor_82 rfl ?_
              refine ph_last (pc := 83) (z := x) C d_M_sensor_83 (hA.ar (k := 1) rfl) rfl rfl rfl (S 0 0 1).toNat (by omega) (by omega) (by decide) ?_
              have e22 : ph_up τ 22 0 (S 0 0 1).toNat (x) 22 0 (S 0 0 1).toNat = x := ph_up_at _ _ _ _ _
              have hs : MS S (ph_up τ 22 0 (S 0 0 1).toNat (x)) := hs.p22 (by simp only [LC]; omega) _
              have hA : MA o L ad (ph_up τ 22 0 (S 0 0 1).toNat (x)) := hA.puta (k := 1) _
              generalize ph_up τ 22 0 (S 0 0 1).toNat (x) = τ at hA hs e22 ⊢
              refine ph_aload_n (pc := 84) C d_M_sensor_84 rfl ?_
              refine ph_dup (pc := 85) C d_M_sensor_85 rfl ?_
              refine gt_M_93 (pc := 86) C d_M_sensor_86 hA.live hA.ob (z := S 0 0 1) hs.c0 ?_
              refine ph_iconst (pc := 89) C d_M_sensor_89 ?_
              refine ph_iadd (pc := 90) C d_M_sensor_90 ?_
              refine pt_M_93 (pc := 91) C d_M_sensor_91 hA.live hA.ob ?_
              have hs : MS (addS S (svl x)) (ph_up τ 20 0 0 ((S 0 0 1) + (1))) := ms_addS hs (by omega) e22
              have hA : MA o L ad (ph_up τ 20 0 0 ((S 0 0 1) + (1))) := hA.putf (k := 0) _ rfl
              generalize ph_up τ 20 0 0 ((S 0 0 1) + (1)) = τ at hA hs ⊢
              refine ph_aload_n (pc := 94) C d_M_sensor_94 rfl ?_
              refine gt_M_93 (pc := 95) C d_M_sensor_95 hA.live hA.ob (z := (addS S (svl x)) 0 0 1) hs.c0 ?_
              refine ph_iconst (pc := 98) C d_M_sensor_98 ?_
              refine ph_isub (pc := 99) C d_M_sensor_99 ?_
              exact ph_iret (pc := 100) C d_M_sensor_100 hr hlk rfl (by decide) (by decide) ⟨rfl, rfl, ⟨hA, by rw [senS_t ⟨by omega, by omega, by omega, by omega⟩]; exact hs⟩, (by rw [addS_c, senv, if_neg (by omega), if_neg (by omega), if_neg (by omega), show S 0 0 1 + 1 - 1 = S 0 0 1 by omega])⟩
            · refine ph_bipush (pc := 71) C d_M_sensor_71 (by decide) ?_
              exact ph_iret (pc := 73) C d_M_sensor_73 hr hlk rfl (by decide) (by decide) ⟨rfl, rfl, ⟨hA, by rw [senS_f (fun q => by have q1 := q.1; have q2 := q.2.1; have q3 := q.2.2.1; have q4 := q.2.2.2; omega)]; exact hs⟩, (by rw [senv, if_neg (by omega), if_neg (by omega), if_pos (by omega)])⟩
          · refine ph_bipush (pc := 59) C d_M_sensor_59 (by decide) ?_
            exact ph_iret (pc := 61) C d_M_sensor_61 hr hlk rfl (by decide) (by decide) ⟨rfl, rfl, ⟨hA, by rw [senS_f (fun q => by have q1 := q.1; have q2 := q.2.1; have q3 := q.2.2.1; have q4 := q.2.2.2; omega)]; exact hs⟩, (by rw [senv, if_neg (by omega), if_pos (by omega)])⟩
        · exact absurd c46 (by decide)
set_option maxHeartbeats 4000000 in
set_option maxRecDepth 100000 in
theorem c_M_item (l : Launch) (D : va_G) (dT : Nat → ClassId) (A : Nat → Prop) (KX : State → Prop) (L : Nat → Nat → Prop) (ad : Nat → Nat → Nat) (τ : ph_T) (S : ph_T) (o : Nat) (hA : MA o L ad τ) (hs : MS S τ) (hV : IV S) (x t : Int) (hx : ph_rl x) (ht : ph_rl t) : ph_M l y_M_item (.code y_M_item b_M_item 6 (some .int) :: TB) ({ frames := 1, cells := 0, slots := 0, locals := 25 } : Room) D CLs (TY dT) dT kd A KX [.ref (o), .long (ph_l (x)), .long (ph_l (t))] L ad τ (fun r L' ad' τ' => L' = L ∧ ad' = ad ∧ (MA o L ad τ' ∧ MS (itS S x t) τ') ∧ r = some (.int (ph_i (itv S x t)))) 0 0 := by
  refine ph_M.of (cc := b_M_item) (maxL := 6) (ret := (some .int)) (by decide) rfl (Nat.le_of_ble_eq_true rfl) ?_
  intro p e s m below meth c C0 hr hlk hnm
  have C := C0.sub
  refine ph_loc (l2 := [(0, .ref (o)), (1, .long (ph_l (x))), (3, .long (ph_l (t)))]) ⟨rfl, rfl, rfl, trivial⟩ ?_
  have hc := hV.c
  have hm := hs.ml.r
  have her0 := earliest_r hV
  refine ph_lload_n (pc := 0) C d_M_item_0 rfl ?_
  refine ph_ldc2 (pc := 1) C d_M_item_1 (50) (by decide) tw_492 ?_
  refine ph_ldc2 (pc := 4) C d_M_item_4 (1000) (by decide) tw_493 ?_
  refine ph_callS (pc := 7) (rest := []) C d_M_item_7 (c_M_isIn l D dT A KX L ad τ (x) (50) (1000) (by omega) (by omega) (by omega)) (cwS 3 C.hts (gdS tw_494 tw_495 tw_2 tw_496) rfl rfl rfl ⟨rfl, by decide, by decide, by decide⟩ ⟨by decide, by decide⟩) rfl rfl (Nat.le_of_ble_eq_true rfl) ⟨by decide, by decide⟩ ?_
  rintro r1 L1 ad1 τ1 ⟨g1, g2, g3, g4⟩; obtain rfl := g1.symm; obtain rfl := g2.symm; obtain rfl := g3.symm; subst g4
  refine ph_bif_eq (pc := 10) (tgt := 66) C d_M_item_10 (by decide) (fun c10 => ?_) (fun c10 => ?_)
  · refine ph_iconst (pc := 66) C d_M_item_66 ?_
    have her : ¬ (50 ≤ x ∧ x ≤ 1000 ∧ (S 0 0 11 ≤ t ∧ t ≤ 1000000000) ∧ earliest S ≤ t) := by
      have hex : earliest S = if S 0 0 3 = 0 then 0 else S 2 (S 0 0 3).toNat 1 + S 2 (S 0 0 3).toNat 0 + 30 := rfl
      rw [hex]
      split <;> omega
    refine ph_istore (pc := 67) C d_M_item_67 (by decide) rfl ?_
    refine ph_iload (pc := 69) C d_M_item_69 rfl ?_
    refine ph_if_ne (pc := 71) (tgt := 77) C d_M_item_71 (by decide) (by first | omega | (have := hV.i (show LC S 2 (S 0 0 3).toNat by simp only [LC]; omega); omega)) (fun c71 => ?_) (fun c71 => ?_)
    · exact absurd rfl c71
    · refine ph_bipush (pc := 74) C d_M_item_74 (by decide) ?_
      exact ph_iret (pc := 76) C d_M_item_76 hr hlk rfl (by decide) (by decide) ⟨rfl, rfl, ⟨hA, by rw [itS_f (fun q => by first | (have q1 := q.1; exact absurd q1 her) | exact absurd q.2.1.1 (by assumption) | exact absurd (by assumption) q.2.1.2 | (have q4 := q.2.2; omega))]; exact hs⟩, (by rw [itv, if_pos her])⟩
  · refine ph_lload_n (pc := 13) C d_M_item_13 rfl ?_
    refine ph_aload_n (pc := 14) C d_M_item_14 rfl ?_
    refine gt_M_115 (pc := 15) C d_M_item_15 hA.live hA.ob (z := S 0 0 11) hs.c30 ?_
    refine ph_ldc2 (pc := 18) C d_M_item_18 (1000000000) (by decide) tw_497 ?_
    refine ph_callS (pc := 21) (rest := []) C d_M_item_21 (c_M_isIn l D dT A KX L ad τ (t) (S 0 0 11) (1000000000) (by omega) (by omega) (by omega)) (cwS 3 C.hts (gdS tw_494 tw_495 tw_2 tw_496) rfl rfl rfl ⟨rfl, by decide, by decide, by decide⟩ ⟨by decide, by decide⟩) rfl rfl (Nat.le_of_ble_eq_true rfl) ⟨by decide, by decide⟩ ?_
    rintro r1 L1 ad1 τ1 ⟨g1, g2, g3, g4⟩; obtain rfl := g1.symm; obtain rfl := g2.symm; obtain rfl := g3.symm; subst g4
    refine ph_bif_eq (pc := 24) (tgt := 66) C d_M_item_24 (by decide) (fun c24 => ?_) (fun c24 => ?_)
    · refine ph_iconst (pc := 66) C d_M_item_66 ?_
      have her : ¬ (50 ≤ x ∧ x ≤ 1000 ∧ (S 0 0 11 ≤ t ∧ t ≤ 1000000000) ∧ earliest S ≤ t) := by
        have hex : earliest S = if S 0 0 3 = 0 then 0 else S 2 (S 0 0 3).toNat 1 + S 2 (S 0 0 3).toNat 0 + 30 := rfl
        rw [hex]
        split <;> omega
      refine ph_istore (pc := 67) C d_M_item_67 (by decide) rfl ?_
      refine ph_iload (pc := 69) C d_M_item_69 rfl ?_
      refine ph_if_ne (pc := 71) (tgt := 77) C d_M_item_71 (by decide) (by first | omega | (have := hV.i (show LC S 2 (S 0 0 3).toNat by simp only [LC]; omega); omega)) (fun c71 => ?_) (fun c71 => ?_)
      · exact absurd rfl c71
      · refine ph_bipush (pc := 74) C d_M_item_74 (by decide) ?_
        exact ph_iret (pc := 76) C d_M_item_76 hr hlk rfl (by decide) (by decide) ⟨rfl, rfl, ⟨hA, by rw [itS_f (fun q => by first | (have q1 := q.1; exact absurd q1 her) | exact absurd q.2.1.1 (by assumption) | exact absurd (by assumption) q.2.1.2 | (have q4 := q.2.2; omega))]; exact hs⟩, (by rw [itv, if_pos her])⟩
    · refine ph_aload_n (pc := 27) C d_M_item_27 rfl ?_
      refine gt_M_104 (pc := 28) C d_M_item_28 hA.live hA.ob (z := S 0 0 3) hs.c7 ?_
      refine ph_if_eq (pc := 31) (tgt := 62) C d_M_item_31 (by decide) (by first | omega | (have := hV.i (show LC S 2 (S 0 0 3).toNat by simp only [LC]; omega); omega)) (fun c31 => ?_) (fun c31 => ?_)
      · refine ph_iconst (pc := 62) C d_M_item_62 ?_
        refine ph_goto (pc := 63) (tgt := 67) C d_M_item_63 (by decide) ?_
        have her : earliest S ≤ t ∧ 50 ≤ x ∧ x ≤ 1000 ∧ S 0 0 11 ≤ t ∧ t ≤ 1000000000 := by
          have hex : earliest S = if S 0 0 3 = 0 then 0 else S 2 (S 0 0 3).toNat 1 + S 2 (S 0 0 3).toNat 0 + 30 := rfl
          rw [hex]
          split <;> omega
        refine ph_istore (pc := 67) C d_M_item_67 (by decide) rfl ?_
        refine ph_iload (pc := 69) C d_M_item_69 rfl ?_
        refine ph_if_ne (pc := 71) (tgt := 77) C d_M_item_71 (by decide) (by first | omega | (have := hV.i (show LC S 2 (S 0 0 3).toNat by simp only [LC]; omega); omega)) (fun c71 => ?_) (fun c71 => ?_)
        · refine ph_aload_n (pc := 77) C d_M_item_77 rfl ?_
          refine ph_callV (pc := 78) (rest := []) C d_M_item_78 (c_M_stands l D dT A KX L ad τ S o hA hs hV) (cwV 0 C.hts (gdV tw_499 tw_501 se_26 tw_2 tw_502) rfl rfl rfl ⟨rfl, by decide, by decide, by decide⟩ ⟨by decide, by decide⟩) hA.live hA.ob rfl rfl rfl rfl rfl (Nat.le_of_ble_eq_true rfl) ⟨by decide, by decide⟩ ?_
          rintro r1 L1 ad1 τ1 ⟨g1, g2, g3, g4⟩; obtain rfl := g1.symm; obtain rfl := g2.symm; obtain rfl := g3.symm; subst g4
          refine ph_bif_ne (pc := 81) (tgt := 91) C d_M_item_81 (by decide) (fun c81 => ?_) (fun c81 => ?_)
          · refine ph_bipush (pc := 91) C d_M_item_91 (by decide) ?_
            exact ph_iret (pc := 93) C d_M_item_93 hr hlk rfl (by decide) (by decide) ⟨rfl, rfl, ⟨hA, by rw [itS_f (fun q => by first | (have q1 := q.1; exact absurd q1 her) | exact absurd q.2.1.1 (by assumption) | exact absurd (by assumption) q.2.1.2 | (have q4 := q.2.2; omega))]; exact hs⟩, (by rw [itv, if_neg (not_not_intro ⟨by omega, by omega, ⟨by omega, by omega⟩, by omega⟩), if_neg (fun q => by first | exact absurd q.1 (by assumption) | exact absurd (by assumption) q.2)])⟩
          · refine ph_aload_n (pc := 84) C d_M_item_84 rfl ?_
            refine gt_M_93 (pc := 85) C d_M_item_85 hA.live hA.ob (z := S 0 0 1) hs.c0 ?_
            refine ph_if_ne (pc := 88) (tgt := 94) C d_M_item_88 (by decide) (by first | omega | (have := hV.i (show LC S 2 (S 0 0 3).toNat by simp only [LC]; omega); omega)) (fun c88 => ?_) (fun c88 => ?_)
            · refine ph_aload_n (pc := 94) C d_M_item_94 rfl ?_
              refine gt_M_104 (pc := 95) C d_M_item_95 hA.live hA.ob (z := S 0 0 3) hs.c7 ?_
              refine ph_bipush (pc := 98) C d_M_item_98 (by decide) ?_
              refine ph_icmp_ne (pc := 100) (tgt := 106) C d_M_item_100 (by decide) (by first | omega | (have := hV.i (show LC S 2 (S 0 0 3).toNat by simp only [LC]; omega); omega)) (by first | omega | (have := hV.i (show LC S 2 (S 0 0 3).toNat by simp only [LC]; omega); omega)) (fun c100 => ?_) (fun c100 => ?_)
              · refine ph_aload_n (pc := 106) C d_M_item_106 rfl ?_
                refine ph_dup (pc := 107) C d_M_item_107 rfl ?_
                refine gt_M_104 (pc := 108) C d_M_item_108 hA.live hA.ob (z := S 0 0 3) hs.c7 ?_
                refine ph_iconst (pc := 111) C d_M_item_111 ?_
                refine ph_iadd (pc := 112) C d_M_item_112 ?_
                refine pt_M_104 (pc := 113) C d_M_item_113 hA.live hA.ob ?_
                obtain ⟨σ, hw⟩ : ∃ σ : ph_T, σ = τ := ⟨_, rfl⟩
                rw [← hw] at hs
                obtain ⟨n, hn⟩ : ∃ n : Nat, (n : Int) = S 0 0 3 + 1 := ⟨(S 0 0 3 + 1).toNat, by omega⟩
                have hw : (ph_up σ 20 0 7 ((S 0 0 3) + (1))) = ph_up τ 20 0 7 ((S 0 0 3) + (1)) := by rw [hw]
                have hA : MA o L ad (ph_up τ 20 0 7 ((S 0 0 3) + (1))) := hA.putf (k := 7) _ rfl
                generalize ph_up τ 20 0 7 ((S 0 0 3) + (1)) = τ at hA hw ⊢
                refine ph_aload_n (pc := 116) C d_M_item_116 rfl ?_
                refine gt_M_30 (pc := 117) C d_M_item_117 hA.live hA.ob (hA.rf (k := 8) rfl) ?_
                refine ph_aload_n (pc := 120) C d_M_item_120 rfl ?_
                refine gt_M_104 (pc := 121) C d_M_item_121 hA.live hA.ob (z := S 0 0 3 + 1) (by rw [← hw]; simp [ph_up]) ?_
                refine ph_lload_n (pc := 124) C d_M_item_124 rfl ?_
                refine ph_last (pc := 125) (z := x) C d_M_item_125 (hA.ar (k := 8) rfl) rfl rfl rfl n hn.symm (by omega) (by decide) ?_
                have hw : (ph_up (ph_up σ 20 0 7 ((S 0 0 3) + (1))) 29 0 n (x)) = ph_up τ 29 0 n (x) := by rw [hw]
                have hA : MA o L ad (ph_up τ 29 0 n (x)) := hA.puta (k := 8) _
                generalize ph_up τ 29 0 n (x) = τ at hA hw ⊢
                refine ph_aload_n (pc := 126) C d_M_item_126 rfl ?_
                refine gt_M_33 (pc := 127) C d_M_item_127 hA.live hA.ob (hA.rf (k := 9) rfl) ?_
                refine ph_aload_n (pc := 130) C d_M_item_130 rfl ?_
                refine gt_M_104 (pc := 131) C d_M_item_131 hA.live hA.ob (z := S 0 0 3 + 1) (by rw [← hw]; simp [ph_up]) ?_
                refine ph_lload_n (pc := 134) C d_M_item_134 rfl ?_
                refine ph_last (pc := 135) (z := t) C d_M_item_135 (hA.ar (k := 9) rfl) rfl rfl rfl n hn.symm (by omega) (by decide) ?_
                have hw : (ph_up (ph_up (ph_up σ 20 0 7 ((S 0 0 3) + (1))) 29 0 n (x)) 30 0 n (t)) = ph_up τ 30 0 n (t) := by rw [hw]
                have hA : MA o L ad (ph_up τ 30 0 n (t)) := hA.puta (k := 9) _
                generalize ph_up τ 30 0 n (t) = τ at hA hw ⊢
                refine ph_aload_n (pc := 136) C d_M_item_136 rfl ?_
                refine gt_M_104 (pc := 137) C d_M_item_137 hA.live hA.ob (z := S 0 0 3 + 1) (by rw [← hw]; simp [ph_up]) ?_
                exact ph_iret (pc := 140) C d_M_item_140 hr hlk rfl (by decide) (by decide) ⟨rfl, rfl, ⟨hA, by rw [itS_t ⟨⟨by omega, by omega, ⟨by omega, by omega⟩, by omega⟩, ⟨Classical.not_not.mp (by assumption), by assumption⟩, by omega⟩, ← hw]; exact ms_addI hs (by omega) hn⟩, (by rw [itv, if_neg (not_not_intro ⟨by omega, by omega, ⟨by omega, by omega⟩, by omega⟩), if_pos ⟨Classical.not_not.mp (by assumption), by assumption⟩, if_neg (by omega)])⟩
              · refine ph_bipush (pc := 103) C d_M_item_103 (by decide) ?_
                exact ph_iret (pc := 105) C d_M_item_105 hr hlk rfl (by decide) (by decide) ⟨rfl, rfl, ⟨hA, by rw [itS_f (fun q => by first | (have q1 := q.1; exact absurd q1 her) | exact absurd q.2.1.1 (by assumption) | exact absurd (by assumption) q.2.1.2 | (have q4 := q.2.2; omega))]; exact hs⟩, (by rw [itv, if_neg (not_not_intro ⟨by omega, by omega, ⟨by omega, by omega⟩, by omega⟩), if_pos ⟨Classical.not_not.mp (by assumption), by assumption⟩, if_pos (by omega)])⟩
            · refine ph_bipush (pc := 91) C d_M_item_91 (by decide) ?_
              exact ph_iret (pc := 93) C d_M_item_93 hr hlk rfl (by decide) (by decide) ⟨rfl, rfl, ⟨hA, by rw [itS_f (fun q => by first | (have q1 := q.1; exact absurd q1 her) | exact absurd q.2.1.1 (by assumption) | exact absurd (by assumption) q.2.1.2 | (have q4 := q.2.2; omega))]; exact hs⟩, (by rw [itv, if_neg (not_not_intro ⟨by omega, by omega, ⟨by omega, by omega⟩, by omega⟩), if_neg (fun q => by first | exact absurd q.1 (by assumption) | exact absurd (by assumption) q.2)])⟩
        · exact absurd c71 (by decide)
      · refine ph_lload_n (pc := 34) C d_M_item_34 rfl ?_
        refine ph_aload_n (pc := 35) C d_M_item_35 rfl ?_
        refine gt_M_33 (pc := 36) C d_M_item_36 hA.live hA.ob (hA.rf (k := 9) rfl) ?_
        refine ph_aload_n (pc := 39) C d_M_item_39 rfl ?_
        refine gt_M_104 (pc := 40) C d_M_item_40 hA.live hA.ob (z := S 0 0 3) hs.c7 ?_
        refine ph_lald (pc := 43) C d_M_item_43 (hA.ar (k := 9) rfl) rfl rfl rfl (S 0 0 3).toNat (by omega) (by have := (show LC S 2 (S 0 0 3).toNat by simp only [LC]; omega); simp only [LC] at this; omega) (by decide) ?_
        refine ph_tl (y := S 2 (S 0 0 3).toNat 1) (hs.i30 (show LC S 2 (S 0 0 3).toNat by simp only [LC]; omega)) ?_
        refine ph_aload_n (pc := 44) C d_M_item_44 rfl ?_
        refine gt_M_30 (pc := 45) C d_M_item_45 hA.live hA.ob (hA.rf (k := 8) rfl) ?_
        refine ph_aload_n (pc := 48) C d_M_item_48 rfl ?_
        refine gt_M_104 (pc := 49) C d_M_item_49 hA.live hA.ob (z := S 0 0 3) hs.c7 ?_
        refine ph_lald (pc := 52) C d_M_item_52 (hA.ar (k := 8) rfl) rfl rfl rfl (S 0 0 3).toNat (by omega) (by have := (show LC S 2 (S 0 0 3).toNat by simp only [LC]; omega); simp only [LC] at this; omega) (by decide) ?_
        refine ph_tl (y := S 2 (S 0 0 3).toNat 0) (hs.i29 (show LC S 2 (S 0 0 3).toNat by simp only [LC]; omega)) ?_
        refine ph_ladd (pc := 53) C d_M_item_53 ?_
        refine ph_ldc2 (pc := 54) C d_M_item_54 (30) (by decide) tw_498 ?_
        refine ph_ladd (pc := 57) C d_M_item_57 ?_
        refine ph_l_lt (pc := 58) (tgt := 66) C d_M_item_58 d_M_item_59 (by decide) (by first | omega | (have := hV.i (show LC S 2 (S 0 0 3).toNat by simp only [LC]; omega); omega)) (by first | omega | (have := hV.i (show LC S 2 (S 0 0 3).toNat by simp only [LC]; omega); omega)) (fun c58 => ?_) (fun c58 => ?_)
        · refine ph_iconst (pc := 66) C d_M_item_66 ?_
          have her : ¬ (50 ≤ x ∧ x ≤ 1000 ∧ (S 0 0 11 ≤ t ∧ t ≤ 1000000000) ∧ earliest S ≤ t) := by
            have hex : earliest S = if S 0 0 3 = 0 then 0 else S 2 (S 0 0 3).toNat 1 + S 2 (S 0 0 3).toNat 0 + 30 := rfl
            rw [hex]
            split <;> omega
          refine ph_istore (pc := 67) C d_M_item_67 (by decide) rfl ?_
          refine ph_iload (pc := 69) C d_M_item_69 rfl ?_
          refine ph_if_ne (pc := 71) (tgt := 77) C d_M_item_71 (by decide) (by first | omega | (have := hV.i (show LC S 2 (S 0 0 3).toNat by simp only [LC]; omega); omega)) (fun c71 => ?_) (fun c71 => ?_)
          · exact absurd rfl c71
          · refine ph_bipush (pc := 74) C d_M_item_74 (by decide) ?_
            exact ph_iret (pc := 76) C d_M_item_76 hr hlk rfl (by decide) (by decide) ⟨rfl, rfl, ⟨hA, by rw [itS_f (fun q => by first | (have q1 := q.1; exact absurd q1 her) | exact absurd q.2.1.1 (by assumption) | exact absurd (by assumption) q.2.1.2 | (have q4 := q.2.2; omega))]; exact hs⟩, (by rw [itv, if_pos her])⟩
        · refine ph_iconst (pc := 62) C d_M_item_62 ?_
          refine ph_goto (pc := 63) (tgt := 67) C d_M_item_63 (by decide) ?_
          have her : earliest S ≤ t ∧ 50 ≤ x ∧ x ≤ 1000 ∧ S 0 0 11 ≤ t ∧ t ≤ 1000000000 := by
            have hex : earliest S = if S 0 0 3 = 0 then 0 else S 2 (S 0 0 3).toNat 1 + S 2 (S 0 0 3).toNat 0 + 30 := rfl
            rw [hex]
            split <;> omega
          refine ph_istore (pc := 67) C d_M_item_67 (by decide) rfl ?_
          refine ph_iload (pc := 69) C d_M_item_69 rfl ?_
          refine ph_if_ne (pc := 71) (tgt := 77) C d_M_item_71 (by decide) (by first | omega | (have := hV.i (show LC S 2 (S 0 0 3).toNat by simp only [LC]; omega); omega)) (fun c71 => ?_) (fun c71 => ?_)
          · refine ph_aload_n (pc := 77) C d_M_item_77 rfl ?_
            refine ph_callV (pc := 78) (rest := []) C d_M_item_78 (c_M_stands l D dT A KX L ad τ S o hA hs hV) (cwV 0 C.hts (gdV tw_499 tw_501 se_26 tw_2 tw_502) rfl rfl rfl ⟨rfl, by decide, by decide, by decide⟩ ⟨by decide, by decide⟩) hA.live hA.ob rfl rfl rfl rfl rfl (Nat.le_of_ble_eq_true rfl) ⟨by decide, by decide⟩ ?_
            rintro r1 L1 ad1 τ1 ⟨g1, g2, g3, g4⟩; obtain rfl := g1.symm; obtain rfl := g2.symm; obtain rfl := g3.symm; subst g4
            refine ph_bif_ne (pc := 81) (tgt := 91) C d_M_item_81 (by decide) (fun c81 => ?_) (fun c81 => ?_)
            · refine ph_bipush (pc := 91) C d_M_item_91 (by decide) ?_
              exact ph_iret (pc := 93) C d_M_item_93 hr hlk rfl (by decide) (by decide) ⟨rfl, rfl, ⟨hA, by rw [itS_f (fun q => by first | (have q1 := q.1; exact absurd q1 her) | exact absurd q.2.1.1 (by assumption) | exact absurd (by assumption) q.2.1.2 | (have q4 := q.2.2; omega))]; exact hs⟩, (by rw [itv, if_neg (not_not_intro ⟨by omega, by omega, ⟨by omega, by omega⟩, by omega⟩), if_neg (fun q => by first | exact absurd q.1 (by assumption) | exact absurd (by assumption) q.2)])⟩
            · refine ph_aload_n (pc := 84) C d_M_item_84 rfl ?_
              refine gt_M_93 (pc := 85) C d_M_item_85 hA.live hA.ob (z := S 0 0 1) hs.c0 ?_
              refine ph_if_ne (pc := 88) (tgt := 94) C d_M_item_88 (by decide) (by first | omega | (have := hV.i (show LC S 2 (S 0 0 3).toNat by simp only [LC]; omega); omega)) (fun c88 => ?_) (fun c88 => ?_)
              · refine ph_aload_n (pc := 94) C d_M_item_94 rfl ?_
                refine gt_M_104 (pc := 95) C d_M_item_95 hA.live hA.ob (z := S 0 0 3) hs.c7 ?_
                refine ph_bipush (pc := 98) C d_M_item_98 (by decide) ?_
                refine ph_icmp_ne (pc := 100) (tgt := 106) C d_M_item_100 (by decide) (by first | omega | (have := hV.i (show LC S 2 (S 0 0 3).toNat by simp only [LC]; omega); omega)) (by first | omega | (have := hV.i (show LC S 2 (S 0 0 3).toNat by simp only [LC]; omega); omega)) (fun c100 => ?_) (fun c100 => ?_)
                · refine ph_aload_n (pc := 106) C d_M_item_106 rfl ?_
                  refine ph_dup (pc := 107) C d_M_item_107 rfl ?_
                  refine gt_M_104 (pc := 108) C d_M_item_108 hA.live hA.ob (z := S 0 0 3) hs.c7 ?_
                  refine ph_iconst (pc := 111) C d_M_item_111 ?_
                  refine ph_iadd (pc := 112) C d_M_item_112 ?_
                  refine pt_M_104 (pc := 113) C d_M_item_113 hA.live hA.ob ?_
                  obtain ⟨σ, hw⟩ : ∃ σ : ph_T, σ = τ := ⟨_, rfl⟩
                  rw [← hw] at hs
                  obtain ⟨n, hn⟩ : ∃ n : Nat, (n : Int) = S 0 0 3 + 1 := ⟨(S 0 0 3 + 1).toNat, by omega⟩
                  have hw : (ph_up σ 20 0 7 ((S 0 0 3) + (1))) = ph_up τ 20 0 7 ((S 0 0 3) + (1)) := by rw [hw]
                  have hA : MA o L ad (ph_up τ 20 0 7 ((S 0 0 3) + (1))) := hA.putf (k := 7) _ rfl
                  generalize ph_up τ 20 0 7 ((S 0 0 3) + (1)) = τ at hA hw ⊢
                  refine ph_aload_n (pc := 116) C d_M_item_116 rfl ?_
                  refine gt_M_30 (pc := 117) C d_M_item_117 hA.live hA.ob (hA.rf (k := 8) rfl) ?_
                  refine ph_aload_n (pc := 120) C d_M_item_120 rfl ?_
                  refine gt_M_104 (pc := 121) C d_M_item_121 hA.live hA.ob (z := S 0 0 3 + 1) (by rw [← hw]; simp [ph_up]) ?_
                  refine ph_lload_n (pc := 124) C d_M_item_124 rfl ?_
                  refine ph_last (pc := 125) (z := x) C d_M_item_125 (hA.ar (k := 8) rfl) rfl rfl rfl n hn.symm (by omega) (by decide) ?_
                  have hw : (ph_up (ph_up σ 20 0 7 ((S 0 0 3) + (1))) 29 0 n (x)) = ph_up τ 29 0 n (x) := by rw [hw]
                  have hA : MA o L ad (ph_up τ 29 0 n (x)) := hA.puta (k := 8) _
                  generalize ph_up τ 29 0 n (x) = τ at hA hw ⊢
                  refine ph_aload_n (pc := 126) C d_M_item_126 rfl ?_
                  refine gt_M_33 (pc := 127) C d_M_item_127 hA.live hA.ob (hA.rf (k := 9) rfl) ?_
                  refine ph_aload_n (pc := 130) C d_M_item_130 rfl ?_
                  refine gt_M_104 (pc := 131) C d_M_item_131 hA.live hA.ob (z := S 0 0 3 + 1) (by rw [← hw]; simp [ph_up]) ?_
                  refine ph_lload_n (pc := 134) C d_M_item_134 rfl ?_
                  refine ph_last (pc := 135) (z := t) C d_M_item_135 (hA.ar (k := 9) rfl) rfl rfl rfl n hn.symm (by omega) (by decide) ?_
                  have hw : (ph_up (ph_up (ph_up σ 20 0 7 ((S 0 0 3) + (1))) 29 0 n (x)) 30 0 n (t)) = ph_up τ 30 0 n (t) := by rw [hw]
                  have hA : MA o L ad (ph_up τ 30 0 n (t)) := hA.puta (k := 9) _
                  generalize ph_up τ 30 0 n (t) = τ at hA hw ⊢
                  refine ph_aload_n (pc := 136) C d_M_item_136 rfl ?_
                  refine gt_M_104 (pc := 137) C d_M_item_137 hA.live hA.ob (z := S 0 0 3 + 1) (by rw [← hw]; simp [ph_up]) ?_
                  exact ph_iret (pc := 140) C d_M_item_140 hr hlk rfl (by decide) (by decide) ⟨rfl, rfl, ⟨hA, by rw [itS_t ⟨⟨by omega, by omega, ⟨by omega, by omega⟩, by omega⟩, ⟨Classical.not_not.mp (by assumption), by assumption⟩, by omega⟩, ← hw]; exact ms_addI hs (by omega) hn⟩, (by rw [itv, if_neg (not_not_intro ⟨by omega, by omega, ⟨by omega, by omega⟩, by omega⟩), if_pos ⟨Classical.not_not.mp (by assumption), by assumption⟩, if_neg (by omega)])⟩
                · refine ph_bipush (pc := 103) C d_M_item_103 (by decide) ?_
                  exact ph_iret (pc := 105) C d_M_item_105 hr hlk rfl (by decide) (by decide) ⟨rfl, rfl, ⟨hA, by rw [itS_f (fun q => by first | (have q1 := q.1; exact absurd q1 her) | exact absurd q.2.1.1 (by assumption) | exact absurd (by assumption) q.2.1.2 | (have q4 := q.2.2; omega))]; exact hs⟩, (by rw [itv, if_neg (not_not_intro ⟨by omega, by omega, ⟨by omega, by omega⟩, by omega⟩), if_pos ⟨Classical.not_not.mp (by assumption), by assumption⟩, if_pos (by omega)])⟩
              · refine ph_bipush (pc := 91) C d_M_item_91 (by decide) ?_
                exact ph_iret (pc := 93) C d_M_item_93 hr hlk rfl (by decide) (by decide) ⟨rfl, rfl, ⟨hA, by rw [itS_f (fun q => by first | (have q1 := q.1; exact absurd q1 her) | exact absurd q.2.1.1 (by assumption) | exact absurd (by assumption) q.2.1.2 | (have q4 := q.2.2; omega))]; exact hs⟩, (by rw [itv, if_neg (not_not_intro ⟨by omega, by omega, ⟨by omega, by omega⟩, by omega⟩), if_neg (fun q => by first | exact absurd q.1 (by assumption) | exact absurd (by assumption) q.2)])⟩
          · exact absurd c71 (by decide)
set_option maxHeartbeats 4000000 in
set_option maxRecDepth 100000 in
theorem c_M_rule (l : Launch) (D : va_G) (dT : Nat → ClassId) (A : Nat → Prop) (KX : State → Prop) (L : Nat → Nat → Prop) (ad : Nat → Nat → Nat) (τ : ph_T) (S : ph_T) (o : Nat) (hA : MA o L ad τ) (hs : MS S τ) (hV : IV S) (x y t : Int) (hx : ph_ri x) (hy : ph_ri y) (ht : t = 0 ∨ t = 1) : ph_M l y_M_rule (.code y_M_rule b_M_rule 5 (some .int) :: TB) ({ frames := 1, cells := 0, slots := 0, locals := 25 } : Room) D CLs (TY dT) dT kd A KX [.ref (o), .int (ph_i (x)), .int (ph_i (y)), .int (ph_i (t))] L ad τ (fun r L' ad' τ' => L' = L ∧ ad' = ad ∧ (MA o L ad τ' ∧ MS (ruleS S x y t) τ') ∧ r = some (.int (ph_i (rulev S x y)))) 0 0 := by
  refine ph_M.of (cc := b_M_rule) (maxL := 5) (ret := (some .int)) (by decide) rfl (Nat.le_of_ble_eq_true rfl) ?_
  intro p e s m below meth c C0 hr hlk hnm
  have C := C0.sub
  refine ph_loc (l2 := [(0, .ref (o)), (1, .int (ph_i (x))), (2, .int (ph_i (y))), (3, .int (ph_i (t)))]) ⟨rfl, rfl, rfl, rfl, trivial⟩ ?_
  have hc := hV.c
  have hm := hs.ml.r
  refine ph_iload_n (pc := 0) C d_M_rule_0 rfl ?_
  refine ph_i2l (pc := 1) C d_M_rule_1 (by omega) ?_
  refine ph_lconst (pc := 2) C d_M_rule_2 1 (by decide) ?_
  refine ph_ldc2 (pc := 3) C d_M_rule_3 (6) (by decide) tw_585 ?_
  refine ph_callS (pc := 6) (rest := []) C d_M_rule_6 (c_M_isIn l D dT A KX L ad τ (x) (1) (6) (by omega) (by omega) (by omega)) (cwS 3 C.hts (gdS tw_494 tw_495 tw_2 tw_496) rfl rfl rfl ⟨rfl, by decide, by decide, by decide⟩ ⟨by decide, by decide⟩) rfl rfl (Nat.le_of_ble_eq_true rfl) ⟨by decide, by decide⟩ ?_
  rintro r1 L1 ad1 τ1 ⟨g1, g2, g3, g4⟩; obtain rfl := g1.symm; obtain rfl := g2.symm; obtain rfl := g3.symm; subst g4
  refine ph_bif_eq (pc := 9) (tgt := 22) C d_M_rule_9 (by decide) (fun c9 => ?_) (fun c9 => ?_)
  · refine ph_bipush (pc := 22) C d_M_rule_22 (by decide) ?_
    exact ph_iret (pc := 24) C d_M_rule_24 hr hlk rfl (by decide) (by decide) ⟨rfl, rfl, ⟨hA, (by rw [ruleS_f (fun q => by have q1 := q.1; have q2 := q.2; omega)]; exact hs)⟩, (by unfold rulev; rw [if_neg (fun q => by have q1 := q.1; have q2 := q.2; omega)])⟩
  · refine ph_iload_n (pc := 12) C d_M_rule_12 rfl ?_
    refine ph_i2l (pc := 13) C d_M_rule_13 (by omega) ?_
    refine ph_lconst (pc := 14) C d_M_rule_14 0 (by decide) ?_
    refine ph_lconst (pc := 15) C d_M_rule_15 1 (by decide) ?_
    refine ph_callS (pc := 16) (rest := []) C d_M_rule_16 (c_M_isIn l D dT A KX L ad τ (y) (0) (1) (by omega) (by omega) (by omega)) (cwS 3 C.hts (gdS tw_494 tw_495 tw_2 tw_496) rfl rfl rfl ⟨rfl, by decide, by decide, by decide⟩ ⟨by decide, by decide⟩) rfl rfl (Nat.le_of_ble_eq_true rfl) ⟨by decide, by decide⟩ ?_
    rintro r1 L1 ad1 τ1 ⟨g1, g2, g3, g4⟩; obtain rfl := g1.symm; obtain rfl := g2.symm; obtain rfl := g3.symm; subst g4
    refine ph_bif_ne (pc := 19) (tgt := 25) C d_M_rule_19 (by decide) (fun c19 => ?_) (fun c19 => ?_)
    · refine ph_aload_n (pc := 25) C d_M_rule_25 rfl ?_
      refine gt_M_78 (pc := 26) C d_M_rule_26 hA.live hA.ob (hA.rf (k := 26) rfl) ?_
      refine ph_iload_n (pc := 29) C d_M_rule_29 rfl ?_
      refine ph_zald (pc := 30) C d_M_rule_30 (hA.ar (k := 26) rfl) rfl rfl rfl x.toNat (by omega) (by omega) (by decide) ?_
      refine ph_ti (y := S 7 0 x.toNat) (hs.r47 (by omega)) ?_
      refine ph_if_eq (pc := 31) (tgt := 38) C d_M_rule_31 (by decide) (by first | omega | (have := hV.r (k := x.toNat) (by omega); omega)) (fun c31 => ?_) (fun c31 => ?_)
      · refine ph_iconst (pc := 38) C d_M_rule_38 ?_
        refine ph_istore (pc := 39) C d_M_rule_39 (by decide) rfl ?_
        refine ph_aload_n (pc := 41) C d_M_rule_41 rfl ?_
        refine gt_M_78 (pc := 42) C d_M_rule_42 hA.live hA.ob (hA.rf (k := 26) rfl) ?_
        refine ph_iload_n (pc := 45) C d_M_rule_45 rfl ?_
        refine ph_iload_n (pc := 46) C d_M_rule_46 rfl ?_
        refine ph_iconst (pc := 47) C d_M_rule_47 ?_
        refine ph_icmp_ne (pc := 48) (tgt := 55) C d_M_rule_48 (by decide) (by first | omega | (have := hV.r (k := x.toNat) (by omega); omega)) (by first | omega | (have := hV.r (k := x.toNat) (by omega); omega)) (fun c48 => ?_) (fun c48 => ?_)
        · refine ph_iconst (pc := 55) C d_M_rule_55 ?_
          refine ph_zast (pc := 56) (z := 0) C d_M_rule_56 (by omega) (hA.ar (k := 26) rfl) rfl rfl rfl x.toNat (by omega) (by omega) (by decide) ?_
          have hs : MS (ph_up S 7 0 x.toNat (0)) (ph_up τ 47 0 x.toNat (0)) := hs.r47p _
          have hA : MA o L ad (ph_up τ 47 0 x.toNat (0)) := hA.puta (k := 26) (0)
          generalize ph_up τ 47 0 x.toNat (0) = τ at hA hs ⊢
          refine ph_aload_n (pc := 57) C d_M_rule_57 rfl ?_
          refine gt_M_81 (pc := 58) C d_M_rule_58 hA.live hA.ob (hA.rf (k := 27) rfl) ?_
          refine ph_iload_n (pc := 61) C d_M_rule_61 rfl ?_
          refine ph_iload_n (pc := 62) C d_M_rule_62 rfl ?_
          refine ph_zast (pc := 63) (z := t) C d_M_rule_63 (by omega) (hA.ar (k := 27) rfl) rfl rfl rfl x.toNat (by omega) (by omega) (by decide) ?_
          have hs : MS (ph_up (ph_up S 7 0 x.toNat (0)) 8 0 x.toNat (t)) (ph_up τ 48 0 x.toNat (t)) := hs.r48p _
          have hA : MA o L ad (ph_up τ 48 0 x.toNat (t)) := hA.puta (k := 27) (t)
          generalize ph_up τ 48 0 x.toNat (t) = τ at hA hs ⊢
          refine ph_iload (pc := 64) C d_M_rule_64 rfl ?_
          exact ph_iret (pc := 66) C d_M_rule_66 hr hlk rfl (by decide) (by decide) ⟨rfl, rfl, ⟨hA, (by rw [ruleS_t ⟨by omega, by omega, by omega⟩]; first | (rw [if_pos (by assumption)]; exact hs) | (rw [if_neg (by assumption)]; exact hs))⟩, (by unfold rulev; rw [if_pos ⟨by omega, by omega, by omega⟩]; first | rw [if_pos (by assumption)] | rw [if_neg (by assumption)])⟩
        · refine ph_iconst (pc := 51) C d_M_rule_51 ?_
          refine ph_goto (pc := 52) (tgt := 56) C d_M_rule_52 (by decide) ?_
          refine ph_zast (pc := 56) (z := 1) C d_M_rule_56 (by omega) (hA.ar (k := 26) rfl) rfl rfl rfl x.toNat (by omega) (by omega) (by decide) ?_
          have hs : MS (ph_up S 7 0 x.toNat (1)) (ph_up τ 47 0 x.toNat (1)) := hs.r47p _
          have hA : MA o L ad (ph_up τ 47 0 x.toNat (1)) := hA.puta (k := 26) (1)
          generalize ph_up τ 47 0 x.toNat (1) = τ at hA hs ⊢
          refine ph_aload_n (pc := 57) C d_M_rule_57 rfl ?_
          refine gt_M_81 (pc := 58) C d_M_rule_58 hA.live hA.ob (hA.rf (k := 27) rfl) ?_
          refine ph_iload_n (pc := 61) C d_M_rule_61 rfl ?_
          refine ph_iload_n (pc := 62) C d_M_rule_62 rfl ?_
          refine ph_zast (pc := 63) (z := t) C d_M_rule_63 (by omega) (hA.ar (k := 27) rfl) rfl rfl rfl x.toNat (by omega) (by omega) (by decide) ?_
          have hs : MS (ph_up (ph_up S 7 0 x.toNat (1)) 8 0 x.toNat (t)) (ph_up τ 48 0 x.toNat (t)) := hs.r48p _
          have hA : MA o L ad (ph_up τ 48 0 x.toNat (t)) := hA.puta (k := 27) (t)
          generalize ph_up τ 48 0 x.toNat (t) = τ at hA hs ⊢
          refine ph_iload (pc := 64) C d_M_rule_64 rfl ?_
          exact ph_iret (pc := 66) C d_M_rule_66 hr hlk rfl (by decide) (by decide) ⟨rfl, rfl, ⟨hA, (by rw [ruleS_t ⟨by omega, by omega, by omega⟩]; first | (rw [if_pos (by assumption)]; exact hs) | (rw [if_neg (by assumption)]; exact hs))⟩, (by unfold rulev; rw [if_pos ⟨by omega, by omega, by omega⟩]; first | rw [if_pos (by assumption)] | rw [if_neg (by assumption)])⟩
      · refine ph_iconst (pc := 34) C d_M_rule_34 ?_
        refine ph_goto (pc := 35) (tgt := 39) C d_M_rule_35 (by decide) ?_
        refine ph_istore (pc := 39) C d_M_rule_39 (by decide) rfl ?_
        refine ph_aload_n (pc := 41) C d_M_rule_41 rfl ?_
        refine gt_M_78 (pc := 42) C d_M_rule_42 hA.live hA.ob (hA.rf (k := 26) rfl) ?_
        refine ph_iload_n (pc := 45) C d_M_rule_45 rfl ?_
        refine ph_iload_n (pc := 46) C d_M_rule_46 rfl ?_
        refine ph_iconst (pc := 47) C d_M_rule_47 ?_
        refine ph_icmp_ne (pc := 48) (tgt := 55) C d_M_rule_48 (by decide) (by first | omega | (have := hV.r (k := x.toNat) (by omega); omega)) (by first | omega | (have := hV.r (k := x.toNat) (by omega); omega)) (fun c48 => ?_) (fun c48 => ?_)
        · refine ph_iconst (pc := 55) C d_M_rule_55 ?_
          refine ph_zast (pc := 56) (z := 0) C d_M_rule_56 (by omega) (hA.ar (k := 26) rfl) rfl rfl rfl x.toNat (by omega) (by omega) (by decide) ?_
          have hs : MS (ph_up S 7 0 x.toNat (0)) (ph_up τ 47 0 x.toNat (0)) := hs.r47p _
          have hA : MA o L ad (ph_up τ 47 0 x.toNat (0)) := hA.puta (k := 26) (0)
          generalize ph_up τ 47 0 x.toNat (0) = τ at hA hs ⊢
          refine ph_aload_n (pc := 57) C d_M_rule_57 rfl ?_
          refine gt_M_81 (pc := 58) C d_M_rule_58 hA.live hA.ob (hA.rf (k := 27) rfl) ?_
          refine ph_iload_n (pc := 61) C d_M_rule_61 rfl ?_
          refine ph_iload_n (pc := 62) C d_M_rule_62 rfl ?_
          refine ph_zast (pc := 63) (z := t) C d_M_rule_63 (by omega) (hA.ar (k := 27) rfl) rfl rfl rfl x.toNat (by omega) (by omega) (by decide) ?_
          have hs : MS (ph_up (ph_up S 7 0 x.toNat (0)) 8 0 x.toNat (t)) (ph_up τ 48 0 x.toNat (t)) := hs.r48p _
          have hA : MA o L ad (ph_up τ 48 0 x.toNat (t)) := hA.puta (k := 27) (t)
          generalize ph_up τ 48 0 x.toNat (t) = τ at hA hs ⊢
          refine ph_iload (pc := 64) C d_M_rule_64 rfl ?_
          exact ph_iret (pc := 66) C d_M_rule_66 hr hlk rfl (by decide) (by decide) ⟨rfl, rfl, ⟨hA, (by rw [ruleS_t ⟨by omega, by omega, by omega⟩]; first | (rw [if_pos (by assumption)]; exact hs) | (rw [if_neg (by assumption)]; exact hs))⟩, (by unfold rulev; rw [if_pos ⟨by omega, by omega, by omega⟩]; first | rw [if_pos (by assumption)] | rw [if_neg (by assumption)])⟩
        · refine ph_iconst (pc := 51) C d_M_rule_51 ?_
          refine ph_goto (pc := 52) (tgt := 56) C d_M_rule_52 (by decide) ?_
          refine ph_zast (pc := 56) (z := 1) C d_M_rule_56 (by omega) (hA.ar (k := 26) rfl) rfl rfl rfl x.toNat (by omega) (by omega) (by decide) ?_
          have hs : MS (ph_up S 7 0 x.toNat (1)) (ph_up τ 47 0 x.toNat (1)) := hs.r47p _
          have hA : MA o L ad (ph_up τ 47 0 x.toNat (1)) := hA.puta (k := 26) (1)
          generalize ph_up τ 47 0 x.toNat (1) = τ at hA hs ⊢
          refine ph_aload_n (pc := 57) C d_M_rule_57 rfl ?_
          refine gt_M_81 (pc := 58) C d_M_rule_58 hA.live hA.ob (hA.rf (k := 27) rfl) ?_
          refine ph_iload_n (pc := 61) C d_M_rule_61 rfl ?_
          refine ph_iload_n (pc := 62) C d_M_rule_62 rfl ?_
          refine ph_zast (pc := 63) (z := t) C d_M_rule_63 (by omega) (hA.ar (k := 27) rfl) rfl rfl rfl x.toNat (by omega) (by omega) (by decide) ?_
          have hs : MS (ph_up (ph_up S 7 0 x.toNat (1)) 8 0 x.toNat (t)) (ph_up τ 48 0 x.toNat (t)) := hs.r48p _
          have hA : MA o L ad (ph_up τ 48 0 x.toNat (t)) := hA.puta (k := 27) (t)
          generalize ph_up τ 48 0 x.toNat (t) = τ at hA hs ⊢
          refine ph_iload (pc := 64) C d_M_rule_64 rfl ?_
          exact ph_iret (pc := 66) C d_M_rule_66 hr hlk rfl (by decide) (by decide) ⟨rfl, rfl, ⟨hA, (by rw [ruleS_t ⟨by omega, by omega, by omega⟩]; first | (rw [if_pos (by assumption)]; exact hs) | (rw [if_neg (by assumption)]; exact hs))⟩, (by unfold rulev; rw [if_pos ⟨by omega, by omega, by omega⟩]; first | rw [if_pos (by assumption)] | rw [if_neg (by assumption)])⟩
    · refine ph_bipush (pc := 22) C d_M_rule_22 (by decide) ?_
      exact ph_iret (pc := 24) C d_M_rule_24 hr hlk rfl (by decide) (by decide) ⟨rfl, rfl, ⟨hA, (by rw [ruleS_f (fun q => by have q1 := q.1; have q2 := q.2; omega)]; exact hs)⟩, (by unfold rulev; rw [if_neg (fun q => by have q1 := q.1; have q2 := q.2; omega)])⟩
set_option maxHeartbeats 4000000 in
set_option maxRecDepth 100000 in
theorem c_M_alarm (l : Launch) (D : va_G) (dT : Nat → ClassId) (A : Nat → Prop) (KX : State → Prop) (L : Nat → Nat → Prop) (ad : Nat → Nat → Nat) (τ : ph_T) (S : ph_T) (o : Nat) (hA : MA o L ad τ) (hs : MS S τ) (hV : IV S) (x y : Int) (hx : ph_ri x) (hy : ph_ri y) : ph_M l y_M_alarm (.code y_M_alarm b_M_alarm 6 (some .int) :: TB) ({ frames := 1, cells := 0, slots := 0, locals := 25 } : Room) D CLs (TY dT) dT kd A KX [.ref (o), .int (ph_i (x)), .int (ph_i (y))] L ad τ (fun r L' ad' τ' => L' = L ∧ ad' = ad ∧ τ' = τ ∧ r = some (.int (ph_i (alarmv S x y)))) 0 0 := by
  refine ph_M.of (cc := b_M_alarm) (maxL := 6) (ret := (some .int)) (by decide) rfl (Nat.le_of_ble_eq_true rfl) ?_
  intro p e s m below meth c C0 hr hlk hnm
  have C := C0.sub
  refine ph_loc (l2 := [(0, .ref (o)), (1, .int (ph_i (x))), (2, .int (ph_i (y)))]) ⟨rfl, rfl, rfl, trivial⟩ ?_
  have hc := hV.c
  have hm := hs.ml.r
  have outer : ∀ (r : Nat) (nn : Int), r ≤ 9 → ¬ (y < 0 ∨ 4 < y) → 0 ≤ nn → nn + 40 * (r : Int) ≤ 400 → foF S r (x - nn) = foF S 9 x → ph_W p l e ({ frames := 1, cells := 0, slots := 0, locals := 25 } : Room) s m [.ref (o), .int (ph_i (x)), .int (ph_i (y))].toArray below meth c D CLs dT kd A 6 (MQ below (ph_Q D CLs dT kd A (fun r L' ad' τ' => L' = L ∧ ad' = ad ∧ τ' = τ ∧ r = some (.int (ph_i (alarmv S x y))))) [.ref (o), .int (ph_i (x)), .int (ph_i (y))].toArray s 0 0 A) L ad τ 0 0 21 (ph_mk [(0, .ref (o)), (1, .int (ph_i (x))), (2, .int (ph_i (y))), (3, .int (ph_i (nn))), (4, .int (ph_i (((r : Nat) : Int))))]) [] := by
    intro r
    induction r with
    | zero =>
      intro nn h0 hy4 h1 h2 h3
      refine ph_iload (pc := 21) C d_M_alarm_21 rfl ?_
      refine ph_if_le (pc := 23) (tgt := 137) C d_M_alarm_23 (by decide) (by omega) (fun c23 => ?_) (fun c23 => ?_)
      · refine ph_iconst (pc := 137) C d_M_alarm_137 ?_
        exact ph_iret (pc := 138) C d_M_alarm_138 hr hlk rfl (by decide) (by decide) ⟨rfl, rfl, rfl, (by rw [alarm_v hy4, ← h3]; rfl)⟩
      · exfalso; omega
    | succ r ihr =>
      intro nn h0 hy4 h1 h2 h3
      have inner : ∀ (n f : Nat) (nn : Int), 1 ≤ f → S 0 0 5 = (f : Int) + n - 1 → 0 ≤ nn → nn + n + 40 * (r : Int) ≤ 400 → (if (fgF S ((r + 1 : Nat) : Int) n f (x - nn)).1 = 0 then foF S r (fgF S ((r + 1 : Nat) : Int) n f (x - nn)).2 else (fgF S ((r + 1 : Nat) : Int) n f (x - nn)).1) = foF S 9 x → ph_W p l e ({ frames := 1, cells := 0, slots := 0, locals := 25 } : Room) s m [.ref (o), .int (ph_i (x)), .int (ph_i (y))].toArray below meth c D CLs dT kd A 6 (MQ below (ph_Q D CLs dT kd A (fun r L' ad' τ' => L' = L ∧ ad' = ad ∧ τ' = τ ∧ r = some (.int (ph_i (alarmv S x y))))) [.ref (o), .int (ph_i (x)), .int (ph_i (y))].toArray s 0 0 A) L ad τ 0 0 29 (ph_mk [(0, .ref (o)), (1, .int (ph_i (x))), (2, .int (ph_i (y))), (3, .int (ph_i (nn))), (4, .int (ph_i (((r + 1 : Nat) : Int)))), (5, .int (ph_i ((f : Int))))]) [] := by
        intro n
        induction n with
        | zero =>
          intro f nn h1 h2 h3 h4 h5
          refine ph_iload (pc := 29) C d_M_alarm_29 rfl ?_
          refine ph_aload_n (pc := 31) C d_M_alarm_31 rfl ?_
          refine gt_M_97 (pc := 32) C d_M_alarm_32 hA.live hA.ob (z := S 0 0 5) hs.c16 ?_
          refine ph_icmp_gt (pc := 35) (tgt := 131) C d_M_alarm_35 (by decide) (by first | omega | (have := rankv_r (S 3 f 3) (S 3 f 0); unfold rnk; omega) | (have := hV.f (show LC S 3 f by simp only [LC]; omega); omega)) (by first | omega | (have := rankv_r (S 3 f 3) (S 3 f 0); unfold rnk; omega) | (have := hV.f (show LC S 3 f by simp only [LC]; omega); omega)) (fun c35 => ?_) (fun c35 => ?_)
          · refine ph_iinc (pc := 131) C d_M_alarm_131 rfl rfl ?_
            refine ph_goto (pc := 134) (tgt := 21) C d_M_alarm_134 (by decide) ?_
            refine ph_loc (l2 := [(0, .ref (o)), (1, .int (ph_i (x))), (2, .int (ph_i (y))), (3, .int (ph_i (nn))), (4, .int (ph_i (((r : Nat) : Int))))]) ⟨rfl, rfl, rfl, rfl, (congrArg (fun z => some (Value.int (ph_i z))) (show (((r + 1 : Nat) : Int) + (-1) : Int) = ((r : Nat) : Int) by omega)), trivial⟩ ?_
            exact ihr nn (by omega) hy4 (by omega) (by omega) (by rw [← h5]; rfl)
          · exfalso; omega
        | succ n ih =>
          intro f nn h1 h2 h3 h4 h5
          refine ph_iload (pc := 29) C d_M_alarm_29 rfl ?_
          refine ph_aload_n (pc := 31) C d_M_alarm_31 rfl ?_
          refine gt_M_97 (pc := 32) C d_M_alarm_32 hA.live hA.ob (z := S 0 0 5) hs.c16 ?_
          refine ph_icmp_gt (pc := 35) (tgt := 131) C d_M_alarm_35 (by decide) (by first | omega | (have := rankv_r (S 3 f 3) (S 3 f 0); unfold rnk; omega) | (have := hV.f (show LC S 3 f by simp only [LC]; omega); omega)) (by first | omega | (have := rankv_r (S 3 f 3) (S 3 f 0); unfold rnk; omega) | (have := hV.f (show LC S 3 f by simp only [LC]; omega); omega)) (fun c35 => ?_) (fun c35 => ?_)
          · exfalso; omega
          · refine ph_aload_n (pc := 38) C d_M_alarm_38 rfl ?_
            refine gt_M_72 (pc := 39) C d_M_alarm_39 hA.live hA.ob (hA.rf (k := 24) rfl) ?_
            refine ph_iload (pc := 42) C d_M_alarm_42 rfl ?_
            refine ph_zald (pc := 44) C d_M_alarm_44 (hA.ar (k := 24) rfl) rfl rfl rfl f rfl (by have := (show LC S 3 f by simp only [LC]; omega); simp only [LC] at this; omega) (by decide) ?_
            refine ph_ti (y := ph_b (((f : Nat) : Int) ≤ S 0 0 6)) (hs.f45 (show LC S 3 f by simp only [LC]; omega)) ?_
            refine ph_bif_ne (pc := 45) (tgt := 125) C d_M_alarm_45 (by decide) (fun c45 => ?_) (fun c45 => ?_)
            · refine ph_iinc (pc := 125) C d_M_alarm_125 rfl rfl ?_
              refine ph_goto (pc := 128) (tgt := 29) C d_M_alarm_128 (by decide) ?_
              refine ph_loc (l2 := [(0, .ref (o)), (1, .int (ph_i (x))), (2, .int (ph_i (y))), (3, .int (ph_i (nn))), (4, .int (ph_i (((r + 1 : Nat) : Int)))), (5, .int (ph_i (((f + 1 : Nat) : Int))))]) ⟨rfl, rfl, rfl, rfl, rfl, rfl, trivial⟩ ?_
              exact ih (f + 1) nn (by omega) (by omega) (by omega) (by omega) (by rw [← h5, fgF_n (fun q => by first | exact absurd (by assumption) q.1 | exact absurd q.2 (by assumption))])
            · refine ph_aload_n (pc := 48) C d_M_alarm_48 rfl ?_
              refine ph_iload (pc := 49) C d_M_alarm_49 rfl ?_
              refine ph_callV (pc := 51) (rest := []) C d_M_alarm_51 (c_M_rankOf l D dT A KX L ad τ S o hA hs hV f (show LC S 3 f by simp only [LC]; omega)) (cwV 1 C.hts (gdV tw_595 tw_597 se_39 tw_2 tw_598) rfl rfl rfl ⟨rfl, by decide, by decide, by decide⟩ ⟨by decide, by decide⟩) hA.live hA.ob rfl rfl rfl rfl rfl (Nat.le_of_ble_eq_true rfl) ⟨by decide, by decide⟩ ?_
              rintro r1 L1 ad1 τ1 ⟨g1, g2, g3, g4⟩; obtain rfl := g1.symm; obtain rfl := g2.symm; obtain rfl := g3.symm; subst g4
              refine ph_iload (pc := 54) C d_M_alarm_54 rfl ?_
              refine ph_icmp_ne (pc := 56) (tgt := 125) C d_M_alarm_56 (by decide) (by first | omega | (have := rankv_r (S 3 f 3) (S 3 f 0); unfold rnk; omega) | (have := hV.f (show LC S 3 f by simp only [LC]; omega); omega)) (by first | omega | (have := rankv_r (S 3 f 3) (S 3 f 0); unfold rnk; omega) | (have := hV.f (show LC S 3 f by simp only [LC]; omega); omega)) (fun c56 => ?_) (fun c56 => ?_)
              · refine ph_iinc (pc := 125) C d_M_alarm_125 rfl rfl ?_
                refine ph_goto (pc := 128) (tgt := 29) C d_M_alarm_128 (by decide) ?_
                refine ph_loc (l2 := [(0, .ref (o)), (1, .int (ph_i (x))), (2, .int (ph_i (y))), (3, .int (ph_i (nn))), (4, .int (ph_i (((r + 1 : Nat) : Int)))), (5, .int (ph_i (((f + 1 : Nat) : Int))))]) ⟨rfl, rfl, rfl, rfl, rfl, rfl, trivial⟩ ?_
                exact ih (f + 1) nn (by omega) (by omega) (by omega) (by omega) (by rw [← h5, fgF_n (fun q => by first | exact absurd (by assumption) q.1 | exact absurd q.2 (by assumption))])
              · refine ph_iload_n (pc := 59) C d_M_alarm_59 rfl ?_
                refine ph_iload_n (pc := 60) C d_M_alarm_60 rfl ?_
                refine ph_icmp_ne (pc := 61) (tgt := 122) C d_M_alarm_61 (by decide) (by first | omega | (have := rankv_r (S 3 f 3) (S 3 f 0); unfold rnk; omega) | (have := hV.f (show LC S 3 f by simp only [LC]; omega); omega)) (by first | omega | (have := rankv_r (S 3 f 3) (S 3 f 0); unfold rnk; omega) | (have := hV.f (show LC S 3 f by simp only [LC]; omega); omega)) (fun c61 => ?_) (fun c61 => ?_)
                · refine ph_iinc (pc := 122) C d_M_alarm_122 rfl rfl ?_
                  refine ph_iinc (pc := 125) C d_M_alarm_125 rfl rfl ?_
                  refine ph_goto (pc := 128) (tgt := 29) C d_M_alarm_128 (by decide) ?_
                  refine ph_loc (l2 := [(0, .ref (o)), (1, .int (ph_i (x))), (2, .int (ph_i (y))), (3, .int (ph_i ((nn) + (1)))), (4, .int (ph_i (((r + 1 : Nat) : Int)))), (5, .int (ph_i (((f + 1 : Nat) : Int))))]) ⟨rfl, rfl, rfl, rfl, rfl, rfl, trivial⟩ ?_
                  exact ih (f + 1) (nn + 1) (by omega) (by omega) (by omega) (by omega) (by rw [← h5, fgF_p ⟨by assumption, by assumption⟩ (by omega), show x - nn - 1 = x - (nn + 1) by omega])
                · refine ph_iload_n (pc := 64) C d_M_alarm_64 rfl ?_
                  refine ph_if_ne (pc := 65) (tgt := 73) C d_M_alarm_65 (by decide) (by first | omega | (have := rankv_r (S 3 f 3) (S 3 f 0); unfold rnk; omega) | (have := hV.f (show LC S 3 f by simp only [LC]; omega); omega)) (fun c65 => ?_) (fun c65 => ?_)
                  · refine ph_iload_n (pc := 73) C d_M_alarm_73 rfl ?_
                    refine ph_iconst (pc := 74) C d_M_alarm_74 ?_
                    refine ph_icmp_ne (pc := 75) (tgt := 83) C d_M_alarm_75 (by decide) (by first | omega | (have := rankv_r (S 3 f 3) (S 3 f 0); unfold rnk; omega) | (have := hV.f (show LC S 3 f by simp only [LC]; omega); omega)) (by first | omega | (have := rankv_r (S 3 f 3) (S 3 f 0); unfold rnk; omega) | (have := hV.f (show LC S 3 f by simp only [LC]; omega); omega)) (fun c75 => ?_) (fun c75 => ?_)
                    · refine ph_iload_n (pc := 83) C d_M_alarm_83 rfl ?_
                      refine ph_iconst (pc := 84) C d_M_alarm_84 ?_
                      refine ph_icmp_ne (pc := 85) (tgt := 98) C d_M_alarm_85 (by decide) (by first | omega | (have := rankv_r (S 3 f 3) (S 3 f 0); unfold rnk; omega) | (have := hV.f (show LC S 3 f by simp only [LC]; omega); omega)) (by first | omega | (have := rankv_r (S 3 f 3) (S 3 f 0); unfold rnk; omega) | (have := hV.f (show LC S 3 f by simp only [LC]; omega); omega)) (fun c85 => ?_) (fun c85 => ?_)
                      · refine ph_iload_n (pc := 98) C d_M_alarm_98 rfl ?_
                        refine ph_iconst (pc := 99) C d_M_alarm_99 ?_
                        refine ph_icmp_ne (pc := 100) (tgt := 113) C d_M_alarm_100 (by decide) (by first | omega | (have := rankv_r (S 3 f 3) (S 3 f 0); unfold rnk; omega) | (have := hV.f (show LC S 3 f by simp only [LC]; omega); omega)) (by first | omega | (have := rankv_r (S 3 f 3) (S 3 f 0); unfold rnk; omega) | (have := hV.f (show LC S 3 f by simp only [LC]; omega); omega)) (fun c100 => ?_) (fun c100 => ?_)
                        · refine ph_aload_n (pc := 113) C d_M_alarm_113 rfl ?_
                          refine gt_M_57 (pc := 114) C d_M_alarm_114 hA.live hA.ob (hA.rf (k := 19) rfl) ?_
                          refine ph_iload (pc := 117) C d_M_alarm_117 rfl ?_
                          refine ph_lald (pc := 119) C d_M_alarm_119 (hA.ar (k := 19) rfl) rfl rfl rfl f rfl (by have := (show LC S 3 f by simp only [LC]; omega); simp only [LC] at this; omega) (by decide) ?_
                          refine ph_tl (y := S 3 f 2) (hs.f40 (show LC S 3 f by simp only [LC]; omega)) ?_
                          refine ph_l2i (pc := 120) C d_M_alarm_120 ?_
                          have e9 : foF S 9 x = (f : Int) := by rw [← h5, fgF_0 ⟨by assumption, by assumption⟩ (by omega), if_neg (by show ¬ (f : Int) = 0; omega)]
                          exact ph_iret (pc := 121) C d_M_alarm_121 hr hlk rfl (by decide) (by decide) ⟨rfl, rfl, rfl, (by rw [alarm_v hy4, e9, if_neg (by omega), alw, if_neg (by omega), if_neg (by omega), if_neg (by omega), if_neg (by omega), Int.toNat_natCast])⟩
                        · refine ph_aload_n (pc := 103) C d_M_alarm_103 rfl ?_
                          refine gt_M_54 (pc := 104) C d_M_alarm_104 hA.live hA.ob (hA.rf (k := 18) rfl) ?_
                          refine ph_iload (pc := 107) C d_M_alarm_107 rfl ?_
                          refine ph_iald (pc := 109) C d_M_alarm_109 (hA.ar (k := 18) rfl) rfl rfl rfl f rfl (by have := (show LC S 3 f by simp only [LC]; omega); simp only [LC] at this; omega) (by decide) ?_
                          refine ph_ti (y := S 3 f 1) (hs.f39 (show LC S 3 f by simp only [LC]; omega)) ?_
                          refine ph_goto (pc := 110) (tgt := 121) C d_M_alarm_110 (by decide) ?_
                          have e9 : foF S 9 x = (f : Int) := by rw [← h5, fgF_0 ⟨by assumption, by assumption⟩ (by omega), if_neg (by show ¬ (f : Int) = 0; omega)]
                          exact ph_iret (pc := 121) C d_M_alarm_121 hr hlk rfl (by decide) (by decide) ⟨rfl, rfl, rfl, (by rw [alarm_v hy4, e9, if_neg (by omega), alw, if_neg (by omega), if_neg (by omega), if_neg (by omega), if_pos (by omega), Int.toNat_natCast])⟩
                      · refine ph_aload_n (pc := 88) C d_M_alarm_88 rfl ?_
                        refine gt_M_51 (pc := 89) C d_M_alarm_89 hA.live hA.ob (hA.rf (k := 17) rfl) ?_
                        refine ph_iload (pc := 92) C d_M_alarm_92 rfl ?_
                        refine ph_iald (pc := 94) C d_M_alarm_94 (hA.ar (k := 17) rfl) rfl rfl rfl f rfl (by have := (show LC S 3 f by simp only [LC]; omega); simp only [LC] at this; omega) (by decide) ?_
                        refine ph_ti (y := S 3 f 0) (hs.f38 (show LC S 3 f by simp only [LC]; omega)) ?_
                        refine ph_goto (pc := 95) (tgt := 121) C d_M_alarm_95 (by decide) ?_
                        have e9 : foF S 9 x = (f : Int) := by rw [← h5, fgF_0 ⟨by assumption, by assumption⟩ (by omega), if_neg (by show ¬ (f : Int) = 0; omega)]
                        exact ph_iret (pc := 121) C d_M_alarm_121 hr hlk rfl (by decide) (by decide) ⟨rfl, rfl, rfl, (by rw [alarm_v hy4, e9, if_neg (by omega), alw, if_neg (by omega), if_neg (by omega), if_pos (by omega), Int.toNat_natCast])⟩
                    · refine ph_iload (pc := 78) C d_M_alarm_78 rfl ?_
                      refine ph_goto (pc := 80) (tgt := 121) C d_M_alarm_80 (by decide) ?_
                      have e9 : foF S 9 x = (f : Int) := by rw [← h5, fgF_0 ⟨by assumption, by assumption⟩ (by omega), if_neg (by show ¬ (f : Int) = 0; omega)]
                      exact ph_iret (pc := 121) C d_M_alarm_121 hr hlk rfl (by decide) (by decide) ⟨rfl, rfl, rfl, (by rw [alarm_v hy4, e9, if_neg (by omega), alw, if_neg (by omega), if_pos (by omega), Int.toNat_natCast]; rw [(by assumption : rnk S f = ((r + 1 : Nat) : Int))])⟩
                  · refine ph_iload (pc := 68) C d_M_alarm_68 rfl ?_
                    refine ph_goto (pc := 70) (tgt := 121) C d_M_alarm_70 (by decide) ?_
                    have e9 : foF S 9 x = (f : Int) := by rw [← h5, fgF_0 ⟨by assumption, by assumption⟩ (by omega), if_neg (by show ¬ (f : Int) = 0; omega)]
                    exact ph_iret (pc := 121) C d_M_alarm_121 hr hlk rfl (by decide) (by decide) ⟨rfl, rfl, rfl, (by rw [alarm_v hy4, e9, if_neg (by omega), alw, if_pos (by omega)])⟩
      refine ph_iload (pc := 21) C d_M_alarm_21 rfl ?_
      refine ph_if_le (pc := 23) (tgt := 137) C d_M_alarm_23 (by decide) (by omega) (fun c23 => ?_) (fun c23 => ?_)
      · exfalso; omega
      · refine ph_iconst (pc := 26) C d_M_alarm_26 ?_
        refine ph_istore (pc := 27) C d_M_alarm_27 (by decide) rfl ?_
        refine ph_loc (l2 := [(0, .ref (o)), (1, .int (ph_i (x))), (2, .int (ph_i (y))), (3, .int (ph_i (nn))), (4, .int (ph_i (((r + 1 : Nat) : Int)))), (5, .int (ph_i (((1 : Nat) : Int))))]) ⟨rfl, rfl, rfl, rfl, rfl, rfl, trivial⟩ ?_
        exact inner (S 0 0 5).toNat 1 nn (by omega) (by omega) (by omega) (by omega) (by rw [← h3, fg_all hV, foF_s])
  refine ph_iload_n (pc := 0) C d_M_alarm_0 rfl ?_
  refine ph_i2l (pc := 1) C d_M_alarm_1 (by omega) ?_
  refine ph_lconst (pc := 2) C d_M_alarm_2 0 (by decide) ?_
  refine ph_ldc2 (pc := 3) C d_M_alarm_3 (4) (by decide) tw_594 ?_
  refine ph_callS (pc := 6) (rest := []) C d_M_alarm_6 (c_M_isIn l D dT A KX L ad τ (y) (0) (4) (by omega) (by omega) (by omega)) (cwS 3 C.hts (gdS tw_494 tw_495 tw_2 tw_496) rfl rfl rfl ⟨rfl, by decide, by decide, by decide⟩ ⟨by decide, by decide⟩) rfl rfl (Nat.le_of_ble_eq_true rfl) ⟨by decide, by decide⟩ ?_
  rintro r1 L1 ad1 τ1 ⟨g1, g2, g3, g4⟩; obtain rfl := g1.symm; obtain rfl := g2.symm; obtain rfl := g3.symm; subst g4
  refine ph_bif_ne (pc := 9) (tgt := 15) C d_M_alarm_9 (by decide) (fun c9 => ?_) (fun c9 => ?_)
  · refine ph_iconst (pc := 15) C d_M_alarm_15 ?_
    refine ph_istore_n (pc := 16) C d_M_alarm_16 (by decide) rfl ?_
    refine ph_bipush (pc := 17) C d_M_alarm_17 (by decide) ?_
    refine ph_istore (pc := 19) C d_M_alarm_19 (by decide) rfl ?_
    refine ph_loc (l2 := [(0, .ref (o)), (1, .int (ph_i (x))), (2, .int (ph_i (y))), (3, .int (ph_i (0))), (4, .int (ph_i (((9 : Nat) : Int))))]) ⟨rfl, rfl, rfl, rfl, rfl, trivial⟩ ?_
    exact outer 9 0 (by omega) (by omega) (by omega) (by omega) (by rw [Int.sub_zero])
  · refine ph_bipush (pc := 12) C d_M_alarm_12 (by decide) ?_
    exact ph_iret (pc := 14) C d_M_alarm_14 hr hlk rfl (by decide) (by decide) ⟨rfl, rfl, rfl, (by rw [alarmv, if_pos (by omega)])⟩
