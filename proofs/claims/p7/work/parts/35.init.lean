/-! ===== a new object ===== -/
def S00 : ph_T := fun g _ k => if g = 7 ∧ (k = 5 ∨ k = 6) then 1 else 0
theorem iv_S00 : IV S00 := by
  refine ⟨by decide, fun i hi => ?_, fun i hi => ?_, fun i hi => ?_, fun k hk => ?_, fun k hk => ?_⟩
  · exact absurd hi (by show ¬ (i : Int) < 0; omega)
  · exact absurd hi (by show ¬ (1 ≤ i ∧ (i : Int) ≤ 0); omega)
  · exact absurd hi (by show ¬ (1 ≤ i ∧ (i : Int) ≤ 0); omega)
  · refine ⟨?_, Or.inl rfl⟩
    by_cases h : k = 5 ∨ k = 6
    · exact Or.inr (if_pos ⟨rfl, h⟩)
    · exact Or.inl (if_neg (fun q => h q.2))
  · exact absurd hk (by show ¬ (k : Int) < 0; omega)
set_option maxHeartbeats 4000000 in
set_option maxRecDepth 100000 in
theorem c_J_init (l : Launch) (D : va_G) (dT : Nat → ClassId) (A : Nat → Prop) (KX : State → Prop) (L : Nat → Nat → Prop) (ad : Nat → Nat → Nat) (τ : ph_T) (o : Nat) (aR aT : Nat) (hX : ∀ U, KX U → KJ dT A aR aT U) (hl0 : L 0 0) (ho : ad 0 0 = o) (hN : ∀ g i, g ≠ 0 → g < 10 → ¬ L g i) : ph_M l y_J_init (.code y_J_init b_J_init 1 none :: TB) ({ frames := 1, cells := 6, slots := 184, locals := 12 } : Room) D CLs (TY dT) dT kd A KX [.ref (o)] L ad τ (fun r L' ad' τ' => JR S00 o L' ad' τ' ∧ JF S00 L' ∧ r = none) 6 184 := by
  refine ph_M.of (cc := b_J_init) (maxL := 1) (ret := none) (by decide) rfl (Nat.le_of_ble_eq_true rfl) ?_
  intro p e s m below meth c C0 hr hlk hnm
  have C := C0.sub
  refine ph_loc (l2 := [(0, .ref (o))]) ⟨rfl, trivial⟩ ?_
  have hk9 := hX s C.kx
  refine ph_aload_n (pc := 0) C d_J_init_0 rfl ?_
  refine ph_objInit (pc := 1) C d_J_init_1 tw_11 tw_12 tw_13 (by decide) (by decide) ?_
  refine ph_aload_n (pc := 4) C d_J_init_4 rfl ?_
  refine ph_bipush (pc := 5) C d_J_init_5 (by decide) ?_
  refine ph_newq (pc := 7) (g := 4) (t := 0) C d_J_init_7 0 (hN 4 0 (by decide) (by decide)) rfl rfl tw_14 hk9.2.2.1.1 rfl (by decide) (by decide) (by decide) ?_
  intro x4 hfr
  have hl0 : ph_Ln L 4 0 0 0 := Or.inl hl0
  have ho : ph_an ad 4 0 x4 0 0 = o := (an_ne _ _ (by decide)).trans ho
  have l4 : ph_Ln L 4 0 4 0 := Or.inr ⟨rfl, rfl⟩
  have a4 : ph_an ad 4 0 x4 4 0 = x4 := an_at _ _ _ _
  have t4 : ∀ q, ph_tn τ 4 0 (fun _ => -1) 4 0 q = -1 := fun q => by rw [tn_at]
  have hN : ∀ g i, g ≠ 0 → g < 10 → g ≠ 4 → ¬ ph_Ln L 4 0 g i := fun g i z0 z1 nn q => q.elim (fun q => hN g i z0 z1 q) (fun q => nn q.1)
  generalize ph_Ln L 4 0 = L at hl0 l4 hN ⊢
  generalize ph_an ad 4 0 x4 = ad at ho a4 ⊢
  generalize ph_tn τ 4 0 (fun _ => -1) = τ at t4 ⊢
  refine pt_J_11 (pc := 10) C d_J_init_10 hnm hl0 ho ?_
  have t4 : ∀ q, ph_up τ 0 0 0 ((x4 : Int)) 4 0 q = -1 := fun q => by rw [up_ne _ (by decide)]; exact t4 q
  have f0 : ph_up τ 0 0 0 ((x4 : Int)) 0 0 0 = (x4 : Int) := ph_up_at _ _ _ _ _
  generalize ph_up τ 0 0 0 ((x4 : Int)) = τ at t4 f0 ⊢
  refine ph_aload_n (pc := 13) C d_J_init_13 rfl ?_
  refine ph_iconst (pc := 14) C d_J_init_14 ?_
  refine pt_J_15 (pc := 15) C d_J_init_15 hl0 ho ?_
  have t4 : ∀ q, ph_up τ 0 0 1 (0) 4 0 q = -1 := fun q => by rw [up_ne _ (by decide)]; exact t4 q
  have f0 : ph_up τ 0 0 1 (0) 0 0 0 = (x4 : Int) := by rw [ph_up_no _ _ (by decide)]; exact f0
  have f1 : ph_up τ 0 0 1 (0) 0 0 1 = 0 := ph_up_at _ _ _ _ _
  generalize ph_up τ 0 0 1 (0) = τ at t4 f0 f1 ⊢
  refine ph_aload_n (pc := 18) C d_J_init_18 rfl ?_
  refine ph_bipush (pc := 19) C d_J_init_19 (by decide) ?_
  refine ph_newq (pc := 21) (g := 5) (t := 1) C d_J_init_21 0 (hN 5 0 (by decide) (by decide) (by decide)) rfl rfl tw_16 hk9.2.2.1.2.1 rfl (by decide) (by decide) (by decide) ?_
  intro x5 hfr
  have hl0 : ph_Ln L 5 0 0 0 := Or.inl hl0
  have ho : ph_an ad 5 0 x5 0 0 = o := (an_ne _ _ (by decide)).trans ho
  have l4 : ph_Ln L 5 0 4 0 := Or.inl l4
  have a4 : ph_an ad 5 0 x5 4 0 = x4 := (an_ne _ _ (by decide)).trans a4
  have t4 : ∀ q, ph_tn τ 5 0 (fun _ => -1) 4 0 q = -1 := fun q => by rw [tn_ne _ _ (by decide)]; exact t4 q
  have f0 : ph_tn τ 5 0 (fun _ => -1) 0 0 0 = (x4 : Int) := by rw [tn_ne _ _ (by decide)]; exact f0
  have f1 : ph_tn τ 5 0 (fun _ => -1) 0 0 1 = 0 := by rw [tn_ne _ _ (by decide)]; exact f1
  have l5 : ph_Ln L 5 0 5 0 := Or.inr ⟨rfl, rfl⟩
  have a5 : ph_an ad 5 0 x5 5 0 = x5 := an_at _ _ _ _
  have t5 : ∀ q, ph_tn τ 5 0 (fun _ => -1) 5 0 q = -1 := fun q => by rw [tn_at]
  have hN : ∀ g i, g ≠ 0 → g < 10 → g ≠ 4 → g ≠ 5 → ¬ ph_Ln L 5 0 g i := fun g i z0 z1 n4 nn q => q.elim (fun q => hN g i z0 z1 n4 q) (fun q => nn q.1)
  generalize ph_Ln L 5 0 = L at hl0 l4 l5 hN ⊢
  generalize ph_an ad 5 0 x5 = ad at ho a4 a5 ⊢
  generalize ph_tn τ 5 0 (fun _ => -1) = τ at t4 f0 f1 t5 ⊢
  refine pt_J_21 (pc := 24) C d_J_init_24 hnm hl0 ho ?_
  have t4 : ∀ q, ph_up τ 0 0 2 ((x5 : Int)) 4 0 q = -1 := fun q => by rw [up_ne _ (by decide)]; exact t4 q
  have t5 : ∀ q, ph_up τ 0 0 2 ((x5 : Int)) 5 0 q = -1 := fun q => by rw [up_ne _ (by decide)]; exact t5 q
  have f0 : ph_up τ 0 0 2 ((x5 : Int)) 0 0 0 = (x4 : Int) := by rw [ph_up_no _ _ (by decide)]; exact f0
  have f1 : ph_up τ 0 0 2 ((x5 : Int)) 0 0 1 = 0 := by rw [ph_up_no _ _ (by decide)]; exact f1
  have f2 : ph_up τ 0 0 2 ((x5 : Int)) 0 0 2 = (x5 : Int) := ph_up_at _ _ _ _ _
  generalize ph_up τ 0 0 2 ((x5 : Int)) = τ at t4 t5 f0 f1 f2 ⊢
  refine ph_aload_n (pc := 27) C d_J_init_27 rfl ?_
  refine ph_iconst (pc := 28) C d_J_init_28 ?_
  refine pt_J_25 (pc := 29) C d_J_init_29 hl0 ho ?_
  have t4 : ∀ q, ph_up τ 0 0 3 (0) 4 0 q = -1 := fun q => by rw [up_ne _ (by decide)]; exact t4 q
  have t5 : ∀ q, ph_up τ 0 0 3 (0) 5 0 q = -1 := fun q => by rw [up_ne _ (by decide)]; exact t5 q
  have f0 : ph_up τ 0 0 3 (0) 0 0 0 = (x4 : Int) := by rw [ph_up_no _ _ (by decide)]; exact f0
  have f1 : ph_up τ 0 0 3 (0) 0 0 1 = 0 := by rw [ph_up_no _ _ (by decide)]; exact f1
  have f2 : ph_up τ 0 0 3 (0) 0 0 2 = (x5 : Int) := by rw [ph_up_no _ _ (by decide)]; exact f2
  have f3 : ph_up τ 0 0 3 (0) 0 0 3 = 0 := ph_up_at _ _ _ _ _
  generalize ph_up τ 0 0 3 (0) = τ at t4 t5 f0 f1 f2 f3 ⊢
  refine ph_aload_n (pc := 32) C d_J_init_32 rfl ?_
  refine ph_bipush (pc := 33) C d_J_init_33 (by decide) ?_
  refine ph_newq (pc := 35) (g := 6) (t := 2) C d_J_init_35 0 (hN 6 0 (by decide) (by decide) (by decide) (by decide)) rfl rfl tw_18 hk9.2.2.1.2.2 rfl (by decide) (by decide) (by decide) ?_
  intro x6 hfr
  have hl0 : ph_Ln L 6 0 0 0 := Or.inl hl0
  have ho : ph_an ad 6 0 x6 0 0 = o := (an_ne _ _ (by decide)).trans ho
  have l4 : ph_Ln L 6 0 4 0 := Or.inl l4
  have a4 : ph_an ad 6 0 x6 4 0 = x4 := (an_ne _ _ (by decide)).trans a4
  have t4 : ∀ q, ph_tn τ 6 0 (fun _ => -1) 4 0 q = -1 := fun q => by rw [tn_ne _ _ (by decide)]; exact t4 q
  have l5 : ph_Ln L 6 0 5 0 := Or.inl l5
  have a5 : ph_an ad 6 0 x6 5 0 = x5 := (an_ne _ _ (by decide)).trans a5
  have t5 : ∀ q, ph_tn τ 6 0 (fun _ => -1) 5 0 q = -1 := fun q => by rw [tn_ne _ _ (by decide)]; exact t5 q
  have f0 : ph_tn τ 6 0 (fun _ => -1) 0 0 0 = (x4 : Int) := by rw [tn_ne _ _ (by decide)]; exact f0
  have f1 : ph_tn τ 6 0 (fun _ => -1) 0 0 1 = 0 := by rw [tn_ne _ _ (by decide)]; exact f1
  have f2 : ph_tn τ 6 0 (fun _ => -1) 0 0 2 = (x5 : Int) := by rw [tn_ne _ _ (by decide)]; exact f2
  have f3 : ph_tn τ 6 0 (fun _ => -1) 0 0 3 = 0 := by rw [tn_ne _ _ (by decide)]; exact f3
  have l6 : ph_Ln L 6 0 6 0 := Or.inr ⟨rfl, rfl⟩
  have a6 : ph_an ad 6 0 x6 6 0 = x6 := an_at _ _ _ _
  have t6 : ∀ q, ph_tn τ 6 0 (fun _ => -1) 6 0 q = -1 := fun q => by rw [tn_at]
  have hN : ∀ g i, g ≠ 0 → g < 10 → g ≠ 4 → g ≠ 5 → g ≠ 6 → ¬ ph_Ln L 6 0 g i := fun g i z0 z1 n4 n5 nn q => q.elim (fun q => hN g i z0 z1 n4 n5 q) (fun q => nn q.1)
  generalize ph_Ln L 6 0 = L at hl0 l4 l5 l6 hN ⊢
  generalize ph_an ad 6 0 x6 = ad at ho a4 a5 a6 ⊢
  generalize ph_tn τ 6 0 (fun _ => -1) = τ at t4 t5 f0 f1 f2 f3 t6 ⊢
  refine pt_J_30 (pc := 38) C d_J_init_38 hnm hl0 ho ?_
  have t4 : ∀ q, ph_up τ 0 0 4 ((x6 : Int)) 4 0 q = -1 := fun q => by rw [up_ne _ (by decide)]; exact t4 q
  have t5 : ∀ q, ph_up τ 0 0 4 ((x6 : Int)) 5 0 q = -1 := fun q => by rw [up_ne _ (by decide)]; exact t5 q
  have t6 : ∀ q, ph_up τ 0 0 4 ((x6 : Int)) 6 0 q = -1 := fun q => by rw [up_ne _ (by decide)]; exact t6 q
  have f0 : ph_up τ 0 0 4 ((x6 : Int)) 0 0 0 = (x4 : Int) := by rw [ph_up_no _ _ (by decide)]; exact f0
  have f1 : ph_up τ 0 0 4 ((x6 : Int)) 0 0 1 = 0 := by rw [ph_up_no _ _ (by decide)]; exact f1
  have f2 : ph_up τ 0 0 4 ((x6 : Int)) 0 0 2 = (x5 : Int) := by rw [ph_up_no _ _ (by decide)]; exact f2
  have f3 : ph_up τ 0 0 4 ((x6 : Int)) 0 0 3 = 0 := by rw [ph_up_no _ _ (by decide)]; exact f3
  have f4 : ph_up τ 0 0 4 ((x6 : Int)) 0 0 4 = (x6 : Int) := ph_up_at _ _ _ _ _
  generalize ph_up τ 0 0 4 ((x6 : Int)) = τ at t4 t5 t6 f0 f1 f2 f3 f4 ⊢
  refine ph_aload_n (pc := 41) C d_J_init_41 rfl ?_
  refine ph_iconst (pc := 42) C d_J_init_42 ?_
  refine pt_J_34 (pc := 43) C d_J_init_43 hl0 ho ?_
  have t4 : ∀ q, ph_up τ 0 0 5 (0) 4 0 q = -1 := fun q => by rw [up_ne _ (by decide)]; exact t4 q
  have t5 : ∀ q, ph_up τ 0 0 5 (0) 5 0 q = -1 := fun q => by rw [up_ne _ (by decide)]; exact t5 q
  have t6 : ∀ q, ph_up τ 0 0 5 (0) 6 0 q = -1 := fun q => by rw [up_ne _ (by decide)]; exact t6 q
  have f0 : ph_up τ 0 0 5 (0) 0 0 0 = (x4 : Int) := by rw [ph_up_no _ _ (by decide)]; exact f0
  have f1 : ph_up τ 0 0 5 (0) 0 0 1 = 0 := by rw [ph_up_no _ _ (by decide)]; exact f1
  have f2 : ph_up τ 0 0 5 (0) 0 0 2 = (x5 : Int) := by rw [ph_up_no _ _ (by decide)]; exact f2
  have f3 : ph_up τ 0 0 5 (0) 0 0 3 = 0 := by rw [ph_up_no _ _ (by decide)]; exact f3
  have f4 : ph_up τ 0 0 5 (0) 0 0 4 = (x6 : Int) := by rw [ph_up_no _ _ (by decide)]; exact f4
  have f5 : ph_up τ 0 0 5 (0) 0 0 5 = 0 := ph_up_at _ _ _ _ _
  generalize ph_up τ 0 0 5 (0) = τ at t4 t5 t6 f0 f1 f2 f3 f4 f5 ⊢
  refine ph_aload_n (pc := 46) C d_J_init_46 rfl ?_
  refine ph_iconst (pc := 47) C d_J_init_47 ?_
  refine pt_J_37 (pc := 48) C d_J_init_48 hl0 ho ?_
  have t4 : ∀ q, ph_up τ 0 0 6 (0) 4 0 q = -1 := fun q => by rw [up_ne _ (by decide)]; exact t4 q
  have t5 : ∀ q, ph_up τ 0 0 6 (0) 5 0 q = -1 := fun q => by rw [up_ne _ (by decide)]; exact t5 q
  have t6 : ∀ q, ph_up τ 0 0 6 (0) 6 0 q = -1 := fun q => by rw [up_ne _ (by decide)]; exact t6 q
  have f0 : ph_up τ 0 0 6 (0) 0 0 0 = (x4 : Int) := by rw [ph_up_no _ _ (by decide)]; exact f0
  have f1 : ph_up τ 0 0 6 (0) 0 0 1 = 0 := by rw [ph_up_no _ _ (by decide)]; exact f1
  have f2 : ph_up τ 0 0 6 (0) 0 0 2 = (x5 : Int) := by rw [ph_up_no _ _ (by decide)]; exact f2
  have f3 : ph_up τ 0 0 6 (0) 0 0 3 = 0 := by rw [ph_up_no _ _ (by decide)]; exact f3
  have f4 : ph_up τ 0 0 6 (0) 0 0 4 = (x6 : Int) := by rw [ph_up_no _ _ (by decide)]; exact f4
  have f5 : ph_up τ 0 0 6 (0) 0 0 5 = 0 := by rw [ph_up_no _ _ (by decide)]; exact f5
  have f6 : ph_up τ 0 0 6 (0) 0 0 6 = 0 := ph_up_at _ _ _ _ _
  generalize ph_up τ 0 0 6 (0) = τ at t4 t5 t6 f0 f1 f2 f3 f4 f5 f6 ⊢
  refine ph_aload_n (pc := 51) C d_J_init_51 rfl ?_
  refine ph_bipush (pc := 52) C d_J_init_52 (by decide) ?_
  refine ph_newz (pc := 54) (g := 7) C d_J_init_54 0 (hN 7 0 (by decide) (by decide) (by decide) (by decide) (by decide)) rfl rfl tw_57 rfl (by decide) (by decide) (by decide) rfl ?_
  intro x7 hfr
  have hl0 : ph_Ln L 7 0 0 0 := Or.inl hl0
  have ho : ph_an ad 7 0 x7 0 0 = o := (an_ne _ _ (by decide)).trans ho
  have l4 : ph_Ln L 7 0 4 0 := Or.inl l4
  have a4 : ph_an ad 7 0 x7 4 0 = x4 := (an_ne _ _ (by decide)).trans a4
  have t4 : ∀ q, ph_tn τ 7 0 (fun _ => 0) 4 0 q = -1 := fun q => by rw [tn_ne _ _ (by decide)]; exact t4 q
  have l5 : ph_Ln L 7 0 5 0 := Or.inl l5
  have a5 : ph_an ad 7 0 x7 5 0 = x5 := (an_ne _ _ (by decide)).trans a5
  have t5 : ∀ q, ph_tn τ 7 0 (fun _ => 0) 5 0 q = -1 := fun q => by rw [tn_ne _ _ (by decide)]; exact t5 q
  have l6 : ph_Ln L 7 0 6 0 := Or.inl l6
  have a6 : ph_an ad 7 0 x7 6 0 = x6 := (an_ne _ _ (by decide)).trans a6
  have t6 : ∀ q, ph_tn τ 7 0 (fun _ => 0) 6 0 q = -1 := fun q => by rw [tn_ne _ _ (by decide)]; exact t6 q
  have f0 : ph_tn τ 7 0 (fun _ => 0) 0 0 0 = (x4 : Int) := by rw [tn_ne _ _ (by decide)]; exact f0
  have f1 : ph_tn τ 7 0 (fun _ => 0) 0 0 1 = 0 := by rw [tn_ne _ _ (by decide)]; exact f1
  have f2 : ph_tn τ 7 0 (fun _ => 0) 0 0 2 = (x5 : Int) := by rw [tn_ne _ _ (by decide)]; exact f2
  have f3 : ph_tn τ 7 0 (fun _ => 0) 0 0 3 = 0 := by rw [tn_ne _ _ (by decide)]; exact f3
  have f4 : ph_tn τ 7 0 (fun _ => 0) 0 0 4 = (x6 : Int) := by rw [tn_ne _ _ (by decide)]; exact f4
  have f5 : ph_tn τ 7 0 (fun _ => 0) 0 0 5 = 0 := by rw [tn_ne _ _ (by decide)]; exact f5
  have f6 : ph_tn τ 7 0 (fun _ => 0) 0 0 6 = 0 := by rw [tn_ne _ _ (by decide)]; exact f6
  have l7 : ph_Ln L 7 0 7 0 := Or.inr ⟨rfl, rfl⟩
  have a7 : ph_an ad 7 0 x7 7 0 = x7 := an_at _ _ _ _
  have t7 : ∀ q, ph_tn τ 7 0 (fun _ => 0) 7 0 q = 0 := fun q => by rw [tn_at]
  have hN : ∀ g i, g ≠ 0 → g < 10 → g ≠ 4 → g ≠ 5 → g ≠ 6 → g ≠ 7 → ¬ ph_Ln L 7 0 g i := fun g i z0 z1 n4 n5 n6 nn q => q.elim (fun q => hN g i z0 z1 n4 n5 n6 q) (fun q => nn q.1)
  generalize ph_Ln L 7 0 = L at hl0 l4 l5 l6 l7 hN ⊢
  generalize ph_an ad 7 0 x7 = ad at ho a4 a5 a6 a7 ⊢
  generalize ph_tn τ 7 0 (fun _ => 0) = τ at t4 t5 t6 f0 f1 f2 f3 f4 f5 f6 t7 ⊢
  refine pt_J_40 (pc := 56) C d_J_init_56 hnm hl0 ho ?_
  have t4 : ∀ q, ph_up τ 0 0 7 ((x7 : Int)) 4 0 q = -1 := fun q => by rw [up_ne _ (by decide)]; exact t4 q
  have t5 : ∀ q, ph_up τ 0 0 7 ((x7 : Int)) 5 0 q = -1 := fun q => by rw [up_ne _ (by decide)]; exact t5 q
  have t6 : ∀ q, ph_up τ 0 0 7 ((x7 : Int)) 6 0 q = -1 := fun q => by rw [up_ne _ (by decide)]; exact t6 q
  have t7 : ∀ q, ph_up τ 0 0 7 ((x7 : Int)) 7 0 q = 0 := fun q => by rw [up_ne _ (by decide)]; exact t7 q
  have f0 : ph_up τ 0 0 7 ((x7 : Int)) 0 0 0 = (x4 : Int) := by rw [ph_up_no _ _ (by decide)]; exact f0
  have f1 : ph_up τ 0 0 7 ((x7 : Int)) 0 0 1 = 0 := by rw [ph_up_no _ _ (by decide)]; exact f1
  have f2 : ph_up τ 0 0 7 ((x7 : Int)) 0 0 2 = (x5 : Int) := by rw [ph_up_no _ _ (by decide)]; exact f2
  have f3 : ph_up τ 0 0 7 ((x7 : Int)) 0 0 3 = 0 := by rw [ph_up_no _ _ (by decide)]; exact f3
  have f4 : ph_up τ 0 0 7 ((x7 : Int)) 0 0 4 = (x6 : Int) := by rw [ph_up_no _ _ (by decide)]; exact f4
  have f5 : ph_up τ 0 0 7 ((x7 : Int)) 0 0 5 = 0 := by rw [ph_up_no _ _ (by decide)]; exact f5
  have f6 : ph_up τ 0 0 7 ((x7 : Int)) 0 0 6 = 0 := by rw [ph_up_no _ _ (by decide)]; exact f6
  have f7 : ph_up τ 0 0 7 ((x7 : Int)) 0 0 7 = (x7 : Int) := ph_up_at _ _ _ _ _
  generalize ph_up τ 0 0 7 ((x7 : Int)) = τ at t4 t5 t6 t7 f0 f1 f2 f3 f4 f5 f6 f7 ⊢
  refine ph_aload_n (pc := 59) C d_J_init_59 rfl ?_
  refine ph_bipush (pc := 60) C d_J_init_60 (by decide) ?_
  refine ph_newz (pc := 62) (g := 8) C d_J_init_62 0 (hN 8 0 (by decide) (by decide) (by decide) (by decide) (by decide) (by decide)) rfl rfl tw_57 rfl (by decide) (by decide) (by decide) rfl ?_
  intro x8 hfr
  have hl0 : ph_Ln L 8 0 0 0 := Or.inl hl0
  have ho : ph_an ad 8 0 x8 0 0 = o := (an_ne _ _ (by decide)).trans ho
  have l4 : ph_Ln L 8 0 4 0 := Or.inl l4
  have a4 : ph_an ad 8 0 x8 4 0 = x4 := (an_ne _ _ (by decide)).trans a4
  have t4 : ∀ q, ph_tn τ 8 0 (fun _ => 0) 4 0 q = -1 := fun q => by rw [tn_ne _ _ (by decide)]; exact t4 q
  have l5 : ph_Ln L 8 0 5 0 := Or.inl l5
  have a5 : ph_an ad 8 0 x8 5 0 = x5 := (an_ne _ _ (by decide)).trans a5
  have t5 : ∀ q, ph_tn τ 8 0 (fun _ => 0) 5 0 q = -1 := fun q => by rw [tn_ne _ _ (by decide)]; exact t5 q
  have l6 : ph_Ln L 8 0 6 0 := Or.inl l6
  have a6 : ph_an ad 8 0 x8 6 0 = x6 := (an_ne _ _ (by decide)).trans a6
  have t6 : ∀ q, ph_tn τ 8 0 (fun _ => 0) 6 0 q = -1 := fun q => by rw [tn_ne _ _ (by decide)]; exact t6 q
  have l7 : ph_Ln L 8 0 7 0 := Or.inl l7
  have a7 : ph_an ad 8 0 x8 7 0 = x7 := (an_ne _ _ (by decide)).trans a7
  have t7 : ∀ q, ph_tn τ 8 0 (fun _ => 0) 7 0 q = 0 := fun q => by rw [tn_ne _ _ (by decide)]; exact t7 q
  have f0 : ph_tn τ 8 0 (fun _ => 0) 0 0 0 = (x4 : Int) := by rw [tn_ne _ _ (by decide)]; exact f0
  have f1 : ph_tn τ 8 0 (fun _ => 0) 0 0 1 = 0 := by rw [tn_ne _ _ (by decide)]; exact f1
  have f2 : ph_tn τ 8 0 (fun _ => 0) 0 0 2 = (x5 : Int) := by rw [tn_ne _ _ (by decide)]; exact f2
  have f3 : ph_tn τ 8 0 (fun _ => 0) 0 0 3 = 0 := by rw [tn_ne _ _ (by decide)]; exact f3
  have f4 : ph_tn τ 8 0 (fun _ => 0) 0 0 4 = (x6 : Int) := by rw [tn_ne _ _ (by decide)]; exact f4
  have f5 : ph_tn τ 8 0 (fun _ => 0) 0 0 5 = 0 := by rw [tn_ne _ _ (by decide)]; exact f5
  have f6 : ph_tn τ 8 0 (fun _ => 0) 0 0 6 = 0 := by rw [tn_ne _ _ (by decide)]; exact f6
  have f7 : ph_tn τ 8 0 (fun _ => 0) 0 0 7 = (x7 : Int) := by rw [tn_ne _ _ (by decide)]; exact f7
  have l8 : ph_Ln L 8 0 8 0 := Or.inr ⟨rfl, rfl⟩
  have a8 : ph_an ad 8 0 x8 8 0 = x8 := an_at _ _ _ _
  have t8 : ∀ q, ph_tn τ 8 0 (fun _ => 0) 8 0 q = 0 := fun q => by rw [tn_at]
  have hN : ∀ g i, g ≠ 0 → g < 10 → g ≠ 4 → g ≠ 5 → g ≠ 6 → g ≠ 7 → g ≠ 8 → ¬ ph_Ln L 8 0 g i := fun g i z0 z1 n4 n5 n6 n7 nn q => q.elim (fun q => hN g i z0 z1 n4 n5 n6 n7 q) (fun q => nn q.1)
  generalize ph_Ln L 8 0 = L at hl0 l4 l5 l6 l7 l8 hN ⊢
  generalize ph_an ad 8 0 x8 = ad at ho a4 a5 a6 a7 a8 ⊢
  generalize ph_tn τ 8 0 (fun _ => 0) = τ at t4 t5 t6 t7 f0 f1 f2 f3 f4 f5 f6 f7 t8 ⊢
  refine pt_J_44 (pc := 64) C d_J_init_64 hnm hl0 ho ?_
  have t4 : ∀ q, ph_up τ 0 0 8 ((x8 : Int)) 4 0 q = -1 := fun q => by rw [up_ne _ (by decide)]; exact t4 q
  have t5 : ∀ q, ph_up τ 0 0 8 ((x8 : Int)) 5 0 q = -1 := fun q => by rw [up_ne _ (by decide)]; exact t5 q
  have t6 : ∀ q, ph_up τ 0 0 8 ((x8 : Int)) 6 0 q = -1 := fun q => by rw [up_ne _ (by decide)]; exact t6 q
  have t7 : ∀ q, ph_up τ 0 0 8 ((x8 : Int)) 7 0 q = 0 := fun q => by rw [up_ne _ (by decide)]; exact t7 q
  have t8 : ∀ q, ph_up τ 0 0 8 ((x8 : Int)) 8 0 q = 0 := fun q => by rw [up_ne _ (by decide)]; exact t8 q
  have f0 : ph_up τ 0 0 8 ((x8 : Int)) 0 0 0 = (x4 : Int) := by rw [ph_up_no _ _ (by decide)]; exact f0
  have f1 : ph_up τ 0 0 8 ((x8 : Int)) 0 0 1 = 0 := by rw [ph_up_no _ _ (by decide)]; exact f1
  have f2 : ph_up τ 0 0 8 ((x8 : Int)) 0 0 2 = (x5 : Int) := by rw [ph_up_no _ _ (by decide)]; exact f2
  have f3 : ph_up τ 0 0 8 ((x8 : Int)) 0 0 3 = 0 := by rw [ph_up_no _ _ (by decide)]; exact f3
  have f4 : ph_up τ 0 0 8 ((x8 : Int)) 0 0 4 = (x6 : Int) := by rw [ph_up_no _ _ (by decide)]; exact f4
  have f5 : ph_up τ 0 0 8 ((x8 : Int)) 0 0 5 = 0 := by rw [ph_up_no _ _ (by decide)]; exact f5
  have f6 : ph_up τ 0 0 8 ((x8 : Int)) 0 0 6 = 0 := by rw [ph_up_no _ _ (by decide)]; exact f6
  have f7 : ph_up τ 0 0 8 ((x8 : Int)) 0 0 7 = (x7 : Int) := by rw [ph_up_no _ _ (by decide)]; exact f7
  have f8 : ph_up τ 0 0 8 ((x8 : Int)) 0 0 8 = (x8 : Int) := ph_up_at _ _ _ _ _
  generalize ph_up τ 0 0 8 ((x8 : Int)) = τ at t4 t5 t6 t7 t8 f0 f1 f2 f3 f4 f5 f6 f7 f8 ⊢
  refine ph_aload_n (pc := 67) C d_J_init_67 rfl ?_
  refine ph_bipush (pc := 68) C d_J_init_68 (by decide) ?_
  refine ph_newi (pc := 70) (g := 9) C d_J_init_70 0 (hN 9 0 (by decide) (by decide) (by decide) (by decide) (by decide) (by decide) (by decide)) rfl rfl tw_58 rfl (by decide) (by decide) (by decide) rfl ?_
  intro x9 hfr
  have hl0 : ph_Ln L 9 0 0 0 := Or.inl hl0
  have ho : ph_an ad 9 0 x9 0 0 = o := (an_ne _ _ (by decide)).trans ho
  have l4 : ph_Ln L 9 0 4 0 := Or.inl l4
  have a4 : ph_an ad 9 0 x9 4 0 = x4 := (an_ne _ _ (by decide)).trans a4
  have t4 : ∀ q, ph_tn τ 9 0 (fun _ => 0) 4 0 q = -1 := fun q => by rw [tn_ne _ _ (by decide)]; exact t4 q
  have l5 : ph_Ln L 9 0 5 0 := Or.inl l5
  have a5 : ph_an ad 9 0 x9 5 0 = x5 := (an_ne _ _ (by decide)).trans a5
  have t5 : ∀ q, ph_tn τ 9 0 (fun _ => 0) 5 0 q = -1 := fun q => by rw [tn_ne _ _ (by decide)]; exact t5 q
  have l6 : ph_Ln L 9 0 6 0 := Or.inl l6
  have a6 : ph_an ad 9 0 x9 6 0 = x6 := (an_ne _ _ (by decide)).trans a6
  have t6 : ∀ q, ph_tn τ 9 0 (fun _ => 0) 6 0 q = -1 := fun q => by rw [tn_ne _ _ (by decide)]; exact t6 q
  have l7 : ph_Ln L 9 0 7 0 := Or.inl l7
  have a7 : ph_an ad 9 0 x9 7 0 = x7 := (an_ne _ _ (by decide)).trans a7
  have t7 : ∀ q, ph_tn τ 9 0 (fun _ => 0) 7 0 q = 0 := fun q => by rw [tn_ne _ _ (by decide)]; exact t7 q
  have l8 : ph_Ln L 9 0 8 0 := Or.inl l8
  have a8 : ph_an ad 9 0 x9 8 0 = x8 := (an_ne _ _ (by decide)).trans a8
  have t8 : ∀ q, ph_tn τ 9 0 (fun _ => 0) 8 0 q = 0 := fun q => by rw [tn_ne _ _ (by decide)]; exact t8 q
  have f0 : ph_tn τ 9 0 (fun _ => 0) 0 0 0 = (x4 : Int) := by rw [tn_ne _ _ (by decide)]; exact f0
  have f1 : ph_tn τ 9 0 (fun _ => 0) 0 0 1 = 0 := by rw [tn_ne _ _ (by decide)]; exact f1
  have f2 : ph_tn τ 9 0 (fun _ => 0) 0 0 2 = (x5 : Int) := by rw [tn_ne _ _ (by decide)]; exact f2
  have f3 : ph_tn τ 9 0 (fun _ => 0) 0 0 3 = 0 := by rw [tn_ne _ _ (by decide)]; exact f3
  have f4 : ph_tn τ 9 0 (fun _ => 0) 0 0 4 = (x6 : Int) := by rw [tn_ne _ _ (by decide)]; exact f4
  have f5 : ph_tn τ 9 0 (fun _ => 0) 0 0 5 = 0 := by rw [tn_ne _ _ (by decide)]; exact f5
  have f6 : ph_tn τ 9 0 (fun _ => 0) 0 0 6 = 0 := by rw [tn_ne _ _ (by decide)]; exact f6
  have f7 : ph_tn τ 9 0 (fun _ => 0) 0 0 7 = (x7 : Int) := by rw [tn_ne _ _ (by decide)]; exact f7
  have f8 : ph_tn τ 9 0 (fun _ => 0) 0 0 8 = (x8 : Int) := by rw [tn_ne _ _ (by decide)]; exact f8
  have l9 : ph_Ln L 9 0 9 0 := Or.inr ⟨rfl, rfl⟩
  have a9 : ph_an ad 9 0 x9 9 0 = x9 := an_at _ _ _ _
  have t9 : ∀ q, ph_tn τ 9 0 (fun _ => 0) 9 0 q = 0 := fun q => by rw [tn_at]
  have hN : ∀ g i, g ≠ 0 → g < 10 → g ≠ 4 → g ≠ 5 → g ≠ 6 → g ≠ 7 → g ≠ 8 → g ≠ 9 → ¬ ph_Ln L 9 0 g i := fun g i z0 z1 n4 n5 n6 n7 n8 nn q => q.elim (fun q => hN g i z0 z1 n4 n5 n6 n7 n8 q) (fun q => nn q.1)
  generalize ph_Ln L 9 0 = L at hl0 l4 l5 l6 l7 l8 l9 hN ⊢
  generalize ph_an ad 9 0 x9 = ad at ho a4 a5 a6 a7 a8 a9 ⊢
  generalize ph_tn τ 9 0 (fun _ => 0) = τ at t4 t5 t6 t7 t8 f0 f1 f2 f3 f4 f5 f6 f7 f8 t9 ⊢
  refine pt_J_47 (pc := 72) C d_J_init_72 hnm hl0 ho ?_
  have t4 : ∀ q, ph_up τ 0 0 9 ((x9 : Int)) 4 0 q = -1 := fun q => by rw [up_ne _ (by decide)]; exact t4 q
  have t5 : ∀ q, ph_up τ 0 0 9 ((x9 : Int)) 5 0 q = -1 := fun q => by rw [up_ne _ (by decide)]; exact t5 q
  have t6 : ∀ q, ph_up τ 0 0 9 ((x9 : Int)) 6 0 q = -1 := fun q => by rw [up_ne _ (by decide)]; exact t6 q
  have t7 : ∀ q, ph_up τ 0 0 9 ((x9 : Int)) 7 0 q = 0 := fun q => by rw [up_ne _ (by decide)]; exact t7 q
  have t8 : ∀ q, ph_up τ 0 0 9 ((x9 : Int)) 8 0 q = 0 := fun q => by rw [up_ne _ (by decide)]; exact t8 q
  have t9 : ∀ q, ph_up τ 0 0 9 ((x9 : Int)) 9 0 q = 0 := fun q => by rw [up_ne _ (by decide)]; exact t9 q
  have f0 : ph_up τ 0 0 9 ((x9 : Int)) 0 0 0 = (x4 : Int) := by rw [ph_up_no _ _ (by decide)]; exact f0
  have f1 : ph_up τ 0 0 9 ((x9 : Int)) 0 0 1 = 0 := by rw [ph_up_no _ _ (by decide)]; exact f1
  have f2 : ph_up τ 0 0 9 ((x9 : Int)) 0 0 2 = (x5 : Int) := by rw [ph_up_no _ _ (by decide)]; exact f2
  have f3 : ph_up τ 0 0 9 ((x9 : Int)) 0 0 3 = 0 := by rw [ph_up_no _ _ (by decide)]; exact f3
  have f4 : ph_up τ 0 0 9 ((x9 : Int)) 0 0 4 = (x6 : Int) := by rw [ph_up_no _ _ (by decide)]; exact f4
  have f5 : ph_up τ 0 0 9 ((x9 : Int)) 0 0 5 = 0 := by rw [ph_up_no _ _ (by decide)]; exact f5
  have f6 : ph_up τ 0 0 9 ((x9 : Int)) 0 0 6 = 0 := by rw [ph_up_no _ _ (by decide)]; exact f6
  have f7 : ph_up τ 0 0 9 ((x9 : Int)) 0 0 7 = (x7 : Int) := by rw [ph_up_no _ _ (by decide)]; exact f7
  have f8 : ph_up τ 0 0 9 ((x9 : Int)) 0 0 8 = (x8 : Int) := by rw [ph_up_no _ _ (by decide)]; exact f8
  have f9 : ph_up τ 0 0 9 ((x9 : Int)) 0 0 9 = (x9 : Int) := ph_up_at _ _ _ _ _
  generalize ph_up τ 0 0 9 ((x9 : Int)) = τ at t4 t5 t6 t7 t8 t9 f0 f1 f2 f3 f4 f5 f6 f7 f8 f9 ⊢
  refine ph_aload_n (pc := 75) C d_J_init_75 rfl ?_
  refine ph_iconst (pc := 76) C d_J_init_76 ?_
  refine pt_J_51 (pc := 77) C d_J_init_77 hl0 ho ?_
  have t4 : ∀ q, ph_up τ 0 0 10 (0) 4 0 q = -1 := fun q => by rw [up_ne _ (by decide)]; exact t4 q
  have t5 : ∀ q, ph_up τ 0 0 10 (0) 5 0 q = -1 := fun q => by rw [up_ne _ (by decide)]; exact t5 q
  have t6 : ∀ q, ph_up τ 0 0 10 (0) 6 0 q = -1 := fun q => by rw [up_ne _ (by decide)]; exact t6 q
  have t7 : ∀ q, ph_up τ 0 0 10 (0) 7 0 q = 0 := fun q => by rw [up_ne _ (by decide)]; exact t7 q
  have t8 : ∀ q, ph_up τ 0 0 10 (0) 8 0 q = 0 := fun q => by rw [up_ne _ (by decide)]; exact t8 q
  have t9 : ∀ q, ph_up τ 0 0 10 (0) 9 0 q = 0 := fun q => by rw [up_ne _ (by decide)]; exact t9 q
  have f0 : ph_up τ 0 0 10 (0) 0 0 0 = (x4 : Int) := by rw [ph_up_no _ _ (by decide)]; exact f0
  have f1 : ph_up τ 0 0 10 (0) 0 0 1 = 0 := by rw [ph_up_no _ _ (by decide)]; exact f1
  have f2 : ph_up τ 0 0 10 (0) 0 0 2 = (x5 : Int) := by rw [ph_up_no _ _ (by decide)]; exact f2
  have f3 : ph_up τ 0 0 10 (0) 0 0 3 = 0 := by rw [ph_up_no _ _ (by decide)]; exact f3
  have f4 : ph_up τ 0 0 10 (0) 0 0 4 = (x6 : Int) := by rw [ph_up_no _ _ (by decide)]; exact f4
  have f5 : ph_up τ 0 0 10 (0) 0 0 5 = 0 := by rw [ph_up_no _ _ (by decide)]; exact f5
  have f6 : ph_up τ 0 0 10 (0) 0 0 6 = 0 := by rw [ph_up_no _ _ (by decide)]; exact f6
  have f7 : ph_up τ 0 0 10 (0) 0 0 7 = (x7 : Int) := by rw [ph_up_no _ _ (by decide)]; exact f7
  have f8 : ph_up τ 0 0 10 (0) 0 0 8 = (x8 : Int) := by rw [ph_up_no _ _ (by decide)]; exact f8
  have f9 : ph_up τ 0 0 10 (0) 0 0 9 = (x9 : Int) := by rw [ph_up_no _ _ (by decide)]; exact f9
  have f10 : ph_up τ 0 0 10 (0) 0 0 10 = 0 := ph_up_at _ _ _ _ _
  generalize ph_up τ 0 0 10 (0) = τ at t4 t5 t6 t7 t8 t9 f0 f1 f2 f3 f4 f5 f6 f7 f8 f9 f10 ⊢
  refine ph_aload_n (pc := 80) C d_J_init_80 rfl ?_
  refine ph_lconst (pc := 81) C d_J_init_81 0 (by decide) ?_
  refine pt_J_54 (pc := 82) C d_J_init_82 hl0 ho ?_
  have t4 : ∀ q, ph_up τ 0 0 11 (0) 4 0 q = -1 := fun q => by rw [up_ne _ (by decide)]; exact t4 q
  have t5 : ∀ q, ph_up τ 0 0 11 (0) 5 0 q = -1 := fun q => by rw [up_ne _ (by decide)]; exact t5 q
  have t6 : ∀ q, ph_up τ 0 0 11 (0) 6 0 q = -1 := fun q => by rw [up_ne _ (by decide)]; exact t6 q
  have t7 : ∀ q, ph_up τ 0 0 11 (0) 7 0 q = 0 := fun q => by rw [up_ne _ (by decide)]; exact t7 q
  have t8 : ∀ q, ph_up τ 0 0 11 (0) 8 0 q = 0 := fun q => by rw [up_ne _ (by decide)]; exact t8 q
  have t9 : ∀ q, ph_up τ 0 0 11 (0) 9 0 q = 0 := fun q => by rw [up_ne _ (by decide)]; exact t9 q
  have f0 : ph_up τ 0 0 11 (0) 0 0 0 = (x4 : Int) := by rw [ph_up_no _ _ (by decide)]; exact f0
  have f1 : ph_up τ 0 0 11 (0) 0 0 1 = 0 := by rw [ph_up_no _ _ (by decide)]; exact f1
  have f2 : ph_up τ 0 0 11 (0) 0 0 2 = (x5 : Int) := by rw [ph_up_no _ _ (by decide)]; exact f2
  have f3 : ph_up τ 0 0 11 (0) 0 0 3 = 0 := by rw [ph_up_no _ _ (by decide)]; exact f3
  have f4 : ph_up τ 0 0 11 (0) 0 0 4 = (x6 : Int) := by rw [ph_up_no _ _ (by decide)]; exact f4
  have f5 : ph_up τ 0 0 11 (0) 0 0 5 = 0 := by rw [ph_up_no _ _ (by decide)]; exact f5
  have f6 : ph_up τ 0 0 11 (0) 0 0 6 = 0 := by rw [ph_up_no _ _ (by decide)]; exact f6
  have f7 : ph_up τ 0 0 11 (0) 0 0 7 = (x7 : Int) := by rw [ph_up_no _ _ (by decide)]; exact f7
  have f8 : ph_up τ 0 0 11 (0) 0 0 8 = (x8 : Int) := by rw [ph_up_no _ _ (by decide)]; exact f8
  have f9 : ph_up τ 0 0 11 (0) 0 0 9 = (x9 : Int) := by rw [ph_up_no _ _ (by decide)]; exact f9
  have f10 : ph_up τ 0 0 11 (0) 0 0 10 = 0 := by rw [ph_up_no _ _ (by decide)]; exact f10
  have f11 : ph_up τ 0 0 11 (0) 0 0 11 = 0 := ph_up_at _ _ _ _ _
  generalize ph_up τ 0 0 11 (0) = τ at t4 t5 t6 t7 t8 t9 f0 f1 f2 f3 f4 f5 f6 f7 f8 f9 f10 f11 ⊢
  refine ph_aload_n (pc := 85) C d_J_init_85 rfl ?_
  refine gt_J_40 (pc := 86) C d_J_init_86 hl0 ho f7 ?_
  refine ph_iconst (pc := 89) C d_J_init_89 ?_
  refine ph_iconst (pc := 90) C d_J_init_90 ?_
  refine ph_zast (pc := 91) C d_J_init_91 (by omega) l7 a7 rfl rfl 5 rfl (by decide) (by decide) ?_
  have t4 : ∀ q, ph_up τ 7 0 5 1 4 0 q = -1 := fun q => by rw [up_ne _ (by decide)]; exact t4 q
  have t5 : ∀ q, ph_up τ 7 0 5 1 5 0 q = -1 := fun q => by rw [up_ne _ (by decide)]; exact t5 q
  have t6 : ∀ q, ph_up τ 7 0 5 1 6 0 q = -1 := fun q => by rw [up_ne _ (by decide)]; exact t6 q
  have t8 : ∀ q, ph_up τ 7 0 5 1 8 0 q = 0 := fun q => by rw [up_ne _ (by decide)]; exact t8 q
  have t9 : ∀ q, ph_up τ 7 0 5 1 9 0 q = 0 := fun q => by rw [up_ne _ (by decide)]; exact t9 q
  have f0 : ph_up τ 7 0 5 1 0 0 0 = (x4 : Int) := by rw [up_ne _ (by decide)]; exact f0
  have f1 : ph_up τ 7 0 5 1 0 0 1 = 0 := by rw [up_ne _ (by decide)]; exact f1
  have f2 : ph_up τ 7 0 5 1 0 0 2 = (x5 : Int) := by rw [up_ne _ (by decide)]; exact f2
  have f3 : ph_up τ 7 0 5 1 0 0 3 = 0 := by rw [up_ne _ (by decide)]; exact f3
  have f4 : ph_up τ 7 0 5 1 0 0 4 = (x6 : Int) := by rw [up_ne _ (by decide)]; exact f4
  have f5 : ph_up τ 7 0 5 1 0 0 5 = 0 := by rw [up_ne _ (by decide)]; exact f5
  have f6 : ph_up τ 7 0 5 1 0 0 6 = 0 := by rw [up_ne _ (by decide)]; exact f6
  have f7 : ph_up τ 7 0 5 1 0 0 7 = (x7 : Int) := by rw [up_ne _ (by decide)]; exact f7
  have f8 : ph_up τ 7 0 5 1 0 0 8 = (x8 : Int) := by rw [up_ne _ (by decide)]; exact f8
  have f9 : ph_up τ 7 0 5 1 0 0 9 = (x9 : Int) := by rw [up_ne _ (by decide)]; exact f9
  have f10 : ph_up τ 7 0 5 1 0 0 10 = 0 := by rw [up_ne _ (by decide)]; exact f10
  have f11 : ph_up τ 7 0 5 1 0 0 11 = 0 := by rw [up_ne _ (by decide)]; exact f11
  have t7 : ∀ q, ph_up τ 7 0 5 1 7 0 q = if q = 5 then 1 else 0 := fun q => by rw [up_if]; have h9 := t7 q; grind
  generalize ph_up τ 7 0 5 1 = τ at t4 t5 t6 t8 t9 f0 f1 f2 f3 f4 f5 f6 f7 f8 f9 f10 f11 t7 ⊢
  refine ph_aload_n (pc := 92) C d_J_init_92 rfl ?_
  refine gt_J_40 (pc := 93) C d_J_init_93 hl0 ho f7 ?_
  refine ph_bipush (pc := 96) C d_J_init_96 (by decide) ?_
  refine ph_iconst (pc := 98) C d_J_init_98 ?_
  refine ph_zast (pc := 99) C d_J_init_99 (by omega) l7 a7 rfl rfl 6 rfl (by decide) (by decide) ?_
  have t4 : ∀ q, ph_up τ 7 0 6 1 4 0 q = -1 := fun q => by rw [up_ne _ (by decide)]; exact t4 q
  have t5 : ∀ q, ph_up τ 7 0 6 1 5 0 q = -1 := fun q => by rw [up_ne _ (by decide)]; exact t5 q
  have t6 : ∀ q, ph_up τ 7 0 6 1 6 0 q = -1 := fun q => by rw [up_ne _ (by decide)]; exact t6 q
  have t8 : ∀ q, ph_up τ 7 0 6 1 8 0 q = 0 := fun q => by rw [up_ne _ (by decide)]; exact t8 q
  have t9 : ∀ q, ph_up τ 7 0 6 1 9 0 q = 0 := fun q => by rw [up_ne _ (by decide)]; exact t9 q
  have f0 : ph_up τ 7 0 6 1 0 0 0 = (x4 : Int) := by rw [up_ne _ (by decide)]; exact f0
  have f1 : ph_up τ 7 0 6 1 0 0 1 = 0 := by rw [up_ne _ (by decide)]; exact f1
  have f2 : ph_up τ 7 0 6 1 0 0 2 = (x5 : Int) := by rw [up_ne _ (by decide)]; exact f2
  have f3 : ph_up τ 7 0 6 1 0 0 3 = 0 := by rw [up_ne _ (by decide)]; exact f3
  have f4 : ph_up τ 7 0 6 1 0 0 4 = (x6 : Int) := by rw [up_ne _ (by decide)]; exact f4
  have f5 : ph_up τ 7 0 6 1 0 0 5 = 0 := by rw [up_ne _ (by decide)]; exact f5
  have f6 : ph_up τ 7 0 6 1 0 0 6 = 0 := by rw [up_ne _ (by decide)]; exact f6
  have f7 : ph_up τ 7 0 6 1 0 0 7 = (x7 : Int) := by rw [up_ne _ (by decide)]; exact f7
  have f8 : ph_up τ 7 0 6 1 0 0 8 = (x8 : Int) := by rw [up_ne _ (by decide)]; exact f8
  have f9 : ph_up τ 7 0 6 1 0 0 9 = (x9 : Int) := by rw [up_ne _ (by decide)]; exact f9
  have f10 : ph_up τ 7 0 6 1 0 0 10 = 0 := by rw [up_ne _ (by decide)]; exact f10
  have f11 : ph_up τ 7 0 6 1 0 0 11 = 0 := by rw [up_ne _ (by decide)]; exact f11
  have t7 : ∀ q, ph_up τ 7 0 6 1 7 0 q = S00 7 0 q := fun q => by rw [up_if]; unfold S00; have h9 := t7 q; grind
  generalize ph_up τ 7 0 6 1 = τ at t4 t5 t6 t8 t9 f0 f1 f2 f3 f4 f5 f6 f7 f8 f9 f10 f11 t7 ⊢
  have hz : ∀ g i, LC S00 g i → (g = 0 ∨ g = 4 ∨ g = 5 ∨ g = 6 ∨ g = 7 ∨ g = 8 ∨ g = 9) ∧ i = 0 := fun g i h => by
    unfold LC at h
    split at h
    · exact ⟨Or.inl rfl, h⟩
    · exact absurd h (by show ¬ (i : Int) < 0; omega)
    · exact absurd h (by show ¬ (1 ≤ i ∧ (i : Int) ≤ 0); omega)
    · exact absurd h (by show ¬ (1 ≤ i ∧ (i : Int) ≤ 0); omega)
    all_goals first | exact ⟨by decide, h⟩ | exact h.elim
  have hJ : JR S00 o L ad τ := by
    refine ⟨fun g i h => ?_, ho, fun g i q h hd => ?_, ⟨by rw [f0, a4], by rw [f2, a5], by rw [f4, a6], by rw [f7, a7], by rw [f8, a8], by rw [f9, a9]⟩, fun i h => ?_, fun i h => ?_, fun i h => ?_⟩
    · obtain ⟨hg, rfl⟩ := hz g i h
      rcases hg with rfl | rfl | rfl | rfl | rfl | rfl | rfl
      · exact hl0
      · exact l4
      · exact l5
      · exact l6
      · exact l7
      · exact l8
      · exact l9
    · obtain ⟨hg, rfl⟩ := hz g i h
      rcases hg with rfl | rfl | rfl | rfl | rfl | rfl | rfl
      · have hq : q = 1 ∨ q = 3 ∨ q = 5 ∨ q = 6 ∨ q = 10 ∨ q = 11 := by simp [dp] at hd; omega
        rcases hq with rfl | rfl | rfl | rfl | rfl | rfl
        · exact f1
        · exact f3
        · exact f5
        · exact f6
        · exact f10
        · exact f11
      · cases hd
      · cases hd
      · cases hd
      · exact t7 q
      · exact t8 q
      · exact t9 q
    · exact absurd h (by show ¬ (i : Int) < 0; omega)
    · exact absurd h (by show ¬ (1 ≤ i ∧ (i : Int) ≤ 0); omega)
    · exact absurd h (by show ¬ (1 ≤ i ∧ (i : Int) ≤ 0); omega)
  have hJF : JF S00 L := fun g i hg hl => absurd hl (hN g i (by omega) (by omega) (by omega) (by omega) (by omega) (by omega) (by omega) (by omega))
  exact ph_vret (pc := 100) C d_J_init_100 hr hlk (by decide) (by decide) ⟨hJ, hJF, rfl⟩
