/-! ===== the other side's constructor ===== -/
def mz_0 : ph_T := fun _ _ _ => 0
def mf_1 : Nat → Int := (ph_u1 (ph_u1 (ph_u1 (ph_u1 (ph_u1 (ph_u1 (ph_u1 (fun _ => 0) 0 (0)) 1 (2)) 2 (4)) 3 (3)) 4 (1)) 5 (6)) 6 (7))
def mz_1 : ph_T := ph_tn mz_0 49 0 mf_1
def mf_2 : Nat → Int := (ph_u1 (ph_u1 (ph_u1 (ph_u1 (ph_u1 (ph_u1 (ph_u1 (ph_u1 (ph_u1 (ph_u1 (ph_u1 (ph_u1 (ph_u1 (ph_u1 (ph_u1 (ph_u1 (ph_u1 (ph_u1 (ph_u1 (ph_u1 (ph_u1 (fun _ => 0) 0 (0)) 1 (0)) 2 (0)) 3 (1)) 4 (0)) 5 (0)) 6 (1)) 7 (2)) 8 (0)) 9 (1)) 10 (3)) 11 (0)) 12 (1)) 13 (0)) 14 (0)) 15 (4)) 16 (3)) 17 (5)) 18 (4)) 19 (5)) 20 (0))
def mz_2 : ph_T := ph_tn mz_1 50 0 mf_2
def mz_3 : ph_T := ph_up mz_2 47 0 5 (1)
def mz_4 : ph_T := ph_up mz_3 47 0 6 (1)
set_option maxHeartbeats 4000000 in
set_option maxRecDepth 100000 in
theorem c_M_init (l : Launch) (D : va_G) (dT : Nat → ClassId) (A : Nat → Prop) (KX : State → Prop) (L : Nat → Nat → Prop) (ad : Nat → Nat → Nat) (τ : ph_T) (o : Nat) (hl0 : L 20 0) (ho : ad 20 0 = o) (hz : ∀ k, mrf k = false → τ 20 0 k = 0) (hN : ∀ g i, 20 < g → ¬ L g i) : ph_M l y_M_init (.code y_M_init b_M_init 1 none :: TB) ({ frames := 1, cells := 27, slots := 3834, locals := 12 } : Room) D CLs (TY dT) dT kd A KX [.ref (o)] L ad τ (fun r L' ad' τ' => MR mz_4 o L' ad' τ' ∧ r = none) 27 3834 := by
  refine ph_M.of (cc := b_M_init) (maxL := 1) (ret := none) (by decide) rfl (Nat.le_of_ble_eq_true rfl) ?_
  intro p e s m below meth c C0 hr hlk hnm
  have C := C0.sub
  refine ph_loc (l2 := [(0, .ref (o))]) ⟨rfl, trivial⟩ ?_
  have hP : MP (fun _ => false) mz_0 o L ad τ := ⟨hl0, ho, (fun k _ h => by cases h), fun k hk => hz k hk, fun g i hg _ => hN g i hg⟩
  refine ph_aload_n (pc := 0) C d_M_init_0 rfl ?_
  refine ph_objInit (pc := 1) C d_M_init_1 tw_380 tw_12 tw_13 (by decide) (by decide) ?_
  refine ph_aload_n (pc := 4) C d_M_init_4 rfl ?_
  refine ph_bipush (pc := 5) C d_M_init_5 (by decide) ?_
  refine ph_newl (pc := 7) (g := 22) C d_M_init_7 0 (hP.fr (k := 1) rfl rfl 0) rfl rfl tw_481 rfl (by decide) (by decide) (by decide) rfl ?_
  intro x1 hfr
  refine pt_M_7 (pc := 9) C d_M_init_9 hnm (Or.inl hP.1) ((an_ne _ _ (by decide)).trans hP.2.1) ?_
  have hP := hP.blk0 (k := 1) x1 rfl rfl (fun j => rfl)
  generalize ph_up (ph_tn τ 22 0 (fun _ => 0)) 20 0 1 (x1 : Int) = τ at hP ⊢
  generalize ph_Ln L 22 0 = L at hP ⊢
  generalize ph_an ad 22 0 x1 = ad at hP ⊢
  refine ph_aload_n (pc := 12) C d_M_init_12 rfl ?_
  refine ph_bipush (pc := 13) C d_M_init_13 (by decide) ?_
  refine ph_newz (pc := 15) (g := 23) C d_M_init_15 0 (hP.fr (k := 2) rfl rfl 0) rfl rfl tw_57 rfl (by decide) (by decide) (by decide) rfl ?_
  intro x2 hfr
  refine pt_M_13 (pc := 17) C d_M_init_17 hnm (Or.inl hP.1) ((an_ne _ _ (by decide)).trans hP.2.1) ?_
  have hP := hP.blk0 (k := 2) x2 rfl rfl (fun j => rfl)
  generalize ph_up (ph_tn τ 23 0 (fun _ => 0)) 20 0 2 (x2 : Int) = τ at hP ⊢
  generalize ph_Ln L 23 0 = L at hP ⊢
  generalize ph_an ad 23 0 x2 = ad at hP ⊢
  refine ph_aload_n (pc := 20) C d_M_init_20 rfl ?_
  refine ph_bipush (pc := 21) C d_M_init_21 (by decide) ?_
  refine ph_newi (pc := 23) (g := 24) C d_M_init_23 0 (hP.fr (k := 3) rfl rfl 0) rfl rfl tw_58 rfl (by decide) (by decide) (by decide) rfl ?_
  intro x3 hfr
  refine pt_M_17 (pc := 25) C d_M_init_25 hnm (Or.inl hP.1) ((an_ne _ _ (by decide)).trans hP.2.1) ?_
  have hP := hP.blk0 (k := 3) x3 rfl rfl (fun j => rfl)
  generalize ph_up (ph_tn τ 24 0 (fun _ => 0)) 20 0 3 (x3 : Int) = τ at hP ⊢
  generalize ph_Ln L 24 0 = L at hP ⊢
  generalize ph_an ad 24 0 x3 = ad at hP ⊢
  refine ph_aload_n (pc := 28) C d_M_init_28 rfl ?_
  refine ph_bipush (pc := 29) C d_M_init_29 (by decide) ?_
  refine ph_newl (pc := 31) (g := 25) C d_M_init_31 0 (hP.fr (k := 4) rfl rfl 0) rfl rfl tw_481 rfl (by decide) (by decide) (by decide) rfl ?_
  intro x4 hfr
  refine pt_M_21 (pc := 33) C d_M_init_33 hnm (Or.inl hP.1) ((an_ne _ _ (by decide)).trans hP.2.1) ?_
  have hP := hP.blk0 (k := 4) x4 rfl rfl (fun j => rfl)
  generalize ph_up (ph_tn τ 25 0 (fun _ => 0)) 20 0 4 (x4 : Int) = τ at hP ⊢
  generalize ph_Ln L 25 0 = L at hP ⊢
  generalize ph_an ad 25 0 x4 = ad at hP ⊢
  refine ph_aload_n (pc := 36) C d_M_init_36 rfl ?_
  refine ph_bipush (pc := 37) C d_M_init_37 (by decide) ?_
  refine ph_newi (pc := 39) (g := 26) C d_M_init_39 0 (hP.fr (k := 5) rfl rfl 0) rfl rfl tw_58 rfl (by decide) (by decide) (by decide) rfl ?_
  intro x5 hfr
  refine pt_M_24 (pc := 41) C d_M_init_41 hnm (Or.inl hP.1) ((an_ne _ _ (by decide)).trans hP.2.1) ?_
  have hP := hP.blk0 (k := 5) x5 rfl rfl (fun j => rfl)
  generalize ph_up (ph_tn τ 26 0 (fun _ => 0)) 20 0 5 (x5 : Int) = τ at hP ⊢
  generalize ph_Ln L 26 0 = L at hP ⊢
  generalize ph_an ad 26 0 x5 = ad at hP ⊢
  refine ph_aload_n (pc := 44) C d_M_init_44 rfl ?_
  refine ph_bipush (pc := 45) C d_M_init_45 (by decide) ?_
  refine ph_newz (pc := 47) (g := 27) C d_M_init_47 0 (hP.fr (k := 6) rfl rfl 0) rfl rfl tw_57 rfl (by decide) (by decide) (by decide) rfl ?_
  intro x6 hfr
  refine pt_M_27 (pc := 49) C d_M_init_49 hnm (Or.inl hP.1) ((an_ne _ _ (by decide)).trans hP.2.1) ?_
  have hP := hP.blk0 (k := 6) x6 rfl rfl (fun j => rfl)
  generalize ph_up (ph_tn τ 27 0 (fun _ => 0)) 20 0 6 (x6 : Int) = τ at hP ⊢
  generalize ph_Ln L 27 0 = L at hP ⊢
  generalize ph_an ad 27 0 x6 = ad at hP ⊢
  refine ph_aload_n (pc := 52) C d_M_init_52 rfl ?_
  refine ph_bipush (pc := 53) C d_M_init_53 (by decide) ?_
  refine ph_newl (pc := 55) (g := 29) C d_M_init_55 0 (hP.fr (k := 8) rfl rfl 0) rfl rfl tw_481 rfl (by decide) (by decide) (by decide) rfl ?_
  intro x8 hfr
  refine pt_M_30 (pc := 57) C d_M_init_57 hnm (Or.inl hP.1) ((an_ne _ _ (by decide)).trans hP.2.1) ?_
  have hP := hP.blk0 (k := 8) x8 rfl rfl (fun j => rfl)
  generalize ph_up (ph_tn τ 29 0 (fun _ => 0)) 20 0 8 (x8 : Int) = τ at hP ⊢
  generalize ph_Ln L 29 0 = L at hP ⊢
  generalize ph_an ad 29 0 x8 = ad at hP ⊢
  refine ph_aload_n (pc := 60) C d_M_init_60 rfl ?_
  refine ph_bipush (pc := 61) C d_M_init_61 (by decide) ?_
  refine ph_newl (pc := 63) (g := 30) C d_M_init_63 0 (hP.fr (k := 9) rfl rfl 0) rfl rfl tw_481 rfl (by decide) (by decide) (by decide) rfl ?_
  intro x9 hfr
  refine pt_M_33 (pc := 65) C d_M_init_65 hnm (Or.inl hP.1) ((an_ne _ _ (by decide)).trans hP.2.1) ?_
  have hP := hP.blk0 (k := 9) x9 rfl rfl (fun j => rfl)
  generalize ph_up (ph_tn τ 30 0 (fun _ => 0)) 20 0 9 (x9 : Int) = τ at hP ⊢
  generalize ph_Ln L 30 0 = L at hP ⊢
  generalize ph_an ad 30 0 x9 = ad at hP ⊢
  refine ph_aload_n (pc := 68) C d_M_init_68 rfl ?_
  refine ph_bipush (pc := 69) C d_M_init_69 (by decide) ?_
  refine ph_newi (pc := 71) (g := 31) C d_M_init_71 0 (hP.fr (k := 10) rfl rfl 0) rfl rfl tw_58 rfl (by decide) (by decide) (by decide) rfl ?_
  intro x10 hfr
  refine pt_M_36 (pc := 73) C d_M_init_73 hnm (Or.inl hP.1) ((an_ne _ _ (by decide)).trans hP.2.1) ?_
  have hP := hP.blk0 (k := 10) x10 rfl rfl (fun j => rfl)
  generalize ph_up (ph_tn τ 31 0 (fun _ => 0)) 20 0 10 (x10 : Int) = τ at hP ⊢
  generalize ph_Ln L 31 0 = L at hP ⊢
  generalize ph_an ad 31 0 x10 = ad at hP ⊢
  refine ph_aload_n (pc := 76) C d_M_init_76 rfl ?_
  refine ph_sipush (pc := 77) C d_M_init_77 (by decide) ?_
  refine ph_newz (pc := 80) (g := 32) C d_M_init_80 0 (hP.fr (k := 11) rfl rfl 0) rfl rfl tw_57 rfl (by decide) (by decide) (by decide) rfl ?_
  intro x11 hfr
  refine pt_M_39 (pc := 82) C d_M_init_82 hnm (Or.inl hP.1) ((an_ne _ _ (by decide)).trans hP.2.1) ?_
  have hP := hP.blk0 (k := 11) x11 rfl rfl (fun j => rfl)
  generalize ph_up (ph_tn τ 32 0 (fun _ => 0)) 20 0 11 (x11 : Int) = τ at hP ⊢
  generalize ph_Ln L 32 0 = L at hP ⊢
  generalize ph_an ad 32 0 x11 = ad at hP ⊢
  refine ph_aload_n (pc := 85) C d_M_init_85 rfl ?_
  refine ph_bipush (pc := 86) C d_M_init_86 (by decide) ?_
  refine ph_newz (pc := 88) (g := 33) C d_M_init_88 0 (hP.fr (k := 12) rfl rfl 0) rfl rfl tw_57 rfl (by decide) (by decide) (by decide) rfl ?_
  intro x12 hfr
  refine pt_M_42 (pc := 90) C d_M_init_90 hnm (Or.inl hP.1) ((an_ne _ _ (by decide)).trans hP.2.1) ?_
  have hP := hP.blk0 (k := 12) x12 rfl rfl (fun j => rfl)
  generalize ph_up (ph_tn τ 33 0 (fun _ => 0)) 20 0 12 (x12 : Int) = τ at hP ⊢
  generalize ph_Ln L 33 0 = L at hP ⊢
  generalize ph_an ad 33 0 x12 = ad at hP ⊢
  refine ph_aload_n (pc := 93) C d_M_init_93 rfl ?_
  refine ph_bipush (pc := 94) C d_M_init_94 (by decide) ?_
  refine ph_newz (pc := 96) (g := 34) C d_M_init_96 0 (hP.fr (k := 13) rfl rfl 0) rfl rfl tw_57 rfl (by decide) (by decide) (by decide) rfl ?_
  intro x13 hfr
  refine pt_M_45 (pc := 98) C d_M_init_98 hnm (Or.inl hP.1) ((an_ne _ _ (by decide)).trans hP.2.1) ?_
  have hP := hP.blk0 (k := 13) x13 rfl rfl (fun j => rfl)
  generalize ph_up (ph_tn τ 34 0 (fun _ => 0)) 20 0 13 (x13 : Int) = τ at hP ⊢
  generalize ph_Ln L 34 0 = L at hP ⊢
  generalize ph_an ad 34 0 x13 = ad at hP ⊢
  refine ph_aload_n (pc := 101) C d_M_init_101 rfl ?_
  refine ph_bipush (pc := 102) C d_M_init_102 (by decide) ?_
  refine ph_newi (pc := 104) (g := 35) C d_M_init_104 0 (hP.fr (k := 14) rfl rfl 0) rfl rfl tw_58 rfl (by decide) (by decide) (by decide) rfl ?_
  intro x14 hfr
  refine pt_M_48 (pc := 106) C d_M_init_106 hnm (Or.inl hP.1) ((an_ne _ _ (by decide)).trans hP.2.1) ?_
  have hP := hP.blk0 (k := 14) x14 rfl rfl (fun j => rfl)
  generalize ph_up (ph_tn τ 35 0 (fun _ => 0)) 20 0 14 (x14 : Int) = τ at hP ⊢
  generalize ph_Ln L 35 0 = L at hP ⊢
  generalize ph_an ad 35 0 x14 = ad at hP ⊢
  refine ph_aload_n (pc := 109) C d_M_init_109 rfl ?_
  refine ph_bipush (pc := 110) C d_M_init_110 (by decide) ?_
  refine ph_newi (pc := 112) (g := 38) C d_M_init_112 0 (hP.fr (k := 17) rfl rfl 0) rfl rfl tw_58 rfl (by decide) (by decide) (by decide) rfl ?_
  intro x17 hfr
  refine pt_M_51 (pc := 114) C d_M_init_114 hnm (Or.inl hP.1) ((an_ne _ _ (by decide)).trans hP.2.1) ?_
  have hP := hP.blk0 (k := 17) x17 rfl rfl (fun j => rfl)
  generalize ph_up (ph_tn τ 38 0 (fun _ => 0)) 20 0 17 (x17 : Int) = τ at hP ⊢
  generalize ph_Ln L 38 0 = L at hP ⊢
  generalize ph_an ad 38 0 x17 = ad at hP ⊢
  refine ph_aload_n (pc := 117) C d_M_init_117 rfl ?_
  refine ph_bipush (pc := 118) C d_M_init_118 (by decide) ?_
  refine ph_newi (pc := 120) (g := 39) C d_M_init_120 0 (hP.fr (k := 18) rfl rfl 0) rfl rfl tw_58 rfl (by decide) (by decide) (by decide) rfl ?_
  intro x18 hfr
  refine pt_M_54 (pc := 122) C d_M_init_122 hnm (Or.inl hP.1) ((an_ne _ _ (by decide)).trans hP.2.1) ?_
  have hP := hP.blk0 (k := 18) x18 rfl rfl (fun j => rfl)
  generalize ph_up (ph_tn τ 39 0 (fun _ => 0)) 20 0 18 (x18 : Int) = τ at hP ⊢
  generalize ph_Ln L 39 0 = L at hP ⊢
  generalize ph_an ad 39 0 x18 = ad at hP ⊢
  refine ph_aload_n (pc := 125) C d_M_init_125 rfl ?_
  refine ph_bipush (pc := 126) C d_M_init_126 (by decide) ?_
  refine ph_newl (pc := 128) (g := 40) C d_M_init_128 0 (hP.fr (k := 19) rfl rfl 0) rfl rfl tw_481 rfl (by decide) (by decide) (by decide) rfl ?_
  intro x19 hfr
  refine pt_M_57 (pc := 130) C d_M_init_130 hnm (Or.inl hP.1) ((an_ne _ _ (by decide)).trans hP.2.1) ?_
  have hP := hP.blk0 (k := 19) x19 rfl rfl (fun j => rfl)
  generalize ph_up (ph_tn τ 40 0 (fun _ => 0)) 20 0 19 (x19 : Int) = τ at hP ⊢
  generalize ph_Ln L 40 0 = L at hP ⊢
  generalize ph_an ad 40 0 x19 = ad at hP ⊢
  refine ph_aload_n (pc := 133) C d_M_init_133 rfl ?_
  refine ph_bipush (pc := 134) C d_M_init_134 (by decide) ?_
  refine ph_newz (pc := 136) (g := 41) C d_M_init_136 0 (hP.fr (k := 20) rfl rfl 0) rfl rfl tw_57 rfl (by decide) (by decide) (by decide) rfl ?_
  intro x20 hfr
  refine pt_M_60 (pc := 138) C d_M_init_138 hnm (Or.inl hP.1) ((an_ne _ _ (by decide)).trans hP.2.1) ?_
  have hP := hP.blk0 (k := 20) x20 rfl rfl (fun j => rfl)
  generalize ph_up (ph_tn τ 41 0 (fun _ => 0)) 20 0 20 (x20 : Int) = τ at hP ⊢
  generalize ph_Ln L 41 0 = L at hP ⊢
  generalize ph_an ad 41 0 x20 = ad at hP ⊢
  refine ph_aload_n (pc := 141) C d_M_init_141 rfl ?_
  refine ph_bipush (pc := 142) C d_M_init_142 (by decide) ?_
  refine ph_newz (pc := 144) (g := 42) C d_M_init_144 0 (hP.fr (k := 21) rfl rfl 0) rfl rfl tw_57 rfl (by decide) (by decide) (by decide) rfl ?_
  intro x21 hfr
  refine pt_M_63 (pc := 146) C d_M_init_146 hnm (Or.inl hP.1) ((an_ne _ _ (by decide)).trans hP.2.1) ?_
  have hP := hP.blk0 (k := 21) x21 rfl rfl (fun j => rfl)
  generalize ph_up (ph_tn τ 42 0 (fun _ => 0)) 20 0 21 (x21 : Int) = τ at hP ⊢
  generalize ph_Ln L 42 0 = L at hP ⊢
  generalize ph_an ad 42 0 x21 = ad at hP ⊢
  refine ph_aload_n (pc := 149) C d_M_init_149 rfl ?_
  refine ph_bipush (pc := 150) C d_M_init_150 (by decide) ?_
  refine ph_newz (pc := 152) (g := 43) C d_M_init_152 0 (hP.fr (k := 22) rfl rfl 0) rfl rfl tw_57 rfl (by decide) (by decide) (by decide) rfl ?_
  intro x22 hfr
  refine pt_M_66 (pc := 154) C d_M_init_154 hnm (Or.inl hP.1) ((an_ne _ _ (by decide)).trans hP.2.1) ?_
  have hP := hP.blk0 (k := 22) x22 rfl rfl (fun j => rfl)
  generalize ph_up (ph_tn τ 43 0 (fun _ => 0)) 20 0 22 (x22 : Int) = τ at hP ⊢
  generalize ph_Ln L 43 0 = L at hP ⊢
  generalize ph_an ad 43 0 x22 = ad at hP ⊢
  refine ph_aload_n (pc := 157) C d_M_init_157 rfl ?_
  refine ph_bipush (pc := 158) C d_M_init_158 (by decide) ?_
  refine ph_newi (pc := 160) (g := 44) C d_M_init_160 0 (hP.fr (k := 23) rfl rfl 0) rfl rfl tw_58 rfl (by decide) (by decide) (by decide) rfl ?_
  intro x23 hfr
  refine pt_M_69 (pc := 162) C d_M_init_162 hnm (Or.inl hP.1) ((an_ne _ _ (by decide)).trans hP.2.1) ?_
  have hP := hP.blk0 (k := 23) x23 rfl rfl (fun j => rfl)
  generalize ph_up (ph_tn τ 44 0 (fun _ => 0)) 20 0 23 (x23 : Int) = τ at hP ⊢
  generalize ph_Ln L 44 0 = L at hP ⊢
  generalize ph_an ad 44 0 x23 = ad at hP ⊢
  refine ph_aload_n (pc := 165) C d_M_init_165 rfl ?_
  refine ph_bipush (pc := 166) C d_M_init_166 (by decide) ?_
  refine ph_newz (pc := 168) (g := 45) C d_M_init_168 0 (hP.fr (k := 24) rfl rfl 0) rfl rfl tw_57 rfl (by decide) (by decide) (by decide) rfl ?_
  intro x24 hfr
  refine pt_M_72 (pc := 170) C d_M_init_170 hnm (Or.inl hP.1) ((an_ne _ _ (by decide)).trans hP.2.1) ?_
  have hP := hP.blk0 (k := 24) x24 rfl rfl (fun j => rfl)
  generalize ph_up (ph_tn τ 45 0 (fun _ => 0)) 20 0 24 (x24 : Int) = τ at hP ⊢
  generalize ph_Ln L 45 0 = L at hP ⊢
  generalize ph_an ad 45 0 x24 = ad at hP ⊢
  refine ph_aload_n (pc := 173) C d_M_init_173 rfl ?_
  refine ph_sipush (pc := 174) C d_M_init_174 (by decide) ?_
  refine ph_newz (pc := 177) (g := 46) C d_M_init_177 0 (hP.fr (k := 25) rfl rfl 0) rfl rfl tw_57 rfl (by decide) (by decide) (by decide) rfl ?_
  intro x25 hfr
  refine pt_M_75 (pc := 179) C d_M_init_179 hnm (Or.inl hP.1) ((an_ne _ _ (by decide)).trans hP.2.1) ?_
  have hP := hP.blk0 (k := 25) x25 rfl rfl (fun j => rfl)
  generalize ph_up (ph_tn τ 46 0 (fun _ => 0)) 20 0 25 (x25 : Int) = τ at hP ⊢
  generalize ph_Ln L 46 0 = L at hP ⊢
  generalize ph_an ad 46 0 x25 = ad at hP ⊢
  refine ph_aload_n (pc := 182) C d_M_init_182 rfl ?_
  refine ph_bipush (pc := 183) C d_M_init_183 (by decide) ?_
  refine ph_newz (pc := 185) (g := 47) C d_M_init_185 0 (hP.fr (k := 26) rfl rfl 0) rfl rfl tw_57 rfl (by decide) (by decide) (by decide) rfl ?_
  intro x26 hfr
  refine pt_M_78 (pc := 187) C d_M_init_187 hnm (Or.inl hP.1) ((an_ne _ _ (by decide)).trans hP.2.1) ?_
  have hP := hP.blk0 (k := 26) x26 rfl rfl (fun j => rfl)
  generalize ph_up (ph_tn τ 47 0 (fun _ => 0)) 20 0 26 (x26 : Int) = τ at hP ⊢
  generalize ph_Ln L 47 0 = L at hP ⊢
  generalize ph_an ad 47 0 x26 = ad at hP ⊢
  refine ph_aload_n (pc := 190) C d_M_init_190 rfl ?_
  refine ph_bipush (pc := 191) C d_M_init_191 (by decide) ?_
  refine ph_newz (pc := 193) (g := 48) C d_M_init_193 0 (hP.fr (k := 27) rfl rfl 0) rfl rfl tw_57 rfl (by decide) (by decide) (by decide) rfl ?_
  intro x27 hfr
  refine pt_M_81 (pc := 195) C d_M_init_195 hnm (Or.inl hP.1) ((an_ne _ _ (by decide)).trans hP.2.1) ?_
  have hP := hP.blk0 (k := 27) x27 rfl rfl (fun j => rfl)
  generalize ph_up (ph_tn τ 48 0 (fun _ => 0)) 20 0 27 (x27 : Int) = τ at hP ⊢
  generalize ph_Ln L 48 0 = L at hP ⊢
  generalize ph_an ad 48 0 x27 = ad at hP ⊢
  refine ph_aload_n (pc := 198) C d_M_init_198 rfl ?_
  refine ph_bipush (pc := 199) C d_M_init_199 (by decide) ?_
  refine ph_newi (pc := 201) (g := 49) C d_M_init_201 0 (hP.fr (k := 28) rfl rfl 0) rfl rfl tw_58 rfl (by decide) (by decide) (by decide) rfl ?_
  intro x28 hfr
  refine ph_dup (pc := 203) C d_M_init_203 rfl ?_
  refine ph_iconst (pc := 204) C d_M_init_204 ?_
  refine ph_iconst (pc := 205) C d_M_init_205 ?_
  refine ph_iast (pc := 206) (g := 49) (i := 0) C d_M_init_206 (Or.inr ⟨rfl, rfl⟩) (an_at _ _ _ _) rfl rfl 0 rfl (by decide) (by decide) ?_
  rw [tn_up]
  refine ph_dup (pc := 207) C d_M_init_207 rfl ?_
  refine ph_iconst (pc := 208) C d_M_init_208 ?_
  refine ph_iconst (pc := 209) C d_M_init_209 ?_
  refine ph_iast (pc := 210) (g := 49) (i := 0) C d_M_init_210 (Or.inr ⟨rfl, rfl⟩) (an_at _ _ _ _) rfl rfl 1 rfl (by decide) (by decide) ?_
  rw [tn_up]
  refine ph_dup (pc := 211) C d_M_init_211 rfl ?_
  refine ph_iconst (pc := 212) C d_M_init_212 ?_
  refine ph_iconst (pc := 213) C d_M_init_213 ?_
  refine ph_iast (pc := 214) (g := 49) (i := 0) C d_M_init_214 (Or.inr ⟨rfl, rfl⟩) (an_at _ _ _ _) rfl rfl 2 rfl (by decide) (by decide) ?_
  rw [tn_up]
  refine ph_dup (pc := 215) C d_M_init_215 rfl ?_
  refine ph_iconst (pc := 216) C d_M_init_216 ?_
  refine ph_iconst (pc := 217) C d_M_init_217 ?_
  refine ph_iast (pc := 218) (g := 49) (i := 0) C d_M_init_218 (Or.inr ⟨rfl, rfl⟩) (an_at _ _ _ _) rfl rfl 3 rfl (by decide) (by decide) ?_
  rw [tn_up]
  refine ph_dup (pc := 219) C d_M_init_219 rfl ?_
  refine ph_iconst (pc := 220) C d_M_init_220 ?_
  refine ph_iconst (pc := 221) C d_M_init_221 ?_
  refine ph_iast (pc := 222) (g := 49) (i := 0) C d_M_init_222 (Or.inr ⟨rfl, rfl⟩) (an_at _ _ _ _) rfl rfl 4 rfl (by decide) (by decide) ?_
  rw [tn_up]
  refine ph_dup (pc := 223) C d_M_init_223 rfl ?_
  refine ph_iconst (pc := 224) C d_M_init_224 ?_
  refine ph_bipush (pc := 225) C d_M_init_225 (by decide) ?_
  refine ph_iast (pc := 227) (g := 49) (i := 0) C d_M_init_227 (Or.inr ⟨rfl, rfl⟩) (an_at _ _ _ _) rfl rfl 5 rfl (by decide) (by decide) ?_
  rw [tn_up]
  refine ph_dup (pc := 228) C d_M_init_228 rfl ?_
  refine ph_bipush (pc := 229) C d_M_init_229 (by decide) ?_
  refine ph_bipush (pc := 231) C d_M_init_231 (by decide) ?_
  refine ph_iast (pc := 233) (g := 49) (i := 0) C d_M_init_233 (Or.inr ⟨rfl, rfl⟩) (an_at _ _ _ _) rfl rfl 6 rfl (by decide) (by decide) ?_
  rw [tn_up]
  refine pt_M_84 (pc := 234) C d_M_init_234 hnm (Or.inl hP.1) ((an_ne _ _ (by decide)).trans hP.2.1) ?_
  have hP : MP (pad (pad (pad (pad (pad (pad (pad (pad (pad (pad (pad (pad (pad (pad (pad (pad (pad (pad (pad (pad (pad (pad (pad (pad (pad (fun _ => false) 1) 2) 3) 4) 5) 6) 8) 9) 10) 11) 12) 13) 14) 17) 18) 19) 20) 21) 22) 23) 24) 25) 26) 27) 28) mz_1 o _ _ _ := hP.blk (k := 28) x28 mf_1 rfl rfl
  change ph_W p l e ({ frames := 1, cells := 27, slots := 3834, locals := 12 } : Room) s m [.ref o].toArray below meth c D CLs dT kd A 1 _ (ph_Ln L 49 0) (ph_an ad 49 0 x28) (ph_up (ph_tn τ 49 0 mf_1) 20 0 28 (x28 : Int)) _ _ _ _ _
  generalize ph_up (ph_tn τ 49 0 mf_1) 20 0 28 (x28 : Int) = τ at hP ⊢
  generalize ph_Ln L 49 0 = L at hP ⊢
  generalize ph_an ad 49 0 x28 = ad at hP ⊢
  refine ph_aload_n (pc := 237) C d_M_init_237 rfl ?_
  refine ph_bipush (pc := 238) C d_M_init_238 (by decide) ?_
  refine ph_newi (pc := 240) (g := 50) C d_M_init_240 0 (hP.fr (k := 29) rfl rfl 0) rfl rfl tw_58 rfl (by decide) (by decide) (by decide) rfl ?_
  intro x29 hfr
  refine ph_dup (pc := 242) C d_M_init_242 rfl ?_
  refine ph_iconst (pc := 243) C d_M_init_243 ?_
  refine ph_iconst (pc := 244) C d_M_init_244 ?_
  refine ph_iast (pc := 245) (g := 50) (i := 0) C d_M_init_245 (Or.inr ⟨rfl, rfl⟩) (an_at _ _ _ _) rfl rfl 0 rfl (by decide) (by decide) ?_
  rw [tn_up]
  refine ph_dup (pc := 246) C d_M_init_246 rfl ?_
  refine ph_iconst (pc := 247) C d_M_init_247 ?_
  refine ph_iconst (pc := 248) C d_M_init_248 ?_
  refine ph_iast (pc := 249) (g := 50) (i := 0) C d_M_init_249 (Or.inr ⟨rfl, rfl⟩) (an_at _ _ _ _) rfl rfl 1 rfl (by decide) (by decide) ?_
  rw [tn_up]
  refine ph_dup (pc := 250) C d_M_init_250 rfl ?_
  refine ph_iconst (pc := 251) C d_M_init_251 ?_
  refine ph_iconst (pc := 252) C d_M_init_252 ?_
  refine ph_iast (pc := 253) (g := 50) (i := 0) C d_M_init_253 (Or.inr ⟨rfl, rfl⟩) (an_at _ _ _ _) rfl rfl 2 rfl (by decide) (by decide) ?_
  rw [tn_up]
  refine ph_dup (pc := 254) C d_M_init_254 rfl ?_
  refine ph_iconst (pc := 255) C d_M_init_255 ?_
  refine ph_iconst (pc := 256) C d_M_init_256 ?_
  refine ph_iast (pc := 257) (g := 50) (i := 0) C d_M_init_257 (Or.inr ⟨rfl, rfl⟩) (an_at _ _ _ _) rfl rfl 3 rfl (by decide) (by decide) ?_
  rw [tn_up]
  refine ph_dup (pc := 258) C d_M_init_258 rfl ?_
  refine ph_iconst (pc := 259) C d_M_init_259 ?_
  refine ph_iconst (pc := 260) C d_M_init_260 ?_
  refine ph_iast (pc := 261) (g := 50) (i := 0) C d_M_init_261 (Or.inr ⟨rfl, rfl⟩) (an_at _ _ _ _) rfl rfl 4 rfl (by decide) (by decide) ?_
  rw [tn_up]
  refine ph_dup (pc := 262) C d_M_init_262 rfl ?_
  refine ph_iconst (pc := 263) C d_M_init_263 ?_
  refine ph_iconst (pc := 264) C d_M_init_264 ?_
  refine ph_iast (pc := 265) (g := 50) (i := 0) C d_M_init_265 (Or.inr ⟨rfl, rfl⟩) (an_at _ _ _ _) rfl rfl 5 rfl (by decide) (by decide) ?_
  rw [tn_up]
  refine ph_dup (pc := 266) C d_M_init_266 rfl ?_
  refine ph_bipush (pc := 267) C d_M_init_267 (by decide) ?_
  refine ph_iconst (pc := 269) C d_M_init_269 ?_
  refine ph_iast (pc := 270) (g := 50) (i := 0) C d_M_init_270 (Or.inr ⟨rfl, rfl⟩) (an_at _ _ _ _) rfl rfl 6 rfl (by decide) (by decide) ?_
  rw [tn_up]
  refine ph_dup (pc := 271) C d_M_init_271 rfl ?_
  refine ph_bipush (pc := 272) C d_M_init_272 (by decide) ?_
  refine ph_iconst (pc := 274) C d_M_init_274 ?_
  refine ph_iast (pc := 275) (g := 50) (i := 0) C d_M_init_275 (Or.inr ⟨rfl, rfl⟩) (an_at _ _ _ _) rfl rfl 7 rfl (by decide) (by decide) ?_
  rw [tn_up]
  refine ph_dup (pc := 276) C d_M_init_276 rfl ?_
  refine ph_bipush (pc := 277) C d_M_init_277 (by decide) ?_
  refine ph_iconst (pc := 279) C d_M_init_279 ?_
  refine ph_iast (pc := 280) (g := 50) (i := 0) C d_M_init_280 (Or.inr ⟨rfl, rfl⟩) (an_at _ _ _ _) rfl rfl 8 rfl (by decide) (by decide) ?_
  rw [tn_up]
  refine ph_dup (pc := 281) C d_M_init_281 rfl ?_
  refine ph_bipush (pc := 282) C d_M_init_282 (by decide) ?_
  refine ph_iconst (pc := 284) C d_M_init_284 ?_
  refine ph_iast (pc := 285) (g := 50) (i := 0) C d_M_init_285 (Or.inr ⟨rfl, rfl⟩) (an_at _ _ _ _) rfl rfl 9 rfl (by decide) (by decide) ?_
  rw [tn_up]
  refine ph_dup (pc := 286) C d_M_init_286 rfl ?_
  refine ph_bipush (pc := 287) C d_M_init_287 (by decide) ?_
  refine ph_iconst (pc := 289) C d_M_init_289 ?_
  refine ph_iast (pc := 290) (g := 50) (i := 0) C d_M_init_290 (Or.inr ⟨rfl, rfl⟩) (an_at _ _ _ _) rfl rfl 10 rfl (by decide) (by decide) ?_
  rw [tn_up]
  refine ph_dup (pc := 291) C d_M_init_291 rfl ?_
  refine ph_bipush (pc := 292) C d_M_init_292 (by decide) ?_
  refine ph_iconst (pc := 294) C d_M_init_294 ?_
  refine ph_iast (pc := 295) (g := 50) (i := 0) C d_M_init_295 (Or.inr ⟨rfl, rfl⟩) (an_at _ _ _ _) rfl rfl 11 rfl (by decide) (by decide) ?_
  rw [tn_up]
  refine ph_dup (pc := 296) C d_M_init_296 rfl ?_
  refine ph_bipush (pc := 297) C d_M_init_297 (by decide) ?_
  refine ph_iconst (pc := 299) C d_M_init_299 ?_
  refine ph_iast (pc := 300) (g := 50) (i := 0) C d_M_init_300 (Or.inr ⟨rfl, rfl⟩) (an_at _ _ _ _) rfl rfl 12 rfl (by decide) (by decide) ?_
  rw [tn_up]
  refine ph_dup (pc := 301) C d_M_init_301 rfl ?_
  refine ph_bipush (pc := 302) C d_M_init_302 (by decide) ?_
  refine ph_iconst (pc := 304) C d_M_init_304 ?_
  refine ph_iast (pc := 305) (g := 50) (i := 0) C d_M_init_305 (Or.inr ⟨rfl, rfl⟩) (an_at _ _ _ _) rfl rfl 13 rfl (by decide) (by decide) ?_
  rw [tn_up]
  refine ph_dup (pc := 306) C d_M_init_306 rfl ?_
  refine ph_bipush (pc := 307) C d_M_init_307 (by decide) ?_
  refine ph_iconst (pc := 309) C d_M_init_309 ?_
  refine ph_iast (pc := 310) (g := 50) (i := 0) C d_M_init_310 (Or.inr ⟨rfl, rfl⟩) (an_at _ _ _ _) rfl rfl 14 rfl (by decide) (by decide) ?_
  rw [tn_up]
  refine ph_dup (pc := 311) C d_M_init_311 rfl ?_
  refine ph_bipush (pc := 312) C d_M_init_312 (by decide) ?_
  refine ph_iconst (pc := 314) C d_M_init_314 ?_
  refine ph_iast (pc := 315) (g := 50) (i := 0) C d_M_init_315 (Or.inr ⟨rfl, rfl⟩) (an_at _ _ _ _) rfl rfl 15 rfl (by decide) (by decide) ?_
  rw [tn_up]
  refine ph_dup (pc := 316) C d_M_init_316 rfl ?_
  refine ph_bipush (pc := 317) C d_M_init_317 (by decide) ?_
  refine ph_iconst (pc := 319) C d_M_init_319 ?_
  refine ph_iast (pc := 320) (g := 50) (i := 0) C d_M_init_320 (Or.inr ⟨rfl, rfl⟩) (an_at _ _ _ _) rfl rfl 16 rfl (by decide) (by decide) ?_
  rw [tn_up]
  refine ph_dup (pc := 321) C d_M_init_321 rfl ?_
  refine ph_bipush (pc := 322) C d_M_init_322 (by decide) ?_
  refine ph_iconst (pc := 324) C d_M_init_324 ?_
  refine ph_iast (pc := 325) (g := 50) (i := 0) C d_M_init_325 (Or.inr ⟨rfl, rfl⟩) (an_at _ _ _ _) rfl rfl 17 rfl (by decide) (by decide) ?_
  rw [tn_up]
  refine ph_dup (pc := 326) C d_M_init_326 rfl ?_
  refine ph_bipush (pc := 327) C d_M_init_327 (by decide) ?_
  refine ph_iconst (pc := 329) C d_M_init_329 ?_
  refine ph_iast (pc := 330) (g := 50) (i := 0) C d_M_init_330 (Or.inr ⟨rfl, rfl⟩) (an_at _ _ _ _) rfl rfl 18 rfl (by decide) (by decide) ?_
  rw [tn_up]
  refine ph_dup (pc := 331) C d_M_init_331 rfl ?_
  refine ph_bipush (pc := 332) C d_M_init_332 (by decide) ?_
  refine ph_iconst (pc := 334) C d_M_init_334 ?_
  refine ph_iast (pc := 335) (g := 50) (i := 0) C d_M_init_335 (Or.inr ⟨rfl, rfl⟩) (an_at _ _ _ _) rfl rfl 19 rfl (by decide) (by decide) ?_
  rw [tn_up]
  refine ph_dup (pc := 336) C d_M_init_336 rfl ?_
  refine ph_bipush (pc := 337) C d_M_init_337 (by decide) ?_
  refine ph_iconst (pc := 339) C d_M_init_339 ?_
  refine ph_iast (pc := 340) (g := 50) (i := 0) C d_M_init_340 (Or.inr ⟨rfl, rfl⟩) (an_at _ _ _ _) rfl rfl 20 rfl (by decide) (by decide) ?_
  rw [tn_up]
  refine pt_M_87 (pc := 341) C d_M_init_341 hnm (Or.inl hP.1) ((an_ne _ _ (by decide)).trans hP.2.1) ?_
  have hP : MP (pad (pad (pad (pad (pad (pad (pad (pad (pad (pad (pad (pad (pad (pad (pad (pad (pad (pad (pad (pad (pad (pad (pad (pad (pad (pad (fun _ => false) 1) 2) 3) 4) 5) 6) 8) 9) 10) 11) 12) 13) 14) 17) 18) 19) 20) 21) 22) 23) 24) 25) 26) 27) 28) 29) mz_2 o _ _ _ := hP.blk (k := 29) x29 mf_2 rfl rfl
  change ph_W p l e ({ frames := 1, cells := 27, slots := 3834, locals := 12 } : Room) s m [.ref o].toArray below meth c D CLs dT kd A 1 _ (ph_Ln L 50 0) (ph_an ad 50 0 x29) (ph_up (ph_tn τ 50 0 mf_2) 20 0 29 (x29 : Int)) _ _ _ _ _
  generalize ph_up (ph_tn τ 50 0 mf_2) 20 0 29 (x29 : Int) = τ at hP ⊢
  generalize ph_Ln L 50 0 = L at hP ⊢
  generalize ph_an ad 50 0 x29 = ad at hP ⊢
  refine ph_aload_n (pc := 344) C d_M_init_344 rfl ?_
  refine ph_bipush (pc := 345) C d_M_init_345 (by decide) ?_
  refine ph_newz (pc := 347) (g := 53) C d_M_init_347 0 (hP.fr (k := 32) rfl rfl 0) rfl rfl tw_57 rfl (by decide) (by decide) (by decide) rfl ?_
  intro x32 hfr
  refine pt_M_90 (pc := 349) C d_M_init_349 hnm (Or.inl hP.1) ((an_ne _ _ (by decide)).trans hP.2.1) ?_
  have hP := hP.blk0 (k := 32) x32 rfl rfl (fun j => rfl)
  generalize ph_up (ph_tn τ 53 0 (fun _ => 0)) 20 0 32 (x32 : Int) = τ at hP ⊢
  generalize ph_Ln L 53 0 = L at hP ⊢
  generalize ph_an ad 53 0 x32 = ad at hP ⊢
  refine ph_aload_n (pc := 352) C d_M_init_352 rfl ?_
  refine gt_M_78 (pc := 353) C d_M_init_353 hP.1 hP.2.1 (hP.rf (k := 26) rfl rfl) ?_
  refine ph_iconst (pc := 356) C d_M_init_356 ?_
  refine ph_iconst (pc := 357) C d_M_init_357 ?_
  refine ph_zast (pc := 358) (g := 47) (i := 0) C d_M_init_358 (by omega) (hP.ar (k := 26) rfl rfl) rfl rfl rfl 5 rfl (by decide) (by decide) ?_
  have hP : MP (pad (pad (pad (pad (pad (pad (pad (pad (pad (pad (pad (pad (pad (pad (pad (pad (pad (pad (pad (pad (pad (pad (pad (pad (pad (pad (pad (fun _ => false) 1) 2) 3) 4) 5) 6) 8) 9) 10) 11) 12) 13) 14) 17) 18) 19) 20) 21) 22) 23) 24) 25) 26) 27) 28) 29) 32) mz_3 o L ad (ph_up τ 47 0 5 (1)) := hP.puta (k := 26) rfl
  generalize ph_up τ 47 0 5 (1) = τ at hP ⊢
  refine ph_aload_n (pc := 359) C d_M_init_359 rfl ?_
  refine gt_M_78 (pc := 360) C d_M_init_360 hP.1 hP.2.1 (hP.rf (k := 26) rfl rfl) ?_
  refine ph_bipush (pc := 363) C d_M_init_363 (by decide) ?_
  refine ph_iconst (pc := 365) C d_M_init_365 ?_
  refine ph_zast (pc := 366) (g := 47) (i := 0) C d_M_init_366 (by omega) (hP.ar (k := 26) rfl rfl) rfl rfl rfl 6 rfl (by decide) (by decide) ?_
  have hP : MP (pad (pad (pad (pad (pad (pad (pad (pad (pad (pad (pad (pad (pad (pad (pad (pad (pad (pad (pad (pad (pad (pad (pad (pad (pad (pad (pad (fun _ => false) 1) 2) 3) 4) 5) 6) 8) 9) 10) 11) 12) 13) 14) 17) 18) 19) 20) 21) 22) 23) 24) 25) 26) 27) 28) 29) 32) mz_4 o L ad (ph_up τ 47 0 6 (1)) := hP.puta (k := 26) rfl
  generalize ph_up τ 47 0 6 (1) = τ at hP ⊢
  exact ph_vret (pc := 367) C d_M_init_367 hr hlk (by decide) (by decide) ⟨hP.mr (by decide), rfl⟩
