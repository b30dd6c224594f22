/-! ===== what is known of the start and stays: the two static tables, the arrays' classes ===== -/
def rkT (j : Nat) : Int := match j with
  | 1 => 2
  | 2 => 4
  | 3 => 3
  | 4 => 1
  | 5 => 6
  | 6 => 7
  | _ => 0
def stT (j : Nat) : Int := match j with
  | 0 => 1
  | 3 => 1
  | 4 => 2
  | 6 => 1
  | 7 => 3
  | 9 => 1
  | 12 => 4
  | 13 => 3
  | 14 => 5
  | 15 => 4
  | 16 => 5
  | _ => 0
def KJ (dT : Nat → ClassId) (A : Nat → Prop) (aR aT : Nat) (U : State) : Prop :=
  (va_Z "JamRules" "RANKS" "[I" (.ref aR) A U U.heap ∧ va_T .int aR 7 (fun j => .int (ph_i (rkT j))) A U U.heap) ∧
  (va_Z "JamRules" "STEPS" "[I" (.ref aT) A U U.heap ∧ va_T .int aT 18 (fun j => .int (ph_i (stT j))) A U U.heap) ∧
  (va_AO "JamRules$Sensor" U ∧ va_AO "JamRules$Item" U ∧ va_AO "JamRules$Fault" U) ∧ va_Nw (.fieldLinkNest "JamRules$Fault" 35 "JamRules" "RANKS" "[I" "JamRules") U
theorem KJ_keep (dT : Nat → ClassId) (A : Nat → Prop) (aR aT : Nat) : ph_keep A (KJ dT A aR aT) := by
  intro u U hW hz hq ⟨⟨h1, h2⟩, ⟨h4, h5⟩, ⟨h7, h8, h9⟩, h10⟩
  exact ⟨⟨(h1.moved hW.alike).kept hq, (h2.moved hW.alike).kept hq⟩, ⟨(h4.moved hW.alike).kept hq, (h5.moved hW.alike).kept hq⟩, ⟨h7.moved hW.alike, h8.moved hW.alike, h9.moved hW.alike⟩, va_Nw.warmF hW h10⟩
