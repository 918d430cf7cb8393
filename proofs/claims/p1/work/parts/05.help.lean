abbrev classes : List vw_C := [(RX0, TX0, 7), (RX1, TX1, 4), (RX2, TX2, 4), (RX3, TX3, 3), (RX4, TX4, 8), (RX5, TX5, 6), (RX6, TX6, 7), (RX7, TX7, 3), (RX8, TX8, 4), (RX9, TX9, 5), (RX10, TX10, 19), (RX11, TX11, 16), (RX12, TX12, 70)]
def zw_nest : List Cond := [.fieldLinkNest "HoldTwo" 106 "HoldTwo$Tape" "length" "I" "HoldTwo",
  .fieldLinkNest "HoldTwo" 118 "HoldTwo$Tape" "wrong" "I" "HoldTwo",
  .fieldLinkNest "HoldTwo$Game" 107 "HoldTwo$Men" "x" "I" "HoldTwo",
  .fieldLinkNest "HoldTwo$Values" 144 "HoldTwo$Men" "x" "I" "HoldTwo",
  .fieldLinkNest "HoldTwo$Game" 110 "HoldTwo$Men" "o" "I" "HoldTwo",
  .fieldLinkNest "HoldTwo$Values" 147 "HoldTwo$Men" "o" "I" "HoldTwo",
  .fieldLinkNest "HoldTwo$Referee" 62 "HoldTwo$Men" "turn" "I" "HoldTwo",
  .fieldLinkNest "HoldTwo$Values" 86 "HoldTwo$Men" "turn" "I" "HoldTwo",
  .fieldLinkNest "HoldTwo$Game" 142 "HoldTwo$Men" "turn" "I" "HoldTwo",
  .fieldLinkNest "HoldTwo$Values" 150 "HoldTwo$Game" "links" "[I" "HoldTwo",
  .fieldLinkNest "HoldTwo$Referee" 59 "HoldTwo$Game" "goals" "[I" "HoldTwo",
  .fieldLinkNest "HoldTwo$Referee" 65 "HoldTwo$Game" "places" "I" "HoldTwo",
  .fieldLinkNest "HoldTwo$Turner" 32 "HoldTwo$Game" "places" "I" "HoldTwo",
  .fieldLinkNest "HoldTwo" 150 "HoldTwo$Game" "places" "I" "HoldTwo",
  .fieldLinkNest "HoldTwo$Values" 141 "HoldTwo$Game" "places" "I" "HoldTwo",
  .fieldLinkNest "HoldTwo" 140 "HoldTwo$Game" "start" "I" "HoldTwo",
  .fieldLinkNest "HoldTwo$Values" 166 "HoldTwo$Game" "taking" "Z" "HoldTwo",
  .fieldLinkNest "HoldTwo$Values" 157 "HoldTwo$Game" "passing" "Z" "HoldTwo",
  .fieldLinkNest "HoldTwo$Referee" 105 "HoldTwo$Game" "drawing" "Z" "HoldTwo",
  .fieldLinkNest "HoldTwo$Values" 122 "HoldTwo$Game" "drawing" "Z" "HoldTwo",
  .fieldLinkNest "HoldTwo" 156 "HoldTwo$Referee" "laws" "[LHoldTwo$Law;" "HoldTwo",
  .fieldLinkNest "HoldTwo$Player" 42 "HoldTwo$Referee" "game" "LHoldTwo$Game;" "HoldTwo",
  .fieldLinkNest "HoldTwo" 137 "HoldTwo$Referee" "game" "LHoldTwo$Game;" "HoldTwo",
  .fieldLinkNest "HoldTwo$Values" 64 "HoldTwo$Referee" "game" "LHoldTwo$Game;" "HoldTwo",
  .fieldLinkNest "HoldTwo" 153 "HoldTwo$Referee" "lawCount" "I" "HoldTwo",
  .fieldLinkNest "HoldTwo" 170 "HoldTwo$Referee" "judging" "I" "HoldTwo",
  .fieldLinkNest "HoldTwo$Values" 93 "HoldTwo$Referee" "judging" "I" "HoldTwo",
  .fieldLinkNest "HoldTwo$Player" 111 "HoldTwo$Referee" "forWays" "I" "HoldTwo",
  .fieldLinkNest "HoldTwo" 167 "HoldTwo$Referee" "forWays" "I" "HoldTwo",
  .fieldLinkNest "HoldTwo$Game" 122 "HoldTwo$Moves" "men" "LHoldTwo$Men;" "HoldTwo",
  .fieldLinkNest "HoldTwo$Player" 59 "HoldTwo$Moves" "size" "I" "HoldTwo",
  .fieldLinkNest "HoldTwo$Game" 131 "HoldTwo$Moves" "size" "I" "HoldTwo",
  .fieldLinkNest "HoldTwo" 190 "HoldTwo$Moves" "size" "I" "HoldTwo",
  .fieldLinkNest "HoldTwo$Values" 172 "HoldTwo$Moves" "size" "I" "HoldTwo",
  .fieldLinkNest "HoldTwo$Player" 81 "HoldTwo$Moves" "first" "I" "HoldTwo",
  .fieldLinkNest "HoldTwo" 255 "HoldTwo$Moves" "first" "I" "HoldTwo",
  .fieldLinkNest "HoldTwo$Player" 84 "HoldTwo$Moves" "second" "I" "HoldTwo",
  .fieldLinkNest "HoldTwo" 258 "HoldTwo$Moves" "second" "I" "HoldTwo",
  .fieldLinkNest "HoldTwo" 252 "HoldTwo$Moves" "pairs" "I" "HoldTwo",
  .fieldLinkNest "HoldTwo" 285 "HoldTwo$Values" "found" "I" "HoldTwo",
  .fieldLinkNest "HoldTwo" 276 "HoldTwo$Values" "hardest" "I" "HoldTwo",
  .fieldLinkNest "HoldTwo$Player" 48 "HoldTwo$Spot" "number" "I" "HoldTwo",
  .fieldLinkNest "HoldTwo$Referee" 94 "HoldTwo$Spot" "number" "I" "HoldTwo",
  .fieldLinkNest "HoldTwo" 176 "HoldTwo$Spot" "number" "I" "HoldTwo",
  .fieldLinkNest "HoldTwo$Referee" 102 "HoldTwo$Spot" "winner" "I" "HoldTwo",
  .fieldLinkNest "HoldTwo$Referee" 99 "HoldTwo$Spot" "made" "I" "HoldTwo",
  .fieldLinkNest "HoldTwo" 214 "HoldTwo$Spot" "made" "I" "HoldTwo",
  .fieldLinkNest "HoldTwo" 224 "HoldTwo$Line" "one" "[I" "HoldTwo",
  .fieldLinkNest "HoldTwo" 227 "HoldTwo$Line" "other" "[I" "HoldTwo",
  .fieldLinkNest "HoldTwo" 221 "HoldTwo$Line" "pick" "[I" "HoldTwo",
  .fieldLinkNest "HoldTwo" 164 "HoldTwo$Line" "turns" "I" "HoldTwo",
  .fieldLinkNest "HoldTwo$Game" 79 "HoldTwo" "POWERS" "[I" "HoldTwo",
  .fieldLinkNest "HoldTwo$Values" 163 "HoldTwo" "POWERS" "[I" "HoldTwo",
  .fieldLinkNest "HoldTwo$Turner" 72 "HoldTwo" "POWERS" "[I" "HoldTwo",
  .methodLinkNest "HoldTwo$Referee" 24 ⟨"HoldTwo$Men", "<init>", "()V"⟩ "HoldTwo",
  .methodLinkNest "HoldTwo$Moves" 23 ⟨"HoldTwo$Men", "<init>", "()V"⟩ "HoldTwo",
  .methodLinkNest "HoldTwo$Values" 17 ⟨"HoldTwo$Men", "<init>", "()V"⟩ "HoldTwo",
  .methodLinkNest "HoldTwo" 60 ⟨"HoldTwo$Spot", "<init>", "()V"⟩ "HoldTwo",
  .methodLinkNest "HoldTwo$Referee" 88 ⟨"HoldTwo", "signOf", "(I)I"⟩ "HoldTwo",
  .methodLinkNest "HoldTwo$Values" 100 ⟨"HoldTwo", "signOf", "(I)I"⟩ "HoldTwo"]
def zw_isn (w : Cond) : Bool := match w with
  | .fieldLinkNest _ _ _ _ _ _ => true
  | .methodLinkNest _ _ _ _ => true
  | _ => false
theorem zw_nest_is : ∀ w ∈ zw_nest, zw_isn w = true := by decide +kernel
/-- the words of the nest, and what an array over Law is -/
def zw_N (U : State) : Prop := (∀ w ∈ zw_nest, va_Nw w U) ∧ va_AO "HoldTwo$Law" U
theorem zw_warm1 {w : Cond} {s U : State} (h : zw_isn w = true) (hW : s.WarmedH U.vm) (hZ : va_Nw w s) : va_Nw w U := by
  unfold zw_isn at h
  split at h
  · exact va_Nw.warmF hW hZ
  · exact va_Nw.warmM hW hZ
  · cases h
theorem zw_same1 {w : Cond} {u U : State} (h : zw_isn w = true) (e : u.vm = U.vm) (hZ : va_Nw w u) : va_Nw w U := by
  unfold zw_isn at h
  split at h
  · exact va_Nw.same rfl e hZ
  · exact va_Nw.same rfl e hZ
  · cases h
theorem zw_N.warm {s U : State} (hW : s.WarmedH U.vm) (h : zw_N s) : zw_N U := ⟨fun w hw => zw_warm1 (zw_nest_is w hw) hW (h.1 w hw), va_AO.moved hW.alike h.2⟩
theorem zw_N.same {s U : State} (e : s.vm = U.vm) (h : zw_N s) : zw_N U := ⟨fun w hw => zw_same1 (zw_nest_is w hw) e (h.1 w hw), va_AO.moved (by rw [e]; exact Vm.Alike.refl _) h.2⟩
def zw_P (dC : Nat → ClassId) (dI : Nat → Nat → Nat) (sz : Nat) (tys : List (ClassId × FieldType)) (ws : va_W) (U : State) : Prop :=
  U.heap.size = sz ∧ va_P (dC, dI) classes ws U.heap ∧ va_K (dC, dI) classes tys U ∧ va_D (fun _ => True) ws ∧ zw_N U
theorem zw_blind {av : List Value} {dC : Nat → ClassId} {dI : Nat → Nat → Nat} {sz : Nat} {tys : List (ClassId × FieldType)} {ws : va_W} : FrameBlind (va_Pc av (zw_P dC dI sz tys ws)) := by
  intro a U g mk q
  obtain ⟨q0, q1, qP, qK, qD, qN⟩ := q
  exact ⟨q0, q1, qP, va_K.moved (u := U) (U := U.calling g mk a) (Vm.Alike.refl U.vm) qK, qD, zw_N.same (s := U) (U := U.calling g mk a) rfl qN⟩
theorem zw_P.of {s : State} {A : Nat → Prop} {dC : Nat → ClassId} {dI : Nat → Nat → Nat} {H : Heap} {tys : List (ClassId × FieldType)} {ws : va_W} (hP : va_P (dC, dI) classes ws H) (hK : va_K (dC, dI) classes tys s) (hD : va_D A ws) (hN : zw_N s) :
    ∀ U : State, U.heap = H → s.WarmedH U.vm → zw_P dC dI H.size tys ws U := fun U hU hW =>
  ⟨by rw [hU], by rw [hU]; exact hP, va_K.moved hW.alike hK, hD.weaken (fun _ _ _ _ => trivial), zw_N.warm hW hN⟩
abbrev zw_Q (dC : Nat → ClassId) (dI : Nat → Nat → Nat) (A : Nat → Prop) (tys : List (ClassId × FieldType)) (ws : va_W) (t : State) : Prop :=
  va_P (dC, dI) classes ws t.heap ∧ va_K (dC, dI) classes tys t ∧ va_D A ws
theorem zw_start {p : Program} {l : Launch} {e : Env} {R : Room} {s : State} {m : MethodId} {args : Array Value} {below : List Frame} {meth : Method} {c : Code} {locs : List Loc} {cells slots : Nat} {Q : State → Prop} {g : JFrame}
    (k : ∀ H : Heap, H = s.heap → W p l e R s m args below meth c H locs cells slots Q g) : W p l e R s m args below meth c s.heap locs cells slots Q g := k _ rfl
theorem zz_lt {a b : Int32} : a < b ↔ a.toInt < b.toInt := Int32.lt_iff_toInt_lt
theorem zz_le {a b : Int32} : a ≤ b ↔ a.toInt ≤ b.toInt := Int32.le_iff_toInt_le
theorem zz_eq {a b : Int32} : a = b ↔ a.toInt = b.toInt := Int32.toInt_inj.symm

theorem zv_X0 : ∀ j, j < 7 → defaultValue (tyX0 j) = vp_V [.null, .null, .int 0, .int 0, .int 0, .int 0, .int 0] j := fun j hj => match j, hj with
  | 0, _ => rfl
  | 1, _ => rfl
  | 2, _ => rfl
  | 3, _ => rfl
  | 4, _ => rfl
  | 5, _ => rfl
  | 6, _ => rfl
  | j9 + 7, h9 => absurd h9 (by omega)
theorem zv_X1 : ∀ j, j < 4 → defaultValue (tyX1 j) = vp_V [.null, .null, .int 0, .int 0] j := fun j hj => match j, hj with
  | 0, _ => rfl
  | 1, _ => rfl
  | 2, _ => rfl
  | 3, _ => rfl
  | j9 + 4, h9 => absurd h9 (by omega)
theorem zv_X2 : ∀ j, j < 4 → defaultValue (tyX2 j) = vp_V [.null, .null, .null, .int 0] j := fun j hj => match j, hj with
  | 0, _ => rfl
  | 1, _ => rfl
  | 2, _ => rfl
  | 3, _ => rfl
  | j9 + 4, h9 => absurd h9 (by omega)
theorem zv_X3 : ∀ j, j < 3 → defaultValue (tyX3 j) = vp_V [.int 0, .int 0, .int 0] j := fun j hj => match j, hj with
  | 0, _ => rfl
  | 1, _ => rfl
  | 2, _ => rfl
  | j9 + 3, h9 => absurd h9 (by omega)
theorem zv_X4 : ∀ j, j < 8 → defaultValue (tyX4 j) = vp_V [.null, .null, .null, .null, .int 0, .int 0, .int 0, .int 0] j := fun j hj => match j, hj with
  | 0, _ => rfl
  | 1, _ => rfl
  | 2, _ => rfl
  | 3, _ => rfl
  | 4, _ => rfl
  | 5, _ => rfl
  | 6, _ => rfl
  | 7, _ => rfl
  | j9 + 8, h9 => absurd h9 (by omega)
theorem zv_X5 : ∀ j, j < 6 → defaultValue (tyX5 j) = vp_V [.null, .null, .null, .int 0, .int 0, .long 0] j := fun j hj => match j, hj with
  | 0, _ => rfl
  | 1, _ => rfl
  | 2, _ => rfl
  | 3, _ => rfl
  | 4, _ => rfl
  | 5, _ => rfl
  | j9 + 6, h9 => absurd h9 (by omega)
theorem zv_X6 : ∀ j, j < 7 → defaultValue (tyX6 j) = vp_V [.null, .null, .null, .null, .int 0, .int 0, .int 0] j := fun j hj => match j, hj with
  | 0, _ => rfl
  | 1, _ => rfl
  | 2, _ => rfl
  | 3, _ => rfl
  | 4, _ => rfl
  | 5, _ => rfl
  | 6, _ => rfl
  | j9 + 7, h9 => absurd h9 (by omega)
theorem zv_X7 : ∀ j, j < 3 → defaultValue (tyX7 j) = vp_V [.int 0, .int 0, .int 0] j := fun j hj => match j, hj with
  | 0, _ => rfl
  | 1, _ => rfl
  | 2, _ => rfl
  | j9 + 3, h9 => absurd h9 (by omega)
theorem zv_X8 : ∀ j, j < 4 → defaultValue (tyX8 j) = vp_V [.null, .int 0, .int 0, .int 0] j := fun j hj => match j, hj with
  | 0, _ => rfl
  | 1, _ => rfl
  | 2, _ => rfl
  | 3, _ => rfl
  | j9 + 4, h9 => absurd h9 (by omega)
theorem zv_X9 : ∀ j, j < 5 → defaultValue (tyX9 j) = vp_V [.null, .null, .null, .int 0, .int 0] j := fun j hj => match j, hj with
  | 0, _ => rfl
  | 1, _ => rfl
  | 2, _ => rfl
  | 3, _ => rfl
  | 4, _ => rfl
  | j9 + 5, h9 => absurd h9 (by omega)
theorem zv_X10 : ∀ j, j < 19 → defaultValue (tyX10 j) = vp_V [.null, .null, .null, .null, .null, .null, .null, .null, .int 0, .int 0, .int 0, .int 0, .int 0, .int 0, .int 0, .int 0, .int 0, .int 0, .int 0] j := fun j hj => match j, hj with
  | 0, _ => rfl
  | 1, _ => rfl
  | 2, _ => rfl
  | 3, _ => rfl
  | 4, _ => rfl
  | 5, _ => rfl
  | 6, _ => rfl
  | 7, _ => rfl
  | 8, _ => rfl
  | 9, _ => rfl
  | 10, _ => rfl
  | 11, _ => rfl
  | 12, _ => rfl
  | 13, _ => rfl
  | 14, _ => rfl
  | 15, _ => rfl
  | 16, _ => rfl
  | 17, _ => rfl
  | 18, _ => rfl
  | j9 + 19, h9 => absurd h9 (by omega)
theorem zv_X11 : ∀ j, j < 16 → defaultValue (tyX11 j) = vp_V [.null, .null, .null, .null, .null, .null, .null, .null, .null, .null, .null, .null, .null, .null, .int 0, .int 0] j := fun j hj => match j, hj with
  | 0, _ => rfl
  | 1, _ => rfl
  | 2, _ => rfl
  | 3, _ => rfl
  | 4, _ => rfl
  | 5, _ => rfl
  | 6, _ => rfl
  | 7, _ => rfl
  | 8, _ => rfl
  | 9, _ => rfl
  | 10, _ => rfl
  | 11, _ => rfl
  | 12, _ => rfl
  | 13, _ => rfl
  | 14, _ => rfl
  | 15, _ => rfl
  | j9 + 16, h9 => absurd h9 (by omega)
theorem zv_X12 : ∀ j, j < 70 → defaultValue (tyX12 j) = vp_V [.int 0, .null, .int 0, .int 0, .int 0, .int 0, .null, .null, .null, .null, .null, .null, .null, .int 0, .int 0, .null, .null, .int 0, .int 0, .int 0, .int 0, .null, .null, .int 0, .int 0, .int 0, .int 0, .int 0, .null, .null, .null, .null, .int 0, .null, .null, .null, .int 0, .int 0, .int 0, .int 0, .int 0, .int 0, .null, .null, .int 0, .null, .null, .null, .null, .null, .int 0, .null, .null, .null, .int 0, .int 0, .int 0, .null, .null, .null, .null, .int 0, .int 0, .long 0, .int 0, .int 0, .int 0, .int 0, .int 0, .int 0] j := fun j hj => match j, hj with
  | 0, _ => rfl
  | 1, _ => rfl
  | 2, _ => rfl
  | 3, _ => rfl
  | 4, _ => rfl
  | 5, _ => rfl
  | 6, _ => rfl
  | 7, _ => rfl
  | 8, _ => rfl
  | 9, _ => rfl
  | 10, _ => rfl
  | 11, _ => rfl
  | 12, _ => rfl
  | 13, _ => rfl
  | 14, _ => rfl
  | 15, _ => rfl
  | 16, _ => rfl
  | 17, _ => rfl
  | 18, _ => rfl
  | 19, _ => rfl
  | 20, _ => rfl
  | 21, _ => rfl
  | 22, _ => rfl
  | 23, _ => rfl
  | 24, _ => rfl
  | 25, _ => rfl
  | 26, _ => rfl
  | 27, _ => rfl
  | 28, _ => rfl
  | 29, _ => rfl
  | 30, _ => rfl
  | 31, _ => rfl
  | 32, _ => rfl
  | 33, _ => rfl
  | 34, _ => rfl
  | 35, _ => rfl
  | 36, _ => rfl
  | 37, _ => rfl
  | 38, _ => rfl
  | 39, _ => rfl
  | 40, _ => rfl
  | 41, _ => rfl
  | 42, _ => rfl
  | 43, _ => rfl
  | 44, _ => rfl
  | 45, _ => rfl
  | 46, _ => rfl
  | 47, _ => rfl
  | 48, _ => rfl
  | 49, _ => rfl
  | 50, _ => rfl
  | 51, _ => rfl
  | 52, _ => rfl
  | 53, _ => rfl
  | 54, _ => rfl
  | 55, _ => rfl
  | 56, _ => rfl
  | 57, _ => rfl
  | 58, _ => rfl
  | 59, _ => rfl
  | 60, _ => rfl
  | 61, _ => rfl
  | 62, _ => rfl
  | 63, _ => rfl
  | 64, _ => rfl
  | 65, _ => rfl
  | 66, _ => rfl
  | 67, _ => rfl
  | 68, _ => rfl
  | 69, _ => rfl
  | j9 + 70, h9 => absurd h9 (by omega)
