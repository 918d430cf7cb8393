theorem zx_Z {C n d : String} {s : State} {H : Heap} {locs : List Loc} {A0 A1 : Nat → Prop} (h : vx_Zq C n d A0 s s.heap) (hS : va_S A0 s.heap H locs) (hF : ∀ q, A1 q → A0 q) : ∀ U : State, U.heap = H → s.WarmedH U.vm → vx_Zq C n d A1 U U.heap := fun U hU hW => by
  rw [hU]
  exact vx_Zq.moved hW.alike (vx_Zq.narrow (vx_Zq.kept h (fun a h1 h2 => hS.2.1 a h1 h2)) hF)
theorem zx_nil {D : va_G} {cl : List vw_C} {H : Heap} : va_P D cl [] H := fun k q h => by simp at h
theorem zx_nilD {A : Nat → Prop} : va_D A [] := ⟨fun i j p q h => by simp at h, fun k q h => by simp at h⟩
def zx_B (U : State) : Prop := va_Nw (.castable "java/util/NoSuchElementException" "java/util/NoSuchElementException") U ∧ va_Nw (.declares ⟨"java/lang/RuntimeException", "<init>", "()V"⟩) U ∧ va_Nw (.declares ⟨"java/lang/Exception", "<init>", "()V"⟩) U ∧ va_Nw (.declares ⟨"java/lang/Throwable", "<init>", "()V"⟩) U
theorem zx_B.warm {s U : State} (hW : s.WarmedH U.vm) (h : zx_B s) : zx_B U := ⟨va_Nw.warmC hW h.1, va_Nw.warmD hW h.2.1, va_Nw.warmD hW h.2.2.1, va_Nw.warmD hW h.2.2.2⟩
theorem zx_B.same {s U : State} (e : s.vm = U.vm) (h : zx_B s) : zx_B U := ⟨va_Nw.same rfl e h.1, va_Nw.same rfl e h.2.1, va_Nw.same rfl e h.2.2.1, va_Nw.same rfl e h.2.2.2⟩
def zx_P (dC : Nat → ClassId) (dI : Nat → Nat → Nat) (sz : Nat) (ws : va_W) (U : State) : Prop :=
  zw_P dC dI sz [] ws U ∧ vx_Zq Bundle.tN "UNASSIGNED_STACK" Bundle.steD (va_A ws sz) U U.heap ∧ vx_Zq Bundle.tN "SUPPRESSED_SENTINEL" Bundle.listD (va_A ws sz) U U.heap ∧ zx_B U
theorem zx_blind {av : List Value} {dC : Nat → ClassId} {dI : Nat → Nat → Nat} {sz : Nat} {ws : va_W} : FrameBlind (va_Pc av (zx_P dC dI sz ws)) := by
  intro a U g mk q
  obtain ⟨q0, ⟨q1, qP, qK, qD, qN⟩, q2, q3, q4⟩ := q
  exact ⟨q0, ⟨q1, qP, va_K.moved (u := U) (U := U.calling g mk a) (Vm.Alike.refl U.vm) qK, qD, zw_N.same (s := U) (U := U.calling g mk a) rfl qN⟩, vx_Zq.moved (u := U) (U := U.calling g mk a) (Vm.Alike.refl U.vm) q2, vx_Zq.moved (u := U) (U := U.calling g mk a) (Vm.Alike.refl U.vm) q3, zx_B.same (s := U) (U := U.calling g mk a) rfl q4⟩
theorem zx_of {s : State} {A : Nat → Prop} {dC : Nat → ClassId} {dI : Nat → Nat → Nat} {H : Heap} {locs : List Loc} {ws : va_W} (hP : va_P (dC, dI) classes ws H) (hK : va_K (dC, dI) classes [] s) (hD : va_D A ws) (hN : zw_N s) (hS : va_S A s.heap H locs) (hF : ∀ q, va_A ws H.size q → A q)
    (hU : vx_Zq Bundle.tN "UNASSIGNED_STACK" Bundle.steD A s s.heap) (hV : vx_Zq Bundle.tN "SUPPRESSED_SENTINEL" Bundle.listD A s s.heap) (hB : zx_B s) : ∀ U : State, U.heap = H → s.WarmedH U.vm → zx_P dC dI H.size ws U := fun U h1 h2 =>
  ⟨zw_P.of hP hK hD hN U h1 h2, zx_Z hU hS hF U h1 h2, zx_Z hV hS hF U h1 h2, zx_B.warm h2 hB⟩
theorem zx_hat {args : Array Value} {s : State} (hts : ∀ w ∈ wsX11_at, w.before args s = true) (hB : zx_B s) : ∀ w ∈ vx_at0 RX11 175 "java/util/NoSuchElementException" ["java/lang/RuntimeException", "java/lang/Exception"], w.before args s = true :=
  vx_hat (B := [.castable "java/util/NoSuchElementException" "java/util/NoSuchElementException", .declares ⟨"java/lang/RuntimeException", "<init>", "()V"⟩, .declares ⟨"java/lang/Exception", "<init>", "()V"⟩, .declares ⟨"java/lang/Throwable", "<init>", "()V"⟩]) (fun w h => hts w (List.mem_cons_of_mem _ (List.mem_append_right _ h))) (by decide +kernel) (vx_c (va_Nw.use rfl hB.1) (vx_c (va_Nw.use rfl hB.2.1) (vx_c (va_Nw.use rfl hB.2.2.1) (vx_c (va_Nw.use rfl hB.2.2.2) vx_n))))
theorem zx_good : ∀ w ∈ Cond.classLink RX11 173 "java/util/NoSuchElementException" :: Cond.initialized "java/util/NoSuchElementException" :: vx_at0 RX11 175 "java/util/NoSuchElementException" ["java/lang/RuntimeException", "java/lang/Exception"], vx_ot w = true := by decide +kernel
theorem zi_X11_at_X11 : ∀ w ∈ wsX110, w ∈ wsX11_at := by decide +kernel
theorem zi_X11_at_X6 : ∀ w ∈ wsX60, w ∈ wsX11_at := by decide +kernel
theorem zi_X11_at_X0 : ∀ w ∈ wsX00, w ∈ wsX11_at := by decide +kernel
theorem dX11_at_0 : decode cX11_at 0 = .ok (.iload_n 1, 1) := by decide +kernel
theorem dX11_at_1 : decode cX11_at 1 = .ok (.ifCond .lt 23, 3) := by decide +kernel
theorem dX11_at_4 : decode cX11_at 4 = .ok (.iload_n 1, 1) := by decide +kernel
theorem dX11_at_5 : decode cX11_at 5 = .ok (.aload_n 0, 1) := by decide +kernel
theorem dX11_at_6 : decode cX11_at 6 = .ok (.getfield 19, 3) := by decide +kernel
theorem dX11_at_9 : decode cX11_at 9 = .ok (.getfield 137, 3) := by decide +kernel
theorem dX11_at_12 : decode cX11_at 12 = .ok (.getfield 150, 3) := by decide +kernel
theorem dX11_at_15 : decode cX11_at 15 = .ok (.if_icmp .ge 9, 3) := by decide +kernel
theorem dX11_at_18 : decode cX11_at 18 = .ok (.iload_n 1, 1) := by decide +kernel
theorem dX11_at_19 : decode cX11_at 19 = .ok (.bipush 9, 2) := by decide +kernel
theorem dX11_at_21 : decode cX11_at 21 = .ok (.if_icmp .lt 11, 3) := by decide +kernel
theorem dX11_at_24 : decode cX11_at 24 = .ok (.new 173, 3) := by decide +kernel
theorem dX11_at_27 : decode cX11_at 27 = .ok (.dup, 1) := by decide +kernel
theorem dX11_at_28 : decode cX11_at 28 = .ok (.invokespecial 175, 3) := by decide +kernel
theorem dX11_at_31 : decode cX11_at 31 = .ok (.athrow, 1) := by decide +kernel
theorem dX11_at_32 : decode cX11_at 32 = .ok (.aload_n 0, 1) := by decide +kernel
theorem dX11_at_33 : decode cX11_at 33 = .ok (.getfield 61, 3) := by decide +kernel
theorem dX11_at_36 : decode cX11_at 36 = .ok (.getfield 176, 3) := by decide +kernel
theorem dX11_at_39 : decode cX11_at 39 = .ok (.iconst 1, 1) := by decide +kernel
theorem dX11_at_40 : decode cX11_at 40 = .ok (.ishr, 1) := by decide +kernel
theorem dX11_at_41 : decode cX11_at 41 = .ok (.getstatic 179, 3) := by decide +kernel
theorem dX11_at_44 : decode cX11_at 44 = .ok (.iload_n 1, 1) := by decide +kernel
theorem dX11_at_45 : decode cX11_at 45 = .ok (.iaload, 1) := by decide +kernel
theorem dX11_at_46 : decode cX11_at 46 = .ok (.idiv, 1) := by decide +kernel
theorem dX11_at_47 : decode cX11_at 47 = .ok (.iconst 3, 1) := by decide +kernel
theorem dX11_at_48 : decode cX11_at 48 = .ok (.irem, 1) := by decide +kernel
theorem dX11_at_49 : decode cX11_at 49 = .ok (.ireturn, 1) := by decide +kernel
set_option maxHeartbeats 8000000 in
set_option maxRecDepth 100000 in
theorem zk_X11_at (l : Launch) (hlt : l.stackTraces = false) (dC : Nat → ClassId) (dI : Nat → Nat → Nat) (h0 : Nat) (v0 : Int32) (h1 : Nat) (h2 : Nat) (h3 : Nat) (h4 : Nat) (h5 : Nat) (h6 : Nat) (h7 : Nat) (h8 : Nat) (h9 : Nat) (h10 : Nat) (h11 : Nat) (h12 : Nat) (h13 : Nat) (h14 : Nat) (h15 : Nat) (h16 : Nat) (h17 : Nat) (h18 : Nat) (h19 : Nat) (h20 : Nat) (sz : Nat) : vx_Met l yX11_at wsX11_at ({ frames := 6, cells := 1, slots := 6, locals := 81 }) (va_Pc [.ref h0, .int v0] (zx_P dC dI sz [(h0, .inr (11, [.ref h1, .ref h2, .ref h3, .ref h4, .ref h5, .ref h6, .ref h7, .ref h8, .ref h9, .ref h10, .ref h11, .ref h12, .ref h13, .ref h14, .int 0, .int 0])), (h2, .inr (6, [.ref h15, .ref h16, .ref h17, .ref h18, .int 0, .int (-1), .int (-1)])), (h18, .inr (0, [.ref h19, .ref h20, .int 0, .int 0, .int 0, .int 0, .int 0]))])) (va_Qi (fun (_ : Int32) (_ : Unit) => False) (fun (_ : Unit) (_ : State) => True) (va_A [(h0, .inr (11, [.ref h1, .ref h2, .ref h3, .ref h4, .ref h5, .ref h6, .ref h7, .ref h8, .ref h9, .ref h10, .ref h11, .ref h12, .ref h13, .ref h14, .int 0, .int 0])), (h2, .inr (6, [.ref h15, .ref h16, .ref h17, .ref h18, .int 0, .int (-1), .int (-1)])), (h18, .inr (0, [.ref h19, .ref h20, .int 0, .int 0, .int 0, .int 0, .int 0]))] sz)) (vx_X (fun (_ : Unit) => True) (fun (E : String) (_ : Unit) (_ : State) => E = "java/util/NoSuchElementException") (va_A [(h0, .inr (11, [.ref h1, .ref h2, .ref h3, .ref h4, .ref h5, .ref h6, .ref h7, .ref h8, .ref h9, .ref h10, .ref h11, .ref h12, .ref h13, .ref h14, .int 0, .int 0])), (h2, .inr (6, [.ref h15, .ref h16, .ref h17, .ref h18, .int 0, .int (-1), .int (-1)])), (h18, .inr (0, [.ref h19, .ref h20, .int 0, .int 0, .int 0, .int 0, .int 0]))] sz)) 1 6 (va_A [(h0, .inr (11, [.ref h1, .ref h2, .ref h3, .ref h4, .ref h5, .ref h6, .ref h7, .ref h8, .ref h9, .ref h10, .ref h11, .ref h12, .ref h13, .ref h14, .int 0, .int 0])), (h2, .inr (6, [.ref h15, .ref h16, .ref h17, .ref h18, .int 0, .int (-1), .int (-1)])), (h18, .inr (0, [.ref h19, .ref h20, .int 0, .int 0, .int 0, .int 0, .int 0]))] sz) := by
  refine vx_ofW (cc := cX11_at) (maxL := 2) (ret := some .int) (by decide) rfl ?_
  intro p e s m args below meth c s₁ B hml hne hv
  obtain ⟨rfl, ⟨hsz, hP, hK, hD0, hN⟩, hU, hV, hB⟩ := hv
  have hx := B.exec
  have hb := B.bytes
  have hts := atoms_spec (ws := wsX11_at) B.pre
  have hown : s.vm.findClass RX11 = some m.cls := findClass_of_methodNamed B.named
  have hlocks := B.notSynchronized
  subst hsz
  have hD := hD0.self (sz := s.heap.size)
  generalize hAe : va_A [(h0, .inr (11, [.ref h1, .ref h2, .ref h3, .ref h4, .ref h5, .ref h6, .ref h7, .ref h8, .ref h9, .ref h10, .ref h11, .ref h12, .ref h13, .ref h14, .int 0, .int 0])), (h2, .inr (6, [.ref h15, .ref h16, .ref h17, .ref h18, .int 0, .int (-1), .int (-1)])), (h18, .inr (0, [.ref h19, .ref h20, .int 0, .int 0, .int 0, .int 0, .int 0]))] s.heap.size = A at hD hU hV ⊢
  have hA : ∀ q : Nat, s.heap.size ≤ q → A q := fun q h => by rw [← hAe]; exact Or.inr h
  have hl := lv_entry ([.ref h0, .int v0]) (n := 2) (Nat.le_of_ble_eq_true rfl)
  rw [lg_entry_eq]
  generalize (lg_sl ([.ref h0, .int v0]) ++ List.replicate (2 - (lg_sl ([.ref h0, .int v0])).length) Slot.unset).toArray = ls at hl ⊢
  have hl : lv_has ls 2 [(0, .ref h0), (1, .int v0)] := hl
  refine zw_start (fun H eH => ?_)
  have hP : va_P (dC, dI) classes [(h0, .inr (11, [.ref h1, .ref h2, .ref h3, .ref h4, .ref h5, .ref h6, .ref h7, .ref h8, .ref h9, .ref h10, .ref h11, .ref h12, .ref h13, .ref h14, .int 0, .int 0])), (h2, .inr (6, [.ref h15, .ref h16, .ref h17, .ref h18, .int 0, .int (-1), .int (-1)])), (h18, .inr (0, [.ref h19, .ref h20, .int 0, .int 0, .int 0, .int 0, .int 0]))] H := by rw [eH]; exact hP
  have hS : va_S A s.heap H [] := by rw [eH]; exact va_S.rf
  refine lv_iload_n hx hb dX11_at_0 rfl (lv_at hl 1 rfl) ?_
  refine lv_if_lt (tgt := 24) hx hb dX11_at_1 (by decide) (fun c_1 => ?_) (fun c_1 => ?_)
  · skip
    exact vx_throw0 (own := RX11) (cls := "java/util/NoSuchElementException") (names := ["java/lang/RuntimeException", "java/lang/Exception"]) (ik := 173) (ic := 175) (A := A) hx hb hlt hown (by decide +kernel) (by decide +kernel) (hts (.classLink RX11 173 "java/util/NoSuchElementException") (by decide +kernel)) (hts (.initialized "java/util/NoSuchElementException") (by decide +kernel)) (zx_hat hts hB) zx_good hU hV hS (hl.1.trans hml.symm) dX11_at_24 dX11_at_27 dX11_at_28 dX11_at_31 (fun x hx9 => absurd (hne x hx9) id) (by decide) (by decide) (Nat.le_of_ble_eq_true rfl) (Nat.le_of_ble_eq_true rfl) hlocks (fun t h1 h2 h3 => ⟨(), trivial, rfl, Nat.le_trans hS.1 h2, fun q h4 h5 => (h3 q (Nat.lt_of_lt_of_le h4 hS.1)).trans (hS.2.1 q h4 h5)⟩) hS.2.2 (Nat.le_of_ble_eq_true rfl) (Nat.le_of_ble_eq_true rfl)
  · skip
    refine lv_iload_n hx hb dX11_at_4 rfl (lv_at hl 1 rfl) ?_
    refine lv_aload_n hx hb dX11_at_5 rfl (lv_at hl 0 rfl) ?_
    refine va_get (D := (dC, dI)) (ci := 11) (v := .ref h2) (C := RX11) (T := TX11) (N := 16) hx hb hts zi_X11_at_X11 hown hK hP 0 rfl rfl 1 (by decide) (hts (.fieldLink RX11 19 "HoldTwo" "referee" "LHoldTwo$Referee;") (by decide +kernel)) (fun _ h9 => h9) rfl dX11_at_6 ?_
    refine va_getN (D := (dC, dI)) (ci := 6) (v := .ref h18) (C := RX6) (T := TX6) (N := 7) hx hb hts zi_X11_at_X6 hown hK hP 1 rfl rfl 3 (by decide) (va_Nw.use rfl (hN.1 _ (List.mem_of_getElem? (i := 22) rfl))) (fun _ h9 => h9) rfl dX11_at_9 ?_
    refine va_getN (D := (dC, dI)) (ci := 0) (v := .int 0) (C := RX0) (T := TX0) (N := 7) hx hb hts zi_X11_at_X0 hown hK hP 2 rfl rfl 2 (by decide) (va_Nw.use rfl (hN.1 _ (List.mem_of_getElem? (i := 13) rfl))) (fun _ h9 => h9) rfl dX11_at_12 ?_
    refine lv_icmp_ge (tgt := 24) hx hb dX11_at_15 (by decide) (fun c_2 => ?_) (fun c_2 => ?_)
    · skip
      exact vx_throw0 (own := RX11) (cls := "java/util/NoSuchElementException") (names := ["java/lang/RuntimeException", "java/lang/Exception"]) (ik := 173) (ic := 175) (A := A) hx hb hlt hown (by decide +kernel) (by decide +kernel) (hts (.classLink RX11 173 "java/util/NoSuchElementException") (by decide +kernel)) (hts (.initialized "java/util/NoSuchElementException") (by decide +kernel)) (zx_hat hts hB) zx_good hU hV hS (hl.1.trans hml.symm) dX11_at_24 dX11_at_27 dX11_at_28 dX11_at_31 (fun x hx9 => absurd (hne x hx9) id) (by decide) (by decide) (Nat.le_of_ble_eq_true rfl) (Nat.le_of_ble_eq_true rfl) hlocks (fun t h1 h2 h3 => ⟨(), trivial, rfl, Nat.le_trans hS.1 h2, fun q h4 h5 => (h3 q (Nat.lt_of_lt_of_le h4 hS.1)).trans (hS.2.1 q h4 h5)⟩) hS.2.2 (Nat.le_of_ble_eq_true rfl) (Nat.le_of_ble_eq_true rfl)
    · skip
      have d_c_1 := (not_congr zz_lt).mp c_1
      have d_c_2 := (not_congr zz_le).mp c_2
      have ez_0 : (0 : Int32).toInt = 0 := by decide
      exact absurd (show False by omega) id
set_option maxHeartbeats 8000000 in
set_option maxRecDepth 100000 in
theorem zk_L_at (l : Launch) (hlt : l.stackTraces = false) (dC : Nat → ClassId) (dI : Nat → Nat → Nat) (h0 : Nat) (v0 : Int32) (h1 : Nat) (h2 : Nat) (h3 : Nat) (h4 : Nat) (h5 : Nat) (h6 : Nat) (h7 : Nat) (h8 : Nat) (h9 : Nat) (h10 : Nat) (h11 : Nat) (h12 : Nat) (h13 : Nat) (h14 : Nat) (h15 : Nat) (h16 : Nat) (h17 : Nat) (h18 : Nat) (h19 : Nat) (h20 : Nat) (sz : Nat) (zo : Nat) : Met l yL_at wsL_at ({ frames := 7, cells := 1, slots := 6, locals := 102 }) (va_Pc [.ref h0, .int v0, .ref zo] (zx_P dC dI sz [(h0, .inr (11, [.ref h1, .ref h2, .ref h3, .ref h4, .ref h5, .ref h6, .ref h7, .ref h8, .ref h9, .ref h10, .ref h11, .ref h12, .ref h13, .ref h14, .int 0, .int 0])), (h2, .inr (6, [.ref h15, .ref h16, .ref h17, .ref h18, .int 0, .int (-1), .int (-1)])), (h18, .inr (0, [.ref h19, .ref h20, .int 0, .int 0, .int 0, .int 0, .int 0]))])) (va_Qi (fun (r : Int32) (_ : Unit) => r = 1) (fun (_ : Unit) (t : State) => zw_Q dC dI (va_A [(h0, .inr (11, [.ref h1, .ref h2, .ref h3, .ref h4, .ref h5, .ref h6, .ref h7, .ref h8, .ref h9, .ref h10, .ref h11, .ref h12, .ref h13, .ref h14, .int 0, .int 0])), (h2, .inr (6, [.ref h15, .ref h16, .ref h17, .ref h18, .int 0, .int (-1), .int (-1)])), (h18, .inr (0, [.ref h19, .ref h20, .int 0, .int 0, .int 0, .int 0, .int 0]))] sz) [] [] t) (va_A [(h0, .inr (11, [.ref h1, .ref h2, .ref h3, .ref h4, .ref h5, .ref h6, .ref h7, .ref h8, .ref h9, .ref h10, .ref h11, .ref h12, .ref h13, .ref h14, .int 0, .int 0])), (h2, .inr (6, [.ref h15, .ref h16, .ref h17, .ref h18, .int 0, .int (-1), .int (-1)])), (h18, .inr (0, [.ref h19, .ref h20, .int 0, .int 0, .int 0, .int 0, .int 0]))] sz)) 1 6 (va_A [(h0, .inr (11, [.ref h1, .ref h2, .ref h3, .ref h4, .ref h5, .ref h6, .ref h7, .ref h8, .ref h9, .ref h10, .ref h11, .ref h12, .ref h13, .ref h14, .int 0, .int 0])), (h2, .inr (6, [.ref h15, .ref h16, .ref h17, .ref h18, .int 0, .int (-1), .int (-1)])), (h18, .inr (0, [.ref h19, .ref h20, .int 0, .int 0, .int 0, .int 0, .int 0]))] sz) := by
  refine va_MetW (cc := cL_at) (maxL := 4) (ret := some .int) (hh := [(0, 9, 12, 13)]) (by decide) rfl ?_
  intro p e s m args below meth c s₁ B hml hv
  obtain ⟨rfl, ⟨hsz, hP, hK, hD0, hN⟩, hU, hV, hB⟩ := hv
  have hx := B.exec
  have hb := B.bytes
  have hr := B.returns
  have hts := atoms_spec (ws := wsL_at) B.pre
  have hown : s.vm.findClass RL = some m.cls := findClass_of_methodNamed B.named
  have hlocks := B.notSynchronized
  have htab := vx_table (x := yL_at) B (hts (.codeWith yL_at cL_at 4 (some .int) [(0, 9, 12, 13)]) (List.mem_cons_self))
  subst hsz
  have hD := hD0.self (sz := s.heap.size)
  generalize hAe : va_A [(h0, .inr (11, [.ref h1, .ref h2, .ref h3, .ref h4, .ref h5, .ref h6, .ref h7, .ref h8, .ref h9, .ref h10, .ref h11, .ref h12, .ref h13, .ref h14, .int 0, .int 0])), (h2, .inr (6, [.ref h15, .ref h16, .ref h17, .ref h18, .int 0, .int (-1), .int (-1)])), (h18, .inr (0, [.ref h19, .ref h20, .int 0, .int 0, .int 0, .int 0, .int 0]))] s.heap.size = A at hD hU hV ⊢
  have hA : ∀ q : Nat, s.heap.size ≤ q → A q := fun q h => by rw [← hAe]; exact Or.inr h
  have hl := lv_entry ([.ref h0, .int v0, .ref zo]) (n := 4) (Nat.le_of_ble_eq_true rfl)
  rw [lg_entry_eq]
  generalize (lg_sl ([.ref h0, .int v0, .ref zo]) ++ List.replicate (4 - (lg_sl ([.ref h0, .int v0, .ref zo])).length) Slot.unset).toArray = ls at hl ⊢
  have hl : lv_has ls 4 [(0, .ref h0), (1, .int v0), (2, .ref zo)] := hl
  refine zw_start (fun H eH => ?_)
  have hP : va_P (dC, dI) classes [(h0, .inr (11, [.ref h1, .ref h2, .ref h3, .ref h4, .ref h5, .ref h6, .ref h7, .ref h8, .ref h9, .ref h10, .ref h11, .ref h12, .ref h13, .ref h14, .int 0, .int 0])), (h2, .inr (6, [.ref h15, .ref h16, .ref h17, .ref h18, .int 0, .int (-1), .int (-1)])), (h18, .inr (0, [.ref h19, .ref h20, .int 0, .int 0, .int 0, .int 0, .int 0]))] H := by rw [eH]; exact hP
  have hS : va_S A s.heap H [] := by rw [eH]; exact va_S.rf
  refine lv_aload_n hx hb dL_at_0 rfl (lv_at hl 2 rfl) ?_
  refine lv_iconst (v := 0) hx hb dL_at_1 (by decide) ?_
  refine lv_aload_n hx hb dL_at_2 rfl (lv_at hl 0 rfl) ?_
  refine lv_iload_n hx hb dL_at_3 rfl (lv_at hl 1 rfl) ?_
  have hFc := va_free (wc := [(h0, .inr (11, [.ref h1, .ref h2, .ref h3, .ref h4, .ref h5, .ref h6, .ref h7, .ref h8, .ref h9, .ref h10, .ref h11, .ref h12, .ref h13, .ref h14, .int 0, .int 0])), (h2, .inr (6, [.ref h15, .ref h16, .ref h17, .ref h18, .int 0, .int (-1), .int (-1)])), (h18, .inr (0, [.ref h19, .ref h20, .int 0, .int 0, .int 0, .int 0, .int 0]))]) hD hS hA [0, 1, 2] rfl
  refine vx_calli (vx_runV (As := [.int v0]) (rest := [.int 0, .ref zo]) ⟨hx, hb, hml, hown, hts⟩ (zk_X11_at l hlt dC dI h0 v0 h1 h2 h3 h4 h5 h6 h7 h8 h9 h10 h11 h12 h13 h14 h15 h16 h17 h18 h19 h20 H.size) (cwV 1 hts gL_at_X11_at rfl rfl rfl (by decide +kernel) ⟨Nat.le_of_ble_eq_true rfl, Nat.le_of_ble_eq_true rfl⟩) ⟨zx_blind, va_recv hK hP (ci := 11) (q0 := 0) rfl rfl, fun U hU9 hW => ⟨rfl, zx_of hP hK hD hN hS hFc hU hV hB U hU9 hW⟩⟩ rfl rfl hl.1 rfl (lv_room (Nat.le_of_ble_eq_true rfl)) dL_at_4 ⟨Nat.le_of_ble_eq_true rfl, Nat.le_of_ble_eq_true rfl⟩) hS (fun q _ h => hFc q h) hFc (fun q _ h => hFc q h) (fun E ce q9 u t H1 locs1 ht hvm hpx hBX hz1 hk1 hS hce hcv hcl => ?_) (fun r u t H1 locs1 ht hvm hw hB hz1 hk1 hS => hw.elim)
  subst hBX
  refine vx_catch (own := RL) (name := "java/util/NoSuchElementException") hown [] { startPc := 0, endPc := 9, handlerPc := 12, catchType := 13 } [] (by rw [htab]; rfl) (fun z h => nomatch h) (by decide) (by decide) (hts (.classLink RL 13 "java/util/NoSuchElementException") (by decide +kernel)) (va_Nw.use rfl hB.1) hce hcv hcl ?_
  refine lv_astore_n (lv' := [(3, .ref q9), (0, .ref h0), (1, .int v0), (2, .ref zo)]) hx hb dL_at_12 rfl hl (by decide) rfl (fun ls hl => ?_)
  refine lv_iconst (v := 1) hx hb dL_at_13 (by decide) ?_
  refine W.widen (k := 1) (n := 6) (Nat.le_of_ble_eq_true rfl) (Nat.le_of_ble_eq_true rfl) ?_
  have hK9 := hK.sub (tys' := []) [] rfl
  exact W.iret (v := 1) hx hb hr (fun t ht hW => ⟨⟨1, (), rfl, rfl, zx_nil, va_K.moved hW.alike hK9, zx_nilD⟩, hS.F ht⟩) hS.2.2 dL_at_14
