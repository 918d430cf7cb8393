set_option maxHeartbeats 8000000 in
set_option maxRecDepth 100000 in
theorem zl_5 {p : Program} {e : Env} {s : State} {m : MethodId} {below : List Frame} {meth : Method} {c : Code} (l : Launch) {b : Nat} {xs : Nat → Int32} (C0 : lw_At p s m meth c b 6 xs) (hlt : l.stackTraces = false) (dC : Nat → ClassId) (dI : Nat → Nat → Nat) (zx : Nat) (zx_y0 : Nat) (zx_y1 : Nat) (zx_y2 : Nat) (zx_y3 : Nat) (zx_y4 : Nat) (zx_y5 : Nat) (zx_y6 : Nat) (zx_y7 : Nat) (zx_y8 : Nat) (zx_y9 : Nat) (zx_y10 : Nat) (zx_y11 : Nat) (zx_y12 : Nat) (zx_y13 : Nat) (zx_y16 : Nat) (zx_y17 : Nat) (zx_y18 : Nat) (zx_y19 : Nat) (zx_y20 : Nat) (zx_y21 : Nat) (zm : Nat) (zm_y0 : Nat) (zm_y1 : Nat) (zm_y2 : Nat) (zm_y3 : Nat) (zm_y4 : Nat) (zm_y5 : Nat) (zm_y6 : Nat) (zm_y7 : Nat) (zm_y8 : Nat) (zm_y9 : Nat) (zm_y10 : Nat) (zm_y11 : Nat) (zm_y12 : Nat) (zm_y13 : Nat) (zm_y14 : Nat) (zm_y15 : Nat) (zm_y16 : Nat) (zm_y17 : Nat) (zm_y18 : Nat) (zm_y19 : Nat) (zm_y20 : Nat) (zm_y21 : Nat) (zm_y22 : Nat) (zm_y23 : Nat) (zm_y24 : Nat) (zm_y25 : Nat) (zm_y26 : Nat) (zm_y27 : Nat) (zm_y28 : Nat) (zm_y29 : Nat) (zm_y30 : Nat) (zm_y31 : Nat) (zm_y32 : Nat) (zo : Nat) {H : Heap} {locs : List Loc} (hN : zw_N s) (hK : va_K (dC, dI) classes [] s) (hP : va_P (dC, dI) classes [(zx, .inr (11, [.ref zx_y0, .ref zx_y1, .ref zx_y2, .ref zx_y3, .ref zx_y4, .ref zx_y5, .ref zx_y6, .ref zx_y7, .ref zx_y8, .ref zx_y9, .ref zx_y10, .ref zx_y11, .ref zx_y12, .ref zx_y13, .int 0, .int 0])), (zx_y1, .inr (6, [.ref zx_y16, .ref zx_y17, .ref zx_y18, .ref zx_y19, .int 0, .int (-1), .int (-1)])), (zx_y19, .inr (0, [.ref zx_y20, .ref zx_y21, .int 0, .int 0, .int 0, .int 0, .int 0])), (zm, .inr (12, [.int 0, .ref zm_y0, .int 0, .int 0, .int 0, .int 0, .ref zm_y1, .ref zm_y2, .ref zm_y3, .ref zm_y4, .ref zm_y5, .ref zm_y6, .ref zm_y7, .int 0, .int 0, .ref zm_y8, .ref zm_y9, .int 0, .int 0, .int 0, .int 0, .ref zm_y10, .ref zm_y11, .int 0, .int 0, .int 0, .int 0, .int 0, .ref zm_y12, .ref zm_y13, .ref zm_y14, .ref zm_y15, .int 0, .ref zm_y16, .ref zm_y17, .ref zm_y18, .int (-1), .int (-1), .int (-1), .int 0, .int 0, .int 0, .ref zm_y19, .ref zm_y20, .int 0, .ref zm_y21, .ref zm_y22, .ref zm_y23, .ref zm_y24, .ref zm_y25, .int 0, .ref zm_y26, .ref zm_y27, .ref zm_y28, .int 0, .int 0, .int 0, .ref zm_y29, .ref zm_y30, .ref zm_y31, .ref zm_y32, .int 0, .int 0, .long 0, .int 0, .int 0, .int 0, .int 0, .int 0, .int 0]))] H) (hD : va_D (fun q : Nat => s.heap.size ≤ q) [(zx, .inr (11, [.ref zx_y0, .ref zx_y1, .ref zx_y2, .ref zx_y3, .ref zx_y4, .ref zx_y5, .ref zx_y6, .ref zx_y7, .ref zx_y8, .ref zx_y9, .ref zx_y10, .ref zx_y11, .ref zx_y12, .ref zx_y13, .int 0, .int 0])), (zx_y1, .inr (6, [.ref zx_y16, .ref zx_y17, .ref zx_y18, .ref zx_y19, .int 0, .int (-1), .int (-1)])), (zx_y19, .inr (0, [.ref zx_y20, .ref zx_y21, .int 0, .int 0, .int 0, .int 0, .int 0])), (zm, .inr (12, [.int 0, .ref zm_y0, .int 0, .int 0, .int 0, .int 0, .ref zm_y1, .ref zm_y2, .ref zm_y3, .ref zm_y4, .ref zm_y5, .ref zm_y6, .ref zm_y7, .int 0, .int 0, .ref zm_y8, .ref zm_y9, .int 0, .int 0, .int 0, .int 0, .ref zm_y10, .ref zm_y11, .int 0, .int 0, .int 0, .int 0, .int 0, .ref zm_y12, .ref zm_y13, .ref zm_y14, .ref zm_y15, .int 0, .ref zm_y16, .ref zm_y17, .ref zm_y18, .int (-1), .int (-1), .int (-1), .int 0, .int 0, .int 0, .ref zm_y19, .ref zm_y20, .int 0, .ref zm_y21, .ref zm_y22, .ref zm_y23, .ref zm_y24, .ref zm_y25, .int 0, .ref zm_y26, .ref zm_y27, .ref zm_y28, .int 0, .int 0, .int 0, .ref zm_y29, .ref zm_y30, .ref zm_y31, .ref zm_y32, .int 0, .int 0, .long 0, .int 0, .int 0, .int 0, .int 0, .int 0, .int 0]))]) (hS : va_S (fun q : Nat => s.heap.size ≤ q) s.heap H locs) (ls : Array Slot) (hl : lv_has ls 7 [(0, .ref b), (1, .ref zx), (2, .ref zm), (3, .ref zo), (4, .int 0)]) : W p l e room_1 s m #[Value.ref b] below meth c H locs 99 952984 (lw_Z below #[Value.ref b] s) (F0 m 349 ls []) := by
  obtain ⟨hx, hb, hr, hml, hown, hts0, hX, hbl, hlocks, hgv⟩ := C0
  have hts : ∀ w ∈ wsL_law, w.before #[Value.ref b] s = true := fun w h => hts0 w (wsL_law_in w h)
  have hA : ∀ q : Nat, s.heap.size ≤ q → (fun q : Nat => s.heap.size ≤ q) q := fun _ h => h
  have hbA : ¬ (fun q : Nat => s.heap.size ≤ q) b := Nat.not_le.mpr hbl
  have hU : vx_Zq Bundle.tN "UNASSIGNED_STACK" Bundle.steD (fun q : Nat => s.heap.size ≤ q) s s.heap := vx_Zqof (args := #[Value.ref b]) (hts0 (.laysStatic Bundle.tN "UNASSIGNED_STACK" Bundle.steD) (by decide +kernel)) (hts0 (.initialized Bundle.tN) (by decide +kernel)) (flat_of_before _ hgv _ (by decide +kernel)) (fun a h => Nat.not_le.mpr h)
  have hV : vx_Zq Bundle.tN "SUPPRESSED_SENTINEL" Bundle.listD (fun q : Nat => s.heap.size ≤ q) s s.heap := vx_Zqof (args := #[Value.ref b]) (hts0 (.laysStatic Bundle.tN "SUPPRESSED_SENTINEL" Bundle.listD) (by decide +kernel)) (hts0 (.initialized Bundle.tN) (by decide +kernel)) (flat_of_before _ hgv _ (by decide +kernel)) (fun a h => Nat.not_le.mpr h)
  have hB : zx_B s := ⟨va_Nw.of rfl (hts0 (.castable "java/util/NoSuchElementException" "java/util/NoSuchElementException") (by decide +kernel)), va_Nw.of rfl (hts0 (.declares ⟨"java/lang/RuntimeException", "<init>", "()V"⟩) (by decide +kernel)), va_Nw.of rfl (hts0 (.declares ⟨"java/lang/Exception", "<init>", "()V"⟩) (by decide +kernel)), va_Nw.of rfl (hts0 (.declares ⟨"java/lang/Throwable", "<init>", "()V"⟩) (by decide +kernel))⟩
  refine lv_aload_n hx hb dL_law_349 rfl (lv_at hl 1 rfl) ?_
  refine lv_aload_n hx hb dL_law_350 rfl (lv_at hl 0 rfl) ?_
  refine lv_iload hx hb dL_law_351 (lv_at hl 4 rfl) ?_
  refine lv_iconst (v := 1) hx hb dL_law_353 (by decide) ?_
  refine lv_iadd hx hb dL_law_354 ?_
  refine lv_topi (fun x_1 ex_1 => ?_)
  have ex_1 : x_1 = 1 := ex_1.trans (by decide)
  subst ex_1
  refine va_sld hx hb hX hbl hbA hS (vp_in_iff.mpr ⟨by decide, by decide⟩) dL_law_355 ?_
  refine lv_topi (fun x_2 ex_2 => ?_)
  refine lv_aload_n hx hb dL_law_356 rfl (lv_at hl 3 rfl) ?_
  have hPc := hP.sub (ws' := [(zx, .inr (11, [.ref zx_y0, .ref zx_y1, .ref zx_y2, .ref zx_y3, .ref zx_y4, .ref zx_y5, .ref zx_y6, .ref zx_y7, .ref zx_y8, .ref zx_y9, .ref zx_y10, .ref zx_y11, .ref zx_y12, .ref zx_y13, .int 0, .int 0])), (zx_y1, .inr (6, [.ref zx_y16, .ref zx_y17, .ref zx_y18, .ref zx_y19, .int 0, .int (-1), .int (-1)])), (zx_y19, .inr (0, [.ref zx_y20, .ref zx_y21, .int 0, .int 0, .int 0, .int 0, .int 0]))]) [0, 1, 2] rfl
  have hDc := hD.sub (ws' := [(zx, .inr (11, [.ref zx_y0, .ref zx_y1, .ref zx_y2, .ref zx_y3, .ref zx_y4, .ref zx_y5, .ref zx_y6, .ref zx_y7, .ref zx_y8, .ref zx_y9, .ref zx_y10, .ref zx_y11, .ref zx_y12, .ref zx_y13, .int 0, .int 0])), (zx_y1, .inr (6, [.ref zx_y16, .ref zx_y17, .ref zx_y18, .ref zx_y19, .int 0, .int (-1), .int (-1)])), (zx_y19, .inr (0, [.ref zx_y20, .ref zx_y21, .int 0, .int 0, .int 0, .int 0, .int 0]))]) [0, 1, 2] (by decide) rfl
  have hKc := hK.sub (tys' := []) [] rfl
  have hFc := va_free (wc := [(zx, .inr (11, [.ref zx_y0, .ref zx_y1, .ref zx_y2, .ref zx_y3, .ref zx_y4, .ref zx_y5, .ref zx_y6, .ref zx_y7, .ref zx_y8, .ref zx_y9, .ref zx_y10, .ref zx_y11, .ref zx_y12, .ref zx_y13, .int 0, .int 0])), (zx_y1, .inr (6, [.ref zx_y16, .ref zx_y17, .ref zx_y18, .ref zx_y19, .int 0, .int (-1), .int (-1)])), (zx_y19, .inr (0, [.ref zx_y20, .ref zx_y21, .int 0, .int 0, .int 0, .int 0, .int 0]))]) hD hS hA [0, 1, 2] rfl
  refine va_calli (vx_runSW (As := [.ref zx, .int x_2, .ref zo]) (rest := []) ⟨hx, hb, hml, hown, hts⟩ (zk_L_at l hlt dC dI (zx) (x_2) (zx_y0) (zx_y1) (zx_y2) (zx_y3) (zx_y4) (zx_y5) (zx_y6) (zx_y7) (zx_y8) (zx_y9) (zx_y10) (zx_y11) (zx_y12) (zx_y13) (zx_y16) (zx_y17) (zx_y18) (zx_y19) (zx_y20) (zx_y21) H.size zo) (vx_cwSW 3 hts gL_law_L_at rfl rfl rfl (by decide +kernel) ⟨Nat.le_of_ble_eq_true rfl, Nat.le_of_ble_eq_true rfl⟩) ⟨zx_blind, fun U hU9 hW => ⟨rfl, zx_of hPc hKc hDc hN hS hFc hU hV hB U hU9 hW⟩⟩ rfl rfl hl.1 rfl (lv_room (Nat.le_of_ble_eq_true rfl)) dL_law_357 ⟨Nat.le_of_ble_eq_true rfl, Nat.le_of_ble_eq_true rfl⟩) hS (fun q _ h => hFc q h) hFc (fun r_3 u t H1 locs ht hvm hw hB9 hz1 hk1 hS => ?_)
  obtain ⟨hP1, hK1, hD1⟩ := hB9
  rw [ht] at hP1
  obtain ⟨hP, hD⟩ := va_join (wr := [(zm, .inr (12, [.int 0, .ref zm_y0, .int 0, .int 0, .int 0, .int 0, .ref zm_y1, .ref zm_y2, .ref zm_y3, .ref zm_y4, .ref zm_y5, .ref zm_y6, .ref zm_y7, .int 0, .int 0, .ref zm_y8, .ref zm_y9, .int 0, .int 0, .int 0, .int 0, .ref zm_y10, .ref zm_y11, .int 0, .int 0, .int 0, .int 0, .int 0, .ref zm_y12, .ref zm_y13, .ref zm_y14, .ref zm_y15, .int 0, .ref zm_y16, .ref zm_y17, .ref zm_y18, .int (-1), .int (-1), .int (-1), .int 0, .int 0, .int 0, .ref zm_y19, .ref zm_y20, .int 0, .ref zm_y21, .ref zm_y22, .ref zm_y23, .ref zm_y24, .ref zm_y25, .int 0, .ref zm_y26, .ref zm_y27, .ref zm_y28, .int 0, .int 0, .int 0, .ref zm_y29, .ref zm_y30, .ref zm_y31, .ref zm_y32, .int 0, .int 0, .long 0, .int 0, .int 0, .int 0, .int 0, .int 0, .int 0]))]) (w1 := []) hP hD [0, 1, 2] [3] rfl rfl (by decide) (by decide) hk1 hFc hP1 hD1
  generalize H1 = H at hP hS ⊢
  have hP : va_P (dC, dI) classes [(zm, .inr (12, [.int 0, .ref zm_y0, .int 0, .int 0, .int 0, .int 0, .ref zm_y1, .ref zm_y2, .ref zm_y3, .ref zm_y4, .ref zm_y5, .ref zm_y6, .ref zm_y7, .int 0, .int 0, .ref zm_y8, .ref zm_y9, .int 0, .int 0, .int 0, .int 0, .ref zm_y10, .ref zm_y11, .int 0, .int 0, .int 0, .int 0, .int 0, .ref zm_y12, .ref zm_y13, .ref zm_y14, .ref zm_y15, .int 0, .ref zm_y16, .ref zm_y17, .ref zm_y18, .int (-1), .int (-1), .int (-1), .int 0, .int 0, .int 0, .ref zm_y19, .ref zm_y20, .int 0, .ref zm_y21, .ref zm_y22, .ref zm_y23, .ref zm_y24, .ref zm_y25, .int 0, .ref zm_y26, .ref zm_y27, .ref zm_y28, .int 0, .int 0, .int 0, .ref zm_y29, .ref zm_y30, .ref zm_y31, .ref zm_y32, .int 0, .int 0, .long 0, .int 0, .int 0, .int 0, .int 0, .int 0, .int 0]))] H := hP
  have hD : va_D (fun q : Nat => s.heap.size ≤ q) [(zm, .inr (12, [.int 0, .ref zm_y0, .int 0, .int 0, .int 0, .int 0, .ref zm_y1, .ref zm_y2, .ref zm_y3, .ref zm_y4, .ref zm_y5, .ref zm_y6, .ref zm_y7, .int 0, .int 0, .ref zm_y8, .ref zm_y9, .int 0, .int 0, .int 0, .int 0, .ref zm_y10, .ref zm_y11, .int 0, .int 0, .int 0, .int 0, .int 0, .ref zm_y12, .ref zm_y13, .ref zm_y14, .ref zm_y15, .int 0, .ref zm_y16, .ref zm_y17, .ref zm_y18, .int (-1), .int (-1), .int (-1), .int 0, .int 0, .int 0, .ref zm_y19, .ref zm_y20, .int 0, .ref zm_y21, .ref zm_y22, .ref zm_y23, .ref zm_y24, .ref zm_y25, .int 0, .ref zm_y26, .ref zm_y27, .ref zm_y28, .int 0, .int 0, .int 0, .ref zm_y29, .ref zm_y30, .ref zm_y31, .ref zm_y32, .int 0, .int 0, .long 0, .int 0, .int 0, .int 0, .int 0, .int 0, .int 0]))] := hD
  refine W.widen (k := 100) (n := 952990) (Nat.le_of_ble_eq_true rfl) (Nat.le_of_ble_eq_true rfl) ?_
  obtain rfl : r_3 = 1 := hw
  refine lv_istore (lv' := [(5, .int 1), (0, .ref b), (1, .ref zx), (2, .ref zm), (3, .ref zo), (4, .int 0)]) hx hb dL_law_360 hl (by decide) rfl (fun ls hl => ?_)
  refine lv_aload_n hx hb dL_law_362 rfl (lv_at hl 3 rfl) ?_
  refine lv_aload_n hx hb dL_law_363 rfl (lv_at hl 1 rfl) ?_
  refine lv_iload hx hb dL_law_364 (lv_at hl 5 rfl) ?_
  refine lv_iconst (v := 1) hx hb dL_law_366 (by decide) ?_
  refine lv_iadd hx hb dL_law_367 ?_
  refine lv_topi (fun x_4 ex_4 => ?_)
  have ex_4 : x_4 = 1 := ex_4.trans (by decide)
  subst ex_4
  refine va_sld hx hb hX hbl hbA hS (vp_in_iff.mpr ⟨by decide, by decide⟩) dL_law_368 ?_
  refine lv_topi (fun x_5 ex_5 => ?_)
  have ex_5 : x_2 = x_5 := ex_2.trans ex_5.symm
  subst ex_5
  have hPc := hP.sub (ws' := [(zm, .inr (12, [.int 0, .ref zm_y0, .int 0, .int 0, .int 0, .int 0, .ref zm_y1, .ref zm_y2, .ref zm_y3, .ref zm_y4, .ref zm_y5, .ref zm_y6, .ref zm_y7, .int 0, .int 0, .ref zm_y8, .ref zm_y9, .int 0, .int 0, .int 0, .int 0, .ref zm_y10, .ref zm_y11, .int 0, .int 0, .int 0, .int 0, .int 0, .ref zm_y12, .ref zm_y13, .ref zm_y14, .ref zm_y15, .int 0, .ref zm_y16, .ref zm_y17, .ref zm_y18, .int (-1), .int (-1), .int (-1), .int 0, .int 0, .int 0, .ref zm_y19, .ref zm_y20, .int 0, .ref zm_y21, .ref zm_y22, .ref zm_y23, .ref zm_y24, .ref zm_y25, .int 0, .ref zm_y26, .ref zm_y27, .ref zm_y28, .int 0, .int 0, .int 0, .ref zm_y29, .ref zm_y30, .ref zm_y31, .ref zm_y32, .int 0, .int 0, .long 0, .int 0, .int 0, .int 0, .int 0, .int 0, .int 0]))]) [0] rfl
  have hDc := hD.sub (ws' := [(zm, .inr (12, [.int 0, .ref zm_y0, .int 0, .int 0, .int 0, .int 0, .ref zm_y1, .ref zm_y2, .ref zm_y3, .ref zm_y4, .ref zm_y5, .ref zm_y6, .ref zm_y7, .int 0, .int 0, .ref zm_y8, .ref zm_y9, .int 0, .int 0, .int 0, .int 0, .ref zm_y10, .ref zm_y11, .int 0, .int 0, .int 0, .int 0, .int 0, .ref zm_y12, .ref zm_y13, .ref zm_y14, .ref zm_y15, .int 0, .ref zm_y16, .ref zm_y17, .ref zm_y18, .int (-1), .int (-1), .int (-1), .int 0, .int 0, .int 0, .ref zm_y19, .ref zm_y20, .int 0, .ref zm_y21, .ref zm_y22, .ref zm_y23, .ref zm_y24, .ref zm_y25, .int 0, .ref zm_y26, .ref zm_y27, .ref zm_y28, .int 0, .int 0, .int 0, .ref zm_y29, .ref zm_y30, .ref zm_y31, .ref zm_y32, .int 0, .int 0, .long 0, .int 0, .int 0, .int 0, .int 0, .int 0, .int 0]))]) [0] (by decide) rfl
  have hKc := hK.sub (tys' := []) [] rfl
  have hFc := va_free (wc := [(zm, .inr (12, [.int 0, .ref zm_y0, .int 0, .int 0, .int 0, .int 0, .ref zm_y1, .ref zm_y2, .ref zm_y3, .ref zm_y4, .ref zm_y5, .ref zm_y6, .ref zm_y7, .int 0, .int 0, .ref zm_y8, .ref zm_y9, .int 0, .int 0, .int 0, .int 0, .ref zm_y10, .ref zm_y11, .int 0, .int 0, .int 0, .int 0, .int 0, .ref zm_y12, .ref zm_y13, .ref zm_y14, .ref zm_y15, .int 0, .ref zm_y16, .ref zm_y17, .ref zm_y18, .int (-1), .int (-1), .int (-1), .int 0, .int 0, .int 0, .ref zm_y19, .ref zm_y20, .int 0, .ref zm_y21, .ref zm_y22, .ref zm_y23, .ref zm_y24, .ref zm_y25, .int 0, .ref zm_y26, .ref zm_y27, .ref zm_y28, .int 0, .int 0, .int 0, .ref zm_y29, .ref zm_y30, .ref zm_y31, .ref zm_y32, .int 0, .int 0, .long 0, .int 0, .int 0, .int 0, .int 0, .int 0, .int 0]))]) hD hS hA [0] rfl
  refine va_calli (va_runV (As := [.int x_2]) (rest := []) ⟨hx, hb, hml, hown, hts⟩ (zk_X12_at l dC dI (zm) (x_2) (zm_y0) (zm_y1) (zm_y2) (zm_y3) (zm_y4) (zm_y5) (zm_y6) (zm_y7) (zm_y8) (zm_y9) (zm_y10) (zm_y11) (zm_y12) (zm_y13) (zm_y14) (zm_y15) (zm_y16) (zm_y17) (zm_y18) (zm_y19) (zm_y20) (zm_y21) (zm_y22) (zm_y23) (zm_y24) (zm_y25) (zm_y26) (zm_y27) (zm_y28) (zm_y29) (zm_y30) (zm_y31) (zm_y32) H.size) (cwV 1 hts gL_law_X12_at rfl rfl rfl (by decide +kernel) ⟨Nat.le_of_ble_eq_true rfl, Nat.le_of_ble_eq_true rfl⟩) ⟨zw_blind, va_recv hK hP (ci := 12) (q0 := 0) rfl rfl, fun U hU hW => ⟨rfl, zw_P.of hPc hKc hDc hN U hU hW⟩⟩ rfl rfl hl.1 rfl (lv_room (Nat.le_of_ble_eq_true rfl)) dL_law_369 ⟨Nat.le_of_ble_eq_true rfl, Nat.le_of_ble_eq_true rfl⟩) hS (fun q _ h => hFc q h) hFc (fun r_6 u t H1 locs ht hvm hw hB hz1 hk1 hS => ?_)
  obtain ⟨hP1, hK1, hD1⟩ := hB
  rw [ht] at hP1
  obtain ⟨hP, hD⟩ := va_join (wr := []) (w1 := [(zm, .inr (12, [.int 1, .ref zm_y0, .int 0, .int 0, .int 0, .int 0, .ref zm_y1, .ref zm_y2, .ref zm_y3, .ref zm_y4, .ref zm_y5, .ref zm_y6, .ref zm_y7, .int 0, .int 0, .ref zm_y8, .ref zm_y9, .int 0, .int 0, .int 0, .int 0, .ref zm_y10, .ref zm_y11, .int 0, .int 0, .int 0, .int 0, .int 0, .ref zm_y12, .ref zm_y13, .ref zm_y14, .ref zm_y15, .int 0, .ref zm_y16, .ref zm_y17, .ref zm_y18, .int (-1), .int (-1), .int (-1), .int 0, .int 0, .int 0, .ref zm_y19, .ref zm_y20, .int 0, .ref zm_y21, .ref zm_y22, .ref zm_y23, .ref zm_y24, .ref zm_y25, .int 0, .ref zm_y26, .ref zm_y27, .ref zm_y28, .int 0, .int 0, .int 0, .ref zm_y29, .ref zm_y30, .ref zm_y31, .ref zm_y32, .int 0, .int 0, .long 0, .int 0, .int 0, .int 0, .int 0, .int 0, .int 0]))]) hP hD [0] [] rfl rfl (by decide) (by decide) hk1 hFc hP1 hD1
  generalize H1 = H at hP hS ⊢
  have hP : va_P (dC, dI) classes [(zm, .inr (12, [.int 1, .ref zm_y0, .int 0, .int 0, .int 0, .int 0, .ref zm_y1, .ref zm_y2, .ref zm_y3, .ref zm_y4, .ref zm_y5, .ref zm_y6, .ref zm_y7, .int 0, .int 0, .ref zm_y8, .ref zm_y9, .int 0, .int 0, .int 0, .int 0, .ref zm_y10, .ref zm_y11, .int 0, .int 0, .int 0, .int 0, .int 0, .ref zm_y12, .ref zm_y13, .ref zm_y14, .ref zm_y15, .int 0, .ref zm_y16, .ref zm_y17, .ref zm_y18, .int (-1), .int (-1), .int (-1), .int 0, .int 0, .int 0, .ref zm_y19, .ref zm_y20, .int 0, .ref zm_y21, .ref zm_y22, .ref zm_y23, .ref zm_y24, .ref zm_y25, .int 0, .ref zm_y26, .ref zm_y27, .ref zm_y28, .int 0, .int 0, .int 0, .ref zm_y29, .ref zm_y30, .ref zm_y31, .ref zm_y32, .int 0, .int 0, .long 0, .int 0, .int 0, .int 0, .int 0, .int 0, .int 0]))] H := hP
  have hD : va_D (fun q : Nat => s.heap.size ≤ q) [(zm, .inr (12, [.int 1, .ref zm_y0, .int 0, .int 0, .int 0, .int 0, .ref zm_y1, .ref zm_y2, .ref zm_y3, .ref zm_y4, .ref zm_y5, .ref zm_y6, .ref zm_y7, .int 0, .int 0, .ref zm_y8, .ref zm_y9, .int 0, .int 0, .int 0, .int 0, .ref zm_y10, .ref zm_y11, .int 0, .int 0, .int 0, .int 0, .int 0, .ref zm_y12, .ref zm_y13, .ref zm_y14, .ref zm_y15, .int 0, .ref zm_y16, .ref zm_y17, .ref zm_y18, .int (-1), .int (-1), .int (-1), .int 0, .int 0, .int 0, .ref zm_y19, .ref zm_y20, .int 0, .ref zm_y21, .ref zm_y22, .ref zm_y23, .ref zm_y24, .ref zm_y25, .int 0, .ref zm_y26, .ref zm_y27, .ref zm_y28, .int 0, .int 0, .int 0, .ref zm_y29, .ref zm_y30, .ref zm_y31, .ref zm_y32, .int 0, .int 0, .long 0, .int 0, .int 0, .int 0, .int 0, .int 0, .int 0]))] := hD
  obtain rfl : r_6 = 0 := hw
  refine lv_istore (lv' := [(6, .int 0), (5, .int 1), (0, .ref b), (1, .ref zx), (2, .ref zm), (3, .ref zo), (4, .int 0)]) hx hb dL_law_372 hl (by decide) rfl (fun ls hl => ?_)
  refine lv_aload_n hx hb dL_law_374 rfl (lv_at hl 4 rfl) ?_
  have hPc := hP.sub (ws' := [(zm, .inr (12, [.int 1, .ref zm_y0, .int 0, .int 0, .int 0, .int 0, .ref zm_y1, .ref zm_y2, .ref zm_y3, .ref zm_y4, .ref zm_y5, .ref zm_y6, .ref zm_y7, .int 0, .int 0, .ref zm_y8, .ref zm_y9, .int 0, .int 0, .int 0, .int 0, .ref zm_y10, .ref zm_y11, .int 0, .int 0, .int 0, .int 0, .int 0, .ref zm_y12, .ref zm_y13, .ref zm_y14, .ref zm_y15, .int 0, .ref zm_y16, .ref zm_y17, .ref zm_y18, .int (-1), .int (-1), .int (-1), .int 0, .int 0, .int 0, .ref zm_y19, .ref zm_y20, .int 0, .ref zm_y21, .ref zm_y22, .ref zm_y23, .ref zm_y24, .ref zm_y25, .int 0, .ref zm_y26, .ref zm_y27, .ref zm_y28, .int 0, .int 0, .int 0, .ref zm_y29, .ref zm_y30, .ref zm_y31, .ref zm_y32, .int 0, .int 0, .long 0, .int 0, .int 0, .int 0, .int 0, .int 0, .int 0]))]) [0] rfl
  have hDc := hD.sub (ws' := [(zm, .inr (12, [.int 1, .ref zm_y0, .int 0, .int 0, .int 0, .int 0, .ref zm_y1, .ref zm_y2, .ref zm_y3, .ref zm_y4, .ref zm_y5, .ref zm_y6, .ref zm_y7, .int 0, .int 0, .ref zm_y8, .ref zm_y9, .int 0, .int 0, .int 0, .int 0, .ref zm_y10, .ref zm_y11, .int 0, .int 0, .int 0, .int 0, .int 0, .ref zm_y12, .ref zm_y13, .ref zm_y14, .ref zm_y15, .int 0, .ref zm_y16, .ref zm_y17, .ref zm_y18, .int (-1), .int (-1), .int (-1), .int 0, .int 0, .int 0, .ref zm_y19, .ref zm_y20, .int 0, .ref zm_y21, .ref zm_y22, .ref zm_y23, .ref zm_y24, .ref zm_y25, .int 0, .ref zm_y26, .ref zm_y27, .ref zm_y28, .int 0, .int 0, .int 0, .ref zm_y29, .ref zm_y30, .ref zm_y31, .ref zm_y32, .int 0, .int 0, .long 0, .int 0, .int 0, .int 0, .int 0, .int 0, .int 0]))]) [0] (by decide) rfl
  have hKc := hK.sub (tys' := []) [] rfl
  have hFc := va_free (wc := [(zm, .inr (12, [.int 1, .ref zm_y0, .int 0, .int 0, .int 0, .int 0, .ref zm_y1, .ref zm_y2, .ref zm_y3, .ref zm_y4, .ref zm_y5, .ref zm_y6, .ref zm_y7, .int 0, .int 0, .ref zm_y8, .ref zm_y9, .int 0, .int 0, .int 0, .int 0, .ref zm_y10, .ref zm_y11, .int 0, .int 0, .int 0, .int 0, .int 0, .ref zm_y12, .ref zm_y13, .ref zm_y14, .ref zm_y15, .int 0, .ref zm_y16, .ref zm_y17, .ref zm_y18, .int (-1), .int (-1), .int (-1), .int 0, .int 0, .int 0, .ref zm_y19, .ref zm_y20, .int 0, .ref zm_y21, .ref zm_y22, .ref zm_y23, .ref zm_y24, .ref zm_y25, .int 0, .ref zm_y26, .ref zm_y27, .ref zm_y28, .int 0, .int 0, .int 0, .ref zm_y29, .ref zm_y30, .ref zm_y31, .ref zm_y32, .int 0, .int 0, .long 0, .int 0, .int 0, .int 0, .int 0, .int 0, .int 0]))]) hD hS hA [0] rfl
  refine va_calli (va_runV (As := []) (rest := []) ⟨hx, hb, hml, hown, hts⟩ (zk_X12_thrown_t l dC dI (zm) (zm_y0) (zm_y1) (zm_y2) (zm_y3) (zm_y4) (zm_y5) (zm_y6) (zm_y7) (zm_y8) (zm_y9) (zm_y10) (zm_y11) (zm_y12) (zm_y13) (zm_y14) (zm_y15) (zm_y16) (zm_y17) (zm_y18) (zm_y19) (zm_y20) (zm_y21) (zm_y22) (zm_y23) (zm_y24) (zm_y25) (zm_y26) (zm_y27) (zm_y28) (zm_y29) (zm_y30) (zm_y31) (zm_y32) H.size) (cwV 0 hts gL_law_X12_thrown rfl rfl rfl (by decide +kernel) ⟨Nat.le_of_ble_eq_true rfl, Nat.le_of_ble_eq_true rfl⟩) ⟨zw_blind, va_recv hK hP (ci := 12) (q0 := 0) rfl rfl, fun U hU hW => ⟨rfl, zw_P.of hPc hKc hDc hN U hU hW⟩⟩ rfl rfl hl.1 rfl (lv_room (Nat.le_of_ble_eq_true rfl)) dL_law_375 ⟨Nat.le_of_ble_eq_true rfl, Nat.le_of_ble_eq_true rfl⟩) hS (fun q _ h => hFc q h) hFc (fun r_7 u t H1 locs ht hvm hw hB hz1 hk1 hS => ?_)
  obtain ⟨hP1, hK1, hD1⟩ := hB
  rw [ht] at hP1
  obtain ⟨hP, hD⟩ := va_join (wr := []) (w1 := []) hP hD [0] [] rfl rfl (by decide) (by decide) hk1 hFc hP1 hD1
  generalize H1 = H at hP hS ⊢
  have hP : va_P (dC, dI) classes [] H := hP
  have hD : va_D (fun q : Nat => s.heap.size ≤ q) [] := hD
  obtain rfl : r_7 = 1 := hw
  refine lv_iload hx hb dL_law_378 (lv_at hl 1 rfl) ?_
  refine lv_icmp_eq (tgt := 385) hx hb dL_law_380 (by decide) (fun _ => ?_) (fun c9 => absurd (by decide) c9)
  refine lv_iload hx hb dL_law_385 (lv_at hl 1 rfl) ?_
  refine lv_if_ne (tgt := 402) hx hb dL_law_387 (by decide) (fun _ => ?_) (fun c9 => absurd c9 (by decide))
  refine lv_goto (tgt := 1170) hx hb dL_law_402 (by decide) ?_
  refine lv_iinc (v := 6) (lv' := [(4, .int 6), (6, .int 0), (5, .int 1), (0, .ref b), (1, .ref zx), (2, .ref zm), (3, .ref zo)]) hx hb dL_law_1170 hl (k := 6) rfl (by decide) (by decide) rfl (fun ls hl => ?_)
  refine lv_goto (tgt := 23) hx hb dL_law_1173 (by decide) ?_
  refine lv_iload hx hb dL_law_23 (lv_at hl 0 rfl) ?_
  refine lv_aload_n hx hb dL_law_25 rfl (lv_at hl 3 rfl) ?_
  refine va_slen hx hb hX hbl hbA hS dL_law_26 ?_
  refine lv_topi (fun x_8 ex_8 => ?_)
  have ex_8 : x_8 = 6 := ex_8.trans (by decide)
  subst ex_8
  refine lv_bipush (v := 6) hx hb dL_law_27 (by decide) ?_
  refine lv_isub hx hb dL_law_29 ?_
  refine lv_topi (fun x_9 ex_9 => ?_)
  have ex_9 : x_9 = 0 := ex_9.trans (by decide)
  subst ex_9
  refine lv_icmp_gt (tgt := 1176) hx hb dL_law_30 (by decide) (fun _ => ?_) (fun c9 => absurd (by decide) c9)
  refine lv_iconst (v := 1) hx hb dL_law_1176 (by decide) ?_
  refine va_forget (fun q hq => hS.2.2 q hq) ?_
  refine W.widen (k := 600002) (n := 7302232) (Nat.le_of_ble_eq_true rfl) (Nat.le_of_ble_eq_true rfl) ?_
  exact lw_ret hx hb hr hlocks dL_law_1177
set_option maxHeartbeats 8000000 in
set_option maxRecDepth 100000 in
theorem zl_0 {p : Program} {e : Env} {s : State} {m : MethodId} {below : List Frame} {meth : Method} {c : Code} (l : Launch) {b : Nat} {xs : Nat → Int32} (C0 : lw_At p s m meth c b 6 xs) (dC : Nat → ClassId) (dI : Nat → Nat → Nat) (zx : Nat) (zx_y0 : Nat) (zx_y1 : Nat) (zx_y2 : Nat) (zx_y3 : Nat) (zx_y4 : Nat) (zx_y5 : Nat) (zx_y6 : Nat) (zx_y7 : Nat) (zx_y8 : Nat) (zx_y9 : Nat) (zx_y10 : Nat) (zx_y11 : Nat) (zx_y12 : Nat) (zx_y13 : Nat) (zx_y14 : Nat) (zx_kA15 : ClassId) (zm : Nat) (zm_y0 : Nat) (zm_y1 : Nat) (zm_y2 : Nat) (zm_y3 : Nat) (zm_y4 : Nat) (zm_y5 : Nat) (zm_y6 : Nat) (zm_y7 : Nat) (zm_y8 : Nat) (zm_y9 : Nat) (zm_y10 : Nat) (zm_y11 : Nat) (zm_y12 : Nat) (zm_y13 : Nat) (zm_y14 : Nat) (zm_y15 : Nat) (zm_y16 : Nat) (zm_y17 : Nat) (zm_y18 : Nat) (zm_y19 : Nat) (zm_y20 : Nat) (zm_y21 : Nat) (zm_y22 : Nat) (zm_y23 : Nat) (zm_y24 : Nat) (zm_y25 : Nat) (zm_y26 : Nat) (zm_y27 : Nat) (zm_y28 : Nat) (zm_y29 : Nat) (zm_y30 : Nat) (zm_y31 : Nat) (zm_y32 : Nat) (zm_kA33 : ClassId) (zo : Nat) {H : Heap} {locs : List Loc} (hN : zw_N s) (hK : va_K (dC, dI) classes [(zx_kA15, .int), (zm_kA33, .int)] s) (hP : va_P (dC, dI) classes [(zx, .inr (11, [.ref zx_y0, .ref zx_y1, .ref zx_y2, .ref zx_y3, .ref zx_y4, .ref zx_y5, .ref zx_y6, .ref zx_y7, .ref zx_y8, .ref zx_y9, .ref zx_y10, .ref zx_y11, .ref zx_y12, .ref zx_y13, .int 0, .int 0])), (zx_y0, .inr (8, [.ref zx_y14, .int 0, .int 0, .int (-1)])), (zx_y14, .inl (zx_kA15, 160, .inl (fun _ => 0))), (zm, .inr (12, [.int 0, .ref zm_y0, .int 0, .int 0, .int 0, .int 0, .ref zm_y1, .ref zm_y2, .ref zm_y3, .ref zm_y4, .ref zm_y5, .ref zm_y6, .ref zm_y7, .int 0, .int 0, .ref zm_y8, .ref zm_y9, .int 0, .int 0, .int 0, .int 0, .ref zm_y10, .ref zm_y11, .int 0, .int 0, .int 0, .int 0, .int 0, .ref zm_y12, .ref zm_y13, .ref zm_y14, .ref zm_y15, .int 0, .ref zm_y16, .ref zm_y17, .ref zm_y18, .int (-1), .int (-1), .int (-1), .int 0, .int 0, .int 0, .ref zm_y19, .ref zm_y20, .int 0, .ref zm_y21, .ref zm_y22, .ref zm_y23, .ref zm_y24, .ref zm_y25, .int 0, .ref zm_y26, .ref zm_y27, .ref zm_y28, .int 0, .int 0, .int 0, .ref zm_y29, .ref zm_y30, .ref zm_y31, .ref zm_y32, .int 0, .int 0, .long 0, .int 0, .int 0, .int 0, .int 0, .int 0, .int 0])), (zm_y0, .inl (zm_kA33, 160, .inl (fun _ => 0)))] H) (hD : va_D (fun q : Nat => s.heap.size ≤ q) [(zx, .inr (11, [.ref zx_y0, .ref zx_y1, .ref zx_y2, .ref zx_y3, .ref zx_y4, .ref zx_y5, .ref zx_y6, .ref zx_y7, .ref zx_y8, .ref zx_y9, .ref zx_y10, .ref zx_y11, .ref zx_y12, .ref zx_y13, .int 0, .int 0])), (zx_y0, .inr (8, [.ref zx_y14, .int 0, .int 0, .int (-1)])), (zx_y14, .inl (zx_kA15, 160, .inl (fun _ => 0))), (zm, .inr (12, [.int 0, .ref zm_y0, .int 0, .int 0, .int 0, .int 0, .ref zm_y1, .ref zm_y2, .ref zm_y3, .ref zm_y4, .ref zm_y5, .ref zm_y6, .ref zm_y7, .int 0, .int 0, .ref zm_y8, .ref zm_y9, .int 0, .int 0, .int 0, .int 0, .ref zm_y10, .ref zm_y11, .int 0, .int 0, .int 0, .int 0, .int 0, .ref zm_y12, .ref zm_y13, .ref zm_y14, .ref zm_y15, .int 0, .ref zm_y16, .ref zm_y17, .ref zm_y18, .int (-1), .int (-1), .int (-1), .int 0, .int 0, .int 0, .ref zm_y19, .ref zm_y20, .int 0, .ref zm_y21, .ref zm_y22, .ref zm_y23, .ref zm_y24, .ref zm_y25, .int 0, .ref zm_y26, .ref zm_y27, .ref zm_y28, .int 0, .int 0, .int 0, .ref zm_y29, .ref zm_y30, .ref zm_y31, .ref zm_y32, .int 0, .int 0, .long 0, .int 0, .int 0, .int 0, .int 0, .int 0, .int 0])), (zm_y0, .inl (zm_kA33, 160, .inl (fun _ => 0)))]) (hS : va_S (fun q : Nat => s.heap.size ≤ q) s.heap H locs) (ls : Array Slot) (hl : lv_has ls 7 [(0, .ref b), (1, .ref zx), (2, .ref zm), (3, .ref zo), (4, .int 0)]) : W p l e room_1 s m #[Value.ref b] below meth c H locs 99 952984 (lw_Z below #[Value.ref b] s) (F0 m 164 ls []) := by
  obtain ⟨hx, hb, hr, hml, hown, hts0, hX, hbl, hlocks, hgv⟩ := C0
  have hts : ∀ w ∈ wsL_law, w.before #[Value.ref b] s = true := fun w h => hts0 w (wsL_law_in w h)
  have hA : ∀ q : Nat, s.heap.size ≤ q → (fun q : Nat => s.heap.size ≤ q) q := fun _ h => h
  have hbA : ¬ (fun q : Nat => s.heap.size ≤ q) b := Nat.not_le.mpr hbl
  refine lv_aload_n hx hb dL_law_164 rfl (lv_at hl 1 rfl) ?_
  refine lv_aload_n hx hb dL_law_165 rfl (lv_at hl 0 rfl) ?_
  refine lv_iload hx hb dL_law_166 (lv_at hl 4 rfl) ?_
  refine lv_iconst (v := 1) hx hb dL_law_168 (by decide) ?_
  refine lv_iadd hx hb dL_law_169 ?_
  refine lv_topi (fun x_1 ex_1 => ?_)
  have ex_1 : x_1 = 1 := ex_1.trans (by decide)
  subst ex_1
  refine va_sld hx hb hX hbl hbA hS (vp_in_iff.mpr ⟨by decide, by decide⟩) dL_law_170 ?_
  refine lv_topi (fun x_2 ex_2 => ?_)
  refine lv_aload_n hx hb dL_law_171 rfl (lv_at hl 0 rfl) ?_
  refine lv_iload hx hb dL_law_172 (lv_at hl 4 rfl) ?_
  refine lv_iconst (v := 2) hx hb dL_law_174 (by decide) ?_
  refine lv_iadd hx hb dL_law_175 ?_
  refine lv_topi (fun x_3 ex_3 => ?_)
  have ex_3 : x_3 = 2 := ex_3.trans (by decide)
  subst ex_3
  refine va_sld hx hb hX hbl hbA hS (vp_in_iff.mpr ⟨by decide, by decide⟩) dL_law_176 ?_
  refine lv_topi (fun x_4 ex_4 => ?_)
  refine lv_aload_n hx hb dL_law_177 rfl (lv_at hl 0 rfl) ?_
  refine lv_iload hx hb dL_law_178 (lv_at hl 4 rfl) ?_
  refine lv_iconst (v := 3) hx hb dL_law_180 (by decide) ?_
  refine lv_iadd hx hb dL_law_181 ?_
  refine lv_topi (fun x_5 ex_5 => ?_)
  have ex_5 : x_5 = 3 := ex_5.trans (by decide)
  subst ex_5
  refine va_sld hx hb hX hbl hbA hS (vp_in_iff.mpr ⟨by decide, by decide⟩) dL_law_182 ?_
  refine lv_topi (fun x_6 ex_6 => ?_)
  refine lv_aload_n hx hb dL_law_183 rfl (lv_at hl 0 rfl) ?_
  refine lv_iload hx hb dL_law_184 (lv_at hl 4 rfl) ?_
  refine lv_iconst (v := 4) hx hb dL_law_186 (by decide) ?_
  refine lv_iadd hx hb dL_law_187 ?_
  refine lv_topi (fun x_7 ex_7 => ?_)
  have ex_7 : x_7 = 4 := ex_7.trans (by decide)
  subst ex_7
  refine va_sld hx hb hX hbl hbA hS (vp_in_iff.mpr ⟨by decide, by decide⟩) dL_law_188 ?_
  refine lv_topi (fun x_8 ex_8 => ?_)
  refine lv_aload_n hx hb dL_law_189 rfl (lv_at hl 0 rfl) ?_
  refine lv_iload hx hb dL_law_190 (lv_at hl 4 rfl) ?_
  refine lv_iconst (v := 5) hx hb dL_law_192 (by decide) ?_
  refine lv_iadd hx hb dL_law_193 ?_
  refine lv_topi (fun x_9 ex_9 => ?_)
  have ex_9 : x_9 = 5 := ex_9.trans (by decide)
  subst ex_9
  refine va_sld hx hb hX hbl hbA hS (vp_in_iff.mpr ⟨by decide, by decide⟩) dL_law_194 ?_
  refine lv_topi (fun x_10 ex_10 => ?_)
  have hPc := hP.sub (ws' := [(zx, .inr (11, [.ref zx_y0, .ref zx_y1, .ref zx_y2, .ref zx_y3, .ref zx_y4, .ref zx_y5, .ref zx_y6, .ref zx_y7, .ref zx_y8, .ref zx_y9, .ref zx_y10, .ref zx_y11, .ref zx_y12, .ref zx_y13, .int 0, .int 0])), (zx_y0, .inr (8, [.ref zx_y14, .int 0, .int 0, .int (-1)])), (zx_y14, .inl (zx_kA15, 160, .inl (fun _ => 0)))]) [0, 1, 2] rfl
  have hDc := hD.sub (ws' := [(zx, .inr (11, [.ref zx_y0, .ref zx_y1, .ref zx_y2, .ref zx_y3, .ref zx_y4, .ref zx_y5, .ref zx_y6, .ref zx_y7, .ref zx_y8, .ref zx_y9, .ref zx_y10, .ref zx_y11, .ref zx_y12, .ref zx_y13, .int 0, .int 0])), (zx_y0, .inr (8, [.ref zx_y14, .int 0, .int 0, .int (-1)])), (zx_y14, .inl (zx_kA15, 160, .inl (fun _ => 0)))]) [0, 1, 2] (by decide) rfl
  have hKc := hK.sub (tys' := [(zx_kA15, .int)]) [0] rfl
  have hFc := va_free (wc := [(zx, .inr (11, [.ref zx_y0, .ref zx_y1, .ref zx_y2, .ref zx_y3, .ref zx_y4, .ref zx_y5, .ref zx_y6, .ref zx_y7, .ref zx_y8, .ref zx_y9, .ref zx_y10, .ref zx_y11, .ref zx_y12, .ref zx_y13, .int 0, .int 0])), (zx_y0, .inr (8, [.ref zx_y14, .int 0, .int 0, .int (-1)])), (zx_y14, .inl (zx_kA15, 160, .inl (fun _ => 0)))]) hD hS hA [0, 1, 2] rfl
  refine va_calli (va_runV (As := [.int x_2, .int x_4, .int x_6, .int x_8, .int x_10]) (rest := []) ⟨hx, hb, hml, hown, hts⟩ (zk_X11_feed_t l dC dI (zx) (x_2) (x_4) (x_6) (x_8) (x_10) (zx_y0) (zx_y1) (zx_y2) (zx_y3) (zx_y4) (zx_y5) (zx_y6) (zx_y7) (zx_y8) (zx_y9) (zx_y10) (zx_y11) (zx_y12) (zx_y13) (zx_y14) (zx_kA15) (fun _ => 0) H.size) (cwV 5 hts gL_law_X11_feed rfl rfl rfl (by decide +kernel) ⟨Nat.le_of_ble_eq_true rfl, Nat.le_of_ble_eq_true rfl⟩) ⟨zw_blind, va_recv hK hP (ci := 11) (q0 := 0) rfl rfl, fun U hU hW => ⟨rfl, zw_P.of hPc hKc hDc hN U hU hW⟩⟩ rfl rfl hl.1 rfl (lv_room (Nat.le_of_ble_eq_true rfl)) dL_law_195 ⟨Nat.le_of_ble_eq_true rfl, Nat.le_of_ble_eq_true rfl⟩) hS (fun q _ h => hFc q h) hFc (fun r_11 u t H1 locs ht hvm hw hB hz1 hk1 hS => ?_)
  obtain ⟨hP1, hK1, hD1⟩ := hB
  rw [ht] at hP1
  obtain ⟨hP, hD⟩ := va_join (wr := [(zm, .inr (12, [.int 0, .ref zm_y0, .int 0, .int 0, .int 0, .int 0, .ref zm_y1, .ref zm_y2, .ref zm_y3, .ref zm_y4, .ref zm_y5, .ref zm_y6, .ref zm_y7, .int 0, .int 0, .ref zm_y8, .ref zm_y9, .int 0, .int 0, .int 0, .int 0, .ref zm_y10, .ref zm_y11, .int 0, .int 0, .int 0, .int 0, .int 0, .ref zm_y12, .ref zm_y13, .ref zm_y14, .ref zm_y15, .int 0, .ref zm_y16, .ref zm_y17, .ref zm_y18, .int (-1), .int (-1), .int (-1), .int 0, .int 0, .int 0, .ref zm_y19, .ref zm_y20, .int 0, .ref zm_y21, .ref zm_y22, .ref zm_y23, .ref zm_y24, .ref zm_y25, .int 0, .ref zm_y26, .ref zm_y27, .ref zm_y28, .int 0, .int 0, .int 0, .ref zm_y29, .ref zm_y30, .ref zm_y31, .ref zm_y32, .int 0, .int 0, .long 0, .int 0, .int 0, .int 0, .int 0, .int 0, .int 0])), (zm_y0, .inl (zm_kA33, 160, .inl (fun _ => 0)))]) (w1 := []) hP hD [0, 1, 2] [3, 4] rfl rfl (by decide) (by decide) hk1 hFc hP1 hD1
  generalize H1 = H at hP hS ⊢
  have hP : va_P (dC, dI) classes [(zm, .inr (12, [.int 0, .ref zm_y0, .int 0, .int 0, .int 0, .int 0, .ref zm_y1, .ref zm_y2, .ref zm_y3, .ref zm_y4, .ref zm_y5, .ref zm_y6, .ref zm_y7, .int 0, .int 0, .ref zm_y8, .ref zm_y9, .int 0, .int 0, .int 0, .int 0, .ref zm_y10, .ref zm_y11, .int 0, .int 0, .int 0, .int 0, .int 0, .ref zm_y12, .ref zm_y13, .ref zm_y14, .ref zm_y15, .int 0, .ref zm_y16, .ref zm_y17, .ref zm_y18, .int (-1), .int (-1), .int (-1), .int 0, .int 0, .int 0, .ref zm_y19, .ref zm_y20, .int 0, .ref zm_y21, .ref zm_y22, .ref zm_y23, .ref zm_y24, .ref zm_y25, .int 0, .ref zm_y26, .ref zm_y27, .ref zm_y28, .int 0, .int 0, .int 0, .ref zm_y29, .ref zm_y30, .ref zm_y31, .ref zm_y32, .int 0, .int 0, .long 0, .int 0, .int 0, .int 0, .int 0, .int 0, .int 0])), (zm_y0, .inl (zm_kA33, 160, .inl (fun _ => 0)))] H := hP
  have hD : va_D (fun q : Nat => s.heap.size ≤ q) [(zm, .inr (12, [.int 0, .ref zm_y0, .int 0, .int 0, .int 0, .int 0, .ref zm_y1, .ref zm_y2, .ref zm_y3, .ref zm_y4, .ref zm_y5, .ref zm_y6, .ref zm_y7, .int 0, .int 0, .ref zm_y8, .ref zm_y9, .int 0, .int 0, .int 0, .int 0, .ref zm_y10, .ref zm_y11, .int 0, .int 0, .int 0, .int 0, .int 0, .ref zm_y12, .ref zm_y13, .ref zm_y14, .ref zm_y15, .int 0, .ref zm_y16, .ref zm_y17, .ref zm_y18, .int (-1), .int (-1), .int (-1), .int 0, .int 0, .int 0, .ref zm_y19, .ref zm_y20, .int 0, .ref zm_y21, .ref zm_y22, .ref zm_y23, .ref zm_y24, .ref zm_y25, .int 0, .ref zm_y26, .ref zm_y27, .ref zm_y28, .int 0, .int 0, .int 0, .ref zm_y29, .ref zm_y30, .ref zm_y31, .ref zm_y32, .int 0, .int 0, .long 0, .int 0, .int 0, .int 0, .int 0, .int 0, .int 0])), (zm_y0, .inl (zm_kA33, 160, .inl (fun _ => 0)))] := hD
  obtain rfl : r_11 = (nI (0 + zb_n x_2 + zb_n x_4 + zb_n x_6 + zb_n x_8 + zb_n x_10)) := hw
  refine lv_aload_n hx hb dL_law_198 rfl (lv_at hl 2 rfl) ?_
  refine lv_aload_n hx hb dL_law_199 rfl (lv_at hl 0 rfl) ?_
  refine lv_iload hx hb dL_law_200 (lv_at hl 4 rfl) ?_
  refine lv_iconst (v := 1) hx hb dL_law_202 (by decide) ?_
  refine lv_iadd hx hb dL_law_203 ?_
  refine lv_topi (fun x_12 ex_12 => ?_)
  have ex_12 : x_12 = 1 := ex_12.trans (by decide)
  subst ex_12
  refine va_sld hx hb hX hbl hbA hS (vp_in_iff.mpr ⟨by decide, by decide⟩) dL_law_204 ?_
  refine lv_topi (fun x_13 ex_13 => ?_)
  have ex_13 : x_2 = x_13 := ex_2.trans ex_13.symm
  subst ex_13
  refine lv_aload_n hx hb dL_law_205 rfl (lv_at hl 0 rfl) ?_
  refine lv_iload hx hb dL_law_206 (lv_at hl 4 rfl) ?_
  refine lv_iconst (v := 2) hx hb dL_law_208 (by decide) ?_
  refine lv_iadd hx hb dL_law_209 ?_
  refine lv_topi (fun x_14 ex_14 => ?_)
  have ex_14 : x_14 = 2 := ex_14.trans (by decide)
  subst ex_14
  refine va_sld hx hb hX hbl hbA hS (vp_in_iff.mpr ⟨by decide, by decide⟩) dL_law_210 ?_
  refine lv_topi (fun x_15 ex_15 => ?_)
  have ex_15 : x_4 = x_15 := ex_4.trans ex_15.symm
  subst ex_15
  refine lv_aload_n hx hb dL_law_211 rfl (lv_at hl 0 rfl) ?_
  refine lv_iload hx hb dL_law_212 (lv_at hl 4 rfl) ?_
  refine lv_iconst (v := 3) hx hb dL_law_214 (by decide) ?_
  refine lv_iadd hx hb dL_law_215 ?_
  refine lv_topi (fun x_16 ex_16 => ?_)
  have ex_16 : x_16 = 3 := ex_16.trans (by decide)
  subst ex_16
  refine va_sld hx hb hX hbl hbA hS (vp_in_iff.mpr ⟨by decide, by decide⟩) dL_law_216 ?_
  refine lv_topi (fun x_17 ex_17 => ?_)
  have ex_17 : x_6 = x_17 := ex_6.trans ex_17.symm
  subst ex_17
  refine lv_aload_n hx hb dL_law_217 rfl (lv_at hl 0 rfl) ?_
  refine lv_iload hx hb dL_law_218 (lv_at hl 4 rfl) ?_
  refine lv_iconst (v := 4) hx hb dL_law_220 (by decide) ?_
  refine lv_iadd hx hb dL_law_221 ?_
  refine lv_topi (fun x_18 ex_18 => ?_)
  have ex_18 : x_18 = 4 := ex_18.trans (by decide)
  subst ex_18
  refine va_sld hx hb hX hbl hbA hS (vp_in_iff.mpr ⟨by decide, by decide⟩) dL_law_222 ?_
  refine lv_topi (fun x_19 ex_19 => ?_)
  have ex_19 : x_8 = x_19 := ex_8.trans ex_19.symm
  subst ex_19
  refine lv_aload_n hx hb dL_law_223 rfl (lv_at hl 0 rfl) ?_
  refine lv_iload hx hb dL_law_224 (lv_at hl 4 rfl) ?_
  refine lv_iconst (v := 5) hx hb dL_law_226 (by decide) ?_
  refine lv_iadd hx hb dL_law_227 ?_
  refine lv_topi (fun x_20 ex_20 => ?_)
  have ex_20 : x_20 = 5 := ex_20.trans (by decide)
  subst ex_20
  refine va_sld hx hb hX hbl hbA hS (vp_in_iff.mpr ⟨by decide, by decide⟩) dL_law_228 ?_
  refine lv_topi (fun x_21 ex_21 => ?_)
  have ex_21 : x_10 = x_21 := ex_10.trans ex_21.symm
  subst ex_21
  have hPc := hP.sub (ws' := [(zm, .inr (12, [.int 0, .ref zm_y0, .int 0, .int 0, .int 0, .int 0, .ref zm_y1, .ref zm_y2, .ref zm_y3, .ref zm_y4, .ref zm_y5, .ref zm_y6, .ref zm_y7, .int 0, .int 0, .ref zm_y8, .ref zm_y9, .int 0, .int 0, .int 0, .int 0, .ref zm_y10, .ref zm_y11, .int 0, .int 0, .int 0, .int 0, .int 0, .ref zm_y12, .ref zm_y13, .ref zm_y14, .ref zm_y15, .int 0, .ref zm_y16, .ref zm_y17, .ref zm_y18, .int (-1), .int (-1), .int (-1), .int 0, .int 0, .int 0, .ref zm_y19, .ref zm_y20, .int 0, .ref zm_y21, .ref zm_y22, .ref zm_y23, .ref zm_y24, .ref zm_y25, .int 0, .ref zm_y26, .ref zm_y27, .ref zm_y28, .int 0, .int 0, .int 0, .ref zm_y29, .ref zm_y30, .ref zm_y31, .ref zm_y32, .int 0, .int 0, .long 0, .int 0, .int 0, .int 0, .int 0, .int 0, .int 0])), (zm_y0, .inl (zm_kA33, 160, .inl (fun _ => 0)))]) [0, 1] rfl
  have hDc := hD.sub (ws' := [(zm, .inr (12, [.int 0, .ref zm_y0, .int 0, .int 0, .int 0, .int 0, .ref zm_y1, .ref zm_y2, .ref zm_y3, .ref zm_y4, .ref zm_y5, .ref zm_y6, .ref zm_y7, .int 0, .int 0, .ref zm_y8, .ref zm_y9, .int 0, .int 0, .int 0, .int 0, .ref zm_y10, .ref zm_y11, .int 0, .int 0, .int 0, .int 0, .int 0, .ref zm_y12, .ref zm_y13, .ref zm_y14, .ref zm_y15, .int 0, .ref zm_y16, .ref zm_y17, .ref zm_y18, .int (-1), .int (-1), .int (-1), .int 0, .int 0, .int 0, .ref zm_y19, .ref zm_y20, .int 0, .ref zm_y21, .ref zm_y22, .ref zm_y23, .ref zm_y24, .ref zm_y25, .int 0, .ref zm_y26, .ref zm_y27, .ref zm_y28, .int 0, .int 0, .int 0, .ref zm_y29, .ref zm_y30, .ref zm_y31, .ref zm_y32, .int 0, .int 0, .long 0, .int 0, .int 0, .int 0, .int 0, .int 0, .int 0])), (zm_y0, .inl (zm_kA33, 160, .inl (fun _ => 0)))]) [0, 1] (by decide) rfl
  have hKc := hK.sub (tys' := [(zm_kA33, .int)]) [1] rfl
  have hFc := va_free (wc := [(zm, .inr (12, [.int 0, .ref zm_y0, .int 0, .int 0, .int 0, .int 0, .ref zm_y1, .ref zm_y2, .ref zm_y3, .ref zm_y4, .ref zm_y5, .ref zm_y6, .ref zm_y7, .int 0, .int 0, .ref zm_y8, .ref zm_y9, .int 0, .int 0, .int 0, .int 0, .ref zm_y10, .ref zm_y11, .int 0, .int 0, .int 0, .int 0, .int 0, .ref zm_y12, .ref zm_y13, .ref zm_y14, .ref zm_y15, .int 0, .ref zm_y16, .ref zm_y17, .ref zm_y18, .int (-1), .int (-1), .int (-1), .int 0, .int 0, .int 0, .ref zm_y19, .ref zm_y20, .int 0, .ref zm_y21, .ref zm_y22, .ref zm_y23, .ref zm_y24, .ref zm_y25, .int 0, .ref zm_y26, .ref zm_y27, .ref zm_y28, .int 0, .int 0, .int 0, .ref zm_y29, .ref zm_y30, .ref zm_y31, .ref zm_y32, .int 0, .int 0, .long 0, .int 0, .int 0, .int 0, .int 0, .int 0, .int 0])), (zm_y0, .inl (zm_kA33, 160, .inl (fun _ => 0)))]) hD hS hA [0, 1] rfl
  refine va_calli (va_runV (As := [.int x_2, .int x_4, .int x_6, .int x_8, .int x_10]) (rest := [.int (nI (0 + zb_n x_2 + zb_n x_4 + zb_n x_6 + zb_n x_8 + zb_n x_10))]) ⟨hx, hb, hml, hown, hts⟩ (zk_X12_feed_t l dC dI (zm) (x_2) (x_4) (x_6) (x_8) (x_10) (zm_y0) (zm_y1) (zm_y2) (zm_y3) (zm_y4) (zm_y5) (zm_y6) (zm_y7) (zm_y8) (zm_y9) (zm_y10) (zm_y11) (zm_y12) (zm_y13) (zm_y14) (zm_y15) (zm_y16) (zm_y17) (zm_y18) (zm_y19) (zm_y20) (zm_y21) (zm_y22) (zm_y23) (zm_y24) (zm_y25) (zm_y26) (zm_y27) (zm_y28) (zm_y29) (zm_y30) (zm_y31) (zm_y32) (zm_kA33) (fun _ => 0) H.size) (cwV 5 hts gL_law_X12_feed rfl rfl rfl (by decide +kernel) ⟨Nat.le_of_ble_eq_true rfl, Nat.le_of_ble_eq_true rfl⟩) ⟨zw_blind, va_recv hK hP (ci := 12) (q0 := 0) rfl rfl, fun U hU hW => ⟨rfl, zw_P.of hPc hKc hDc hN U hU hW⟩⟩ rfl rfl hl.1 rfl (lv_room (Nat.le_of_ble_eq_true rfl)) dL_law_229 ⟨Nat.le_of_ble_eq_true rfl, Nat.le_of_ble_eq_true rfl⟩) hS (fun q _ h => hFc q h) hFc (fun r_22 u t H1 locs ht hvm hw hB hz1 hk1 hS => ?_)
  obtain ⟨hP1, hK1, hD1⟩ := hB
  rw [ht] at hP1
  obtain ⟨hP, hD⟩ := va_join (wr := []) (w1 := []) hP hD [0, 1] [] rfl rfl (by decide) (by decide) hk1 hFc hP1 hD1
  generalize H1 = H at hP hS ⊢
  have hP : va_P (dC, dI) classes [] H := hP
  have hD : va_D (fun q : Nat => s.heap.size ≤ q) [] := hD
  obtain rfl : r_22 = (nI (zb_c x_2 x_4 x_6 x_8 x_10 20)) := hw
  have hsum := zb_sum x_2 x_4 x_6 x_8 x_10
  have hcl := zb_c_le x_2 x_4 x_6 x_8 x_10 20
  refine lv_icmp_eq (tgt := 1170) hx hb dL_law_232 (by decide) (fun _ => ?_) (fun c9 => absurd ((nI_eq (a := 0 + zb_n x_2 + zb_n x_4 + zb_n x_6 + zb_n x_8 + zb_n x_10) (b := zb_c x_2 x_4 x_6 x_8 x_10 20) (by omega) (by omega)).mpr (by omega)) c9)
  refine lv_iinc (v := 6) (lv' := [(4, .int 6), (0, .ref b), (1, .ref zx), (2, .ref zm), (3, .ref zo)]) hx hb dL_law_1170 hl (k := 4) rfl (by decide) (by decide) rfl (fun ls hl => ?_)
  refine lv_goto (tgt := 23) hx hb dL_law_1173 (by decide) ?_
  refine lv_iload hx hb dL_law_23 (lv_at hl 0 rfl) ?_
  refine lv_aload_n hx hb dL_law_25 rfl (lv_at hl 1 rfl) ?_
  refine va_slen hx hb hX hbl hbA hS dL_law_26 ?_
  refine lv_topi (fun x_23 ex_23 => ?_)
  have ex_23 : x_23 = 6 := ex_23.trans (by decide)
  subst ex_23
  refine lv_bipush (v := 6) hx hb dL_law_27 (by decide) ?_
  refine lv_isub hx hb dL_law_29 ?_
  refine lv_topi (fun x_24 ex_24 => ?_)
  have ex_24 : x_24 = 0 := ex_24.trans (by decide)
  subst ex_24
  refine lv_icmp_gt (tgt := 1176) hx hb dL_law_30 (by decide) (fun _ => ?_) (fun c9 => absurd (by decide) c9)
  refine lv_iconst (v := 1) hx hb dL_law_1176 (by decide) ?_
  refine va_forget (fun q hq => hS.2.2 q hq) ?_
  refine W.widen (k := 600002) (n := 7302232) (Nat.le_of_ble_eq_true rfl) (Nat.le_of_ble_eq_true rfl) ?_
  exact lw_ret hx hb hr hlocks dL_law_1177
