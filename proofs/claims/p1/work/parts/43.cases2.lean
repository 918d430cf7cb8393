set_option maxHeartbeats 8000000 in
set_option maxRecDepth 100000 in
theorem zl_4 {p : Program} {e : Env} {s : State} {m : MethodId} {below : List Frame} {meth : Method} {c : Code} (l : Launch) {b : Nat} {xs : Nat → Int32} (C0 : lw_At p s m meth c b 6 xs) (dC : Nat → ClassId) (dI : Nat → Nat → Nat) (zx : Nat) (zx_y0 : Nat) (zx_y1 : Nat) (zx_y2 : Nat) (zx_y3 : Nat) (zx_y4 : Nat) (zx_y5 : Nat) (zx_y6 : Nat) (zx_y7 : Nat) (zx_y8 : Nat) (zx_y9 : Nat) (zx_y10 : Nat) (zx_y11 : Nat) (zx_y12 : Nat) (zx_y13 : Nat) (zx_y16 : Nat) (zx_y17 : Nat) (zx_y18 : Nat) (zx_y19 : Nat) (zm : Nat) (zm_y0 : Nat) (zm_y1 : Nat) (zm_y2 : Nat) (zm_y3 : Nat) (zm_y4 : Nat) (zm_y5 : Nat) (zm_y6 : Nat) (zm_y7 : Nat) (zm_y8 : Nat) (zm_y9 : Nat) (zm_y10 : Nat) (zm_y11 : Nat) (zm_y12 : Nat) (zm_y13 : Nat) (zm_y14 : Nat) (zm_y15 : Nat) (zm_y16 : Nat) (zm_y17 : Nat) (zm_y18 : Nat) (zm_y19 : Nat) (zm_y20 : Nat) (zm_y21 : Nat) (zm_y22 : Nat) (zm_y23 : Nat) (zm_y24 : Nat) (zm_y25 : Nat) (zm_y26 : Nat) (zm_y27 : Nat) (zm_y28 : Nat) (zm_y29 : Nat) (zm_y30 : Nat) (zm_y31 : Nat) (zm_y32 : Nat) (zo : Nat) {H : Heap} {locs : List Loc} (hN : zw_N s) (hK : va_K (dC, dI) classes [] s) (hP : va_P (dC, dI) classes [(zx, .inr (11, [.ref zx_y0, .ref zx_y1, .ref zx_y2, .ref zx_y3, .ref zx_y4, .ref zx_y5, .ref zx_y6, .ref zx_y7, .ref zx_y8, .ref zx_y9, .ref zx_y10, .ref zx_y11, .ref zx_y12, .ref zx_y13, .int 0, .int 0])), (zx_y1, .inr (6, [.ref zx_y16, .ref zx_y17, .ref zx_y18, .ref zx_y19, .int 0, .int (-1), .int (-1)])), (zm, .inr (12, [.int 0, .ref zm_y0, .int 0, .int 0, .int 0, .int 0, .ref zm_y1, .ref zm_y2, .ref zm_y3, .ref zm_y4, .ref zm_y5, .ref zm_y6, .ref zm_y7, .int 0, .int 0, .ref zm_y8, .ref zm_y9, .int 0, .int 0, .int 0, .int 0, .ref zm_y10, .ref zm_y11, .int 0, .int 0, .int 0, .int 0, .int 0, .ref zm_y12, .ref zm_y13, .ref zm_y14, .ref zm_y15, .int 0, .ref zm_y16, .ref zm_y17, .ref zm_y18, .int (-1), .int (-1), .int (-1), .int 0, .int 0, .int 0, .ref zm_y19, .ref zm_y20, .int 0, .ref zm_y21, .ref zm_y22, .ref zm_y23, .ref zm_y24, .ref zm_y25, .int 0, .ref zm_y26, .ref zm_y27, .ref zm_y28, .int 0, .int 0, .int 0, .ref zm_y29, .ref zm_y30, .ref zm_y31, .ref zm_y32, .int 0, .int 0, .long 0, .int 0, .int 0, .int 0, .int 0, .int 0, .int 0]))] H) (hD : va_D (fun q : Nat => s.heap.size ≤ q) [(zx, .inr (11, [.ref zx_y0, .ref zx_y1, .ref zx_y2, .ref zx_y3, .ref zx_y4, .ref zx_y5, .ref zx_y6, .ref zx_y7, .ref zx_y8, .ref zx_y9, .ref zx_y10, .ref zx_y11, .ref zx_y12, .ref zx_y13, .int 0, .int 0])), (zx_y1, .inr (6, [.ref zx_y16, .ref zx_y17, .ref zx_y18, .ref zx_y19, .int 0, .int (-1), .int (-1)])), (zm, .inr (12, [.int 0, .ref zm_y0, .int 0, .int 0, .int 0, .int 0, .ref zm_y1, .ref zm_y2, .ref zm_y3, .ref zm_y4, .ref zm_y5, .ref zm_y6, .ref zm_y7, .int 0, .int 0, .ref zm_y8, .ref zm_y9, .int 0, .int 0, .int 0, .int 0, .ref zm_y10, .ref zm_y11, .int 0, .int 0, .int 0, .int 0, .int 0, .ref zm_y12, .ref zm_y13, .ref zm_y14, .ref zm_y15, .int 0, .ref zm_y16, .ref zm_y17, .ref zm_y18, .int (-1), .int (-1), .int (-1), .int 0, .int 0, .int 0, .ref zm_y19, .ref zm_y20, .int 0, .ref zm_y21, .ref zm_y22, .ref zm_y23, .ref zm_y24, .ref zm_y25, .int 0, .ref zm_y26, .ref zm_y27, .ref zm_y28, .int 0, .int 0, .int 0, .ref zm_y29, .ref zm_y30, .ref zm_y31, .ref zm_y32, .int 0, .int 0, .long 0, .int 0, .int 0, .int 0, .int 0, .int 0, .int 0]))]) (hS : va_S (fun q : Nat => s.heap.size ≤ q) s.heap H locs) (ls : Array Slot) (hl : lv_has ls 7 [(0, .ref b), (1, .ref zx), (2, .ref zm), (3, .ref zo), (4, .int 0)]) : W p l e room_1 s m #[Value.ref b] below meth c H locs 99 952984 (lw_Z below #[Value.ref b] s) (F0 m 312 ls []) := by
  obtain ⟨hx, hb, hr, hml, hown, hts0, hX, hbl, hlocks, hgv⟩ := C0
  have hts : ∀ w ∈ wsL_law, w.before #[Value.ref b] s = true := fun w h => hts0 w (wsL_law_in w h)
  have hA : ∀ q : Nat, s.heap.size ≤ q → (fun q : Nat => s.heap.size ≤ q) q := fun _ h => h
  have hbA : ¬ (fun q : Nat => s.heap.size ≤ q) b := Nat.not_le.mpr hbl
  refine lv_aload_n hx hb dL_law_312 rfl (lv_at hl 1 rfl) ?_
  refine lv_aload_n hx hb dL_law_313 rfl (lv_at hl 0 rfl) ?_
  refine lv_iload hx hb dL_law_314 (lv_at hl 4 rfl) ?_
  refine lv_iconst (v := 1) hx hb dL_law_316 (by decide) ?_
  refine lv_iadd hx hb dL_law_317 ?_
  refine lv_topi (fun x_1 ex_1 => ?_)
  have ex_1 : x_1 = 1 := ex_1.trans (by decide)
  subst ex_1
  refine va_sld hx hb hX hbl hbA hS (vp_in_iff.mpr ⟨by decide, by decide⟩) dL_law_318 ?_
  refine lv_topi (fun x_2 ex_2 => ?_)
  refine lv_aload_n hx hb dL_law_319 rfl (lv_at hl 0 rfl) ?_
  refine lv_iload hx hb dL_law_320 (lv_at hl 4 rfl) ?_
  refine lv_iconst (v := 2) hx hb dL_law_322 (by decide) ?_
  refine lv_iadd hx hb dL_law_323 ?_
  refine lv_topi (fun x_3 ex_3 => ?_)
  have ex_3 : x_3 = 2 := ex_3.trans (by decide)
  subst ex_3
  refine va_sld hx hb hX hbl hbA hS (vp_in_iff.mpr ⟨by decide, by decide⟩) dL_law_324 ?_
  refine lv_topi (fun x_4 ex_4 => ?_)
  have hPc := hP.sub (ws' := [(zx, .inr (11, [.ref zx_y0, .ref zx_y1, .ref zx_y2, .ref zx_y3, .ref zx_y4, .ref zx_y5, .ref zx_y6, .ref zx_y7, .ref zx_y8, .ref zx_y9, .ref zx_y10, .ref zx_y11, .ref zx_y12, .ref zx_y13, .int 0, .int 0])), (zx_y1, .inr (6, [.ref zx_y16, .ref zx_y17, .ref zx_y18, .ref zx_y19, .int 0, .int (-1), .int (-1)]))]) [0, 1] rfl
  have hDc := hD.sub (ws' := [(zx, .inr (11, [.ref zx_y0, .ref zx_y1, .ref zx_y2, .ref zx_y3, .ref zx_y4, .ref zx_y5, .ref zx_y6, .ref zx_y7, .ref zx_y8, .ref zx_y9, .ref zx_y10, .ref zx_y11, .ref zx_y12, .ref zx_y13, .int 0, .int 0])), (zx_y1, .inr (6, [.ref zx_y16, .ref zx_y17, .ref zx_y18, .ref zx_y19, .int 0, .int (-1), .int (-1)]))]) [0, 1] (by decide) rfl
  have hKc := hK.sub (tys' := []) [] rfl
  have hFc := va_free (wc := [(zx, .inr (11, [.ref zx_y0, .ref zx_y1, .ref zx_y2, .ref zx_y3, .ref zx_y4, .ref zx_y5, .ref zx_y6, .ref zx_y7, .ref zx_y8, .ref zx_y9, .ref zx_y10, .ref zx_y11, .ref zx_y12, .ref zx_y13, .int 0, .int 0])), (zx_y1, .inr (6, [.ref zx_y16, .ref zx_y17, .ref zx_y18, .ref zx_y19, .int 0, .int (-1), .int (-1)]))]) hD hS hA [0, 1] rfl
  refine va_calli (va_runV (As := [.int x_2, .int x_4]) (rest := []) ⟨hx, hb, hml, hown, hts⟩ (zk_X11_law_t l dC dI (zx) (x_2) (x_4) (zx_y0) (zx_y1) (zx_y2) (zx_y3) (zx_y4) (zx_y5) (zx_y6) (zx_y7) (zx_y8) (zx_y9) (zx_y10) (zx_y11) (zx_y12) (zx_y13) (zx_y16) (zx_y17) (zx_y18) (zx_y19) H.size) (cwV 2 hts gL_law_X11_law rfl rfl rfl (by decide +kernel) ⟨Nat.le_of_ble_eq_true rfl, Nat.le_of_ble_eq_true rfl⟩) ⟨zw_blind, va_recv hK hP (ci := 11) (q0 := 0) rfl rfl, fun U hU hW => ⟨rfl, zw_P.of hPc hKc hDc hN U hU hW⟩⟩ rfl rfl hl.1 rfl (lv_room (Nat.le_of_ble_eq_true rfl)) dL_law_325 ⟨Nat.le_of_ble_eq_true rfl, Nat.le_of_ble_eq_true rfl⟩) hS (fun q _ h => hFc q h) hFc (fun r_5 u t H1 locs ht hvm hw hB hz1 hk1 hS => ?_)
  obtain ⟨hP1, hK1, hD1⟩ := hB
  rw [ht] at hP1
  obtain ⟨hP, hD⟩ := va_join (wr := [(zm, .inr (12, [.int 0, .ref zm_y0, .int 0, .int 0, .int 0, .int 0, .ref zm_y1, .ref zm_y2, .ref zm_y3, .ref zm_y4, .ref zm_y5, .ref zm_y6, .ref zm_y7, .int 0, .int 0, .ref zm_y8, .ref zm_y9, .int 0, .int 0, .int 0, .int 0, .ref zm_y10, .ref zm_y11, .int 0, .int 0, .int 0, .int 0, .int 0, .ref zm_y12, .ref zm_y13, .ref zm_y14, .ref zm_y15, .int 0, .ref zm_y16, .ref zm_y17, .ref zm_y18, .int (-1), .int (-1), .int (-1), .int 0, .int 0, .int 0, .ref zm_y19, .ref zm_y20, .int 0, .ref zm_y21, .ref zm_y22, .ref zm_y23, .ref zm_y24, .ref zm_y25, .int 0, .ref zm_y26, .ref zm_y27, .ref zm_y28, .int 0, .int 0, .int 0, .ref zm_y29, .ref zm_y30, .ref zm_y31, .ref zm_y32, .int 0, .int 0, .long 0, .int 0, .int 0, .int 0, .int 0, .int 0, .int 0]))]) (w1 := []) hP hD [0, 1] [2] rfl rfl (by decide) (by decide) hk1 hFc hP1 hD1
  generalize H1 = H at hP hS ⊢
  have hP : va_P (dC, dI) classes [(zm, .inr (12, [.int 0, .ref zm_y0, .int 0, .int 0, .int 0, .int 0, .ref zm_y1, .ref zm_y2, .ref zm_y3, .ref zm_y4, .ref zm_y5, .ref zm_y6, .ref zm_y7, .int 0, .int 0, .ref zm_y8, .ref zm_y9, .int 0, .int 0, .int 0, .int 0, .ref zm_y10, .ref zm_y11, .int 0, .int 0, .int 0, .int 0, .int 0, .ref zm_y12, .ref zm_y13, .ref zm_y14, .ref zm_y15, .int 0, .ref zm_y16, .ref zm_y17, .ref zm_y18, .int (-1), .int (-1), .int (-1), .int 0, .int 0, .int 0, .ref zm_y19, .ref zm_y20, .int 0, .ref zm_y21, .ref zm_y22, .ref zm_y23, .ref zm_y24, .ref zm_y25, .int 0, .ref zm_y26, .ref zm_y27, .ref zm_y28, .int 0, .int 0, .int 0, .ref zm_y29, .ref zm_y30, .ref zm_y31, .ref zm_y32, .int 0, .int 0, .long 0, .int 0, .int 0, .int 0, .int 0, .int 0, .int 0]))] H := hP
  have hD : va_D (fun q : Nat => s.heap.size ≤ q) [(zm, .inr (12, [.int 0, .ref zm_y0, .int 0, .int 0, .int 0, .int 0, .ref zm_y1, .ref zm_y2, .ref zm_y3, .ref zm_y4, .ref zm_y5, .ref zm_y6, .ref zm_y7, .int 0, .int 0, .ref zm_y8, .ref zm_y9, .int 0, .int 0, .int 0, .int 0, .ref zm_y10, .ref zm_y11, .int 0, .int 0, .int 0, .int 0, .int 0, .ref zm_y12, .ref zm_y13, .ref zm_y14, .ref zm_y15, .int 0, .ref zm_y16, .ref zm_y17, .ref zm_y18, .int (-1), .int (-1), .int (-1), .int 0, .int 0, .int 0, .ref zm_y19, .ref zm_y20, .int 0, .ref zm_y21, .ref zm_y22, .ref zm_y23, .ref zm_y24, .ref zm_y25, .int 0, .ref zm_y26, .ref zm_y27, .ref zm_y28, .int 0, .int 0, .int 0, .ref zm_y29, .ref zm_y30, .ref zm_y31, .ref zm_y32, .int 0, .int 0, .long 0, .int 0, .int 0, .int 0, .int 0, .int 0, .int 0]))] := hD
  rcases hw with ⟨c_6, rfl⟩ | ⟨c_7, c_8, rfl⟩ | ⟨c_9, c_10, c_11, rfl⟩ | ⟨c_12, c_13, c_14, c_15, c_16, c_17, rfl⟩ | ⟨c_18, c_19, c_20, c_21, c_22, rfl⟩ | ⟨c_23, c_24, c_25, c_26, rfl⟩
  · skip
    refine lv_aload_n hx hb dL_law_328 rfl (lv_at hl 2 rfl) ?_
    refine lv_aload_n hx hb dL_law_329 rfl (lv_at hl 0 rfl) ?_
    refine lv_iload hx hb dL_law_330 (lv_at hl 4 rfl) ?_
    refine lv_iconst (v := 1) hx hb dL_law_332 (by decide) ?_
    refine lv_iadd hx hb dL_law_333 ?_
    refine lv_topi (fun x_27 ex_27 => ?_)
    have ex_27 : x_27 = 1 := ex_27.trans (by decide)
    subst ex_27
    refine va_sld hx hb hX hbl hbA hS (vp_in_iff.mpr ⟨by decide, by decide⟩) dL_law_334 ?_
    refine lv_topi (fun x_28 ex_28 => ?_)
    have ex_28 : x_2 = x_28 := ex_2.trans ex_28.symm
    subst ex_28
    refine lv_aload_n hx hb dL_law_335 rfl (lv_at hl 0 rfl) ?_
    refine lv_iload hx hb dL_law_336 (lv_at hl 4 rfl) ?_
    refine lv_iconst (v := 2) hx hb dL_law_338 (by decide) ?_
    refine lv_iadd hx hb dL_law_339 ?_
    refine lv_topi (fun x_29 ex_29 => ?_)
    have ex_29 : x_29 = 2 := ex_29.trans (by decide)
    subst ex_29
    refine va_sld hx hb hX hbl hbA hS (vp_in_iff.mpr ⟨by decide, by decide⟩) dL_law_340 ?_
    refine lv_topi (fun x_30 ex_30 => ?_)
    have ex_30 : x_4 = x_30 := ex_4.trans ex_30.symm
    subst ex_30
    have hPc := hP.sub (ws' := [(zm, .inr (12, [.int 0, .ref zm_y0, .int 0, .int 0, .int 0, .int 0, .ref zm_y1, .ref zm_y2, .ref zm_y3, .ref zm_y4, .ref zm_y5, .ref zm_y6, .ref zm_y7, .int 0, .int 0, .ref zm_y8, .ref zm_y9, .int 0, .int 0, .int 0, .int 0, .ref zm_y10, .ref zm_y11, .int 0, .int 0, .int 0, .int 0, .int 0, .ref zm_y12, .ref zm_y13, .ref zm_y14, .ref zm_y15, .int 0, .ref zm_y16, .ref zm_y17, .ref zm_y18, .int (-1), .int (-1), .int (-1), .int 0, .int 0, .int 0, .ref zm_y19, .ref zm_y20, .int 0, .ref zm_y21, .ref zm_y22, .ref zm_y23, .ref zm_y24, .ref zm_y25, .int 0, .ref zm_y26, .ref zm_y27, .ref zm_y28, .int 0, .int 0, .int 0, .ref zm_y29, .ref zm_y30, .ref zm_y31, .ref zm_y32, .int 0, .int 0, .long 0, .int 0, .int 0, .int 0, .int 0, .int 0, .int 0]))]) [0] rfl
    have hDc := hD.sub (ws' := [(zm, .inr (12, [.int 0, .ref zm_y0, .int 0, .int 0, .int 0, .int 0, .ref zm_y1, .ref zm_y2, .ref zm_y3, .ref zm_y4, .ref zm_y5, .ref zm_y6, .ref zm_y7, .int 0, .int 0, .ref zm_y8, .ref zm_y9, .int 0, .int 0, .int 0, .int 0, .ref zm_y10, .ref zm_y11, .int 0, .int 0, .int 0, .int 0, .int 0, .ref zm_y12, .ref zm_y13, .ref zm_y14, .ref zm_y15, .int 0, .ref zm_y16, .ref zm_y17, .ref zm_y18, .int (-1), .int (-1), .int (-1), .int 0, .int 0, .int 0, .ref zm_y19, .ref zm_y20, .int 0, .ref zm_y21, .ref zm_y22, .ref zm_y23, .ref zm_y24, .ref zm_y25, .int 0, .ref zm_y26, .ref zm_y27, .ref zm_y28, .int 0, .int 0, .int 0, .ref zm_y29, .ref zm_y30, .ref zm_y31, .ref zm_y32, .int 0, .int 0, .long 0, .int 0, .int 0, .int 0, .int 0, .int 0, .int 0]))]) [0] (by decide) rfl
    have hKc := hK.sub (tys' := []) [] rfl
    have hFc := va_free (wc := [(zm, .inr (12, [.int 0, .ref zm_y0, .int 0, .int 0, .int 0, .int 0, .ref zm_y1, .ref zm_y2, .ref zm_y3, .ref zm_y4, .ref zm_y5, .ref zm_y6, .ref zm_y7, .int 0, .int 0, .ref zm_y8, .ref zm_y9, .int 0, .int 0, .int 0, .int 0, .ref zm_y10, .ref zm_y11, .int 0, .int 0, .int 0, .int 0, .int 0, .ref zm_y12, .ref zm_y13, .ref zm_y14, .ref zm_y15, .int 0, .ref zm_y16, .ref zm_y17, .ref zm_y18, .int (-1), .int (-1), .int (-1), .int 0, .int 0, .int 0, .ref zm_y19, .ref zm_y20, .int 0, .ref zm_y21, .ref zm_y22, .ref zm_y23, .ref zm_y24, .ref zm_y25, .int 0, .ref zm_y26, .ref zm_y27, .ref zm_y28, .int 0, .int 0, .int 0, .ref zm_y29, .ref zm_y30, .ref zm_y31, .ref zm_y32, .int 0, .int 0, .long 0, .int 0, .int 0, .int 0, .int 0, .int 0, .int 0]))]) hD hS hA [0] rfl
    refine va_calli (va_runV (As := [.int x_2, .int x_4]) (rest := [.int 0]) ⟨hx, hb, hml, hown, hts⟩ (zk_X12_law_t l dC dI (zm) (x_2) (x_4) (zm_y0) (zm_y1) (zm_y2) (zm_y3) (zm_y4) (zm_y5) (zm_y6) (zm_y7) (zm_y8) (zm_y9) (zm_y10) (zm_y11) (zm_y12) (zm_y13) (zm_y14) (zm_y15) (zm_y16) (zm_y17) (zm_y18) (zm_y19) (zm_y20) (zm_y21) (zm_y22) (zm_y23) (zm_y24) (zm_y25) (zm_y26) (zm_y27) (zm_y28) (zm_y29) (zm_y30) (zm_y31) (zm_y32) H.size) (cwV 2 hts gL_law_X12_law rfl rfl rfl (by decide +kernel) ⟨Nat.le_of_ble_eq_true rfl, Nat.le_of_ble_eq_true rfl⟩) ⟨zw_blind, va_recv hK hP (ci := 12) (q0 := 0) rfl rfl, fun U hU hW => ⟨rfl, zw_P.of hPc hKc hDc hN U hU hW⟩⟩ rfl rfl hl.1 rfl (lv_room (Nat.le_of_ble_eq_true rfl)) dL_law_341 ⟨Nat.le_of_ble_eq_true rfl, Nat.le_of_ble_eq_true rfl⟩) hS (fun q _ h => hFc q h) hFc (fun r_31 u t H1 locs ht hvm hw hB hz1 hk1 hS => ?_)
    obtain ⟨hP1, hK1, hD1⟩ := hB
    rw [ht] at hP1
    obtain ⟨hP, hD⟩ := va_join (wr := []) (w1 := []) hP hD [0] [] rfl rfl (by decide) (by decide) hk1 hFc hP1 hD1
    generalize H1 = H at hP hS ⊢
    have hP : va_P (dC, dI) classes [] H := hP
    have hD : va_D (fun q : Nat => s.heap.size ≤ q) [] := hD
    rcases hw with ⟨c_32, rfl⟩ | ⟨c_33, c_34, rfl⟩ | ⟨c_35, c_36, c_37, c_38, c_39, rfl⟩ | ⟨c_40, c_41, c_42, c_43, c_44, rfl⟩ | ⟨c_45, c_46, c_47, rfl⟩
    · skip
      refine lv_icmp_eq (tgt := 1170) hx hb dL_law_344 (by decide) (fun _ => ?_) (fun c9 => absurd (by decide) c9)
      refine lv_iinc (v := 6) (lv' := [(4, .int 6), (0, .ref b), (1, .ref zx), (2, .ref zm), (3, .ref zo)]) hx hb dL_law_1170 hl (k := 4) rfl (by decide) (by decide) rfl (fun ls hl => ?_)
      refine lv_goto (tgt := 23) hx hb dL_law_1173 (by decide) ?_
      refine lv_iload hx hb dL_law_23 (lv_at hl 0 rfl) ?_
      refine lv_aload_n hx hb dL_law_25 rfl (lv_at hl 1 rfl) ?_
      refine va_slen hx hb hX hbl hbA hS dL_law_26 ?_
      refine lv_topi (fun x_48 ex_48 => ?_)
      have ex_48 : x_48 = 6 := ex_48.trans (by decide)
      subst ex_48
      refine lv_bipush (v := 6) hx hb dL_law_27 (by decide) ?_
      refine lv_isub hx hb dL_law_29 ?_
      refine lv_topi (fun x_49 ex_49 => ?_)
      have ex_49 : x_49 = 0 := ex_49.trans (by decide)
      subst ex_49
      refine lv_icmp_gt (tgt := 1176) hx hb dL_law_30 (by decide) (fun _ => ?_) (fun c9 => absurd (by decide) c9)
      refine lv_iconst (v := 1) hx hb dL_law_1176 (by decide) ?_
      refine va_forget (fun q hq => hS.2.2 q hq) ?_
      refine W.widen (k := 600002) (n := 7302232) (Nat.le_of_ble_eq_true rfl) (Nat.le_of_ble_eq_true rfl) ?_
      exact lw_ret hx hb hr hlocks dL_law_1177
    · skip
      have d_c_6 := zz_lt.mp c_6
      have d_c_33 := (not_congr zz_lt).mp c_33
      have d_c_34 := zz_lt.mp c_34
      have ez_0 : (0 : Int32).toInt = 0 := by decide
      have ez_1 : (1 : Int32).toInt = 1 := by decide
      exact absurd (show False by omega) id
    · skip
      have d_c_6 := zz_lt.mp c_6
      have d_c_35 := (not_congr zz_lt).mp c_35
      have d_c_36 := (not_congr zz_lt).mp c_36
      have d_c_37 := zz_eq.mp c_37
      have d_c_38 := (not_congr zz_eq).mp c_38
      have d_c_39 := zz_eq.mp c_39
      have ez_0 : (0 : Int32).toInt = 0 := by decide
      have ez_1 : (1 : Int32).toInt = 1 := by decide
      have ez_2 : ((-1) : Int32).toInt = -1 := by decide
      exact absurd (show False by omega) id
    · skip
      have d_c_6 := zz_lt.mp c_6
      have d_c_40 := (not_congr zz_lt).mp c_40
      have d_c_41 := (not_congr zz_lt).mp c_41
      have d_c_42 := zz_eq.mp c_42
      have d_c_43 := zz_eq.mp c_43
      have d_c_44 := (not_congr zz_eq).mp c_44
      have ez_0 : (0 : Int32).toInt = 0 := by decide
      have ez_1 : (1 : Int32).toInt = 1 := by decide
      have ez_2 : ((-1) : Int32).toInt = -1 := by decide
      exact absurd (show False by omega) id
    · skip
      have d_c_6 := zz_lt.mp c_6
      have d_c_45 := (not_congr zz_lt).mp c_45
      have d_c_46 := (not_congr zz_lt).mp c_46
      have d_c_47 := (not_congr zz_eq).mp c_47
      have ez_0 : (0 : Int32).toInt = 0 := by decide
      have ez_1 : (1 : Int32).toInt = 1 := by decide
      have ez_2 : ((-1) : Int32).toInt = -1 := by decide
      exact absurd (show False by omega) id
  · skip
    refine lv_aload_n hx hb dL_law_328 rfl (lv_at hl 2 rfl) ?_
    refine lv_aload_n hx hb dL_law_329 rfl (lv_at hl 0 rfl) ?_
    refine lv_iload hx hb dL_law_330 (lv_at hl 4 rfl) ?_
    refine lv_iconst (v := 1) hx hb dL_law_332 (by decide) ?_
    refine lv_iadd hx hb dL_law_333 ?_
    refine lv_topi (fun x_50 ex_50 => ?_)
    have ex_50 : x_50 = 1 := ex_50.trans (by decide)
    subst ex_50
    refine va_sld hx hb hX hbl hbA hS (vp_in_iff.mpr ⟨by decide, by decide⟩) dL_law_334 ?_
    refine lv_topi (fun x_51 ex_51 => ?_)
    have ex_51 : x_2 = x_51 := ex_2.trans ex_51.symm
    subst ex_51
    refine lv_aload_n hx hb dL_law_335 rfl (lv_at hl 0 rfl) ?_
    refine lv_iload hx hb dL_law_336 (lv_at hl 4 rfl) ?_
    refine lv_iconst (v := 2) hx hb dL_law_338 (by decide) ?_
    refine lv_iadd hx hb dL_law_339 ?_
    refine lv_topi (fun x_52 ex_52 => ?_)
    have ex_52 : x_52 = 2 := ex_52.trans (by decide)
    subst ex_52
    refine va_sld hx hb hX hbl hbA hS (vp_in_iff.mpr ⟨by decide, by decide⟩) dL_law_340 ?_
    refine lv_topi (fun x_53 ex_53 => ?_)
    have ex_53 : x_4 = x_53 := ex_4.trans ex_53.symm
    subst ex_53
    have hPc := hP.sub (ws' := [(zm, .inr (12, [.int 0, .ref zm_y0, .int 0, .int 0, .int 0, .int 0, .ref zm_y1, .ref zm_y2, .ref zm_y3, .ref zm_y4, .ref zm_y5, .ref zm_y6, .ref zm_y7, .int 0, .int 0, .ref zm_y8, .ref zm_y9, .int 0, .int 0, .int 0, .int 0, .ref zm_y10, .ref zm_y11, .int 0, .int 0, .int 0, .int 0, .int 0, .ref zm_y12, .ref zm_y13, .ref zm_y14, .ref zm_y15, .int 0, .ref zm_y16, .ref zm_y17, .ref zm_y18, .int (-1), .int (-1), .int (-1), .int 0, .int 0, .int 0, .ref zm_y19, .ref zm_y20, .int 0, .ref zm_y21, .ref zm_y22, .ref zm_y23, .ref zm_y24, .ref zm_y25, .int 0, .ref zm_y26, .ref zm_y27, .ref zm_y28, .int 0, .int 0, .int 0, .ref zm_y29, .ref zm_y30, .ref zm_y31, .ref zm_y32, .int 0, .int 0, .long 0, .int 0, .int 0, .int 0, .int 0, .int 0, .int 0]))]) [0] rfl
    have hDc := hD.sub (ws' := [(zm, .inr (12, [.int 0, .ref zm_y0, .int 0, .int 0, .int 0, .int 0, .ref zm_y1, .ref zm_y2, .ref zm_y3, .ref zm_y4, .ref zm_y5, .ref zm_y6, .ref zm_y7, .int 0, .int 0, .ref zm_y8, .ref zm_y9, .int 0, .int 0, .int 0, .int 0, .ref zm_y10, .ref zm_y11, .int 0, .int 0, .int 0, .int 0, .int 0, .ref zm_y12, .ref zm_y13, .ref zm_y14, .ref zm_y15, .int 0, .ref zm_y16, .ref zm_y17, .ref zm_y18, .int (-1), .int (-1), .int (-1), .int 0, .int 0, .int 0, .ref zm_y19, .ref zm_y20, .int 0, .ref zm_y21, .ref zm_y22, .ref zm_y23, .ref zm_y24, .ref zm_y25, .int 0, .ref zm_y26, .ref zm_y27, .ref zm_y28, .int 0, .int 0, .int 0, .ref zm_y29, .ref zm_y30, .ref zm_y31, .ref zm_y32, .int 0, .int 0, .long 0, .int 0, .int 0, .int 0, .int 0, .int 0, .int 0]))]) [0] (by decide) rfl
    have hKc := hK.sub (tys' := []) [] rfl
    have hFc := va_free (wc := [(zm, .inr (12, [.int 0, .ref zm_y0, .int 0, .int 0, .int 0, .int 0, .ref zm_y1, .ref zm_y2, .ref zm_y3, .ref zm_y4, .ref zm_y5, .ref zm_y6, .ref zm_y7, .int 0, .int 0, .ref zm_y8, .ref zm_y9, .int 0, .int 0, .int 0, .int 0, .ref zm_y10, .ref zm_y11, .int 0, .int 0, .int 0, .int 0, .int 0, .ref zm_y12, .ref zm_y13, .ref zm_y14, .ref zm_y15, .int 0, .ref zm_y16, .ref zm_y17, .ref zm_y18, .int (-1), .int (-1), .int (-1), .int 0, .int 0, .int 0, .ref zm_y19, .ref zm_y20, .int 0, .ref zm_y21, .ref zm_y22, .ref zm_y23, .ref zm_y24, .ref zm_y25, .int 0, .ref zm_y26, .ref zm_y27, .ref zm_y28, .int 0, .int 0, .int 0, .ref zm_y29, .ref zm_y30, .ref zm_y31, .ref zm_y32, .int 0, .int 0, .long 0, .int 0, .int 0, .int 0, .int 0, .int 0, .int 0]))]) hD hS hA [0] rfl
    refine va_calli (va_runV (As := [.int x_2, .int x_4]) (rest := [.int 0]) ⟨hx, hb, hml, hown, hts⟩ (zk_X12_law_t l dC dI (zm) (x_2) (x_4) (zm_y0) (zm_y1) (zm_y2) (zm_y3) (zm_y4) (zm_y5) (zm_y6) (zm_y7) (zm_y8) (zm_y9) (zm_y10) (zm_y11) (zm_y12) (zm_y13) (zm_y14) (zm_y15) (zm_y16) (zm_y17) (zm_y18) (zm_y19) (zm_y20) (zm_y21) (zm_y22) (zm_y23) (zm_y24) (zm_y25) (zm_y26) (zm_y27) (zm_y28) (zm_y29) (zm_y30) (zm_y31) (zm_y32) H.size) (cwV 2 hts gL_law_X12_law rfl rfl rfl (by decide +kernel) ⟨Nat.le_of_ble_eq_true rfl, Nat.le_of_ble_eq_true rfl⟩) ⟨zw_blind, va_recv hK hP (ci := 12) (q0 := 0) rfl rfl, fun U hU hW => ⟨rfl, zw_P.of hPc hKc hDc hN U hU hW⟩⟩ rfl rfl hl.1 rfl (lv_room (Nat.le_of_ble_eq_true rfl)) dL_law_341 ⟨Nat.le_of_ble_eq_true rfl, Nat.le_of_ble_eq_true rfl⟩) hS (fun q _ h => hFc q h) hFc (fun r_54 u t H1 locs ht hvm hw hB hz1 hk1 hS => ?_)
    obtain ⟨hP1, hK1, hD1⟩ := hB
    rw [ht] at hP1
    obtain ⟨hP, hD⟩ := va_join (wr := []) (w1 := []) hP hD [0] [] rfl rfl (by decide) (by decide) hk1 hFc hP1 hD1
    generalize H1 = H at hP hS ⊢
    have hP : va_P (dC, dI) classes [] H := hP
    have hD : va_D (fun q : Nat => s.heap.size ≤ q) [] := hD
    rcases hw with ⟨c_55, rfl⟩ | ⟨c_56, c_57, rfl⟩ | ⟨c_58, c_59, c_60, c_61, c_62, rfl⟩ | ⟨c_63, c_64, c_65, c_66, c_67, rfl⟩ | ⟨c_68, c_69, c_70, rfl⟩
    · skip
      have d_c_7 := (not_congr zz_lt).mp c_7
      have d_c_8 := zz_lt.mp c_8
      have d_c_55 := zz_lt.mp c_55
      have ez_0 : (0 : Int32).toInt = 0 := by decide
      have ez_1 : (1 : Int32).toInt = 1 := by decide
      exact absurd (show False by omega) id
    · skip
      refine lv_icmp_eq (tgt := 1170) hx hb dL_law_344 (by decide) (fun _ => ?_) (fun c9 => absurd (by decide) c9)
      refine lv_iinc (v := 6) (lv' := [(4, .int 6), (0, .ref b), (1, .ref zx), (2, .ref zm), (3, .ref zo)]) hx hb dL_law_1170 hl (k := 4) rfl (by decide) (by decide) rfl (fun ls hl => ?_)
      refine lv_goto (tgt := 23) hx hb dL_law_1173 (by decide) ?_
      refine lv_iload hx hb dL_law_23 (lv_at hl 0 rfl) ?_
      refine lv_aload_n hx hb dL_law_25 rfl (lv_at hl 1 rfl) ?_
      refine va_slen hx hb hX hbl hbA hS dL_law_26 ?_
      refine lv_topi (fun x_71 ex_71 => ?_)
      have ex_71 : x_71 = 6 := ex_71.trans (by decide)
      subst ex_71
      refine lv_bipush (v := 6) hx hb dL_law_27 (by decide) ?_
      refine lv_isub hx hb dL_law_29 ?_
      refine lv_topi (fun x_72 ex_72 => ?_)
      have ex_72 : x_72 = 0 := ex_72.trans (by decide)
      subst ex_72
      refine lv_icmp_gt (tgt := 1176) hx hb dL_law_30 (by decide) (fun _ => ?_) (fun c9 => absurd (by decide) c9)
      refine lv_iconst (v := 1) hx hb dL_law_1176 (by decide) ?_
      refine va_forget (fun q hq => hS.2.2 q hq) ?_
      refine W.widen (k := 600002) (n := 7302232) (Nat.le_of_ble_eq_true rfl) (Nat.le_of_ble_eq_true rfl) ?_
      exact lw_ret hx hb hr hlocks dL_law_1177
    · skip
      have d_c_7 := (not_congr zz_lt).mp c_7
      have d_c_8 := zz_lt.mp c_8
      have d_c_58 := (not_congr zz_lt).mp c_58
      have d_c_59 := (not_congr zz_lt).mp c_59
      have d_c_60 := zz_eq.mp c_60
      have d_c_61 := (not_congr zz_eq).mp c_61
      have d_c_62 := zz_eq.mp c_62
      have ez_0 : (0 : Int32).toInt = 0 := by decide
      have ez_1 : (1 : Int32).toInt = 1 := by decide
      have ez_2 : ((-1) : Int32).toInt = -1 := by decide
      exact absurd (show False by omega) id
    · skip
      have d_c_7 := (not_congr zz_lt).mp c_7
      have d_c_8 := zz_lt.mp c_8
      have d_c_63 := (not_congr zz_lt).mp c_63
      have d_c_64 := (not_congr zz_lt).mp c_64
      have d_c_65 := zz_eq.mp c_65
      have d_c_66 := zz_eq.mp c_66
      have d_c_67 := (not_congr zz_eq).mp c_67
      have ez_0 : (0 : Int32).toInt = 0 := by decide
      have ez_1 : (1 : Int32).toInt = 1 := by decide
      have ez_2 : ((-1) : Int32).toInt = -1 := by decide
      exact absurd (show False by omega) id
    · skip
      have d_c_7 := (not_congr zz_lt).mp c_7
      have d_c_8 := zz_lt.mp c_8
      have d_c_68 := (not_congr zz_lt).mp c_68
      have d_c_69 := (not_congr zz_lt).mp c_69
      have d_c_70 := (not_congr zz_eq).mp c_70
      have ez_0 : (0 : Int32).toInt = 0 := by decide
      have ez_1 : (1 : Int32).toInt = 1 := by decide
      have ez_2 : ((-1) : Int32).toInt = -1 := by decide
      exact absurd (show False by omega) id
  · skip
    refine lv_aload_n hx hb dL_law_328 rfl (lv_at hl 2 rfl) ?_
    refine lv_aload_n hx hb dL_law_329 rfl (lv_at hl 0 rfl) ?_
    refine lv_iload hx hb dL_law_330 (lv_at hl 4 rfl) ?_
    refine lv_iconst (v := 1) hx hb dL_law_332 (by decide) ?_
    refine lv_iadd hx hb dL_law_333 ?_
    refine lv_topi (fun x_73 ex_73 => ?_)
    have ex_73 : x_73 = 1 := ex_73.trans (by decide)
    subst ex_73
    refine va_sld hx hb hX hbl hbA hS (vp_in_iff.mpr ⟨by decide, by decide⟩) dL_law_334 ?_
    refine lv_topi (fun x_74 ex_74 => ?_)
    have ex_74 : x_2 = x_74 := ex_2.trans ex_74.symm
    subst ex_74
    refine lv_aload_n hx hb dL_law_335 rfl (lv_at hl 0 rfl) ?_
    refine lv_iload hx hb dL_law_336 (lv_at hl 4 rfl) ?_
    refine lv_iconst (v := 2) hx hb dL_law_338 (by decide) ?_
    refine lv_iadd hx hb dL_law_339 ?_
    refine lv_topi (fun x_75 ex_75 => ?_)
    have ex_75 : x_75 = 2 := ex_75.trans (by decide)
    subst ex_75
    refine va_sld hx hb hX hbl hbA hS (vp_in_iff.mpr ⟨by decide, by decide⟩) dL_law_340 ?_
    refine lv_topi (fun x_76 ex_76 => ?_)
    have ex_76 : x_4 = x_76 := ex_4.trans ex_76.symm
    subst ex_76
    have hPc := hP.sub (ws' := [(zm, .inr (12, [.int 0, .ref zm_y0, .int 0, .int 0, .int 0, .int 0, .ref zm_y1, .ref zm_y2, .ref zm_y3, .ref zm_y4, .ref zm_y5, .ref zm_y6, .ref zm_y7, .int 0, .int 0, .ref zm_y8, .ref zm_y9, .int 0, .int 0, .int 0, .int 0, .ref zm_y10, .ref zm_y11, .int 0, .int 0, .int 0, .int 0, .int 0, .ref zm_y12, .ref zm_y13, .ref zm_y14, .ref zm_y15, .int 0, .ref zm_y16, .ref zm_y17, .ref zm_y18, .int (-1), .int (-1), .int (-1), .int 0, .int 0, .int 0, .ref zm_y19, .ref zm_y20, .int 0, .ref zm_y21, .ref zm_y22, .ref zm_y23, .ref zm_y24, .ref zm_y25, .int 0, .ref zm_y26, .ref zm_y27, .ref zm_y28, .int 0, .int 0, .int 0, .ref zm_y29, .ref zm_y30, .ref zm_y31, .ref zm_y32, .int 0, .int 0, .long 0, .int 0, .int 0, .int 0, .int 0, .int 0, .int 0]))]) [0] rfl
    have hDc := hD.sub (ws' := [(zm, .inr (12, [.int 0, .ref zm_y0, .int 0, .int 0, .int 0, .int 0, .ref zm_y1, .ref zm_y2, .ref zm_y3, .ref zm_y4, .ref zm_y5, .ref zm_y6, .ref zm_y7, .int 0, .int 0, .ref zm_y8, .ref zm_y9, .int 0, .int 0, .int 0, .int 0, .ref zm_y10, .ref zm_y11, .int 0, .int 0, .int 0, .int 0, .int 0, .ref zm_y12, .ref zm_y13, .ref zm_y14, .ref zm_y15, .int 0, .ref zm_y16, .ref zm_y17, .ref zm_y18, .int (-1), .int (-1), .int (-1), .int 0, .int 0, .int 0, .ref zm_y19, .ref zm_y20, .int 0, .ref zm_y21, .ref zm_y22, .ref zm_y23, .ref zm_y24, .ref zm_y25, .int 0, .ref zm_y26, .ref zm_y27, .ref zm_y28, .int 0, .int 0, .int 0, .ref zm_y29, .ref zm_y30, .ref zm_y31, .ref zm_y32, .int 0, .int 0, .long 0, .int 0, .int 0, .int 0, .int 0, .int 0, .int 0]))]) [0] (by decide) rfl
    have hKc := hK.sub (tys' := []) [] rfl
    have hFc := va_free (wc := [(zm, .inr (12, [.int 0, .ref zm_y0, .int 0, .int 0, .int 0, .int 0, .ref zm_y1, .ref zm_y2, .ref zm_y3, .ref zm_y4, .ref zm_y5, .ref zm_y6, .ref zm_y7, .int 0, .int 0, .ref zm_y8, .ref zm_y9, .int 0, .int 0, .int 0, .int 0, .ref zm_y10, .ref zm_y11, .int 0, .int 0, .int 0, .int 0, .int 0, .ref zm_y12, .ref zm_y13, .ref zm_y14, .ref zm_y15, .int 0, .ref zm_y16, .ref zm_y17, .ref zm_y18, .int (-1), .int (-1), .int (-1), .int 0, .int 0, .int 0, .ref zm_y19, .ref zm_y20, .int 0, .ref zm_y21, .ref zm_y22, .ref zm_y23, .ref zm_y24, .ref zm_y25, .int 0, .ref zm_y26, .ref zm_y27, .ref zm_y28, .int 0, .int 0, .int 0, .ref zm_y29, .ref zm_y30, .ref zm_y31, .ref zm_y32, .int 0, .int 0, .long 0, .int 0, .int 0, .int 0, .int 0, .int 0, .int 0]))]) hD hS hA [0] rfl
    refine va_calli (va_runV (As := [.int x_2, .int x_4]) (rest := [.int 0]) ⟨hx, hb, hml, hown, hts⟩ (zk_X12_law_t l dC dI (zm) (x_2) (x_4) (zm_y0) (zm_y1) (zm_y2) (zm_y3) (zm_y4) (zm_y5) (zm_y6) (zm_y7) (zm_y8) (zm_y9) (zm_y10) (zm_y11) (zm_y12) (zm_y13) (zm_y14) (zm_y15) (zm_y16) (zm_y17) (zm_y18) (zm_y19) (zm_y20) (zm_y21) (zm_y22) (zm_y23) (zm_y24) (zm_y25) (zm_y26) (zm_y27) (zm_y28) (zm_y29) (zm_y30) (zm_y31) (zm_y32) H.size) (cwV 2 hts gL_law_X12_law rfl rfl rfl (by decide +kernel) ⟨Nat.le_of_ble_eq_true rfl, Nat.le_of_ble_eq_true rfl⟩) ⟨zw_blind, va_recv hK hP (ci := 12) (q0 := 0) rfl rfl, fun U hU hW => ⟨rfl, zw_P.of hPc hKc hDc hN U hU hW⟩⟩ rfl rfl hl.1 rfl (lv_room (Nat.le_of_ble_eq_true rfl)) dL_law_341 ⟨Nat.le_of_ble_eq_true rfl, Nat.le_of_ble_eq_true rfl⟩) hS (fun q _ h => hFc q h) hFc (fun r_77 u t H1 locs ht hvm hw hB hz1 hk1 hS => ?_)
    obtain ⟨hP1, hK1, hD1⟩ := hB
    rw [ht] at hP1
    obtain ⟨hP, hD⟩ := va_join (wr := []) (w1 := []) hP hD [0] [] rfl rfl (by decide) (by decide) hk1 hFc hP1 hD1
    generalize H1 = H at hP hS ⊢
    have hP : va_P (dC, dI) classes [] H := hP
    have hD : va_D (fun q : Nat => s.heap.size ≤ q) [] := hD
    rcases hw with ⟨c_78, rfl⟩ | ⟨c_79, c_80, rfl⟩ | ⟨c_81, c_82, c_83, c_84, c_85, rfl⟩ | ⟨c_86, c_87, c_88, c_89, c_90, rfl⟩ | ⟨c_91, c_92, c_93, rfl⟩
    · skip
      have d_c_9 := (not_congr zz_lt).mp c_9
      have d_c_10 := (not_congr zz_lt).mp c_10
      have d_c_11 := zz_lt.mp c_11
      have d_c_78 := zz_lt.mp c_78
      have ez_0 : (0 : Int32).toInt = 0 := by decide
      have ez_1 : (1 : Int32).toInt = 1 := by decide
      have ez_2 : ((-1) : Int32).toInt = -1 := by decide
      exact absurd (show False by omega) id
    · skip
      have d_c_9 := (not_congr zz_lt).mp c_9
      have d_c_10 := (not_congr zz_lt).mp c_10
      have d_c_11 := zz_lt.mp c_11
      have d_c_79 := (not_congr zz_lt).mp c_79
      have d_c_80 := zz_lt.mp c_80
      have ez_0 : (0 : Int32).toInt = 0 := by decide
      have ez_1 : (1 : Int32).toInt = 1 := by decide
      have ez_2 : ((-1) : Int32).toInt = -1 := by decide
      exact absurd (show False by omega) id
    · skip
      have d_c_9 := (not_congr zz_lt).mp c_9
      have d_c_10 := (not_congr zz_lt).mp c_10
      have d_c_11 := zz_lt.mp c_11
      have d_c_81 := (not_congr zz_lt).mp c_81
      have d_c_82 := (not_congr zz_lt).mp c_82
      have d_c_83 := zz_eq.mp c_83
      have d_c_84 := (not_congr zz_eq).mp c_84
      have d_c_85 := zz_eq.mp c_85
      have ez_0 : (0 : Int32).toInt = 0 := by decide
      have ez_1 : (1 : Int32).toInt = 1 := by decide
      have ez_2 : ((-1) : Int32).toInt = -1 := by decide
      exact absurd (show False by omega) id
    · skip
      have d_c_9 := (not_congr zz_lt).mp c_9
      have d_c_10 := (not_congr zz_lt).mp c_10
      have d_c_11 := zz_lt.mp c_11
      have d_c_86 := (not_congr zz_lt).mp c_86
      have d_c_87 := (not_congr zz_lt).mp c_87
      have d_c_88 := zz_eq.mp c_88
      have d_c_89 := zz_eq.mp c_89
      have d_c_90 := (not_congr zz_eq).mp c_90
      have ez_0 : (0 : Int32).toInt = 0 := by decide
      have ez_1 : (1 : Int32).toInt = 1 := by decide
      have ez_2 : ((-1) : Int32).toInt = -1 := by decide
      exact absurd (show False by omega) id
    · skip
      refine lv_icmp_eq (tgt := 1170) hx hb dL_law_344 (by decide) (fun _ => ?_) (fun c9 => absurd (by decide) c9)
      refine lv_iinc (v := 6) (lv' := [(4, .int 6), (0, .ref b), (1, .ref zx), (2, .ref zm), (3, .ref zo)]) hx hb dL_law_1170 hl (k := 4) rfl (by decide) (by decide) rfl (fun ls hl => ?_)
      refine lv_goto (tgt := 23) hx hb dL_law_1173 (by decide) ?_
      refine lv_iload hx hb dL_law_23 (lv_at hl 0 rfl) ?_
      refine lv_aload_n hx hb dL_law_25 rfl (lv_at hl 1 rfl) ?_
      refine va_slen hx hb hX hbl hbA hS dL_law_26 ?_
      refine lv_topi (fun x_94 ex_94 => ?_)
      have ex_94 : x_94 = 6 := ex_94.trans (by decide)
      subst ex_94
      refine lv_bipush (v := 6) hx hb dL_law_27 (by decide) ?_
      refine lv_isub hx hb dL_law_29 ?_
      refine lv_topi (fun x_95 ex_95 => ?_)
      have ex_95 : x_95 = 0 := ex_95.trans (by decide)
      subst ex_95
      refine lv_icmp_gt (tgt := 1176) hx hb dL_law_30 (by decide) (fun _ => ?_) (fun c9 => absurd (by decide) c9)
      refine lv_iconst (v := 1) hx hb dL_law_1176 (by decide) ?_
      refine va_forget (fun q hq => hS.2.2 q hq) ?_
      refine W.widen (k := 600002) (n := 7302232) (Nat.le_of_ble_eq_true rfl) (Nat.le_of_ble_eq_true rfl) ?_
      exact lw_ret hx hb hr hlocks dL_law_1177
  · skip
    refine lv_aload_n hx hb dL_law_328 rfl (lv_at hl 2 rfl) ?_
    refine lv_aload_n hx hb dL_law_329 rfl (lv_at hl 0 rfl) ?_
    refine lv_iload hx hb dL_law_330 (lv_at hl 4 rfl) ?_
    refine lv_iconst (v := 1) hx hb dL_law_332 (by decide) ?_
    refine lv_iadd hx hb dL_law_333 ?_
    refine lv_topi (fun x_96 ex_96 => ?_)
    have ex_96 : x_96 = 1 := ex_96.trans (by decide)
    subst ex_96
    refine va_sld hx hb hX hbl hbA hS (vp_in_iff.mpr ⟨by decide, by decide⟩) dL_law_334 ?_
    refine lv_topi (fun x_97 ex_97 => ?_)
    have ex_97 : x_2 = x_97 := ex_2.trans ex_97.symm
    subst ex_97
    refine lv_aload_n hx hb dL_law_335 rfl (lv_at hl 0 rfl) ?_
    refine lv_iload hx hb dL_law_336 (lv_at hl 4 rfl) ?_
    refine lv_iconst (v := 2) hx hb dL_law_338 (by decide) ?_
    refine lv_iadd hx hb dL_law_339 ?_
    refine lv_topi (fun x_98 ex_98 => ?_)
    have ex_98 : x_98 = 2 := ex_98.trans (by decide)
    subst ex_98
    refine va_sld hx hb hX hbl hbA hS (vp_in_iff.mpr ⟨by decide, by decide⟩) dL_law_340 ?_
    refine lv_topi (fun x_99 ex_99 => ?_)
    have ex_99 : x_4 = x_99 := ex_4.trans ex_99.symm
    subst ex_99
    have hPc := hP.sub (ws' := [(zm, .inr (12, [.int 0, .ref zm_y0, .int 0, .int 0, .int 0, .int 0, .ref zm_y1, .ref zm_y2, .ref zm_y3, .ref zm_y4, .ref zm_y5, .ref zm_y6, .ref zm_y7, .int 0, .int 0, .ref zm_y8, .ref zm_y9, .int 0, .int 0, .int 0, .int 0, .ref zm_y10, .ref zm_y11, .int 0, .int 0, .int 0, .int 0, .int 0, .ref zm_y12, .ref zm_y13, .ref zm_y14, .ref zm_y15, .int 0, .ref zm_y16, .ref zm_y17, .ref zm_y18, .int (-1), .int (-1), .int (-1), .int 0, .int 0, .int 0, .ref zm_y19, .ref zm_y20, .int 0, .ref zm_y21, .ref zm_y22, .ref zm_y23, .ref zm_y24, .ref zm_y25, .int 0, .ref zm_y26, .ref zm_y27, .ref zm_y28, .int 0, .int 0, .int 0, .ref zm_y29, .ref zm_y30, .ref zm_y31, .ref zm_y32, .int 0, .int 0, .long 0, .int 0, .int 0, .int 0, .int 0, .int 0, .int 0]))]) [0] rfl
    have hDc := hD.sub (ws' := [(zm, .inr (12, [.int 0, .ref zm_y0, .int 0, .int 0, .int 0, .int 0, .ref zm_y1, .ref zm_y2, .ref zm_y3, .ref zm_y4, .ref zm_y5, .ref zm_y6, .ref zm_y7, .int 0, .int 0, .ref zm_y8, .ref zm_y9, .int 0, .int 0, .int 0, .int 0, .ref zm_y10, .ref zm_y11, .int 0, .int 0, .int 0, .int 0, .int 0, .ref zm_y12, .ref zm_y13, .ref zm_y14, .ref zm_y15, .int 0, .ref zm_y16, .ref zm_y17, .ref zm_y18, .int (-1), .int (-1), .int (-1), .int 0, .int 0, .int 0, .ref zm_y19, .ref zm_y20, .int 0, .ref zm_y21, .ref zm_y22, .ref zm_y23, .ref zm_y24, .ref zm_y25, .int 0, .ref zm_y26, .ref zm_y27, .ref zm_y28, .int 0, .int 0, .int 0, .ref zm_y29, .ref zm_y30, .ref zm_y31, .ref zm_y32, .int 0, .int 0, .long 0, .int 0, .int 0, .int 0, .int 0, .int 0, .int 0]))]) [0] (by decide) rfl
    have hKc := hK.sub (tys' := []) [] rfl
    have hFc := va_free (wc := [(zm, .inr (12, [.int 0, .ref zm_y0, .int 0, .int 0, .int 0, .int 0, .ref zm_y1, .ref zm_y2, .ref zm_y3, .ref zm_y4, .ref zm_y5, .ref zm_y6, .ref zm_y7, .int 0, .int 0, .ref zm_y8, .ref zm_y9, .int 0, .int 0, .int 0, .int 0, .ref zm_y10, .ref zm_y11, .int 0, .int 0, .int 0, .int 0, .int 0, .ref zm_y12, .ref zm_y13, .ref zm_y14, .ref zm_y15, .int 0, .ref zm_y16, .ref zm_y17, .ref zm_y18, .int (-1), .int (-1), .int (-1), .int 0, .int 0, .int 0, .ref zm_y19, .ref zm_y20, .int 0, .ref zm_y21, .ref zm_y22, .ref zm_y23, .ref zm_y24, .ref zm_y25, .int 0, .ref zm_y26, .ref zm_y27, .ref zm_y28, .int 0, .int 0, .int 0, .ref zm_y29, .ref zm_y30, .ref zm_y31, .ref zm_y32, .int 0, .int 0, .long 0, .int 0, .int 0, .int 0, .int 0, .int 0, .int 0]))]) hD hS hA [0] rfl
    refine va_calli (va_runV (As := [.int x_2, .int x_4]) (rest := [.int 1]) ⟨hx, hb, hml, hown, hts⟩ (zk_X12_law_t l dC dI (zm) (x_2) (x_4) (zm_y0) (zm_y1) (zm_y2) (zm_y3) (zm_y4) (zm_y5) (zm_y6) (zm_y7) (zm_y8) (zm_y9) (zm_y10) (zm_y11) (zm_y12) (zm_y13) (zm_y14) (zm_y15) (zm_y16) (zm_y17) (zm_y18) (zm_y19) (zm_y20) (zm_y21) (zm_y22) (zm_y23) (zm_y24) (zm_y25) (zm_y26) (zm_y27) (zm_y28) (zm_y29) (zm_y30) (zm_y31) (zm_y32) H.size) (cwV 2 hts gL_law_X12_law rfl rfl rfl (by decide +kernel) ⟨Nat.le_of_ble_eq_true rfl, Nat.le_of_ble_eq_true rfl⟩) ⟨zw_blind, va_recv hK hP (ci := 12) (q0 := 0) rfl rfl, fun U hU hW => ⟨rfl, zw_P.of hPc hKc hDc hN U hU hW⟩⟩ rfl rfl hl.1 rfl (lv_room (Nat.le_of_ble_eq_true rfl)) dL_law_341 ⟨Nat.le_of_ble_eq_true rfl, Nat.le_of_ble_eq_true rfl⟩) hS (fun q _ h => hFc q h) hFc (fun r_100 u t H1 locs ht hvm hw hB hz1 hk1 hS => ?_)
    obtain ⟨hP1, hK1, hD1⟩ := hB
    rw [ht] at hP1
    obtain ⟨hP, hD⟩ := va_join (wr := []) (w1 := []) hP hD [0] [] rfl rfl (by decide) (by decide) hk1 hFc hP1 hD1
    generalize H1 = H at hP hS ⊢
    have hP : va_P (dC, dI) classes [] H := hP
    have hD : va_D (fun q : Nat => s.heap.size ≤ q) [] := hD
    rcases hw with ⟨c_101, rfl⟩ | ⟨c_102, c_103, rfl⟩ | ⟨c_104, c_105, c_106, c_107, c_108, rfl⟩ | ⟨c_109, c_110, c_111, c_112, c_113, rfl⟩ | ⟨c_114, c_115, c_116, rfl⟩
    · skip
      have d_c_12 := (not_congr zz_lt).mp c_12
      have d_c_13 := (not_congr zz_lt).mp c_13
      have d_c_14 := (not_congr zz_lt).mp c_14
      have d_c_15 := zz_lt.mp c_15
      have d_c_16 := (not_congr zz_eq).mp c_16
      have d_c_17 := zz_eq.mp c_17
      have d_c_101 := zz_lt.mp c_101
      have ez_0 : (0 : Int32).toInt = 0 := by decide
      have ez_1 : (1 : Int32).toInt = 1 := by decide
      have ez_2 : ((-1) : Int32).toInt = -1 := by decide
      exact absurd (show False by omega) id
    · skip
      have d_c_12 := (not_congr zz_lt).mp c_12
      have d_c_13 := (not_congr zz_lt).mp c_13
      have d_c_14 := (not_congr zz_lt).mp c_14
      have d_c_15 := zz_lt.mp c_15
      have d_c_16 := (not_congr zz_eq).mp c_16
      have d_c_17 := zz_eq.mp c_17
      have d_c_102 := (not_congr zz_lt).mp c_102
      have d_c_103 := zz_lt.mp c_103
      have ez_0 : (0 : Int32).toInt = 0 := by decide
      have ez_1 : (1 : Int32).toInt = 1 := by decide
      have ez_2 : ((-1) : Int32).toInt = -1 := by decide
      exact absurd (show False by omega) id
    · skip
      have d_c_12 := (not_congr zz_lt).mp c_12
      have d_c_13 := (not_congr zz_lt).mp c_13
      have d_c_14 := (not_congr zz_lt).mp c_14
      have d_c_15 := zz_lt.mp c_15
      have d_c_16 := (not_congr zz_eq).mp c_16
      have d_c_17 := zz_eq.mp c_17
      have d_c_104 := (not_congr zz_lt).mp c_104
      have d_c_105 := (not_congr zz_lt).mp c_105
      have d_c_106 := zz_eq.mp c_106
      have d_c_107 := (not_congr zz_eq).mp c_107
      have d_c_108 := zz_eq.mp c_108
      have ez_0 : (0 : Int32).toInt = 0 := by decide
      have ez_1 : (1 : Int32).toInt = 1 := by decide
      have ez_2 : ((-1) : Int32).toInt = -1 := by decide
      exact absurd (show False by omega) id
    · skip
      refine lv_icmp_eq (tgt := 1170) hx hb dL_law_344 (by decide) (fun _ => ?_) (fun c9 => absurd (by decide) c9)
      refine lv_iinc (v := 6) (lv' := [(4, .int 6), (0, .ref b), (1, .ref zx), (2, .ref zm), (3, .ref zo)]) hx hb dL_law_1170 hl (k := 4) rfl (by decide) (by decide) rfl (fun ls hl => ?_)
      refine lv_goto (tgt := 23) hx hb dL_law_1173 (by decide) ?_
      refine lv_iload hx hb dL_law_23 (lv_at hl 0 rfl) ?_
      refine lv_aload_n hx hb dL_law_25 rfl (lv_at hl 1 rfl) ?_
      refine va_slen hx hb hX hbl hbA hS dL_law_26 ?_
      refine lv_topi (fun x_117 ex_117 => ?_)
      have ex_117 : x_117 = 6 := ex_117.trans (by decide)
      subst ex_117
      refine lv_bipush (v := 6) hx hb dL_law_27 (by decide) ?_
      refine lv_isub hx hb dL_law_29 ?_
      refine lv_topi (fun x_118 ex_118 => ?_)
      have ex_118 : x_118 = 0 := ex_118.trans (by decide)
      subst ex_118
      refine lv_icmp_gt (tgt := 1176) hx hb dL_law_30 (by decide) (fun _ => ?_) (fun c9 => absurd (by decide) c9)
      refine lv_iconst (v := 1) hx hb dL_law_1176 (by decide) ?_
      refine va_forget (fun q hq => hS.2.2 q hq) ?_
      refine W.widen (k := 600002) (n := 7302232) (Nat.le_of_ble_eq_true rfl) (Nat.le_of_ble_eq_true rfl) ?_
      exact lw_ret hx hb hr hlocks dL_law_1177
    · skip
      have d_c_12 := (not_congr zz_lt).mp c_12
      have d_c_13 := (not_congr zz_lt).mp c_13
      have d_c_14 := (not_congr zz_lt).mp c_14
      have d_c_15 := zz_lt.mp c_15
      have d_c_16 := (not_congr zz_eq).mp c_16
      have d_c_17 := zz_eq.mp c_17
      have d_c_114 := (not_congr zz_lt).mp c_114
      have d_c_115 := (not_congr zz_lt).mp c_115
      have d_c_116 := (not_congr zz_eq).mp c_116
      have ez_0 : (0 : Int32).toInt = 0 := by decide
      have ez_1 : (1 : Int32).toInt = 1 := by decide
      have ez_2 : ((-1) : Int32).toInt = -1 := by decide
      exact absurd (show False by omega) id
  · skip
    refine lv_aload_n hx hb dL_law_328 rfl (lv_at hl 2 rfl) ?_
    refine lv_aload_n hx hb dL_law_329 rfl (lv_at hl 0 rfl) ?_
    refine lv_iload hx hb dL_law_330 (lv_at hl 4 rfl) ?_
    refine lv_iconst (v := 1) hx hb dL_law_332 (by decide) ?_
    refine lv_iadd hx hb dL_law_333 ?_
    refine lv_topi (fun x_119 ex_119 => ?_)
    have ex_119 : x_119 = 1 := ex_119.trans (by decide)
    subst ex_119
    refine va_sld hx hb hX hbl hbA hS (vp_in_iff.mpr ⟨by decide, by decide⟩) dL_law_334 ?_
    refine lv_topi (fun x_120 ex_120 => ?_)
    have ex_120 : x_2 = x_120 := ex_2.trans ex_120.symm
    subst ex_120
    refine lv_aload_n hx hb dL_law_335 rfl (lv_at hl 0 rfl) ?_
    refine lv_iload hx hb dL_law_336 (lv_at hl 4 rfl) ?_
    refine lv_iconst (v := 2) hx hb dL_law_338 (by decide) ?_
    refine lv_iadd hx hb dL_law_339 ?_
    refine lv_topi (fun x_121 ex_121 => ?_)
    have ex_121 : x_121 = 2 := ex_121.trans (by decide)
    subst ex_121
    refine va_sld hx hb hX hbl hbA hS (vp_in_iff.mpr ⟨by decide, by decide⟩) dL_law_340 ?_
    refine lv_topi (fun x_122 ex_122 => ?_)
    have ex_122 : x_4 = x_122 := ex_4.trans ex_122.symm
    subst ex_122
    have hPc := hP.sub (ws' := [(zm, .inr (12, [.int 0, .ref zm_y0, .int 0, .int 0, .int 0, .int 0, .ref zm_y1, .ref zm_y2, .ref zm_y3, .ref zm_y4, .ref zm_y5, .ref zm_y6, .ref zm_y7, .int 0, .int 0, .ref zm_y8, .ref zm_y9, .int 0, .int 0, .int 0, .int 0, .ref zm_y10, .ref zm_y11, .int 0, .int 0, .int 0, .int 0, .int 0, .ref zm_y12, .ref zm_y13, .ref zm_y14, .ref zm_y15, .int 0, .ref zm_y16, .ref zm_y17, .ref zm_y18, .int (-1), .int (-1), .int (-1), .int 0, .int 0, .int 0, .ref zm_y19, .ref zm_y20, .int 0, .ref zm_y21, .ref zm_y22, .ref zm_y23, .ref zm_y24, .ref zm_y25, .int 0, .ref zm_y26, .ref zm_y27, .ref zm_y28, .int 0, .int 0, .int 0, .ref zm_y29, .ref zm_y30, .ref zm_y31, .ref zm_y32, .int 0, .int 0, .long 0, .int 0, .int 0, .int 0, .int 0, .int 0, .int 0]))]) [0] rfl
    have hDc := hD.sub (ws' := [(zm, .inr (12, [.int 0, .ref zm_y0, .int 0, .int 0, .int 0, .int 0, .ref zm_y1, .ref zm_y2, .ref zm_y3, .ref zm_y4, .ref zm_y5, .ref zm_y6, .ref zm_y7, .int 0, .int 0, .ref zm_y8, .ref zm_y9, .int 0, .int 0, .int 0, .int 0, .ref zm_y10, .ref zm_y11, .int 0, .int 0, .int 0, .int 0, .int 0, .ref zm_y12, .ref zm_y13, .ref zm_y14, .ref zm_y15, .int 0, .ref zm_y16, .ref zm_y17, .ref zm_y18, .int (-1), .int (-1), .int (-1), .int 0, .int 0, .int 0, .ref zm_y19, .ref zm_y20, .int 0, .ref zm_y21, .ref zm_y22, .ref zm_y23, .ref zm_y24, .ref zm_y25, .int 0, .ref zm_y26, .ref zm_y27, .ref zm_y28, .int 0, .int 0, .int 0, .ref zm_y29, .ref zm_y30, .ref zm_y31, .ref zm_y32, .int 0, .int 0, .long 0, .int 0, .int 0, .int 0, .int 0, .int 0, .int 0]))]) [0] (by decide) rfl
    have hKc := hK.sub (tys' := []) [] rfl
    have hFc := va_free (wc := [(zm, .inr (12, [.int 0, .ref zm_y0, .int 0, .int 0, .int 0, .int 0, .ref zm_y1, .ref zm_y2, .ref zm_y3, .ref zm_y4, .ref zm_y5, .ref zm_y6, .ref zm_y7, .int 0, .int 0, .ref zm_y8, .ref zm_y9, .int 0, .int 0, .int 0, .int 0, .ref zm_y10, .ref zm_y11, .int 0, .int 0, .int 0, .int 0, .int 0, .ref zm_y12, .ref zm_y13, .ref zm_y14, .ref zm_y15, .int 0, .ref zm_y16, .ref zm_y17, .ref zm_y18, .int (-1), .int (-1), .int (-1), .int 0, .int 0, .int 0, .ref zm_y19, .ref zm_y20, .int 0, .ref zm_y21, .ref zm_y22, .ref zm_y23, .ref zm_y24, .ref zm_y25, .int 0, .ref zm_y26, .ref zm_y27, .ref zm_y28, .int 0, .int 0, .int 0, .ref zm_y29, .ref zm_y30, .ref zm_y31, .ref zm_y32, .int 0, .int 0, .long 0, .int 0, .int 0, .int 0, .int 0, .int 0, .int 0]))]) hD hS hA [0] rfl
    refine va_calli (va_runV (As := [.int x_2, .int x_4]) (rest := [.int 1]) ⟨hx, hb, hml, hown, hts⟩ (zk_X12_law_t l dC dI (zm) (x_2) (x_4) (zm_y0) (zm_y1) (zm_y2) (zm_y3) (zm_y4) (zm_y5) (zm_y6) (zm_y7) (zm_y8) (zm_y9) (zm_y10) (zm_y11) (zm_y12) (zm_y13) (zm_y14) (zm_y15) (zm_y16) (zm_y17) (zm_y18) (zm_y19) (zm_y20) (zm_y21) (zm_y22) (zm_y23) (zm_y24) (zm_y25) (zm_y26) (zm_y27) (zm_y28) (zm_y29) (zm_y30) (zm_y31) (zm_y32) H.size) (cwV 2 hts gL_law_X12_law rfl rfl rfl (by decide +kernel) ⟨Nat.le_of_ble_eq_true rfl, Nat.le_of_ble_eq_true rfl⟩) ⟨zw_blind, va_recv hK hP (ci := 12) (q0 := 0) rfl rfl, fun U hU hW => ⟨rfl, zw_P.of hPc hKc hDc hN U hU hW⟩⟩ rfl rfl hl.1 rfl (lv_room (Nat.le_of_ble_eq_true rfl)) dL_law_341 ⟨Nat.le_of_ble_eq_true rfl, Nat.le_of_ble_eq_true rfl⟩) hS (fun q _ h => hFc q h) hFc (fun r_123 u t H1 locs ht hvm hw hB hz1 hk1 hS => ?_)
    obtain ⟨hP1, hK1, hD1⟩ := hB
    rw [ht] at hP1
    obtain ⟨hP, hD⟩ := va_join (wr := []) (w1 := []) hP hD [0] [] rfl rfl (by decide) (by decide) hk1 hFc hP1 hD1
    generalize H1 = H at hP hS ⊢
    have hP : va_P (dC, dI) classes [] H := hP
    have hD : va_D (fun q : Nat => s.heap.size ≤ q) [] := hD
    rcases hw with ⟨c_124, rfl⟩ | ⟨c_125, c_126, rfl⟩ | ⟨c_127, c_128, c_129, c_130, c_131, rfl⟩ | ⟨c_132, c_133, c_134, c_135, c_136, rfl⟩ | ⟨c_137, c_138, c_139, rfl⟩
    · skip
      have d_c_18 := (not_congr zz_lt).mp c_18
      have d_c_19 := (not_congr zz_lt).mp c_19
      have d_c_20 := (not_congr zz_lt).mp c_20
      have d_c_21 := zz_lt.mp c_21
      have d_c_22 := zz_eq.mp c_22
      have d_c_124 := zz_lt.mp c_124
      have ez_0 : (0 : Int32).toInt = 0 := by decide
      have ez_1 : (1 : Int32).toInt = 1 := by decide
      have ez_2 : ((-1) : Int32).toInt = -1 := by decide
      exact absurd (show False by omega) id
    · skip
      have d_c_18 := (not_congr zz_lt).mp c_18
      have d_c_19 := (not_congr zz_lt).mp c_19
      have d_c_20 := (not_congr zz_lt).mp c_20
      have d_c_21 := zz_lt.mp c_21
      have d_c_22 := zz_eq.mp c_22
      have d_c_125 := (not_congr zz_lt).mp c_125
      have d_c_126 := zz_lt.mp c_126
      have ez_0 : (0 : Int32).toInt = 0 := by decide
      have ez_1 : (1 : Int32).toInt = 1 := by decide
      have ez_2 : ((-1) : Int32).toInt = -1 := by decide
      exact absurd (show False by omega) id
    · skip
      refine lv_icmp_eq (tgt := 1170) hx hb dL_law_344 (by decide) (fun _ => ?_) (fun c9 => absurd (by decide) c9)
      refine lv_iinc (v := 6) (lv' := [(4, .int 6), (0, .ref b), (1, .ref zx), (2, .ref zm), (3, .ref zo)]) hx hb dL_law_1170 hl (k := 4) rfl (by decide) (by decide) rfl (fun ls hl => ?_)
      refine lv_goto (tgt := 23) hx hb dL_law_1173 (by decide) ?_
      refine lv_iload hx hb dL_law_23 (lv_at hl 0 rfl) ?_
      refine lv_aload_n hx hb dL_law_25 rfl (lv_at hl 1 rfl) ?_
      refine va_slen hx hb hX hbl hbA hS dL_law_26 ?_
      refine lv_topi (fun x_140 ex_140 => ?_)
      have ex_140 : x_140 = 6 := ex_140.trans (by decide)
      subst ex_140
      refine lv_bipush (v := 6) hx hb dL_law_27 (by decide) ?_
      refine lv_isub hx hb dL_law_29 ?_
      refine lv_topi (fun x_141 ex_141 => ?_)
      have ex_141 : x_141 = 0 := ex_141.trans (by decide)
      subst ex_141
      refine lv_icmp_gt (tgt := 1176) hx hb dL_law_30 (by decide) (fun _ => ?_) (fun c9 => absurd (by decide) c9)
      refine lv_iconst (v := 1) hx hb dL_law_1176 (by decide) ?_
      refine va_forget (fun q hq => hS.2.2 q hq) ?_
      refine W.widen (k := 600002) (n := 7302232) (Nat.le_of_ble_eq_true rfl) (Nat.le_of_ble_eq_true rfl) ?_
      exact lw_ret hx hb hr hlocks dL_law_1177
    · skip
      have d_c_18 := (not_congr zz_lt).mp c_18
      have d_c_19 := (not_congr zz_lt).mp c_19
      have d_c_20 := (not_congr zz_lt).mp c_20
      have d_c_21 := zz_lt.mp c_21
      have d_c_22 := zz_eq.mp c_22
      have d_c_132 := (not_congr zz_lt).mp c_132
      have d_c_133 := (not_congr zz_lt).mp c_133
      have d_c_134 := zz_eq.mp c_134
      have d_c_135 := zz_eq.mp c_135
      have d_c_136 := (not_congr zz_eq).mp c_136
      have ez_0 : (0 : Int32).toInt = 0 := by decide
      have ez_1 : (1 : Int32).toInt = 1 := by decide
      have ez_2 : ((-1) : Int32).toInt = -1 := by decide
      exact absurd (show False by omega) id
    · skip
      have d_c_18 := (not_congr zz_lt).mp c_18
      have d_c_19 := (not_congr zz_lt).mp c_19
      have d_c_20 := (not_congr zz_lt).mp c_20
      have d_c_21 := zz_lt.mp c_21
      have d_c_22 := zz_eq.mp c_22
      have d_c_137 := (not_congr zz_lt).mp c_137
      have d_c_138 := (not_congr zz_lt).mp c_138
      have d_c_139 := (not_congr zz_eq).mp c_139
      have ez_0 : (0 : Int32).toInt = 0 := by decide
      have ez_1 : (1 : Int32).toInt = 1 := by decide
      have ez_2 : ((-1) : Int32).toInt = -1 := by decide
      exact absurd (show False by omega) id
  · skip
    refine lv_aload_n hx hb dL_law_328 rfl (lv_at hl 2 rfl) ?_
    refine lv_aload_n hx hb dL_law_329 rfl (lv_at hl 0 rfl) ?_
    refine lv_iload hx hb dL_law_330 (lv_at hl 4 rfl) ?_
    refine lv_iconst (v := 1) hx hb dL_law_332 (by decide) ?_
    refine lv_iadd hx hb dL_law_333 ?_
    refine lv_topi (fun x_142 ex_142 => ?_)
    have ex_142 : x_142 = 1 := ex_142.trans (by decide)
    subst ex_142
    refine va_sld hx hb hX hbl hbA hS (vp_in_iff.mpr ⟨by decide, by decide⟩) dL_law_334 ?_
    refine lv_topi (fun x_143 ex_143 => ?_)
    have ex_143 : x_2 = x_143 := ex_2.trans ex_143.symm
    subst ex_143
    refine lv_aload_n hx hb dL_law_335 rfl (lv_at hl 0 rfl) ?_
    refine lv_iload hx hb dL_law_336 (lv_at hl 4 rfl) ?_
    refine lv_iconst (v := 2) hx hb dL_law_338 (by decide) ?_
    refine lv_iadd hx hb dL_law_339 ?_
    refine lv_topi (fun x_144 ex_144 => ?_)
    have ex_144 : x_144 = 2 := ex_144.trans (by decide)
    subst ex_144
    refine va_sld hx hb hX hbl hbA hS (vp_in_iff.mpr ⟨by decide, by decide⟩) dL_law_340 ?_
    refine lv_topi (fun x_145 ex_145 => ?_)
    have ex_145 : x_4 = x_145 := ex_4.trans ex_145.symm
    subst ex_145
    have hPc := hP.sub (ws' := [(zm, .inr (12, [.int 0, .ref zm_y0, .int 0, .int 0, .int 0, .int 0, .ref zm_y1, .ref zm_y2, .ref zm_y3, .ref zm_y4, .ref zm_y5, .ref zm_y6, .ref zm_y7, .int 0, .int 0, .ref zm_y8, .ref zm_y9, .int 0, .int 0, .int 0, .int 0, .ref zm_y10, .ref zm_y11, .int 0, .int 0, .int 0, .int 0, .int 0, .ref zm_y12, .ref zm_y13, .ref zm_y14, .ref zm_y15, .int 0, .ref zm_y16, .ref zm_y17, .ref zm_y18, .int (-1), .int (-1), .int (-1), .int 0, .int 0, .int 0, .ref zm_y19, .ref zm_y20, .int 0, .ref zm_y21, .ref zm_y22, .ref zm_y23, .ref zm_y24, .ref zm_y25, .int 0, .ref zm_y26, .ref zm_y27, .ref zm_y28, .int 0, .int 0, .int 0, .ref zm_y29, .ref zm_y30, .ref zm_y31, .ref zm_y32, .int 0, .int 0, .long 0, .int 0, .int 0, .int 0, .int 0, .int 0, .int 0]))]) [0] rfl
    have hDc := hD.sub (ws' := [(zm, .inr (12, [.int 0, .ref zm_y0, .int 0, .int 0, .int 0, .int 0, .ref zm_y1, .ref zm_y2, .ref zm_y3, .ref zm_y4, .ref zm_y5, .ref zm_y6, .ref zm_y7, .int 0, .int 0, .ref zm_y8, .ref zm_y9, .int 0, .int 0, .int 0, .int 0, .ref zm_y10, .ref zm_y11, .int 0, .int 0, .int 0, .int 0, .int 0, .ref zm_y12, .ref zm_y13, .ref zm_y14, .ref zm_y15, .int 0, .ref zm_y16, .ref zm_y17, .ref zm_y18, .int (-1), .int (-1), .int (-1), .int 0, .int 0, .int 0, .ref zm_y19, .ref zm_y20, .int 0, .ref zm_y21, .ref zm_y22, .ref zm_y23, .ref zm_y24, .ref zm_y25, .int 0, .ref zm_y26, .ref zm_y27, .ref zm_y28, .int 0, .int 0, .int 0, .ref zm_y29, .ref zm_y30, .ref zm_y31, .ref zm_y32, .int 0, .int 0, .long 0, .int 0, .int 0, .int 0, .int 0, .int 0, .int 0]))]) [0] (by decide) rfl
    have hKc := hK.sub (tys' := []) [] rfl
    have hFc := va_free (wc := [(zm, .inr (12, [.int 0, .ref zm_y0, .int 0, .int 0, .int 0, .int 0, .ref zm_y1, .ref zm_y2, .ref zm_y3, .ref zm_y4, .ref zm_y5, .ref zm_y6, .ref zm_y7, .int 0, .int 0, .ref zm_y8, .ref zm_y9, .int 0, .int 0, .int 0, .int 0, .ref zm_y10, .ref zm_y11, .int 0, .int 0, .int 0, .int 0, .int 0, .ref zm_y12, .ref zm_y13, .ref zm_y14, .ref zm_y15, .int 0, .ref zm_y16, .ref zm_y17, .ref zm_y18, .int (-1), .int (-1), .int (-1), .int 0, .int 0, .int 0, .ref zm_y19, .ref zm_y20, .int 0, .ref zm_y21, .ref zm_y22, .ref zm_y23, .ref zm_y24, .ref zm_y25, .int 0, .ref zm_y26, .ref zm_y27, .ref zm_y28, .int 0, .int 0, .int 0, .ref zm_y29, .ref zm_y30, .ref zm_y31, .ref zm_y32, .int 0, .int 0, .long 0, .int 0, .int 0, .int 0, .int 0, .int 0, .int 0]))]) hD hS hA [0] rfl
    refine va_calli (va_runV (As := [.int x_2, .int x_4]) (rest := [.int 0]) ⟨hx, hb, hml, hown, hts⟩ (zk_X12_law_t l dC dI (zm) (x_2) (x_4) (zm_y0) (zm_y1) (zm_y2) (zm_y3) (zm_y4) (zm_y5) (zm_y6) (zm_y7) (zm_y8) (zm_y9) (zm_y10) (zm_y11) (zm_y12) (zm_y13) (zm_y14) (zm_y15) (zm_y16) (zm_y17) (zm_y18) (zm_y19) (zm_y20) (zm_y21) (zm_y22) (zm_y23) (zm_y24) (zm_y25) (zm_y26) (zm_y27) (zm_y28) (zm_y29) (zm_y30) (zm_y31) (zm_y32) H.size) (cwV 2 hts gL_law_X12_law rfl rfl rfl (by decide +kernel) ⟨Nat.le_of_ble_eq_true rfl, Nat.le_of_ble_eq_true rfl⟩) ⟨zw_blind, va_recv hK hP (ci := 12) (q0 := 0) rfl rfl, fun U hU hW => ⟨rfl, zw_P.of hPc hKc hDc hN U hU hW⟩⟩ rfl rfl hl.1 rfl (lv_room (Nat.le_of_ble_eq_true rfl)) dL_law_341 ⟨Nat.le_of_ble_eq_true rfl, Nat.le_of_ble_eq_true rfl⟩) hS (fun q _ h => hFc q h) hFc (fun r_146 u t H1 locs ht hvm hw hB hz1 hk1 hS => ?_)
    obtain ⟨hP1, hK1, hD1⟩ := hB
    rw [ht] at hP1
    obtain ⟨hP, hD⟩ := va_join (wr := []) (w1 := []) hP hD [0] [] rfl rfl (by decide) (by decide) hk1 hFc hP1 hD1
    generalize H1 = H at hP hS ⊢
    have hP : va_P (dC, dI) classes [] H := hP
    have hD : va_D (fun q : Nat => s.heap.size ≤ q) [] := hD
    rcases hw with ⟨c_147, rfl⟩ | ⟨c_148, c_149, rfl⟩ | ⟨c_150, c_151, c_152, c_153, c_154, rfl⟩ | ⟨c_155, c_156, c_157, c_158, c_159, rfl⟩ | ⟨c_160, c_161, c_162, rfl⟩
    · skip
      have d_c_23 := (not_congr zz_lt).mp c_23
      have d_c_24 := (not_congr zz_lt).mp c_24
      have d_c_25 := (not_congr zz_lt).mp c_25
      have d_c_26 := (not_congr zz_lt).mp c_26
      have d_c_147 := zz_lt.mp c_147
      have ez_0 : (0 : Int32).toInt = 0 := by decide
      have ez_1 : (1 : Int32).toInt = 1 := by decide
      have ez_2 : ((-1) : Int32).toInt = -1 := by decide
      exact absurd (show False by omega) id
    · skip
      have d_c_23 := (not_congr zz_lt).mp c_23
      have d_c_24 := (not_congr zz_lt).mp c_24
      have d_c_25 := (not_congr zz_lt).mp c_25
      have d_c_26 := (not_congr zz_lt).mp c_26
      have d_c_148 := (not_congr zz_lt).mp c_148
      have d_c_149 := zz_lt.mp c_149
      have ez_0 : (0 : Int32).toInt = 0 := by decide
      have ez_1 : (1 : Int32).toInt = 1 := by decide
      have ez_2 : ((-1) : Int32).toInt = -1 := by decide
      exact absurd (show False by omega) id
    · skip
      have d_c_23 := (not_congr zz_lt).mp c_23
      have d_c_24 := (not_congr zz_lt).mp c_24
      have d_c_25 := (not_congr zz_lt).mp c_25
      have d_c_26 := (not_congr zz_lt).mp c_26
      have d_c_150 := (not_congr zz_lt).mp c_150
      have d_c_151 := (not_congr zz_lt).mp c_151
      have d_c_152 := zz_eq.mp c_152
      have d_c_153 := (not_congr zz_eq).mp c_153
      have d_c_154 := zz_eq.mp c_154
      have ez_0 : (0 : Int32).toInt = 0 := by decide
      have ez_1 : (1 : Int32).toInt = 1 := by decide
      have ez_2 : ((-1) : Int32).toInt = -1 := by decide
      exact absurd (show False by omega) id
    · skip
      have d_c_23 := (not_congr zz_lt).mp c_23
      have d_c_24 := (not_congr zz_lt).mp c_24
      have d_c_25 := (not_congr zz_lt).mp c_25
      have d_c_26 := (not_congr zz_lt).mp c_26
      have d_c_155 := (not_congr zz_lt).mp c_155
      have d_c_156 := (not_congr zz_lt).mp c_156
      have d_c_157 := zz_eq.mp c_157
      have d_c_158 := zz_eq.mp c_158
      have d_c_159 := (not_congr zz_eq).mp c_159
      have ez_0 : (0 : Int32).toInt = 0 := by decide
      have ez_1 : (1 : Int32).toInt = 1 := by decide
      have ez_2 : ((-1) : Int32).toInt = -1 := by decide
      exact absurd (show False by omega) id
    · skip
      refine lv_icmp_eq (tgt := 1170) hx hb dL_law_344 (by decide) (fun _ => ?_) (fun c9 => absurd (by decide) c9)
      refine lv_iinc (v := 6) (lv' := [(4, .int 6), (0, .ref b), (1, .ref zx), (2, .ref zm), (3, .ref zo)]) hx hb dL_law_1170 hl (k := 4) rfl (by decide) (by decide) rfl (fun ls hl => ?_)
      refine lv_goto (tgt := 23) hx hb dL_law_1173 (by decide) ?_
      refine lv_iload hx hb dL_law_23 (lv_at hl 0 rfl) ?_
      refine lv_aload_n hx hb dL_law_25 rfl (lv_at hl 1 rfl) ?_
      refine va_slen hx hb hX hbl hbA hS dL_law_26 ?_
      refine lv_topi (fun x_163 ex_163 => ?_)
      have ex_163 : x_163 = 6 := ex_163.trans (by decide)
      subst ex_163
      refine lv_bipush (v := 6) hx hb dL_law_27 (by decide) ?_
      refine lv_isub hx hb dL_law_29 ?_
      refine lv_topi (fun x_164 ex_164 => ?_)
      have ex_164 : x_164 = 0 := ex_164.trans (by decide)
      subst ex_164
      refine lv_icmp_gt (tgt := 1176) hx hb dL_law_30 (by decide) (fun _ => ?_) (fun c9 => absurd (by decide) c9)
      refine lv_iconst (v := 1) hx hb dL_law_1176 (by decide) ?_
      refine va_forget (fun q hq => hS.2.2 q hq) ?_
      refine W.widen (k := 600002) (n := 7302232) (Nat.le_of_ble_eq_true rfl) (Nat.le_of_ble_eq_true rfl) ?_
      exact lw_ret hx hb hr hlocks dL_law_1177
set_option maxHeartbeats 8000000 in
set_option maxRecDepth 100000 in
theorem zl_6 {p : Program} {e : Env} {s : State} {m : MethodId} {below : List Frame} {meth : Method} {c : Code} (l : Launch) {b : Nat} {xs : Nat → Int32} (C0 : lw_At p s m meth c b 6 xs) (dC : Nat → ClassId) (dI : Nat → Nat → Nat) (zx : Nat) (zx_y0 : Nat) (zx_y1 : Nat) (zx_y2 : Nat) (zx_y3 : Nat) (zx_y4 : Nat) (zx_y5 : Nat) (zx_y6 : Nat) (zx_y7 : Nat) (zx_y8 : Nat) (zx_y9 : Nat) (zx_y10 : Nat) (zx_y11 : Nat) (zx_y12 : Nat) (zx_y13 : Nat) (zx_y16 : Nat) (zx_y17 : Nat) (zx_y18 : Nat) (zx_y19 : Nat) (zx_y20 : Nat) (zx_y21 : Nat) (zm : Nat) (zm_y0 : Nat) (zm_y1 : Nat) (zm_y2 : Nat) (zm_y3 : Nat) (zm_y4 : Nat) (zm_y5 : Nat) (zm_y6 : Nat) (zm_y7 : Nat) (zm_y8 : Nat) (zm_y9 : Nat) (zm_y10 : Nat) (zm_y11 : Nat) (zm_y12 : Nat) (zm_y13 : Nat) (zm_y14 : Nat) (zm_y15 : Nat) (zm_y16 : Nat) (zm_y17 : Nat) (zm_y18 : Nat) (zm_y19 : Nat) (zm_y20 : Nat) (zm_y21 : Nat) (zm_y22 : Nat) (zm_y23 : Nat) (zm_y24 : Nat) (zm_y25 : Nat) (zm_y26 : Nat) (zm_y27 : Nat) (zm_y28 : Nat) (zm_y29 : Nat) (zm_y30 : Nat) (zm_y31 : Nat) (zm_y32 : Nat) (zo : Nat) {H : Heap} {locs : List Loc} (hN : zw_N s) (hK : va_K (dC, dI) classes [] s) (hP : va_P (dC, dI) classes [(zx, .inr (11, [.ref zx_y0, .ref zx_y1, .ref zx_y2, .ref zx_y3, .ref zx_y4, .ref zx_y5, .ref zx_y6, .ref zx_y7, .ref zx_y8, .ref zx_y9, .ref zx_y10, .ref zx_y11, .ref zx_y12, .ref zx_y13, .int 0, .int 0])), (zx_y1, .inr (6, [.ref zx_y16, .ref zx_y17, .ref zx_y18, .ref zx_y19, .int 0, .int (-1), .int (-1)])), (zx_y19, .inr (0, [.ref zx_y20, .ref zx_y21, .int 0, .int 0, .int 0, .int 0, .int 0])), (zm, .inr (12, [.int 0, .ref zm_y0, .int 0, .int 0, .int 0, .int 0, .ref zm_y1, .ref zm_y2, .ref zm_y3, .ref zm_y4, .ref zm_y5, .ref zm_y6, .ref zm_y7, .int 0, .int 0, .ref zm_y8, .ref zm_y9, .int 0, .int 0, .int 0, .int 0, .ref zm_y10, .ref zm_y11, .int 0, .int 0, .int 0, .int 0, .int 0, .ref zm_y12, .ref zm_y13, .ref zm_y14, .ref zm_y15, .int 0, .ref zm_y16, .ref zm_y17, .ref zm_y18, .int (-1), .int (-1), .int (-1), .int 0, .int 0, .int 0, .ref zm_y19, .ref zm_y20, .int 0, .ref zm_y21, .ref zm_y22, .ref zm_y23, .ref zm_y24, .ref zm_y25, .int 0, .ref zm_y26, .ref zm_y27, .ref zm_y28, .int 0, .int 0, .int 0, .ref zm_y29, .ref zm_y30, .ref zm_y31, .ref zm_y32, .int 0, .int 0, .long 0, .int 0, .int 0, .int 0, .int 0, .int 0, .int 0]))] H) (hD : va_D (fun q : Nat => s.heap.size ≤ q) [(zx, .inr (11, [.ref zx_y0, .ref zx_y1, .ref zx_y2, .ref zx_y3, .ref zx_y4, .ref zx_y5, .ref zx_y6, .ref zx_y7, .ref zx_y8, .ref zx_y9, .ref zx_y10, .ref zx_y11, .ref zx_y12, .ref zx_y13, .int 0, .int 0])), (zx_y1, .inr (6, [.ref zx_y16, .ref zx_y17, .ref zx_y18, .ref zx_y19, .int 0, .int (-1), .int (-1)])), (zx_y19, .inr (0, [.ref zx_y20, .ref zx_y21, .int 0, .int 0, .int 0, .int 0, .int 0])), (zm, .inr (12, [.int 0, .ref zm_y0, .int 0, .int 0, .int 0, .int 0, .ref zm_y1, .ref zm_y2, .ref zm_y3, .ref zm_y4, .ref zm_y5, .ref zm_y6, .ref zm_y7, .int 0, .int 0, .ref zm_y8, .ref zm_y9, .int 0, .int 0, .int 0, .int 0, .ref zm_y10, .ref zm_y11, .int 0, .int 0, .int 0, .int 0, .int 0, .ref zm_y12, .ref zm_y13, .ref zm_y14, .ref zm_y15, .int 0, .ref zm_y16, .ref zm_y17, .ref zm_y18, .int (-1), .int (-1), .int (-1), .int 0, .int 0, .int 0, .ref zm_y19, .ref zm_y20, .int 0, .ref zm_y21, .ref zm_y22, .ref zm_y23, .ref zm_y24, .ref zm_y25, .int 0, .ref zm_y26, .ref zm_y27, .ref zm_y28, .int 0, .int 0, .int 0, .ref zm_y29, .ref zm_y30, .ref zm_y31, .ref zm_y32, .int 0, .int 0, .long 0, .int 0, .int 0, .int 0, .int 0, .int 0, .int 0]))]) (hS : va_S (fun q : Nat => s.heap.size ≤ q) s.heap H locs) (ls : Array Slot) (hl : lv_has ls 7 [(0, .ref b), (1, .ref zx), (2, .ref zm), (3, .ref zo), (4, .int 0)]) : W p l e room_1 s m #[Value.ref b] below meth c H locs 99 952984 (lw_Z below #[Value.ref b] s) (F0 m 405 ls []) := by
  obtain ⟨hx, hb, hr, hml, hown, hts0, hX, hbl, hlocks, hgv⟩ := C0
  have hts : ∀ w ∈ wsL_law, w.before #[Value.ref b] s = true := fun w h => hts0 w (wsL_law_in w h)
  have hA : ∀ q : Nat, s.heap.size ≤ q → (fun q : Nat => s.heap.size ≤ q) q := fun _ h => h
  have hbA : ¬ (fun q : Nat => s.heap.size ≤ q) b := Nat.not_le.mpr hbl
  refine lv_aload_n hx hb dL_law_405 rfl (lv_at hl 1 rfl) ?_
  refine lv_aload_n hx hb dL_law_406 rfl (lv_at hl 0 rfl) ?_
  refine lv_iload hx hb dL_law_407 (lv_at hl 4 rfl) ?_
  refine lv_iconst (v := 1) hx hb dL_law_409 (by decide) ?_
  refine lv_iadd hx hb dL_law_410 ?_
  refine lv_topi (fun x_1 ex_1 => ?_)
  have ex_1 : x_1 = 1 := ex_1.trans (by decide)
  subst ex_1
  refine va_sld hx hb hX hbl hbA hS (vp_in_iff.mpr ⟨by decide, by decide⟩) dL_law_411 ?_
  refine lv_topi (fun x_2 ex_2 => ?_)
  have hPc := hP.sub (ws' := [(zx, .inr (11, [.ref zx_y0, .ref zx_y1, .ref zx_y2, .ref zx_y3, .ref zx_y4, .ref zx_y5, .ref zx_y6, .ref zx_y7, .ref zx_y8, .ref zx_y9, .ref zx_y10, .ref zx_y11, .ref zx_y12, .ref zx_y13, .int 0, .int 0])), (zx_y1, .inr (6, [.ref zx_y16, .ref zx_y17, .ref zx_y18, .ref zx_y19, .int 0, .int (-1), .int (-1)])), (zx_y19, .inr (0, [.ref zx_y20, .ref zx_y21, .int 0, .int 0, .int 0, .int 0, .int 0]))]) [0, 1, 2] rfl
  have hDc := hD.sub (ws' := [(zx, .inr (11, [.ref zx_y0, .ref zx_y1, .ref zx_y2, .ref zx_y3, .ref zx_y4, .ref zx_y5, .ref zx_y6, .ref zx_y7, .ref zx_y8, .ref zx_y9, .ref zx_y10, .ref zx_y11, .ref zx_y12, .ref zx_y13, .int 0, .int 0])), (zx_y1, .inr (6, [.ref zx_y16, .ref zx_y17, .ref zx_y18, .ref zx_y19, .int 0, .int (-1), .int (-1)])), (zx_y19, .inr (0, [.ref zx_y20, .ref zx_y21, .int 0, .int 0, .int 0, .int 0, .int 0]))]) [0, 1, 2] (by decide) rfl
  have hKc := hK.sub (tys' := []) [] rfl
  have hFc := va_free (wc := [(zx, .inr (11, [.ref zx_y0, .ref zx_y1, .ref zx_y2, .ref zx_y3, .ref zx_y4, .ref zx_y5, .ref zx_y6, .ref zx_y7, .ref zx_y8, .ref zx_y9, .ref zx_y10, .ref zx_y11, .ref zx_y12, .ref zx_y13, .int 0, .int 0])), (zx_y1, .inr (6, [.ref zx_y16, .ref zx_y17, .ref zx_y18, .ref zx_y19, .int 0, .int (-1), .int (-1)])), (zx_y19, .inr (0, [.ref zx_y20, .ref zx_y21, .int 0, .int 0, .int 0, .int 0, .int 0]))]) hD hS hA [0, 1, 2] rfl
  refine va_calli (va_runV (As := [.int x_2]) (rest := []) ⟨hx, hb, hml, hown, hts⟩ (zk_X11_set_t l dC dI (zx) (x_2) (zx_y0) (zx_y1) (zx_y2) (zx_y3) (zx_y4) (zx_y5) (zx_y6) (zx_y7) (zx_y8) (zx_y9) (zx_y10) (zx_y11) (zx_y12) (zx_y13) (zx_y16) (zx_y17) (zx_y18) (zx_y19) (zx_y20) (zx_y21) H.size) (cwV 1 hts gL_law_X11_set rfl rfl rfl (by decide +kernel) ⟨Nat.le_of_ble_eq_true rfl, Nat.le_of_ble_eq_true rfl⟩) ⟨zw_blind, va_recv hK hP (ci := 11) (q0 := 0) rfl rfl, fun U hU hW => ⟨rfl, zw_P.of hPc hKc hDc hN U hU hW⟩⟩ rfl rfl hl.1 rfl (lv_room (Nat.le_of_ble_eq_true rfl)) dL_law_412 ⟨Nat.le_of_ble_eq_true rfl, Nat.le_of_ble_eq_true rfl⟩) hS (fun q _ h => hFc q h) hFc (fun r_3 u t H1 locs ht hvm hw hB hz1 hk1 hS => ?_)
  obtain ⟨hP1, hK1, hD1⟩ := hB
  rw [ht] at hP1
  obtain ⟨hP, hD⟩ := va_join (wr := [(zm, .inr (12, [.int 0, .ref zm_y0, .int 0, .int 0, .int 0, .int 0, .ref zm_y1, .ref zm_y2, .ref zm_y3, .ref zm_y4, .ref zm_y5, .ref zm_y6, .ref zm_y7, .int 0, .int 0, .ref zm_y8, .ref zm_y9, .int 0, .int 0, .int 0, .int 0, .ref zm_y10, .ref zm_y11, .int 0, .int 0, .int 0, .int 0, .int 0, .ref zm_y12, .ref zm_y13, .ref zm_y14, .ref zm_y15, .int 0, .ref zm_y16, .ref zm_y17, .ref zm_y18, .int (-1), .int (-1), .int (-1), .int 0, .int 0, .int 0, .ref zm_y19, .ref zm_y20, .int 0, .ref zm_y21, .ref zm_y22, .ref zm_y23, .ref zm_y24, .ref zm_y25, .int 0, .ref zm_y26, .ref zm_y27, .ref zm_y28, .int 0, .int 0, .int 0, .ref zm_y29, .ref zm_y30, .ref zm_y31, .ref zm_y32, .int 0, .int 0, .long 0, .int 0, .int 0, .int 0, .int 0, .int 0, .int 0]))]) (w1 := []) hP hD [0, 1, 2] [3] rfl rfl (by decide) (by decide) hk1 hFc hP1 hD1
  generalize H1 = H at hP hS ⊢
  have hP : va_P (dC, dI) classes [(zm, .inr (12, [.int 0, .ref zm_y0, .int 0, .int 0, .int 0, .int 0, .ref zm_y1, .ref zm_y2, .ref zm_y3, .ref zm_y4, .ref zm_y5, .ref zm_y6, .ref zm_y7, .int 0, .int 0, .ref zm_y8, .ref zm_y9, .int 0, .int 0, .int 0, .int 0, .ref zm_y10, .ref zm_y11, .int 0, .int 0, .int 0, .int 0, .int 0, .ref zm_y12, .ref zm_y13, .ref zm_y14, .ref zm_y15, .int 0, .ref zm_y16, .ref zm_y17, .ref zm_y18, .int (-1), .int (-1), .int (-1), .int 0, .int 0, .int 0, .ref zm_y19, .ref zm_y20, .int 0, .ref zm_y21, .ref zm_y22, .ref zm_y23, .ref zm_y24, .ref zm_y25, .int 0, .ref zm_y26, .ref zm_y27, .ref zm_y28, .int 0, .int 0, .int 0, .ref zm_y29, .ref zm_y30, .ref zm_y31, .ref zm_y32, .int 0, .int 0, .long 0, .int 0, .int 0, .int 0, .int 0, .int 0, .int 0]))] H := hP
  have hD : va_D (fun q : Nat => s.heap.size ≤ q) [(zm, .inr (12, [.int 0, .ref zm_y0, .int 0, .int 0, .int 0, .int 0, .ref zm_y1, .ref zm_y2, .ref zm_y3, .ref zm_y4, .ref zm_y5, .ref zm_y6, .ref zm_y7, .int 0, .int 0, .ref zm_y8, .ref zm_y9, .int 0, .int 0, .int 0, .int 0, .ref zm_y10, .ref zm_y11, .int 0, .int 0, .int 0, .int 0, .int 0, .ref zm_y12, .ref zm_y13, .ref zm_y14, .ref zm_y15, .int 0, .ref zm_y16, .ref zm_y17, .ref zm_y18, .int (-1), .int (-1), .int (-1), .int 0, .int 0, .int 0, .ref zm_y19, .ref zm_y20, .int 0, .ref zm_y21, .ref zm_y22, .ref zm_y23, .ref zm_y24, .ref zm_y25, .int 0, .ref zm_y26, .ref zm_y27, .ref zm_y28, .int 0, .int 0, .int 0, .ref zm_y29, .ref zm_y30, .ref zm_y31, .ref zm_y32, .int 0, .int 0, .long 0, .int 0, .int 0, .int 0, .int 0, .int 0, .int 0]))] := hD
  obtain rfl : r_3 = 0 := hw
  refine lv_aload_n hx hb dL_law_415 rfl (lv_at hl 2 rfl) ?_
  refine lv_aload_n hx hb dL_law_416 rfl (lv_at hl 0 rfl) ?_
  refine lv_iload hx hb dL_law_417 (lv_at hl 4 rfl) ?_
  refine lv_iconst (v := 1) hx hb dL_law_419 (by decide) ?_
  refine lv_iadd hx hb dL_law_420 ?_
  refine lv_topi (fun x_4 ex_4 => ?_)
  have ex_4 : x_4 = 1 := ex_4.trans (by decide)
  subst ex_4
  refine va_sld hx hb hX hbl hbA hS (vp_in_iff.mpr ⟨by decide, by decide⟩) dL_law_421 ?_
  refine lv_topi (fun x_5 ex_5 => ?_)
  have ex_5 : x_2 = x_5 := ex_2.trans ex_5.symm
  subst ex_5
  have hPc := hP.sub (ws' := [(zm, .inr (12, [.int 0, .ref zm_y0, .int 0, .int 0, .int 0, .int 0, .ref zm_y1, .ref zm_y2, .ref zm_y3, .ref zm_y4, .ref zm_y5, .ref zm_y6, .ref zm_y7, .int 0, .int 0, .ref zm_y8, .ref zm_y9, .int 0, .int 0, .int 0, .int 0, .ref zm_y10, .ref zm_y11, .int 0, .int 0, .int 0, .int 0, .int 0, .ref zm_y12, .ref zm_y13, .ref zm_y14, .ref zm_y15, .int 0, .ref zm_y16, .ref zm_y17, .ref zm_y18, .int (-1), .int (-1), .int (-1), .int 0, .int 0, .int 0, .ref zm_y19, .ref zm_y20, .int 0, .ref zm_y21, .ref zm_y22, .ref zm_y23, .ref zm_y24, .ref zm_y25, .int 0, .ref zm_y26, .ref zm_y27, .ref zm_y28, .int 0, .int 0, .int 0, .ref zm_y29, .ref zm_y30, .ref zm_y31, .ref zm_y32, .int 0, .int 0, .long 0, .int 0, .int 0, .int 0, .int 0, .int 0, .int 0]))]) [0] rfl
  have hDc := hD.sub (ws' := [(zm, .inr (12, [.int 0, .ref zm_y0, .int 0, .int 0, .int 0, .int 0, .ref zm_y1, .ref zm_y2, .ref zm_y3, .ref zm_y4, .ref zm_y5, .ref zm_y6, .ref zm_y7, .int 0, .int 0, .ref zm_y8, .ref zm_y9, .int 0, .int 0, .int 0, .int 0, .ref zm_y10, .ref zm_y11, .int 0, .int 0, .int 0, .int 0, .int 0, .ref zm_y12, .ref zm_y13, .ref zm_y14, .ref zm_y15, .int 0, .ref zm_y16, .ref zm_y17, .ref zm_y18, .int (-1), .int (-1), .int (-1), .int 0, .int 0, .int 0, .ref zm_y19, .ref zm_y20, .int 0, .ref zm_y21, .ref zm_y22, .ref zm_y23, .ref zm_y24, .ref zm_y25, .int 0, .ref zm_y26, .ref zm_y27, .ref zm_y28, .int 0, .int 0, .int 0, .ref zm_y29, .ref zm_y30, .ref zm_y31, .ref zm_y32, .int 0, .int 0, .long 0, .int 0, .int 0, .int 0, .int 0, .int 0, .int 0]))]) [0] (by decide) rfl
  have hKc := hK.sub (tys' := []) [] rfl
  have hFc := va_free (wc := [(zm, .inr (12, [.int 0, .ref zm_y0, .int 0, .int 0, .int 0, .int 0, .ref zm_y1, .ref zm_y2, .ref zm_y3, .ref zm_y4, .ref zm_y5, .ref zm_y6, .ref zm_y7, .int 0, .int 0, .ref zm_y8, .ref zm_y9, .int 0, .int 0, .int 0, .int 0, .ref zm_y10, .ref zm_y11, .int 0, .int 0, .int 0, .int 0, .int 0, .ref zm_y12, .ref zm_y13, .ref zm_y14, .ref zm_y15, .int 0, .ref zm_y16, .ref zm_y17, .ref zm_y18, .int (-1), .int (-1), .int (-1), .int 0, .int 0, .int 0, .ref zm_y19, .ref zm_y20, .int 0, .ref zm_y21, .ref zm_y22, .ref zm_y23, .ref zm_y24, .ref zm_y25, .int 0, .ref zm_y26, .ref zm_y27, .ref zm_y28, .int 0, .int 0, .int 0, .ref zm_y29, .ref zm_y30, .ref zm_y31, .ref zm_y32, .int 0, .int 0, .long 0, .int 0, .int 0, .int 0, .int 0, .int 0, .int 0]))]) hD hS hA [0] rfl
  refine va_calli (va_runV (As := [.int x_2]) (rest := [.int 0]) ⟨hx, hb, hml, hown, hts⟩ (zk_X12_set_t l dC dI (zm) (x_2) (zm_y0) (zm_y1) (zm_y2) (zm_y3) (zm_y4) (zm_y5) (zm_y6) (zm_y7) (zm_y8) (zm_y9) (zm_y10) (zm_y11) (zm_y12) (zm_y13) (zm_y14) (zm_y15) (zm_y16) (zm_y17) (zm_y18) (zm_y19) (zm_y20) (zm_y21) (zm_y22) (zm_y23) (zm_y24) (zm_y25) (zm_y26) (zm_y27) (zm_y28) (zm_y29) (zm_y30) (zm_y31) (zm_y32) H.size) (cwV 1 hts gL_law_X12_set rfl rfl rfl (by decide +kernel) ⟨Nat.le_of_ble_eq_true rfl, Nat.le_of_ble_eq_true rfl⟩) ⟨zw_blind, va_recv hK hP (ci := 12) (q0 := 0) rfl rfl, fun U hU hW => ⟨rfl, zw_P.of hPc hKc hDc hN U hU hW⟩⟩ rfl rfl hl.1 rfl (lv_room (Nat.le_of_ble_eq_true rfl)) dL_law_422 ⟨Nat.le_of_ble_eq_true rfl, Nat.le_of_ble_eq_true rfl⟩) hS (fun q _ h => hFc q h) hFc (fun r_6 u t H1 locs ht hvm hw hB hz1 hk1 hS => ?_)
  obtain ⟨hP1, hK1, hD1⟩ := hB
  rw [ht] at hP1
  obtain ⟨hP, hD⟩ := va_join (wr := []) (w1 := []) hP hD [0] [] rfl rfl (by decide) (by decide) hk1 hFc hP1 hD1
  generalize H1 = H at hP hS ⊢
  have hP : va_P (dC, dI) classes [] H := hP
  have hD : va_D (fun q : Nat => s.heap.size ≤ q) [] := hD
  obtain rfl : r_6 = 0 := hw
  refine lv_icmp_eq (tgt := 1170) hx hb dL_law_425 (by decide) (fun _ => ?_) (fun c9 => absurd (by decide) c9)
  refine lv_iinc (v := 6) (lv' := [(4, .int 6), (0, .ref b), (1, .ref zx), (2, .ref zm), (3, .ref zo)]) hx hb dL_law_1170 hl (k := 4) rfl (by decide) (by decide) rfl (fun ls hl => ?_)
  refine lv_goto (tgt := 23) hx hb dL_law_1173 (by decide) ?_
  refine lv_iload hx hb dL_law_23 (lv_at hl 0 rfl) ?_
  refine lv_aload_n hx hb dL_law_25 rfl (lv_at hl 1 rfl) ?_
  refine va_slen hx hb hX hbl hbA hS dL_law_26 ?_
  refine lv_topi (fun x_7 ex_7 => ?_)
  have ex_7 : x_7 = 6 := ex_7.trans (by decide)
  subst ex_7
  refine lv_bipush (v := 6) hx hb dL_law_27 (by decide) ?_
  refine lv_isub hx hb dL_law_29 ?_
  refine lv_topi (fun x_8 ex_8 => ?_)
  have ex_8 : x_8 = 0 := ex_8.trans (by decide)
  subst ex_8
  refine lv_icmp_gt (tgt := 1176) hx hb dL_law_30 (by decide) (fun _ => ?_) (fun c9 => absurd (by decide) c9)
  refine lv_iconst (v := 1) hx hb dL_law_1176 (by decide) ?_
  refine va_forget (fun q hq => hS.2.2 q hq) ?_
  refine W.widen (k := 600002) (n := 7302232) (Nat.le_of_ble_eq_true rfl) (Nat.le_of_ble_eq_true rfl) ?_
  exact lw_ret hx hb hr hlocks dL_law_1177
set_option maxHeartbeats 8000000 in
set_option maxRecDepth 100000 in
theorem zl_7 {p : Program} {e : Env} {s : State} {m : MethodId} {below : List Frame} {meth : Method} {c : Code} (l : Launch) {b : Nat} {xs : Nat → Int32} (C0 : lw_At p s m meth c b 6 xs) (dC : Nat → ClassId) (dI : Nat → Nat → Nat) (zx : Nat) (zx_y0 : Nat) (zx_y1 : Nat) (zx_y2 : Nat) (zx_y3 : Nat) (zx_y4 : Nat) (zx_y5 : Nat) (zx_y6 : Nat) (zx_y7 : Nat) (zx_y8 : Nat) (zx_y9 : Nat) (zx_y10 : Nat) (zx_y11 : Nat) (zx_y12 : Nat) (zx_y13 : Nat) (zx_y16 : Nat) (zx_y17 : Nat) (zx_y18 : Nat) (zx_y19 : Nat) (zx_y20 : Nat) (zx_y21 : Nat) (zm : Nat) (zm_y0 : Nat) (zm_y1 : Nat) (zm_y2 : Nat) (zm_y3 : Nat) (zm_y4 : Nat) (zm_y5 : Nat) (zm_y6 : Nat) (zm_y7 : Nat) (zm_y8 : Nat) (zm_y9 : Nat) (zm_y10 : Nat) (zm_y11 : Nat) (zm_y12 : Nat) (zm_y13 : Nat) (zm_y14 : Nat) (zm_y15 : Nat) (zm_y16 : Nat) (zm_y17 : Nat) (zm_y18 : Nat) (zm_y19 : Nat) (zm_y20 : Nat) (zm_y21 : Nat) (zm_y22 : Nat) (zm_y23 : Nat) (zm_y24 : Nat) (zm_y25 : Nat) (zm_y26 : Nat) (zm_y27 : Nat) (zm_y28 : Nat) (zm_y29 : Nat) (zm_y30 : Nat) (zm_y31 : Nat) (zm_y32 : Nat) (zo : Nat) {H : Heap} {locs : List Loc} (hN : zw_N s) (hK : va_K (dC, dI) classes [] s) (hP : va_P (dC, dI) classes [(zx, .inr (11, [.ref zx_y0, .ref zx_y1, .ref zx_y2, .ref zx_y3, .ref zx_y4, .ref zx_y5, .ref zx_y6, .ref zx_y7, .ref zx_y8, .ref zx_y9, .ref zx_y10, .ref zx_y11, .ref zx_y12, .ref zx_y13, .int 0, .int 0])), (zx_y1, .inr (6, [.ref zx_y16, .ref zx_y17, .ref zx_y18, .ref zx_y19, .int 0, .int (-1), .int (-1)])), (zx_y19, .inr (0, [.ref zx_y20, .ref zx_y21, .int 0, .int 0, .int 0, .int 0, .int 0])), (zm, .inr (12, [.int 0, .ref zm_y0, .int 0, .int 0, .int 0, .int 0, .ref zm_y1, .ref zm_y2, .ref zm_y3, .ref zm_y4, .ref zm_y5, .ref zm_y6, .ref zm_y7, .int 0, .int 0, .ref zm_y8, .ref zm_y9, .int 0, .int 0, .int 0, .int 0, .ref zm_y10, .ref zm_y11, .int 0, .int 0, .int 0, .int 0, .int 0, .ref zm_y12, .ref zm_y13, .ref zm_y14, .ref zm_y15, .int 0, .ref zm_y16, .ref zm_y17, .ref zm_y18, .int (-1), .int (-1), .int (-1), .int 0, .int 0, .int 0, .ref zm_y19, .ref zm_y20, .int 0, .ref zm_y21, .ref zm_y22, .ref zm_y23, .ref zm_y24, .ref zm_y25, .int 0, .ref zm_y26, .ref zm_y27, .ref zm_y28, .int 0, .int 0, .int 0, .ref zm_y29, .ref zm_y30, .ref zm_y31, .ref zm_y32, .int 0, .int 0, .long 0, .int 0, .int 0, .int 0, .int 0, .int 0, .int 0]))] H) (hD : va_D (fun q : Nat => s.heap.size ≤ q) [(zx, .inr (11, [.ref zx_y0, .ref zx_y1, .ref zx_y2, .ref zx_y3, .ref zx_y4, .ref zx_y5, .ref zx_y6, .ref zx_y7, .ref zx_y8, .ref zx_y9, .ref zx_y10, .ref zx_y11, .ref zx_y12, .ref zx_y13, .int 0, .int 0])), (zx_y1, .inr (6, [.ref zx_y16, .ref zx_y17, .ref zx_y18, .ref zx_y19, .int 0, .int (-1), .int (-1)])), (zx_y19, .inr (0, [.ref zx_y20, .ref zx_y21, .int 0, .int 0, .int 0, .int 0, .int 0])), (zm, .inr (12, [.int 0, .ref zm_y0, .int 0, .int 0, .int 0, .int 0, .ref zm_y1, .ref zm_y2, .ref zm_y3, .ref zm_y4, .ref zm_y5, .ref zm_y6, .ref zm_y7, .int 0, .int 0, .ref zm_y8, .ref zm_y9, .int 0, .int 0, .int 0, .int 0, .ref zm_y10, .ref zm_y11, .int 0, .int 0, .int 0, .int 0, .int 0, .ref zm_y12, .ref zm_y13, .ref zm_y14, .ref zm_y15, .int 0, .ref zm_y16, .ref zm_y17, .ref zm_y18, .int (-1), .int (-1), .int (-1), .int 0, .int 0, .int 0, .ref zm_y19, .ref zm_y20, .int 0, .ref zm_y21, .ref zm_y22, .ref zm_y23, .ref zm_y24, .ref zm_y25, .int 0, .ref zm_y26, .ref zm_y27, .ref zm_y28, .int 0, .int 0, .int 0, .ref zm_y29, .ref zm_y30, .ref zm_y31, .ref zm_y32, .int 0, .int 0, .long 0, .int 0, .int 0, .int 0, .int 0, .int 0, .int 0]))]) (hS : va_S (fun q : Nat => s.heap.size ≤ q) s.heap H locs) (ls : Array Slot) (hl : lv_has ls 7 [(0, .ref b), (1, .ref zx), (2, .ref zm), (3, .ref zo), (4, .int 0)]) : W p l e room_1 s m #[Value.ref b] below meth c H locs 99 952984 (lw_Z below #[Value.ref b] s) (F0 m 430 ls []) := by
  obtain ⟨hx, hb, hr, hml, hown, hts0, hX, hbl, hlocks, hgv⟩ := C0
  have hts : ∀ w ∈ wsL_law, w.before #[Value.ref b] s = true := fun w h => hts0 w (wsL_law_in w h)
  have hA : ∀ q : Nat, s.heap.size ≤ q → (fun q : Nat => s.heap.size ≤ q) q := fun _ h => h
  have hbA : ¬ (fun q : Nat => s.heap.size ≤ q) b := Nat.not_le.mpr hbl
  refine lv_aload_n hx hb dL_law_430 rfl (lv_at hl 1 rfl) ?_
  have hPc := hP.sub (ws' := [(zx, .inr (11, [.ref zx_y0, .ref zx_y1, .ref zx_y2, .ref zx_y3, .ref zx_y4, .ref zx_y5, .ref zx_y6, .ref zx_y7, .ref zx_y8, .ref zx_y9, .ref zx_y10, .ref zx_y11, .ref zx_y12, .ref zx_y13, .int 0, .int 0])), (zx_y1, .inr (6, [.ref zx_y16, .ref zx_y17, .ref zx_y18, .ref zx_y19, .int 0, .int (-1), .int (-1)])), (zx_y19, .inr (0, [.ref zx_y20, .ref zx_y21, .int 0, .int 0, .int 0, .int 0, .int 0]))]) [0, 1, 2] rfl
  have hDc := hD.sub (ws' := [(zx, .inr (11, [.ref zx_y0, .ref zx_y1, .ref zx_y2, .ref zx_y3, .ref zx_y4, .ref zx_y5, .ref zx_y6, .ref zx_y7, .ref zx_y8, .ref zx_y9, .ref zx_y10, .ref zx_y11, .ref zx_y12, .ref zx_y13, .int 0, .int 0])), (zx_y1, .inr (6, [.ref zx_y16, .ref zx_y17, .ref zx_y18, .ref zx_y19, .int 0, .int (-1), .int (-1)])), (zx_y19, .inr (0, [.ref zx_y20, .ref zx_y21, .int 0, .int 0, .int 0, .int 0, .int 0]))]) [0, 1, 2] (by decide) rfl
  have hKc := hK.sub (tys' := []) [] rfl
  have hFc := va_free (wc := [(zx, .inr (11, [.ref zx_y0, .ref zx_y1, .ref zx_y2, .ref zx_y3, .ref zx_y4, .ref zx_y5, .ref zx_y6, .ref zx_y7, .ref zx_y8, .ref zx_y9, .ref zx_y10, .ref zx_y11, .ref zx_y12, .ref zx_y13, .int 0, .int 0])), (zx_y1, .inr (6, [.ref zx_y16, .ref zx_y17, .ref zx_y18, .ref zx_y19, .int 0, .int (-1), .int (-1)])), (zx_y19, .inr (0, [.ref zx_y20, .ref zx_y21, .int 0, .int 0, .int 0, .int 0, .int 0]))]) hD hS hA [0, 1, 2] rfl
  refine va_calli (va_runV (As := []) (rest := []) ⟨hx, hb, hml, hown, hts⟩ (zk_X11_stand_t l dC dI (zx) (zx_y0) (zx_y1) (zx_y2) (zx_y3) (zx_y4) (zx_y5) (zx_y6) (zx_y7) (zx_y8) (zx_y9) (zx_y10) (zx_y11) (zx_y12) (zx_y13) (zx_y16) (zx_y17) (zx_y18) (zx_y19) (zx_y20) (zx_y21) H.size) (cwV 0 hts gL_law_X11_stand rfl rfl rfl (by decide +kernel) ⟨Nat.le_of_ble_eq_true rfl, Nat.le_of_ble_eq_true rfl⟩) ⟨zw_blind, va_recv hK hP (ci := 11) (q0 := 0) rfl rfl, fun U hU hW => ⟨rfl, zw_P.of hPc hKc hDc hN U hU hW⟩⟩ rfl rfl hl.1 rfl (lv_room (Nat.le_of_ble_eq_true rfl)) dL_law_431 ⟨Nat.le_of_ble_eq_true rfl, Nat.le_of_ble_eq_true rfl⟩) hS (fun q _ h => hFc q h) hFc (fun r_1 u t H1 locs ht hvm hw hB hz1 hk1 hS => ?_)
  obtain ⟨hP1, hK1, hD1⟩ := hB
  rw [ht] at hP1
  obtain ⟨hP, hD⟩ := va_join (wr := [(zm, .inr (12, [.int 0, .ref zm_y0, .int 0, .int 0, .int 0, .int 0, .ref zm_y1, .ref zm_y2, .ref zm_y3, .ref zm_y4, .ref zm_y5, .ref zm_y6, .ref zm_y7, .int 0, .int 0, .ref zm_y8, .ref zm_y9, .int 0, .int 0, .int 0, .int 0, .ref zm_y10, .ref zm_y11, .int 0, .int 0, .int 0, .int 0, .int 0, .ref zm_y12, .ref zm_y13, .ref zm_y14, .ref zm_y15, .int 0, .ref zm_y16, .ref zm_y17, .ref zm_y18, .int (-1), .int (-1), .int (-1), .int 0, .int 0, .int 0, .ref zm_y19, .ref zm_y20, .int 0, .ref zm_y21, .ref zm_y22, .ref zm_y23, .ref zm_y24, .ref zm_y25, .int 0, .ref zm_y26, .ref zm_y27, .ref zm_y28, .int 0, .int 0, .int 0, .ref zm_y29, .ref zm_y30, .ref zm_y31, .ref zm_y32, .int 0, .int 0, .long 0, .int 0, .int 0, .int 0, .int 0, .int 0, .int 0]))]) (w1 := []) hP hD [0, 1, 2] [3] rfl rfl (by decide) (by decide) hk1 hFc hP1 hD1
  generalize H1 = H at hP hS ⊢
  have hP : va_P (dC, dI) classes [(zm, .inr (12, [.int 0, .ref zm_y0, .int 0, .int 0, .int 0, .int 0, .ref zm_y1, .ref zm_y2, .ref zm_y3, .ref zm_y4, .ref zm_y5, .ref zm_y6, .ref zm_y7, .int 0, .int 0, .ref zm_y8, .ref zm_y9, .int 0, .int 0, .int 0, .int 0, .ref zm_y10, .ref zm_y11, .int 0, .int 0, .int 0, .int 0, .int 0, .ref zm_y12, .ref zm_y13, .ref zm_y14, .ref zm_y15, .int 0, .ref zm_y16, .ref zm_y17, .ref zm_y18, .int (-1), .int (-1), .int (-1), .int 0, .int 0, .int 0, .ref zm_y19, .ref zm_y20, .int 0, .ref zm_y21, .ref zm_y22, .ref zm_y23, .ref zm_y24, .ref zm_y25, .int 0, .ref zm_y26, .ref zm_y27, .ref zm_y28, .int 0, .int 0, .int 0, .ref zm_y29, .ref zm_y30, .ref zm_y31, .ref zm_y32, .int 0, .int 0, .long 0, .int 0, .int 0, .int 0, .int 0, .int 0, .int 0]))] H := hP
  have hD : va_D (fun q : Nat => s.heap.size ≤ q) [(zm, .inr (12, [.int 0, .ref zm_y0, .int 0, .int 0, .int 0, .int 0, .ref zm_y1, .ref zm_y2, .ref zm_y3, .ref zm_y4, .ref zm_y5, .ref zm_y6, .ref zm_y7, .int 0, .int 0, .ref zm_y8, .ref zm_y9, .int 0, .int 0, .int 0, .int 0, .ref zm_y10, .ref zm_y11, .int 0, .int 0, .int 0, .int 0, .int 0, .ref zm_y12, .ref zm_y13, .ref zm_y14, .ref zm_y15, .int 0, .ref zm_y16, .ref zm_y17, .ref zm_y18, .int (-1), .int (-1), .int (-1), .int 0, .int 0, .int 0, .ref zm_y19, .ref zm_y20, .int 0, .ref zm_y21, .ref zm_y22, .ref zm_y23, .ref zm_y24, .ref zm_y25, .int 0, .ref zm_y26, .ref zm_y27, .ref zm_y28, .int 0, .int 0, .int 0, .ref zm_y29, .ref zm_y30, .ref zm_y31, .ref zm_y32, .int 0, .int 0, .long 0, .int 0, .int 0, .int 0, .int 0, .int 0, .int 0]))] := hD
  obtain rfl : r_1 = (-1) := hw
  refine lv_aload_n hx hb dL_law_434 rfl (lv_at hl 2 rfl) ?_
  have hPc := hP.sub (ws' := [(zm, .inr (12, [.int 0, .ref zm_y0, .int 0, .int 0, .int 0, .int 0, .ref zm_y1, .ref zm_y2, .ref zm_y3, .ref zm_y4, .ref zm_y5, .ref zm_y6, .ref zm_y7, .int 0, .int 0, .ref zm_y8, .ref zm_y9, .int 0, .int 0, .int 0, .int 0, .ref zm_y10, .ref zm_y11, .int 0, .int 0, .int 0, .int 0, .int 0, .ref zm_y12, .ref zm_y13, .ref zm_y14, .ref zm_y15, .int 0, .ref zm_y16, .ref zm_y17, .ref zm_y18, .int (-1), .int (-1), .int (-1), .int 0, .int 0, .int 0, .ref zm_y19, .ref zm_y20, .int 0, .ref zm_y21, .ref zm_y22, .ref zm_y23, .ref zm_y24, .ref zm_y25, .int 0, .ref zm_y26, .ref zm_y27, .ref zm_y28, .int 0, .int 0, .int 0, .ref zm_y29, .ref zm_y30, .ref zm_y31, .ref zm_y32, .int 0, .int 0, .long 0, .int 0, .int 0, .int 0, .int 0, .int 0, .int 0]))]) [0] rfl
  have hDc := hD.sub (ws' := [(zm, .inr (12, [.int 0, .ref zm_y0, .int 0, .int 0, .int 0, .int 0, .ref zm_y1, .ref zm_y2, .ref zm_y3, .ref zm_y4, .ref zm_y5, .ref zm_y6, .ref zm_y7, .int 0, .int 0, .ref zm_y8, .ref zm_y9, .int 0, .int 0, .int 0, .int 0, .ref zm_y10, .ref zm_y11, .int 0, .int 0, .int 0, .int 0, .int 0, .ref zm_y12, .ref zm_y13, .ref zm_y14, .ref zm_y15, .int 0, .ref zm_y16, .ref zm_y17, .ref zm_y18, .int (-1), .int (-1), .int (-1), .int 0, .int 0, .int 0, .ref zm_y19, .ref zm_y20, .int 0, .ref zm_y21, .ref zm_y22, .ref zm_y23, .ref zm_y24, .ref zm_y25, .int 0, .ref zm_y26, .ref zm_y27, .ref zm_y28, .int 0, .int 0, .int 0, .ref zm_y29, .ref zm_y30, .ref zm_y31, .ref zm_y32, .int 0, .int 0, .long 0, .int 0, .int 0, .int 0, .int 0, .int 0, .int 0]))]) [0] (by decide) rfl
  have hKc := hK.sub (tys' := []) [] rfl
  have hFc := va_free (wc := [(zm, .inr (12, [.int 0, .ref zm_y0, .int 0, .int 0, .int 0, .int 0, .ref zm_y1, .ref zm_y2, .ref zm_y3, .ref zm_y4, .ref zm_y5, .ref zm_y6, .ref zm_y7, .int 0, .int 0, .ref zm_y8, .ref zm_y9, .int 0, .int 0, .int 0, .int 0, .ref zm_y10, .ref zm_y11, .int 0, .int 0, .int 0, .int 0, .int 0, .ref zm_y12, .ref zm_y13, .ref zm_y14, .ref zm_y15, .int 0, .ref zm_y16, .ref zm_y17, .ref zm_y18, .int (-1), .int (-1), .int (-1), .int 0, .int 0, .int 0, .ref zm_y19, .ref zm_y20, .int 0, .ref zm_y21, .ref zm_y22, .ref zm_y23, .ref zm_y24, .ref zm_y25, .int 0, .ref zm_y26, .ref zm_y27, .ref zm_y28, .int 0, .int 0, .int 0, .ref zm_y29, .ref zm_y30, .ref zm_y31, .ref zm_y32, .int 0, .int 0, .long 0, .int 0, .int 0, .int 0, .int 0, .int 0, .int 0]))]) hD hS hA [0] rfl
  refine va_calli (va_runV (As := []) (rest := [.int (-1)]) ⟨hx, hb, hml, hown, hts⟩ (zk_X12_stand_t l dC dI (zm) (zm_y0) (zm_y1) (zm_y2) (zm_y3) (zm_y4) (zm_y5) (zm_y6) (zm_y7) (zm_y8) (zm_y9) (zm_y10) (zm_y11) (zm_y12) (zm_y13) (zm_y14) (zm_y15) (zm_y16) (zm_y17) (zm_y18) (zm_y19) (zm_y20) (zm_y21) (zm_y22) (zm_y23) (zm_y24) (zm_y25) (zm_y26) (zm_y27) (zm_y28) (zm_y29) (zm_y30) (zm_y31) (zm_y32) H.size) (cwV 0 hts gL_law_X12_stand rfl rfl rfl (by decide +kernel) ⟨Nat.le_of_ble_eq_true rfl, Nat.le_of_ble_eq_true rfl⟩) ⟨zw_blind, va_recv hK hP (ci := 12) (q0 := 0) rfl rfl, fun U hU hW => ⟨rfl, zw_P.of hPc hKc hDc hN U hU hW⟩⟩ rfl rfl hl.1 rfl (lv_room (Nat.le_of_ble_eq_true rfl)) dL_law_435 ⟨Nat.le_of_ble_eq_true rfl, Nat.le_of_ble_eq_true rfl⟩) hS (fun q _ h => hFc q h) hFc (fun r_2 u t H1 locs ht hvm hw hB hz1 hk1 hS => ?_)
  obtain ⟨hP1, hK1, hD1⟩ := hB
  rw [ht] at hP1
  obtain ⟨hP, hD⟩ := va_join (wr := []) (w1 := []) hP hD [0] [] rfl rfl (by decide) (by decide) hk1 hFc hP1 hD1
  generalize H1 = H at hP hS ⊢
  have hP : va_P (dC, dI) classes [] H := hP
  have hD : va_D (fun q : Nat => s.heap.size ≤ q) [] := hD
  obtain rfl : r_2 = (-1) := hw
  refine lv_icmp_eq (tgt := 1170) hx hb dL_law_438 (by decide) (fun _ => ?_) (fun c9 => absurd (by decide) c9)
  refine lv_iinc (v := 6) (lv' := [(4, .int 6), (0, .ref b), (1, .ref zx), (2, .ref zm), (3, .ref zo)]) hx hb dL_law_1170 hl (k := 4) rfl (by decide) (by decide) rfl (fun ls hl => ?_)
  refine lv_goto (tgt := 23) hx hb dL_law_1173 (by decide) ?_
  refine lv_iload hx hb dL_law_23 (lv_at hl 0 rfl) ?_
  refine lv_aload_n hx hb dL_law_25 rfl (lv_at hl 1 rfl) ?_
  refine va_slen hx hb hX hbl hbA hS dL_law_26 ?_
  refine lv_topi (fun x_3 ex_3 => ?_)
  have ex_3 : x_3 = 6 := ex_3.trans (by decide)
  subst ex_3
  refine lv_bipush (v := 6) hx hb dL_law_27 (by decide) ?_
  refine lv_isub hx hb dL_law_29 ?_
  refine lv_topi (fun x_4 ex_4 => ?_)
  have ex_4 : x_4 = 0 := ex_4.trans (by decide)
  subst ex_4
  refine lv_icmp_gt (tgt := 1176) hx hb dL_law_30 (by decide) (fun _ => ?_) (fun c9 => absurd (by decide) c9)
  refine lv_iconst (v := 1) hx hb dL_law_1176 (by decide) ?_
  refine va_forget (fun q hq => hS.2.2 q hq) ?_
  refine W.widen (k := 600002) (n := 7302232) (Nat.le_of_ble_eq_true rfl) (Nat.le_of_ble_eq_true rfl) ?_
  exact lw_ret hx hb hr hlocks dL_law_1177
set_option maxHeartbeats 8000000 in
set_option maxRecDepth 100000 in
theorem zl_8 {p : Program} {e : Env} {s : State} {m : MethodId} {below : List Frame} {meth : Method} {c : Code} (l : Launch) {b : Nat} {xs : Nat → Int32} (C0 : lw_At p s m meth c b 6 xs) (dC : Nat → ClassId) (dI : Nat → Nat → Nat) (zx : Nat) (zx_y0 : Nat) (zx_y1 : Nat) (zx_y2 : Nat) (zx_y3 : Nat) (zx_y4 : Nat) (zx_y5 : Nat) (zx_y6 : Nat) (zx_y7 : Nat) (zx_y8 : Nat) (zx_y9 : Nat) (zx_y10 : Nat) (zx_y11 : Nat) (zx_y12 : Nat) (zx_y13 : Nat) (zx_y16 : Nat) (zx_y17 : Nat) (zx_y18 : Nat) (zx_y19 : Nat) (zx_y20 : Nat) (zx_y21 : Nat) (zm : Nat) (zm_y0 : Nat) (zm_y1 : Nat) (zm_y2 : Nat) (zm_y3 : Nat) (zm_y4 : Nat) (zm_y5 : Nat) (zm_y6 : Nat) (zm_y7 : Nat) (zm_y8 : Nat) (zm_y9 : Nat) (zm_y10 : Nat) (zm_y11 : Nat) (zm_y12 : Nat) (zm_y13 : Nat) (zm_y14 : Nat) (zm_y15 : Nat) (zm_y16 : Nat) (zm_y17 : Nat) (zm_y18 : Nat) (zm_y19 : Nat) (zm_y20 : Nat) (zm_y21 : Nat) (zm_y22 : Nat) (zm_y23 : Nat) (zm_y24 : Nat) (zm_y25 : Nat) (zm_y26 : Nat) (zm_y27 : Nat) (zm_y28 : Nat) (zm_y29 : Nat) (zm_y30 : Nat) (zm_y31 : Nat) (zm_y32 : Nat) (zo : Nat) {H : Heap} {locs : List Loc} (hN : zw_N s) (hK : va_K (dC, dI) classes [] s) (hP : va_P (dC, dI) classes [(zx, .inr (11, [.ref zx_y0, .ref zx_y1, .ref zx_y2, .ref zx_y3, .ref zx_y4, .ref zx_y5, .ref zx_y6, .ref zx_y7, .ref zx_y8, .ref zx_y9, .ref zx_y10, .ref zx_y11, .ref zx_y12, .ref zx_y13, .int 0, .int 0])), (zx_y1, .inr (6, [.ref zx_y16, .ref zx_y17, .ref zx_y18, .ref zx_y19, .int 0, .int (-1), .int (-1)])), (zx_y19, .inr (0, [.ref zx_y20, .ref zx_y21, .int 0, .int 0, .int 0, .int 0, .int 0])), (zm, .inr (12, [.int 0, .ref zm_y0, .int 0, .int 0, .int 0, .int 0, .ref zm_y1, .ref zm_y2, .ref zm_y3, .ref zm_y4, .ref zm_y5, .ref zm_y6, .ref zm_y7, .int 0, .int 0, .ref zm_y8, .ref zm_y9, .int 0, .int 0, .int 0, .int 0, .ref zm_y10, .ref zm_y11, .int 0, .int 0, .int 0, .int 0, .int 0, .ref zm_y12, .ref zm_y13, .ref zm_y14, .ref zm_y15, .int 0, .ref zm_y16, .ref zm_y17, .ref zm_y18, .int (-1), .int (-1), .int (-1), .int 0, .int 0, .int 0, .ref zm_y19, .ref zm_y20, .int 0, .ref zm_y21, .ref zm_y22, .ref zm_y23, .ref zm_y24, .ref zm_y25, .int 0, .ref zm_y26, .ref zm_y27, .ref zm_y28, .int 0, .int 0, .int 0, .ref zm_y29, .ref zm_y30, .ref zm_y31, .ref zm_y32, .int 0, .int 0, .long 0, .int 0, .int 0, .int 0, .int 0, .int 0, .int 0]))] H) (hD : va_D (fun q : Nat => s.heap.size ≤ q) [(zx, .inr (11, [.ref zx_y0, .ref zx_y1, .ref zx_y2, .ref zx_y3, .ref zx_y4, .ref zx_y5, .ref zx_y6, .ref zx_y7, .ref zx_y8, .ref zx_y9, .ref zx_y10, .ref zx_y11, .ref zx_y12, .ref zx_y13, .int 0, .int 0])), (zx_y1, .inr (6, [.ref zx_y16, .ref zx_y17, .ref zx_y18, .ref zx_y19, .int 0, .int (-1), .int (-1)])), (zx_y19, .inr (0, [.ref zx_y20, .ref zx_y21, .int 0, .int 0, .int 0, .int 0, .int 0])), (zm, .inr (12, [.int 0, .ref zm_y0, .int 0, .int 0, .int 0, .int 0, .ref zm_y1, .ref zm_y2, .ref zm_y3, .ref zm_y4, .ref zm_y5, .ref zm_y6, .ref zm_y7, .int 0, .int 0, .ref zm_y8, .ref zm_y9, .int 0, .int 0, .int 0, .int 0, .ref zm_y10, .ref zm_y11, .int 0, .int 0, .int 0, .int 0, .int 0, .ref zm_y12, .ref zm_y13, .ref zm_y14, .ref zm_y15, .int 0, .ref zm_y16, .ref zm_y17, .ref zm_y18, .int (-1), .int (-1), .int (-1), .int 0, .int 0, .int 0, .ref zm_y19, .ref zm_y20, .int 0, .ref zm_y21, .ref zm_y22, .ref zm_y23, .ref zm_y24, .ref zm_y25, .int 0, .ref zm_y26, .ref zm_y27, .ref zm_y28, .int 0, .int 0, .int 0, .ref zm_y29, .ref zm_y30, .ref zm_y31, .ref zm_y32, .int 0, .int 0, .long 0, .int 0, .int 0, .int 0, .int 0, .int 0, .int 0]))]) (hS : va_S (fun q : Nat => s.heap.size ≤ q) s.heap H locs) (ls : Array Slot) (hl : lv_has ls 7 [(0, .ref b), (1, .ref zx), (2, .ref zm), (3, .ref zo), (4, .int 0)]) : W p l e room_1 s m #[Value.ref b] below meth c H locs 99 952984 (lw_Z below #[Value.ref b] s) (F0 m 443 ls []) := by
  obtain ⟨hx, hb, hr, hml, hown, hts0, hX, hbl, hlocks, hgv⟩ := C0
  have hts : ∀ w ∈ wsL_law, w.before #[Value.ref b] s = true := fun w h => hts0 w (wsL_law_in w h)
  have hA : ∀ q : Nat, s.heap.size ≤ q → (fun q : Nat => s.heap.size ≤ q) q := fun _ h => h
  have hbA : ¬ (fun q : Nat => s.heap.size ≤ q) b := Nat.not_le.mpr hbl
  refine lv_aload_n hx hb dL_law_443 rfl (lv_at hl 1 rfl) ?_
  refine lv_aload_n hx hb dL_law_444 rfl (lv_at hl 0 rfl) ?_
  refine lv_iload hx hb dL_law_445 (lv_at hl 4 rfl) ?_
  refine lv_iconst (v := 1) hx hb dL_law_447 (by decide) ?_
  refine lv_iadd hx hb dL_law_448 ?_
  refine lv_topi (fun x_1 ex_1 => ?_)
  have ex_1 : x_1 = 1 := ex_1.trans (by decide)
  subst ex_1
  refine va_sld hx hb hX hbl hbA hS (vp_in_iff.mpr ⟨by decide, by decide⟩) dL_law_449 ?_
  refine lv_topi (fun x_2 ex_2 => ?_)
  have hPc := hP.sub (ws' := [(zx, .inr (11, [.ref zx_y0, .ref zx_y1, .ref zx_y2, .ref zx_y3, .ref zx_y4, .ref zx_y5, .ref zx_y6, .ref zx_y7, .ref zx_y8, .ref zx_y9, .ref zx_y10, .ref zx_y11, .ref zx_y12, .ref zx_y13, .int 0, .int 0])), (zx_y1, .inr (6, [.ref zx_y16, .ref zx_y17, .ref zx_y18, .ref zx_y19, .int 0, .int (-1), .int (-1)])), (zx_y19, .inr (0, [.ref zx_y20, .ref zx_y21, .int 0, .int 0, .int 0, .int 0, .int 0]))]) [0, 1, 2] rfl
  have hDc := hD.sub (ws' := [(zx, .inr (11, [.ref zx_y0, .ref zx_y1, .ref zx_y2, .ref zx_y3, .ref zx_y4, .ref zx_y5, .ref zx_y6, .ref zx_y7, .ref zx_y8, .ref zx_y9, .ref zx_y10, .ref zx_y11, .ref zx_y12, .ref zx_y13, .int 0, .int 0])), (zx_y1, .inr (6, [.ref zx_y16, .ref zx_y17, .ref zx_y18, .ref zx_y19, .int 0, .int (-1), .int (-1)])), (zx_y19, .inr (0, [.ref zx_y20, .ref zx_y21, .int 0, .int 0, .int 0, .int 0, .int 0]))]) [0, 1, 2] (by decide) rfl
  have hKc := hK.sub (tys' := []) [] rfl
  have hFc := va_free (wc := [(zx, .inr (11, [.ref zx_y0, .ref zx_y1, .ref zx_y2, .ref zx_y3, .ref zx_y4, .ref zx_y5, .ref zx_y6, .ref zx_y7, .ref zx_y8, .ref zx_y9, .ref zx_y10, .ref zx_y11, .ref zx_y12, .ref zx_y13, .int 0, .int 0])), (zx_y1, .inr (6, [.ref zx_y16, .ref zx_y17, .ref zx_y18, .ref zx_y19, .int 0, .int (-1), .int (-1)])), (zx_y19, .inr (0, [.ref zx_y20, .ref zx_y21, .int 0, .int 0, .int 0, .int 0, .int 0]))]) hD hS hA [0, 1, 2] rfl
  refine va_calli (va_runV (As := [.int x_2]) (rest := []) ⟨hx, hb, hml, hown, hts⟩ (zk_X11_moves_t l dC dI (zx) (x_2) (zx_y0) (zx_y1) (zx_y2) (zx_y3) (zx_y4) (zx_y5) (zx_y6) (zx_y7) (zx_y8) (zx_y9) (zx_y10) (zx_y11) (zx_y12) (zx_y13) (zx_y16) (zx_y17) (zx_y18) (zx_y19) (zx_y20) (zx_y21) H.size) (cwV 1 hts gL_law_X11_moves rfl rfl rfl (by decide +kernel) ⟨Nat.le_of_ble_eq_true rfl, Nat.le_of_ble_eq_true rfl⟩) ⟨zw_blind, va_recv hK hP (ci := 11) (q0 := 0) rfl rfl, fun U hU hW => ⟨rfl, zw_P.of hPc hKc hDc hN U hU hW⟩⟩ rfl rfl hl.1 rfl (lv_room (Nat.le_of_ble_eq_true rfl)) dL_law_450 ⟨Nat.le_of_ble_eq_true rfl, Nat.le_of_ble_eq_true rfl⟩) hS (fun q _ h => hFc q h) hFc (fun r_3 u t H1 locs ht hvm hw hB hz1 hk1 hS => ?_)
  obtain ⟨hP1, hK1, hD1⟩ := hB
  rw [ht] at hP1
  obtain ⟨hP, hD⟩ := va_join (wr := [(zm, .inr (12, [.int 0, .ref zm_y0, .int 0, .int 0, .int 0, .int 0, .ref zm_y1, .ref zm_y2, .ref zm_y3, .ref zm_y4, .ref zm_y5, .ref zm_y6, .ref zm_y7, .int 0, .int 0, .ref zm_y8, .ref zm_y9, .int 0, .int 0, .int 0, .int 0, .ref zm_y10, .ref zm_y11, .int 0, .int 0, .int 0, .int 0, .int 0, .ref zm_y12, .ref zm_y13, .ref zm_y14, .ref zm_y15, .int 0, .ref zm_y16, .ref zm_y17, .ref zm_y18, .int (-1), .int (-1), .int (-1), .int 0, .int 0, .int 0, .ref zm_y19, .ref zm_y20, .int 0, .ref zm_y21, .ref zm_y22, .ref zm_y23, .ref zm_y24, .ref zm_y25, .int 0, .ref zm_y26, .ref zm_y27, .ref zm_y28, .int 0, .int 0, .int 0, .ref zm_y29, .ref zm_y30, .ref zm_y31, .ref zm_y32, .int 0, .int 0, .long 0, .int 0, .int 0, .int 0, .int 0, .int 0, .int 0]))]) (w1 := []) hP hD [0, 1, 2] [3] rfl rfl (by decide) (by decide) hk1 hFc hP1 hD1
  generalize H1 = H at hP hS ⊢
  have hP : va_P (dC, dI) classes [(zm, .inr (12, [.int 0, .ref zm_y0, .int 0, .int 0, .int 0, .int 0, .ref zm_y1, .ref zm_y2, .ref zm_y3, .ref zm_y4, .ref zm_y5, .ref zm_y6, .ref zm_y7, .int 0, .int 0, .ref zm_y8, .ref zm_y9, .int 0, .int 0, .int 0, .int 0, .ref zm_y10, .ref zm_y11, .int 0, .int 0, .int 0, .int 0, .int 0, .ref zm_y12, .ref zm_y13, .ref zm_y14, .ref zm_y15, .int 0, .ref zm_y16, .ref zm_y17, .ref zm_y18, .int (-1), .int (-1), .int (-1), .int 0, .int 0, .int 0, .ref zm_y19, .ref zm_y20, .int 0, .ref zm_y21, .ref zm_y22, .ref zm_y23, .ref zm_y24, .ref zm_y25, .int 0, .ref zm_y26, .ref zm_y27, .ref zm_y28, .int 0, .int 0, .int 0, .ref zm_y29, .ref zm_y30, .ref zm_y31, .ref zm_y32, .int 0, .int 0, .long 0, .int 0, .int 0, .int 0, .int 0, .int 0, .int 0]))] H := hP
  have hD : va_D (fun q : Nat => s.heap.size ≤ q) [(zm, .inr (12, [.int 0, .ref zm_y0, .int 0, .int 0, .int 0, .int 0, .ref zm_y1, .ref zm_y2, .ref zm_y3, .ref zm_y4, .ref zm_y5, .ref zm_y6, .ref zm_y7, .int 0, .int 0, .ref zm_y8, .ref zm_y9, .int 0, .int 0, .int 0, .int 0, .ref zm_y10, .ref zm_y11, .int 0, .int 0, .int 0, .int 0, .int 0, .ref zm_y12, .ref zm_y13, .ref zm_y14, .ref zm_y15, .int 0, .ref zm_y16, .ref zm_y17, .ref zm_y18, .int (-1), .int (-1), .int (-1), .int 0, .int 0, .int 0, .ref zm_y19, .ref zm_y20, .int 0, .ref zm_y21, .ref zm_y22, .ref zm_y23, .ref zm_y24, .ref zm_y25, .int 0, .ref zm_y26, .ref zm_y27, .ref zm_y28, .int 0, .int 0, .int 0, .ref zm_y29, .ref zm_y30, .ref zm_y31, .ref zm_y32, .int 0, .int 0, .long 0, .int 0, .int 0, .int 0, .int 0, .int 0, .int 0]))] := hD
  obtain rfl : r_3 = (-1) := hw
  refine lv_aload_n hx hb dL_law_453 rfl (lv_at hl 2 rfl) ?_
  refine lv_aload_n hx hb dL_law_454 rfl (lv_at hl 0 rfl) ?_
  refine lv_iload hx hb dL_law_455 (lv_at hl 4 rfl) ?_
  refine lv_iconst (v := 1) hx hb dL_law_457 (by decide) ?_
  refine lv_iadd hx hb dL_law_458 ?_
  refine lv_topi (fun x_4 ex_4 => ?_)
  have ex_4 : x_4 = 1 := ex_4.trans (by decide)
  subst ex_4
  refine va_sld hx hb hX hbl hbA hS (vp_in_iff.mpr ⟨by decide, by decide⟩) dL_law_459 ?_
  refine lv_topi (fun x_5 ex_5 => ?_)
  have ex_5 : x_2 = x_5 := ex_2.trans ex_5.symm
  subst ex_5
  have hPc := hP.sub (ws' := [(zm, .inr (12, [.int 0, .ref zm_y0, .int 0, .int 0, .int 0, .int 0, .ref zm_y1, .ref zm_y2, .ref zm_y3, .ref zm_y4, .ref zm_y5, .ref zm_y6, .ref zm_y7, .int 0, .int 0, .ref zm_y8, .ref zm_y9, .int 0, .int 0, .int 0, .int 0, .ref zm_y10, .ref zm_y11, .int 0, .int 0, .int 0, .int 0, .int 0, .ref zm_y12, .ref zm_y13, .ref zm_y14, .ref zm_y15, .int 0, .ref zm_y16, .ref zm_y17, .ref zm_y18, .int (-1), .int (-1), .int (-1), .int 0, .int 0, .int 0, .ref zm_y19, .ref zm_y20, .int 0, .ref zm_y21, .ref zm_y22, .ref zm_y23, .ref zm_y24, .ref zm_y25, .int 0, .ref zm_y26, .ref zm_y27, .ref zm_y28, .int 0, .int 0, .int 0, .ref zm_y29, .ref zm_y30, .ref zm_y31, .ref zm_y32, .int 0, .int 0, .long 0, .int 0, .int 0, .int 0, .int 0, .int 0, .int 0]))]) [0] rfl
  have hDc := hD.sub (ws' := [(zm, .inr (12, [.int 0, .ref zm_y0, .int 0, .int 0, .int 0, .int 0, .ref zm_y1, .ref zm_y2, .ref zm_y3, .ref zm_y4, .ref zm_y5, .ref zm_y6, .ref zm_y7, .int 0, .int 0, .ref zm_y8, .ref zm_y9, .int 0, .int 0, .int 0, .int 0, .ref zm_y10, .ref zm_y11, .int 0, .int 0, .int 0, .int 0, .int 0, .ref zm_y12, .ref zm_y13, .ref zm_y14, .ref zm_y15, .int 0, .ref zm_y16, .ref zm_y17, .ref zm_y18, .int (-1), .int (-1), .int (-1), .int 0, .int 0, .int 0, .ref zm_y19, .ref zm_y20, .int 0, .ref zm_y21, .ref zm_y22, .ref zm_y23, .ref zm_y24, .ref zm_y25, .int 0, .ref zm_y26, .ref zm_y27, .ref zm_y28, .int 0, .int 0, .int 0, .ref zm_y29, .ref zm_y30, .ref zm_y31, .ref zm_y32, .int 0, .int 0, .long 0, .int 0, .int 0, .int 0, .int 0, .int 0, .int 0]))]) [0] (by decide) rfl
  have hKc := hK.sub (tys' := []) [] rfl
  have hFc := va_free (wc := [(zm, .inr (12, [.int 0, .ref zm_y0, .int 0, .int 0, .int 0, .int 0, .ref zm_y1, .ref zm_y2, .ref zm_y3, .ref zm_y4, .ref zm_y5, .ref zm_y6, .ref zm_y7, .int 0, .int 0, .ref zm_y8, .ref zm_y9, .int 0, .int 0, .int 0, .int 0, .ref zm_y10, .ref zm_y11, .int 0, .int 0, .int 0, .int 0, .int 0, .ref zm_y12, .ref zm_y13, .ref zm_y14, .ref zm_y15, .int 0, .ref zm_y16, .ref zm_y17, .ref zm_y18, .int (-1), .int (-1), .int (-1), .int 0, .int 0, .int 0, .ref zm_y19, .ref zm_y20, .int 0, .ref zm_y21, .ref zm_y22, .ref zm_y23, .ref zm_y24, .ref zm_y25, .int 0, .ref zm_y26, .ref zm_y27, .ref zm_y28, .int 0, .int 0, .int 0, .ref zm_y29, .ref zm_y30, .ref zm_y31, .ref zm_y32, .int 0, .int 0, .long 0, .int 0, .int 0, .int 0, .int 0, .int 0, .int 0]))]) hD hS hA [0] rfl
  refine va_calli (va_runV (As := [.int x_2]) (rest := [.int (-1)]) ⟨hx, hb, hml, hown, hts⟩ (zk_X12_moves_t l dC dI (zm) (x_2) (zm_y0) (zm_y1) (zm_y2) (zm_y3) (zm_y4) (zm_y5) (zm_y6) (zm_y7) (zm_y8) (zm_y9) (zm_y10) (zm_y11) (zm_y12) (zm_y13) (zm_y14) (zm_y15) (zm_y16) (zm_y17) (zm_y18) (zm_y19) (zm_y20) (zm_y21) (zm_y22) (zm_y23) (zm_y24) (zm_y25) (zm_y26) (zm_y27) (zm_y28) (zm_y29) (zm_y30) (zm_y31) (zm_y32) H.size) (cwV 1 hts gL_law_X12_moves rfl rfl rfl (by decide +kernel) ⟨Nat.le_of_ble_eq_true rfl, Nat.le_of_ble_eq_true rfl⟩) ⟨zw_blind, va_recv hK hP (ci := 12) (q0 := 0) rfl rfl, fun U hU hW => ⟨rfl, zw_P.of hPc hKc hDc hN U hU hW⟩⟩ rfl rfl hl.1 rfl (lv_room (Nat.le_of_ble_eq_true rfl)) dL_law_460 ⟨Nat.le_of_ble_eq_true rfl, Nat.le_of_ble_eq_true rfl⟩) hS (fun q _ h => hFc q h) hFc (fun r_6 u t H1 locs ht hvm hw hB hz1 hk1 hS => ?_)
  obtain ⟨hP1, hK1, hD1⟩ := hB
  rw [ht] at hP1
  obtain ⟨hP, hD⟩ := va_join (wr := []) (w1 := []) hP hD [0] [] rfl rfl (by decide) (by decide) hk1 hFc hP1 hD1
  generalize H1 = H at hP hS ⊢
  have hP : va_P (dC, dI) classes [] H := hP
  have hD : va_D (fun q : Nat => s.heap.size ≤ q) [] := hD
  obtain rfl : r_6 = (-1) := hw
  refine lv_icmp_eq (tgt := 1170) hx hb dL_law_463 (by decide) (fun _ => ?_) (fun c9 => absurd (by decide) c9)
  refine lv_iinc (v := 6) (lv' := [(4, .int 6), (0, .ref b), (1, .ref zx), (2, .ref zm), (3, .ref zo)]) hx hb dL_law_1170 hl (k := 4) rfl (by decide) (by decide) rfl (fun ls hl => ?_)
  refine lv_goto (tgt := 23) hx hb dL_law_1173 (by decide) ?_
  refine lv_iload hx hb dL_law_23 (lv_at hl 0 rfl) ?_
  refine lv_aload_n hx hb dL_law_25 rfl (lv_at hl 1 rfl) ?_
  refine va_slen hx hb hX hbl hbA hS dL_law_26 ?_
  refine lv_topi (fun x_7 ex_7 => ?_)
  have ex_7 : x_7 = 6 := ex_7.trans (by decide)
  subst ex_7
  refine lv_bipush (v := 6) hx hb dL_law_27 (by decide) ?_
  refine lv_isub hx hb dL_law_29 ?_
  refine lv_topi (fun x_8 ex_8 => ?_)
  have ex_8 : x_8 = 0 := ex_8.trans (by decide)
  subst ex_8
  refine lv_icmp_gt (tgt := 1176) hx hb dL_law_30 (by decide) (fun _ => ?_) (fun c9 => absurd (by decide) c9)
  refine lv_iconst (v := 1) hx hb dL_law_1176 (by decide) ?_
  refine va_forget (fun q hq => hS.2.2 q hq) ?_
  refine W.widen (k := 600002) (n := 7302232) (Nat.le_of_ble_eq_true rfl) (Nat.le_of_ble_eq_true rfl) ?_
  exact lw_ret hx hb hr hlocks dL_law_1177
set_option maxHeartbeats 8000000 in
set_option maxRecDepth 100000 in
theorem zl_9 {p : Program} {e : Env} {s : State} {m : MethodId} {below : List Frame} {meth : Method} {c : Code} (l : Launch) {b : Nat} {xs : Nat → Int32} (C0 : lw_At p s m meth c b 6 xs) (dC : Nat → ClassId) (dI : Nat → Nat → Nat) (zx : Nat) (zx_y0 : Nat) (zx_y1 : Nat) (zx_y2 : Nat) (zx_y3 : Nat) (zx_y4 : Nat) (zx_y5 : Nat) (zx_y6 : Nat) (zx_y7 : Nat) (zx_y8 : Nat) (zx_y9 : Nat) (zx_y10 : Nat) (zx_y11 : Nat) (zx_y12 : Nat) (zx_y13 : Nat) (zx_y16 : Nat) (zx_y17 : Nat) (zx_y18 : Nat) (zx_y19 : Nat) (zx_y20 : Nat) (zx_y21 : Nat) (zm : Nat) (zm_y0 : Nat) (zm_y1 : Nat) (zm_y2 : Nat) (zm_y3 : Nat) (zm_y4 : Nat) (zm_y5 : Nat) (zm_y6 : Nat) (zm_y7 : Nat) (zm_y8 : Nat) (zm_y9 : Nat) (zm_y10 : Nat) (zm_y11 : Nat) (zm_y12 : Nat) (zm_y13 : Nat) (zm_y14 : Nat) (zm_y15 : Nat) (zm_y16 : Nat) (zm_y17 : Nat) (zm_y18 : Nat) (zm_y19 : Nat) (zm_y20 : Nat) (zm_y21 : Nat) (zm_y22 : Nat) (zm_y23 : Nat) (zm_y24 : Nat) (zm_y25 : Nat) (zm_y26 : Nat) (zm_y27 : Nat) (zm_y28 : Nat) (zm_y29 : Nat) (zm_y30 : Nat) (zm_y31 : Nat) (zm_y32 : Nat) (zo : Nat) {H : Heap} {locs : List Loc} (hN : zw_N s) (hK : va_K (dC, dI) classes [] s) (hP : va_P (dC, dI) classes [(zx, .inr (11, [.ref zx_y0, .ref zx_y1, .ref zx_y2, .ref zx_y3, .ref zx_y4, .ref zx_y5, .ref zx_y6, .ref zx_y7, .ref zx_y8, .ref zx_y9, .ref zx_y10, .ref zx_y11, .ref zx_y12, .ref zx_y13, .int 0, .int 0])), (zx_y1, .inr (6, [.ref zx_y16, .ref zx_y17, .ref zx_y18, .ref zx_y19, .int 0, .int (-1), .int (-1)])), (zx_y19, .inr (0, [.ref zx_y20, .ref zx_y21, .int 0, .int 0, .int 0, .int 0, .int 0])), (zm, .inr (12, [.int 0, .ref zm_y0, .int 0, .int 0, .int 0, .int 0, .ref zm_y1, .ref zm_y2, .ref zm_y3, .ref zm_y4, .ref zm_y5, .ref zm_y6, .ref zm_y7, .int 0, .int 0, .ref zm_y8, .ref zm_y9, .int 0, .int 0, .int 0, .int 0, .ref zm_y10, .ref zm_y11, .int 0, .int 0, .int 0, .int 0, .int 0, .ref zm_y12, .ref zm_y13, .ref zm_y14, .ref zm_y15, .int 0, .ref zm_y16, .ref zm_y17, .ref zm_y18, .int (-1), .int (-1), .int (-1), .int 0, .int 0, .int 0, .ref zm_y19, .ref zm_y20, .int 0, .ref zm_y21, .ref zm_y22, .ref zm_y23, .ref zm_y24, .ref zm_y25, .int 0, .ref zm_y26, .ref zm_y27, .ref zm_y28, .int 0, .int 0, .int 0, .ref zm_y29, .ref zm_y30, .ref zm_y31, .ref zm_y32, .int 0, .int 0, .long 0, .int 0, .int 0, .int 0, .int 0, .int 0, .int 0]))] H) (hD : va_D (fun q : Nat => s.heap.size ≤ q) [(zx, .inr (11, [.ref zx_y0, .ref zx_y1, .ref zx_y2, .ref zx_y3, .ref zx_y4, .ref zx_y5, .ref zx_y6, .ref zx_y7, .ref zx_y8, .ref zx_y9, .ref zx_y10, .ref zx_y11, .ref zx_y12, .ref zx_y13, .int 0, .int 0])), (zx_y1, .inr (6, [.ref zx_y16, .ref zx_y17, .ref zx_y18, .ref zx_y19, .int 0, .int (-1), .int (-1)])), (zx_y19, .inr (0, [.ref zx_y20, .ref zx_y21, .int 0, .int 0, .int 0, .int 0, .int 0])), (zm, .inr (12, [.int 0, .ref zm_y0, .int 0, .int 0, .int 0, .int 0, .ref zm_y1, .ref zm_y2, .ref zm_y3, .ref zm_y4, .ref zm_y5, .ref zm_y6, .ref zm_y7, .int 0, .int 0, .ref zm_y8, .ref zm_y9, .int 0, .int 0, .int 0, .int 0, .ref zm_y10, .ref zm_y11, .int 0, .int 0, .int 0, .int 0, .int 0, .ref zm_y12, .ref zm_y13, .ref zm_y14, .ref zm_y15, .int 0, .ref zm_y16, .ref zm_y17, .ref zm_y18, .int (-1), .int (-1), .int (-1), .int 0, .int 0, .int 0, .ref zm_y19, .ref zm_y20, .int 0, .ref zm_y21, .ref zm_y22, .ref zm_y23, .ref zm_y24, .ref zm_y25, .int 0, .ref zm_y26, .ref zm_y27, .ref zm_y28, .int 0, .int 0, .int 0, .ref zm_y29, .ref zm_y30, .ref zm_y31, .ref zm_y32, .int 0, .int 0, .long 0, .int 0, .int 0, .int 0, .int 0, .int 0, .int 0]))]) (hS : va_S (fun q : Nat => s.heap.size ≤ q) s.heap H locs) (ls : Array Slot) (hl : lv_has ls 7 [(0, .ref b), (1, .ref zx), (2, .ref zm), (3, .ref zo), (4, .int 0)]) : W p l e room_1 s m #[Value.ref b] below meth c H locs 99 952984 (lw_Z below #[Value.ref b] s) (F0 m 468 ls []) := by
  obtain ⟨hx, hb, hr, hml, hown, hts0, hX, hbl, hlocks, hgv⟩ := C0
  have hts : ∀ w ∈ wsL_law, w.before #[Value.ref b] s = true := fun w h => hts0 w (wsL_law_in w h)
  have hA : ∀ q : Nat, s.heap.size ≤ q → (fun q : Nat => s.heap.size ≤ q) q := fun _ h => h
  have hbA : ¬ (fun q : Nat => s.heap.size ≤ q) b := Nat.not_le.mpr hbl
  refine lv_aload_n hx hb dL_law_468 rfl (lv_at hl 1 rfl) ?_
  refine lv_aload_n hx hb dL_law_469 rfl (lv_at hl 0 rfl) ?_
  refine lv_iload hx hb dL_law_470 (lv_at hl 4 rfl) ?_
  refine lv_iconst (v := 1) hx hb dL_law_472 (by decide) ?_
  refine lv_iadd hx hb dL_law_473 ?_
  refine lv_topi (fun x_1 ex_1 => ?_)
  have ex_1 : x_1 = 1 := ex_1.trans (by decide)
  subst ex_1
  refine va_sld hx hb hX hbl hbA hS (vp_in_iff.mpr ⟨by decide, by decide⟩) dL_law_474 ?_
  refine lv_topi (fun x_2 ex_2 => ?_)
  refine lv_aload_n hx hb dL_law_475 rfl (lv_at hl 0 rfl) ?_
  refine lv_iload hx hb dL_law_476 (lv_at hl 4 rfl) ?_
  refine lv_iconst (v := 2) hx hb dL_law_478 (by decide) ?_
  refine lv_iadd hx hb dL_law_479 ?_
  refine lv_topi (fun x_3 ex_3 => ?_)
  have ex_3 : x_3 = 2 := ex_3.trans (by decide)
  subst ex_3
  refine va_sld hx hb hX hbl hbA hS (vp_in_iff.mpr ⟨by decide, by decide⟩) dL_law_480 ?_
  refine lv_topi (fun x_4 ex_4 => ?_)
  refine lv_aload_n hx hb dL_law_481 rfl (lv_at hl 0 rfl) ?_
  refine lv_iload hx hb dL_law_482 (lv_at hl 4 rfl) ?_
  refine lv_iconst (v := 3) hx hb dL_law_484 (by decide) ?_
  refine lv_iadd hx hb dL_law_485 ?_
  refine lv_topi (fun x_5 ex_5 => ?_)
  have ex_5 : x_5 = 3 := ex_5.trans (by decide)
  subst ex_5
  refine va_sld hx hb hX hbl hbA hS (vp_in_iff.mpr ⟨by decide, by decide⟩) dL_law_486 ?_
  refine lv_topi (fun x_6 ex_6 => ?_)
  have hPc := hP.sub (ws' := [(zx, .inr (11, [.ref zx_y0, .ref zx_y1, .ref zx_y2, .ref zx_y3, .ref zx_y4, .ref zx_y5, .ref zx_y6, .ref zx_y7, .ref zx_y8, .ref zx_y9, .ref zx_y10, .ref zx_y11, .ref zx_y12, .ref zx_y13, .int 0, .int 0])), (zx_y1, .inr (6, [.ref zx_y16, .ref zx_y17, .ref zx_y18, .ref zx_y19, .int 0, .int (-1), .int (-1)])), (zx_y19, .inr (0, [.ref zx_y20, .ref zx_y21, .int 0, .int 0, .int 0, .int 0, .int 0]))]) [0, 1, 2] rfl
  have hDc := hD.sub (ws' := [(zx, .inr (11, [.ref zx_y0, .ref zx_y1, .ref zx_y2, .ref zx_y3, .ref zx_y4, .ref zx_y5, .ref zx_y6, .ref zx_y7, .ref zx_y8, .ref zx_y9, .ref zx_y10, .ref zx_y11, .ref zx_y12, .ref zx_y13, .int 0, .int 0])), (zx_y1, .inr (6, [.ref zx_y16, .ref zx_y17, .ref zx_y18, .ref zx_y19, .int 0, .int (-1), .int (-1)])), (zx_y19, .inr (0, [.ref zx_y20, .ref zx_y21, .int 0, .int 0, .int 0, .int 0, .int 0]))]) [0, 1, 2] (by decide) rfl
  have hKc := hK.sub (tys' := []) [] rfl
  have hFc := va_free (wc := [(zx, .inr (11, [.ref zx_y0, .ref zx_y1, .ref zx_y2, .ref zx_y3, .ref zx_y4, .ref zx_y5, .ref zx_y6, .ref zx_y7, .ref zx_y8, .ref zx_y9, .ref zx_y10, .ref zx_y11, .ref zx_y12, .ref zx_y13, .int 0, .int 0])), (zx_y1, .inr (6, [.ref zx_y16, .ref zx_y17, .ref zx_y18, .ref zx_y19, .int 0, .int (-1), .int (-1)])), (zx_y19, .inr (0, [.ref zx_y20, .ref zx_y21, .int 0, .int 0, .int 0, .int 0, .int 0]))]) hD hS hA [0, 1, 2] rfl
  refine va_calli (va_runV (As := [.int x_2, .int x_4, .int x_6]) (rest := []) ⟨hx, hb, hml, hown, hts⟩ (zk_X11_hold_t l dC dI (zx) (x_2) (x_4) (x_6) (zx_y0) (zx_y1) (zx_y2) (zx_y3) (zx_y4) (zx_y5) (zx_y6) (zx_y7) (zx_y8) (zx_y9) (zx_y10) (zx_y11) (zx_y12) (zx_y13) (zx_y16) (zx_y17) (zx_y18) (zx_y19) (zx_y20) (zx_y21) H.size) (cwV 3 hts gL_law_X11_hold rfl rfl rfl (by decide +kernel) ⟨Nat.le_of_ble_eq_true rfl, Nat.le_of_ble_eq_true rfl⟩) ⟨zw_blind, va_recv hK hP (ci := 11) (q0 := 0) rfl rfl, fun U hU hW => ⟨rfl, zw_P.of hPc hKc hDc hN U hU hW⟩⟩ rfl rfl hl.1 rfl (lv_room (Nat.le_of_ble_eq_true rfl)) dL_law_487 ⟨Nat.le_of_ble_eq_true rfl, Nat.le_of_ble_eq_true rfl⟩) hS (fun q _ h => hFc q h) hFc (fun r_7 u t H1 locs ht hvm hw hB hz1 hk1 hS => ?_)
  obtain ⟨hP1, hK1, hD1⟩ := hB
  rw [ht] at hP1
  obtain ⟨hP, hD⟩ := va_join (wr := [(zm, .inr (12, [.int 0, .ref zm_y0, .int 0, .int 0, .int 0, .int 0, .ref zm_y1, .ref zm_y2, .ref zm_y3, .ref zm_y4, .ref zm_y5, .ref zm_y6, .ref zm_y7, .int 0, .int 0, .ref zm_y8, .ref zm_y9, .int 0, .int 0, .int 0, .int 0, .ref zm_y10, .ref zm_y11, .int 0, .int 0, .int 0, .int 0, .int 0, .ref zm_y12, .ref zm_y13, .ref zm_y14, .ref zm_y15, .int 0, .ref zm_y16, .ref zm_y17, .ref zm_y18, .int (-1), .int (-1), .int (-1), .int 0, .int 0, .int 0, .ref zm_y19, .ref zm_y20, .int 0, .ref zm_y21, .ref zm_y22, .ref zm_y23, .ref zm_y24, .ref zm_y25, .int 0, .ref zm_y26, .ref zm_y27, .ref zm_y28, .int 0, .int 0, .int 0, .ref zm_y29, .ref zm_y30, .ref zm_y31, .ref zm_y32, .int 0, .int 0, .long 0, .int 0, .int 0, .int 0, .int 0, .int 0, .int 0]))]) (w1 := []) hP hD [0, 1, 2] [3] rfl rfl (by decide) (by decide) hk1 hFc hP1 hD1
  generalize H1 = H at hP hS ⊢
  have hP : va_P (dC, dI) classes [(zm, .inr (12, [.int 0, .ref zm_y0, .int 0, .int 0, .int 0, .int 0, .ref zm_y1, .ref zm_y2, .ref zm_y3, .ref zm_y4, .ref zm_y5, .ref zm_y6, .ref zm_y7, .int 0, .int 0, .ref zm_y8, .ref zm_y9, .int 0, .int 0, .int 0, .int 0, .ref zm_y10, .ref zm_y11, .int 0, .int 0, .int 0, .int 0, .int 0, .ref zm_y12, .ref zm_y13, .ref zm_y14, .ref zm_y15, .int 0, .ref zm_y16, .ref zm_y17, .ref zm_y18, .int (-1), .int (-1), .int (-1), .int 0, .int 0, .int 0, .ref zm_y19, .ref zm_y20, .int 0, .ref zm_y21, .ref zm_y22, .ref zm_y23, .ref zm_y24, .ref zm_y25, .int 0, .ref zm_y26, .ref zm_y27, .ref zm_y28, .int 0, .int 0, .int 0, .ref zm_y29, .ref zm_y30, .ref zm_y31, .ref zm_y32, .int 0, .int 0, .long 0, .int 0, .int 0, .int 0, .int 0, .int 0, .int 0]))] H := hP
  have hD : va_D (fun q : Nat => s.heap.size ≤ q) [(zm, .inr (12, [.int 0, .ref zm_y0, .int 0, .int 0, .int 0, .int 0, .ref zm_y1, .ref zm_y2, .ref zm_y3, .ref zm_y4, .ref zm_y5, .ref zm_y6, .ref zm_y7, .int 0, .int 0, .ref zm_y8, .ref zm_y9, .int 0, .int 0, .int 0, .int 0, .ref zm_y10, .ref zm_y11, .int 0, .int 0, .int 0, .int 0, .int 0, .ref zm_y12, .ref zm_y13, .ref zm_y14, .ref zm_y15, .int 0, .ref zm_y16, .ref zm_y17, .ref zm_y18, .int (-1), .int (-1), .int (-1), .int 0, .int 0, .int 0, .ref zm_y19, .ref zm_y20, .int 0, .ref zm_y21, .ref zm_y22, .ref zm_y23, .ref zm_y24, .ref zm_y25, .int 0, .ref zm_y26, .ref zm_y27, .ref zm_y28, .int 0, .int 0, .int 0, .ref zm_y29, .ref zm_y30, .ref zm_y31, .ref zm_y32, .int 0, .int 0, .long 0, .int 0, .int 0, .int 0, .int 0, .int 0, .int 0]))] := hD
  obtain rfl : r_7 = (-1) := hw
  refine lv_aload_n hx hb dL_law_490 rfl (lv_at hl 2 rfl) ?_
  refine lv_aload_n hx hb dL_law_491 rfl (lv_at hl 0 rfl) ?_
  refine lv_iload hx hb dL_law_492 (lv_at hl 4 rfl) ?_
  refine lv_iconst (v := 1) hx hb dL_law_494 (by decide) ?_
  refine lv_iadd hx hb dL_law_495 ?_
  refine lv_topi (fun x_8 ex_8 => ?_)
  have ex_8 : x_8 = 1 := ex_8.trans (by decide)
  subst ex_8
  refine va_sld hx hb hX hbl hbA hS (vp_in_iff.mpr ⟨by decide, by decide⟩) dL_law_496 ?_
  refine lv_topi (fun x_9 ex_9 => ?_)
  have ex_9 : x_2 = x_9 := ex_2.trans ex_9.symm
  subst ex_9
  refine lv_aload_n hx hb dL_law_497 rfl (lv_at hl 0 rfl) ?_
  refine lv_iload hx hb dL_law_498 (lv_at hl 4 rfl) ?_
  refine lv_iconst (v := 2) hx hb dL_law_500 (by decide) ?_
  refine lv_iadd hx hb dL_law_501 ?_
  refine lv_topi (fun x_10 ex_10 => ?_)
  have ex_10 : x_10 = 2 := ex_10.trans (by decide)
  subst ex_10
  refine va_sld hx hb hX hbl hbA hS (vp_in_iff.mpr ⟨by decide, by decide⟩) dL_law_502 ?_
  refine lv_topi (fun x_11 ex_11 => ?_)
  have ex_11 : x_4 = x_11 := ex_4.trans ex_11.symm
  subst ex_11
  refine lv_aload_n hx hb dL_law_503 rfl (lv_at hl 0 rfl) ?_
  refine lv_iload hx hb dL_law_504 (lv_at hl 4 rfl) ?_
  refine lv_iconst (v := 3) hx hb dL_law_506 (by decide) ?_
  refine lv_iadd hx hb dL_law_507 ?_
  refine lv_topi (fun x_12 ex_12 => ?_)
  have ex_12 : x_12 = 3 := ex_12.trans (by decide)
  subst ex_12
  refine va_sld hx hb hX hbl hbA hS (vp_in_iff.mpr ⟨by decide, by decide⟩) dL_law_508 ?_
  refine lv_topi (fun x_13 ex_13 => ?_)
  have ex_13 : x_6 = x_13 := ex_6.trans ex_13.symm
  subst ex_13
  have hPc := hP.sub (ws' := [(zm, .inr (12, [.int 0, .ref zm_y0, .int 0, .int 0, .int 0, .int 0, .ref zm_y1, .ref zm_y2, .ref zm_y3, .ref zm_y4, .ref zm_y5, .ref zm_y6, .ref zm_y7, .int 0, .int 0, .ref zm_y8, .ref zm_y9, .int 0, .int 0, .int 0, .int 0, .ref zm_y10, .ref zm_y11, .int 0, .int 0, .int 0, .int 0, .int 0, .ref zm_y12, .ref zm_y13, .ref zm_y14, .ref zm_y15, .int 0, .ref zm_y16, .ref zm_y17, .ref zm_y18, .int (-1), .int (-1), .int (-1), .int 0, .int 0, .int 0, .ref zm_y19, .ref zm_y20, .int 0, .ref zm_y21, .ref zm_y22, .ref zm_y23, .ref zm_y24, .ref zm_y25, .int 0, .ref zm_y26, .ref zm_y27, .ref zm_y28, .int 0, .int 0, .int 0, .ref zm_y29, .ref zm_y30, .ref zm_y31, .ref zm_y32, .int 0, .int 0, .long 0, .int 0, .int 0, .int 0, .int 0, .int 0, .int 0]))]) [0] rfl
  have hDc := hD.sub (ws' := [(zm, .inr (12, [.int 0, .ref zm_y0, .int 0, .int 0, .int 0, .int 0, .ref zm_y1, .ref zm_y2, .ref zm_y3, .ref zm_y4, .ref zm_y5, .ref zm_y6, .ref zm_y7, .int 0, .int 0, .ref zm_y8, .ref zm_y9, .int 0, .int 0, .int 0, .int 0, .ref zm_y10, .ref zm_y11, .int 0, .int 0, .int 0, .int 0, .int 0, .ref zm_y12, .ref zm_y13, .ref zm_y14, .ref zm_y15, .int 0, .ref zm_y16, .ref zm_y17, .ref zm_y18, .int (-1), .int (-1), .int (-1), .int 0, .int 0, .int 0, .ref zm_y19, .ref zm_y20, .int 0, .ref zm_y21, .ref zm_y22, .ref zm_y23, .ref zm_y24, .ref zm_y25, .int 0, .ref zm_y26, .ref zm_y27, .ref zm_y28, .int 0, .int 0, .int 0, .ref zm_y29, .ref zm_y30, .ref zm_y31, .ref zm_y32, .int 0, .int 0, .long 0, .int 0, .int 0, .int 0, .int 0, .int 0, .int 0]))]) [0] (by decide) rfl
  have hKc := hK.sub (tys' := []) [] rfl
  have hFc := va_free (wc := [(zm, .inr (12, [.int 0, .ref zm_y0, .int 0, .int 0, .int 0, .int 0, .ref zm_y1, .ref zm_y2, .ref zm_y3, .ref zm_y4, .ref zm_y5, .ref zm_y6, .ref zm_y7, .int 0, .int 0, .ref zm_y8, .ref zm_y9, .int 0, .int 0, .int 0, .int 0, .ref zm_y10, .ref zm_y11, .int 0, .int 0, .int 0, .int 0, .int 0, .ref zm_y12, .ref zm_y13, .ref zm_y14, .ref zm_y15, .int 0, .ref zm_y16, .ref zm_y17, .ref zm_y18, .int (-1), .int (-1), .int (-1), .int 0, .int 0, .int 0, .ref zm_y19, .ref zm_y20, .int 0, .ref zm_y21, .ref zm_y22, .ref zm_y23, .ref zm_y24, .ref zm_y25, .int 0, .ref zm_y26, .ref zm_y27, .ref zm_y28, .int 0, .int 0, .int 0, .ref zm_y29, .ref zm_y30, .ref zm_y31, .ref zm_y32, .int 0, .int 0, .long 0, .int 0, .int 0, .int 0, .int 0, .int 0, .int 0]))]) hD hS hA [0] rfl
  refine va_calli (va_runV (As := [.int x_2, .int x_4, .int x_6]) (rest := [.int (-1)]) ⟨hx, hb, hml, hown, hts⟩ (zk_X12_hold_t l dC dI (zm) (x_2) (x_4) (x_6) (zm_y0) (zm_y1) (zm_y2) (zm_y3) (zm_y4) (zm_y5) (zm_y6) (zm_y7) (zm_y8) (zm_y9) (zm_y10) (zm_y11) (zm_y12) (zm_y13) (zm_y14) (zm_y15) (zm_y16) (zm_y17) (zm_y18) (zm_y19) (zm_y20) (zm_y21) (zm_y22) (zm_y23) (zm_y24) (zm_y25) (zm_y26) (zm_y27) (zm_y28) (zm_y29) (zm_y30) (zm_y31) (zm_y32) H.size) (cwV 3 hts gL_law_X12_hold rfl rfl rfl (by decide +kernel) ⟨Nat.le_of_ble_eq_true rfl, Nat.le_of_ble_eq_true rfl⟩) ⟨zw_blind, va_recv hK hP (ci := 12) (q0 := 0) rfl rfl, fun U hU hW => ⟨rfl, zw_P.of hPc hKc hDc hN U hU hW⟩⟩ rfl rfl hl.1 rfl (lv_room (Nat.le_of_ble_eq_true rfl)) dL_law_509 ⟨Nat.le_of_ble_eq_true rfl, Nat.le_of_ble_eq_true rfl⟩) hS (fun q _ h => hFc q h) hFc (fun r_14 u t H1 locs ht hvm hw hB hz1 hk1 hS => ?_)
  obtain ⟨hP1, hK1, hD1⟩ := hB
  rw [ht] at hP1
  obtain ⟨hP, hD⟩ := va_join (wr := []) (w1 := []) hP hD [0] [] rfl rfl (by decide) (by decide) hk1 hFc hP1 hD1
  generalize H1 = H at hP hS ⊢
  have hP : va_P (dC, dI) classes [] H := hP
  have hD : va_D (fun q : Nat => s.heap.size ≤ q) [] := hD
  obtain rfl : r_14 = (-1) := hw
  refine lv_icmp_eq (tgt := 1170) hx hb dL_law_512 (by decide) (fun _ => ?_) (fun c9 => absurd (by decide) c9)
  refine lv_iinc (v := 6) (lv' := [(4, .int 6), (0, .ref b), (1, .ref zx), (2, .ref zm), (3, .ref zo)]) hx hb dL_law_1170 hl (k := 4) rfl (by decide) (by decide) rfl (fun ls hl => ?_)
  refine lv_goto (tgt := 23) hx hb dL_law_1173 (by decide) ?_
  refine lv_iload hx hb dL_law_23 (lv_at hl 0 rfl) ?_
  refine lv_aload_n hx hb dL_law_25 rfl (lv_at hl 1 rfl) ?_
  refine va_slen hx hb hX hbl hbA hS dL_law_26 ?_
  refine lv_topi (fun x_15 ex_15 => ?_)
  have ex_15 : x_15 = 6 := ex_15.trans (by decide)
  subst ex_15
  refine lv_bipush (v := 6) hx hb dL_law_27 (by decide) ?_
  refine lv_isub hx hb dL_law_29 ?_
  refine lv_topi (fun x_16 ex_16 => ?_)
  have ex_16 : x_16 = 0 := ex_16.trans (by decide)
  subst ex_16
  refine lv_icmp_gt (tgt := 1176) hx hb dL_law_30 (by decide) (fun _ => ?_) (fun c9 => absurd (by decide) c9)
  refine lv_iconst (v := 1) hx hb dL_law_1176 (by decide) ?_
  refine va_forget (fun q hq => hS.2.2 q hq) ?_
  refine W.widen (k := 600002) (n := 7302232) (Nat.le_of_ble_eq_true rfl) (Nat.le_of_ble_eq_true rfl) ?_
  exact lw_ret hx hb hr hlocks dL_law_1177
set_option maxHeartbeats 8000000 in
set_option maxRecDepth 100000 in
theorem zl_10 {p : Program} {e : Env} {s : State} {m : MethodId} {below : List Frame} {meth : Method} {c : Code} (l : Launch) {b : Nat} {xs : Nat → Int32} (C0 : lw_At p s m meth c b 6 xs) (dC : Nat → ClassId) (dI : Nat → Nat → Nat) (zx : Nat) (zx_y0 : Nat) (zx_y1 : Nat) (zx_y2 : Nat) (zx_y3 : Nat) (zx_y4 : Nat) (zx_y5 : Nat) (zx_y6 : Nat) (zx_y7 : Nat) (zx_y8 : Nat) (zx_y9 : Nat) (zx_y10 : Nat) (zx_y11 : Nat) (zx_y12 : Nat) (zx_y13 : Nat) (zx_y16 : Nat) (zx_y17 : Nat) (zx_y18 : Nat) (zx_y19 : Nat) (zx_y20 : Nat) (zx_y21 : Nat) (zm : Nat) (zm_y0 : Nat) (zm_y1 : Nat) (zm_y2 : Nat) (zm_y3 : Nat) (zm_y4 : Nat) (zm_y5 : Nat) (zm_y6 : Nat) (zm_y7 : Nat) (zm_y8 : Nat) (zm_y9 : Nat) (zm_y10 : Nat) (zm_y11 : Nat) (zm_y12 : Nat) (zm_y13 : Nat) (zm_y14 : Nat) (zm_y15 : Nat) (zm_y16 : Nat) (zm_y17 : Nat) (zm_y18 : Nat) (zm_y19 : Nat) (zm_y20 : Nat) (zm_y21 : Nat) (zm_y22 : Nat) (zm_y23 : Nat) (zm_y24 : Nat) (zm_y25 : Nat) (zm_y26 : Nat) (zm_y27 : Nat) (zm_y28 : Nat) (zm_y29 : Nat) (zm_y30 : Nat) (zm_y31 : Nat) (zm_y32 : Nat) (zo : Nat) {H : Heap} {locs : List Loc} (hN : zw_N s) (hK : va_K (dC, dI) classes [] s) (hP : va_P (dC, dI) classes [(zx, .inr (11, [.ref zx_y0, .ref zx_y1, .ref zx_y2, .ref zx_y3, .ref zx_y4, .ref zx_y5, .ref zx_y6, .ref zx_y7, .ref zx_y8, .ref zx_y9, .ref zx_y10, .ref zx_y11, .ref zx_y12, .ref zx_y13, .int 0, .int 0])), (zx_y1, .inr (6, [.ref zx_y16, .ref zx_y17, .ref zx_y18, .ref zx_y19, .int 0, .int (-1), .int (-1)])), (zx_y19, .inr (0, [.ref zx_y20, .ref zx_y21, .int 0, .int 0, .int 0, .int 0, .int 0])), (zm, .inr (12, [.int 0, .ref zm_y0, .int 0, .int 0, .int 0, .int 0, .ref zm_y1, .ref zm_y2, .ref zm_y3, .ref zm_y4, .ref zm_y5, .ref zm_y6, .ref zm_y7, .int 0, .int 0, .ref zm_y8, .ref zm_y9, .int 0, .int 0, .int 0, .int 0, .ref zm_y10, .ref zm_y11, .int 0, .int 0, .int 0, .int 0, .int 0, .ref zm_y12, .ref zm_y13, .ref zm_y14, .ref zm_y15, .int 0, .ref zm_y16, .ref zm_y17, .ref zm_y18, .int (-1), .int (-1), .int (-1), .int 0, .int 0, .int 0, .ref zm_y19, .ref zm_y20, .int 0, .ref zm_y21, .ref zm_y22, .ref zm_y23, .ref zm_y24, .ref zm_y25, .int 0, .ref zm_y26, .ref zm_y27, .ref zm_y28, .int 0, .int 0, .int 0, .ref zm_y29, .ref zm_y30, .ref zm_y31, .ref zm_y32, .int 0, .int 0, .long 0, .int 0, .int 0, .int 0, .int 0, .int 0, .int 0]))] H) (hD : va_D (fun q : Nat => s.heap.size ≤ q) [(zx, .inr (11, [.ref zx_y0, .ref zx_y1, .ref zx_y2, .ref zx_y3, .ref zx_y4, .ref zx_y5, .ref zx_y6, .ref zx_y7, .ref zx_y8, .ref zx_y9, .ref zx_y10, .ref zx_y11, .ref zx_y12, .ref zx_y13, .int 0, .int 0])), (zx_y1, .inr (6, [.ref zx_y16, .ref zx_y17, .ref zx_y18, .ref zx_y19, .int 0, .int (-1), .int (-1)])), (zx_y19, .inr (0, [.ref zx_y20, .ref zx_y21, .int 0, .int 0, .int 0, .int 0, .int 0])), (zm, .inr (12, [.int 0, .ref zm_y0, .int 0, .int 0, .int 0, .int 0, .ref zm_y1, .ref zm_y2, .ref zm_y3, .ref zm_y4, .ref zm_y5, .ref zm_y6, .ref zm_y7, .int 0, .int 0, .ref zm_y8, .ref zm_y9, .int 0, .int 0, .int 0, .int 0, .ref zm_y10, .ref zm_y11, .int 0, .int 0, .int 0, .int 0, .int 0, .ref zm_y12, .ref zm_y13, .ref zm_y14, .ref zm_y15, .int 0, .ref zm_y16, .ref zm_y17, .ref zm_y18, .int (-1), .int (-1), .int (-1), .int 0, .int 0, .int 0, .ref zm_y19, .ref zm_y20, .int 0, .ref zm_y21, .ref zm_y22, .ref zm_y23, .ref zm_y24, .ref zm_y25, .int 0, .ref zm_y26, .ref zm_y27, .ref zm_y28, .int 0, .int 0, .int 0, .ref zm_y29, .ref zm_y30, .ref zm_y31, .ref zm_y32, .int 0, .int 0, .long 0, .int 0, .int 0, .int 0, .int 0, .int 0, .int 0]))]) (hS : va_S (fun q : Nat => s.heap.size ≤ q) s.heap H locs) (ls : Array Slot) (hl : lv_has ls 7 [(0, .ref b), (1, .ref zx), (2, .ref zm), (3, .ref zo), (4, .int 0)]) : W p l e room_1 s m #[Value.ref b] below meth c H locs 99 952984 (lw_Z below #[Value.ref b] s) (F0 m 517 ls []) := by
  obtain ⟨hx, hb, hr, hml, hown, hts0, hX, hbl, hlocks, hgv⟩ := C0
  have hts : ∀ w ∈ wsL_law, w.before #[Value.ref b] s = true := fun w h => hts0 w (wsL_law_in w h)
  have hA : ∀ q : Nat, s.heap.size ≤ q → (fun q : Nat => s.heap.size ≤ q) q := fun _ h => h
  have hbA : ¬ (fun q : Nat => s.heap.size ≤ q) b := Nat.not_le.mpr hbl
  refine lv_aload_n hx hb dL_law_517 rfl (lv_at hl 1 rfl) ?_
  have hPc := hP.sub (ws' := [(zx, .inr (11, [.ref zx_y0, .ref zx_y1, .ref zx_y2, .ref zx_y3, .ref zx_y4, .ref zx_y5, .ref zx_y6, .ref zx_y7, .ref zx_y8, .ref zx_y9, .ref zx_y10, .ref zx_y11, .ref zx_y12, .ref zx_y13, .int 0, .int 0])), (zx_y1, .inr (6, [.ref zx_y16, .ref zx_y17, .ref zx_y18, .ref zx_y19, .int 0, .int (-1), .int (-1)])), (zx_y19, .inr (0, [.ref zx_y20, .ref zx_y21, .int 0, .int 0, .int 0, .int 0, .int 0]))]) [0, 1, 2] rfl
  have hDc := hD.sub (ws' := [(zx, .inr (11, [.ref zx_y0, .ref zx_y1, .ref zx_y2, .ref zx_y3, .ref zx_y4, .ref zx_y5, .ref zx_y6, .ref zx_y7, .ref zx_y8, .ref zx_y9, .ref zx_y10, .ref zx_y11, .ref zx_y12, .ref zx_y13, .int 0, .int 0])), (zx_y1, .inr (6, [.ref zx_y16, .ref zx_y17, .ref zx_y18, .ref zx_y19, .int 0, .int (-1), .int (-1)])), (zx_y19, .inr (0, [.ref zx_y20, .ref zx_y21, .int 0, .int 0, .int 0, .int 0, .int 0]))]) [0, 1, 2] (by decide) rfl
  have hKc := hK.sub (tys' := []) [] rfl
  have hFc := va_free (wc := [(zx, .inr (11, [.ref zx_y0, .ref zx_y1, .ref zx_y2, .ref zx_y3, .ref zx_y4, .ref zx_y5, .ref zx_y6, .ref zx_y7, .ref zx_y8, .ref zx_y9, .ref zx_y10, .ref zx_y11, .ref zx_y12, .ref zx_y13, .int 0, .int 0])), (zx_y1, .inr (6, [.ref zx_y16, .ref zx_y17, .ref zx_y18, .ref zx_y19, .int 0, .int (-1), .int (-1)])), (zx_y19, .inr (0, [.ref zx_y20, .ref zx_y21, .int 0, .int 0, .int 0, .int 0, .int 0]))]) hD hS hA [0, 1, 2] rfl
  refine va_calli (va_runV (As := []) (rest := []) ⟨hx, hb, hml, hown, hts⟩ (zk_X11_over_t l dC dI (zx) (zx_y0) (zx_y1) (zx_y2) (zx_y3) (zx_y4) (zx_y5) (zx_y6) (zx_y7) (zx_y8) (zx_y9) (zx_y10) (zx_y11) (zx_y12) (zx_y13) (zx_y16) (zx_y17) (zx_y18) (zx_y19) (zx_y20) (zx_y21) H.size) (cwV 0 hts gL_law_X11_over rfl rfl rfl (by decide +kernel) ⟨Nat.le_of_ble_eq_true rfl, Nat.le_of_ble_eq_true rfl⟩) ⟨zw_blind, va_recv hK hP (ci := 11) (q0 := 0) rfl rfl, fun U hU hW => ⟨rfl, zw_P.of hPc hKc hDc hN U hU hW⟩⟩ rfl rfl hl.1 rfl (lv_room (Nat.le_of_ble_eq_true rfl)) dL_law_518 ⟨Nat.le_of_ble_eq_true rfl, Nat.le_of_ble_eq_true rfl⟩) hS (fun q _ h => hFc q h) hFc (fun r_1 u t H1 locs ht hvm hw hB hz1 hk1 hS => ?_)
  obtain ⟨hP1, hK1, hD1⟩ := hB
  rw [ht] at hP1
  obtain ⟨hP, hD⟩ := va_join (wr := [(zm, .inr (12, [.int 0, .ref zm_y0, .int 0, .int 0, .int 0, .int 0, .ref zm_y1, .ref zm_y2, .ref zm_y3, .ref zm_y4, .ref zm_y5, .ref zm_y6, .ref zm_y7, .int 0, .int 0, .ref zm_y8, .ref zm_y9, .int 0, .int 0, .int 0, .int 0, .ref zm_y10, .ref zm_y11, .int 0, .int 0, .int 0, .int 0, .int 0, .ref zm_y12, .ref zm_y13, .ref zm_y14, .ref zm_y15, .int 0, .ref zm_y16, .ref zm_y17, .ref zm_y18, .int (-1), .int (-1), .int (-1), .int 0, .int 0, .int 0, .ref zm_y19, .ref zm_y20, .int 0, .ref zm_y21, .ref zm_y22, .ref zm_y23, .ref zm_y24, .ref zm_y25, .int 0, .ref zm_y26, .ref zm_y27, .ref zm_y28, .int 0, .int 0, .int 0, .ref zm_y29, .ref zm_y30, .ref zm_y31, .ref zm_y32, .int 0, .int 0, .long 0, .int 0, .int 0, .int 0, .int 0, .int 0, .int 0]))]) (w1 := []) hP hD [0, 1, 2] [3] rfl rfl (by decide) (by decide) hk1 hFc hP1 hD1
  generalize H1 = H at hP hS ⊢
  have hP : va_P (dC, dI) classes [(zm, .inr (12, [.int 0, .ref zm_y0, .int 0, .int 0, .int 0, .int 0, .ref zm_y1, .ref zm_y2, .ref zm_y3, .ref zm_y4, .ref zm_y5, .ref zm_y6, .ref zm_y7, .int 0, .int 0, .ref zm_y8, .ref zm_y9, .int 0, .int 0, .int 0, .int 0, .ref zm_y10, .ref zm_y11, .int 0, .int 0, .int 0, .int 0, .int 0, .ref zm_y12, .ref zm_y13, .ref zm_y14, .ref zm_y15, .int 0, .ref zm_y16, .ref zm_y17, .ref zm_y18, .int (-1), .int (-1), .int (-1), .int 0, .int 0, .int 0, .ref zm_y19, .ref zm_y20, .int 0, .ref zm_y21, .ref zm_y22, .ref zm_y23, .ref zm_y24, .ref zm_y25, .int 0, .ref zm_y26, .ref zm_y27, .ref zm_y28, .int 0, .int 0, .int 0, .ref zm_y29, .ref zm_y30, .ref zm_y31, .ref zm_y32, .int 0, .int 0, .long 0, .int 0, .int 0, .int 0, .int 0, .int 0, .int 0]))] H := hP
  have hD : va_D (fun q : Nat => s.heap.size ≤ q) [(zm, .inr (12, [.int 0, .ref zm_y0, .int 0, .int 0, .int 0, .int 0, .ref zm_y1, .ref zm_y2, .ref zm_y3, .ref zm_y4, .ref zm_y5, .ref zm_y6, .ref zm_y7, .int 0, .int 0, .ref zm_y8, .ref zm_y9, .int 0, .int 0, .int 0, .int 0, .ref zm_y10, .ref zm_y11, .int 0, .int 0, .int 0, .int 0, .int 0, .ref zm_y12, .ref zm_y13, .ref zm_y14, .ref zm_y15, .int 0, .ref zm_y16, .ref zm_y17, .ref zm_y18, .int (-1), .int (-1), .int (-1), .int 0, .int 0, .int 0, .ref zm_y19, .ref zm_y20, .int 0, .ref zm_y21, .ref zm_y22, .ref zm_y23, .ref zm_y24, .ref zm_y25, .int 0, .ref zm_y26, .ref zm_y27, .ref zm_y28, .int 0, .int 0, .int 0, .ref zm_y29, .ref zm_y30, .ref zm_y31, .ref zm_y32, .int 0, .int 0, .long 0, .int 0, .int 0, .int 0, .int 0, .int 0, .int 0]))] := hD
  obtain rfl : r_1 = (-1) := hw
  refine lv_aload_n hx hb dL_law_521 rfl (lv_at hl 2 rfl) ?_
  have hPc := hP.sub (ws' := [(zm, .inr (12, [.int 0, .ref zm_y0, .int 0, .int 0, .int 0, .int 0, .ref zm_y1, .ref zm_y2, .ref zm_y3, .ref zm_y4, .ref zm_y5, .ref zm_y6, .ref zm_y7, .int 0, .int 0, .ref zm_y8, .ref zm_y9, .int 0, .int 0, .int 0, .int 0, .ref zm_y10, .ref zm_y11, .int 0, .int 0, .int 0, .int 0, .int 0, .ref zm_y12, .ref zm_y13, .ref zm_y14, .ref zm_y15, .int 0, .ref zm_y16, .ref zm_y17, .ref zm_y18, .int (-1), .int (-1), .int (-1), .int 0, .int 0, .int 0, .ref zm_y19, .ref zm_y20, .int 0, .ref zm_y21, .ref zm_y22, .ref zm_y23, .ref zm_y24, .ref zm_y25, .int 0, .ref zm_y26, .ref zm_y27, .ref zm_y28, .int 0, .int 0, .int 0, .ref zm_y29, .ref zm_y30, .ref zm_y31, .ref zm_y32, .int 0, .int 0, .long 0, .int 0, .int 0, .int 0, .int 0, .int 0, .int 0]))]) [0] rfl
  have hDc := hD.sub (ws' := [(zm, .inr (12, [.int 0, .ref zm_y0, .int 0, .int 0, .int 0, .int 0, .ref zm_y1, .ref zm_y2, .ref zm_y3, .ref zm_y4, .ref zm_y5, .ref zm_y6, .ref zm_y7, .int 0, .int 0, .ref zm_y8, .ref zm_y9, .int 0, .int 0, .int 0, .int 0, .ref zm_y10, .ref zm_y11, .int 0, .int 0, .int 0, .int 0, .int 0, .ref zm_y12, .ref zm_y13, .ref zm_y14, .ref zm_y15, .int 0, .ref zm_y16, .ref zm_y17, .ref zm_y18, .int (-1), .int (-1), .int (-1), .int 0, .int 0, .int 0, .ref zm_y19, .ref zm_y20, .int 0, .ref zm_y21, .ref zm_y22, .ref zm_y23, .ref zm_y24, .ref zm_y25, .int 0, .ref zm_y26, .ref zm_y27, .ref zm_y28, .int 0, .int 0, .int 0, .ref zm_y29, .ref zm_y30, .ref zm_y31, .ref zm_y32, .int 0, .int 0, .long 0, .int 0, .int 0, .int 0, .int 0, .int 0, .int 0]))]) [0] (by decide) rfl
  have hKc := hK.sub (tys' := []) [] rfl
  have hFc := va_free (wc := [(zm, .inr (12, [.int 0, .ref zm_y0, .int 0, .int 0, .int 0, .int 0, .ref zm_y1, .ref zm_y2, .ref zm_y3, .ref zm_y4, .ref zm_y5, .ref zm_y6, .ref zm_y7, .int 0, .int 0, .ref zm_y8, .ref zm_y9, .int 0, .int 0, .int 0, .int 0, .ref zm_y10, .ref zm_y11, .int 0, .int 0, .int 0, .int 0, .int 0, .ref zm_y12, .ref zm_y13, .ref zm_y14, .ref zm_y15, .int 0, .ref zm_y16, .ref zm_y17, .ref zm_y18, .int (-1), .int (-1), .int (-1), .int 0, .int 0, .int 0, .ref zm_y19, .ref zm_y20, .int 0, .ref zm_y21, .ref zm_y22, .ref zm_y23, .ref zm_y24, .ref zm_y25, .int 0, .ref zm_y26, .ref zm_y27, .ref zm_y28, .int 0, .int 0, .int 0, .ref zm_y29, .ref zm_y30, .ref zm_y31, .ref zm_y32, .int 0, .int 0, .long 0, .int 0, .int 0, .int 0, .int 0, .int 0, .int 0]))]) hD hS hA [0] rfl
  refine va_calli (va_runV (As := []) (rest := [.int (-1)]) ⟨hx, hb, hml, hown, hts⟩ (zk_X12_over_t l dC dI (zm) (zm_y0) (zm_y1) (zm_y2) (zm_y3) (zm_y4) (zm_y5) (zm_y6) (zm_y7) (zm_y8) (zm_y9) (zm_y10) (zm_y11) (zm_y12) (zm_y13) (zm_y14) (zm_y15) (zm_y16) (zm_y17) (zm_y18) (zm_y19) (zm_y20) (zm_y21) (zm_y22) (zm_y23) (zm_y24) (zm_y25) (zm_y26) (zm_y27) (zm_y28) (zm_y29) (zm_y30) (zm_y31) (zm_y32) H.size) (cwV 0 hts gL_law_X12_over rfl rfl rfl (by decide +kernel) ⟨Nat.le_of_ble_eq_true rfl, Nat.le_of_ble_eq_true rfl⟩) ⟨zw_blind, va_recv hK hP (ci := 12) (q0 := 0) rfl rfl, fun U hU hW => ⟨rfl, zw_P.of hPc hKc hDc hN U hU hW⟩⟩ rfl rfl hl.1 rfl (lv_room (Nat.le_of_ble_eq_true rfl)) dL_law_522 ⟨Nat.le_of_ble_eq_true rfl, Nat.le_of_ble_eq_true rfl⟩) hS (fun q _ h => hFc q h) hFc (fun r_2 u t H1 locs ht hvm hw hB hz1 hk1 hS => ?_)
  obtain ⟨hP1, hK1, hD1⟩ := hB
  rw [ht] at hP1
  obtain ⟨hP, hD⟩ := va_join (wr := []) (w1 := []) hP hD [0] [] rfl rfl (by decide) (by decide) hk1 hFc hP1 hD1
  generalize H1 = H at hP hS ⊢
  have hP : va_P (dC, dI) classes [] H := hP
  have hD : va_D (fun q : Nat => s.heap.size ≤ q) [] := hD
  obtain rfl : r_2 = (-1) := hw
  refine lv_icmp_eq (tgt := 1170) hx hb dL_law_525 (by decide) (fun _ => ?_) (fun c9 => absurd (by decide) c9)
  refine lv_iinc (v := 6) (lv' := [(4, .int 6), (0, .ref b), (1, .ref zx), (2, .ref zm), (3, .ref zo)]) hx hb dL_law_1170 hl (k := 4) rfl (by decide) (by decide) rfl (fun ls hl => ?_)
  refine lv_goto (tgt := 23) hx hb dL_law_1173 (by decide) ?_
  refine lv_iload hx hb dL_law_23 (lv_at hl 0 rfl) ?_
  refine lv_aload_n hx hb dL_law_25 rfl (lv_at hl 1 rfl) ?_
  refine va_slen hx hb hX hbl hbA hS dL_law_26 ?_
  refine lv_topi (fun x_3 ex_3 => ?_)
  have ex_3 : x_3 = 6 := ex_3.trans (by decide)
  subst ex_3
  refine lv_bipush (v := 6) hx hb dL_law_27 (by decide) ?_
  refine lv_isub hx hb dL_law_29 ?_
  refine lv_topi (fun x_4 ex_4 => ?_)
  have ex_4 : x_4 = 0 := ex_4.trans (by decide)
  subst ex_4
  refine lv_icmp_gt (tgt := 1176) hx hb dL_law_30 (by decide) (fun _ => ?_) (fun c9 => absurd (by decide) c9)
  refine lv_iconst (v := 1) hx hb dL_law_1176 (by decide) ?_
  refine va_forget (fun q hq => hS.2.2 q hq) ?_
  refine W.widen (k := 600002) (n := 7302232) (Nat.le_of_ble_eq_true rfl) (Nat.le_of_ble_eq_true rfl) ?_
  exact lw_ret hx hb hr hlocks dL_law_1177
set_option maxHeartbeats 8000000 in
set_option maxRecDepth 100000 in
theorem zl_11 {p : Program} {e : Env} {s : State} {m : MethodId} {below : List Frame} {meth : Method} {c : Code} (l : Launch) {b : Nat} {xs : Nat → Int32} (C0 : lw_At p s m meth c b 6 xs) (dC : Nat → ClassId) (dI : Nat → Nat → Nat) (zx : Nat) (zx_y0 : Nat) (zx_y1 : Nat) (zx_y2 : Nat) (zx_y3 : Nat) (zx_y4 : Nat) (zx_y5 : Nat) (zx_y6 : Nat) (zx_y7 : Nat) (zx_y8 : Nat) (zx_y9 : Nat) (zx_y10 : Nat) (zx_y11 : Nat) (zx_y12 : Nat) (zx_y13 : Nat) (zm : Nat) (zm_y0 : Nat) (zm_y1 : Nat) (zm_y2 : Nat) (zm_y3 : Nat) (zm_y4 : Nat) (zm_y5 : Nat) (zm_y6 : Nat) (zm_y7 : Nat) (zm_y8 : Nat) (zm_y9 : Nat) (zm_y10 : Nat) (zm_y11 : Nat) (zm_y12 : Nat) (zm_y13 : Nat) (zm_y14 : Nat) (zm_y15 : Nat) (zm_y16 : Nat) (zm_y17 : Nat) (zm_y18 : Nat) (zm_y19 : Nat) (zm_y20 : Nat) (zm_y21 : Nat) (zm_y22 : Nat) (zm_y23 : Nat) (zm_y24 : Nat) (zm_y25 : Nat) (zm_y26 : Nat) (zm_y27 : Nat) (zm_y28 : Nat) (zm_y29 : Nat) (zm_y30 : Nat) (zm_y31 : Nat) (zm_y32 : Nat) (zo : Nat) {H : Heap} {locs : List Loc} (hN : zw_N s) (hK : va_K (dC, dI) classes [] s) (hP : va_P (dC, dI) classes [(zx, .inr (11, [.ref zx_y0, .ref zx_y1, .ref zx_y2, .ref zx_y3, .ref zx_y4, .ref zx_y5, .ref zx_y6, .ref zx_y7, .ref zx_y8, .ref zx_y9, .ref zx_y10, .ref zx_y11, .ref zx_y12, .ref zx_y13, .int 0, .int 0])), (zm, .inr (12, [.int 0, .ref zm_y0, .int 0, .int 0, .int 0, .int 0, .ref zm_y1, .ref zm_y2, .ref zm_y3, .ref zm_y4, .ref zm_y5, .ref zm_y6, .ref zm_y7, .int 0, .int 0, .ref zm_y8, .ref zm_y9, .int 0, .int 0, .int 0, .int 0, .ref zm_y10, .ref zm_y11, .int 0, .int 0, .int 0, .int 0, .int 0, .ref zm_y12, .ref zm_y13, .ref zm_y14, .ref zm_y15, .int 0, .ref zm_y16, .ref zm_y17, .ref zm_y18, .int (-1), .int (-1), .int (-1), .int 0, .int 0, .int 0, .ref zm_y19, .ref zm_y20, .int 0, .ref zm_y21, .ref zm_y22, .ref zm_y23, .ref zm_y24, .ref zm_y25, .int 0, .ref zm_y26, .ref zm_y27, .ref zm_y28, .int 0, .int 0, .int 0, .ref zm_y29, .ref zm_y30, .ref zm_y31, .ref zm_y32, .int 0, .int 0, .long 0, .int 0, .int 0, .int 0, .int 0, .int 0, .int 0]))] H) (hD : va_D (fun q : Nat => s.heap.size ≤ q) [(zx, .inr (11, [.ref zx_y0, .ref zx_y1, .ref zx_y2, .ref zx_y3, .ref zx_y4, .ref zx_y5, .ref zx_y6, .ref zx_y7, .ref zx_y8, .ref zx_y9, .ref zx_y10, .ref zx_y11, .ref zx_y12, .ref zx_y13, .int 0, .int 0])), (zm, .inr (12, [.int 0, .ref zm_y0, .int 0, .int 0, .int 0, .int 0, .ref zm_y1, .ref zm_y2, .ref zm_y3, .ref zm_y4, .ref zm_y5, .ref zm_y6, .ref zm_y7, .int 0, .int 0, .ref zm_y8, .ref zm_y9, .int 0, .int 0, .int 0, .int 0, .ref zm_y10, .ref zm_y11, .int 0, .int 0, .int 0, .int 0, .int 0, .ref zm_y12, .ref zm_y13, .ref zm_y14, .ref zm_y15, .int 0, .ref zm_y16, .ref zm_y17, .ref zm_y18, .int (-1), .int (-1), .int (-1), .int 0, .int 0, .int 0, .ref zm_y19, .ref zm_y20, .int 0, .ref zm_y21, .ref zm_y22, .ref zm_y23, .ref zm_y24, .ref zm_y25, .int 0, .ref zm_y26, .ref zm_y27, .ref zm_y28, .int 0, .int 0, .int 0, .ref zm_y29, .ref zm_y30, .ref zm_y31, .ref zm_y32, .int 0, .int 0, .long 0, .int 0, .int 0, .int 0, .int 0, .int 0, .int 0]))]) (hS : va_S (fun q : Nat => s.heap.size ≤ q) s.heap H locs) (ls : Array Slot) (hl : lv_has ls 7 [(0, .ref b), (1, .ref zx), (2, .ref zm), (3, .ref zo), (4, .int 0)]) : W p l e room_1 s m #[Value.ref b] below meth c H locs 99 952984 (lw_Z below #[Value.ref b] s) (F0 m 530 ls []) := by
  obtain ⟨hx, hb, hr, hml, hown, hts0, hX, hbl, hlocks, hgv⟩ := C0
  have hts : ∀ w ∈ wsL_law, w.before #[Value.ref b] s = true := fun w h => hts0 w (wsL_law_in w h)
  have hA : ∀ q : Nat, s.heap.size ≤ q → (fun q : Nat => s.heap.size ≤ q) q := fun _ h => h
  have hbA : ¬ (fun q : Nat => s.heap.size ≤ q) b := Nat.not_le.mpr hbl
  refine lv_aload_n hx hb dL_law_530 rfl (lv_at hl 1 rfl) ?_
  refine lv_aload_n hx hb dL_law_531 rfl (lv_at hl 0 rfl) ?_
  refine lv_iload hx hb dL_law_532 (lv_at hl 4 rfl) ?_
  refine lv_iconst (v := 1) hx hb dL_law_534 (by decide) ?_
  refine lv_iadd hx hb dL_law_535 ?_
  refine lv_topi (fun x_1 ex_1 => ?_)
  have ex_1 : x_1 = 1 := ex_1.trans (by decide)
  subst ex_1
  refine va_sld hx hb hX hbl hbA hS (vp_in_iff.mpr ⟨by decide, by decide⟩) dL_law_536 ?_
  refine lv_topi (fun x_2 ex_2 => ?_)
  have hPc := hP.sub (ws' := [(zx, .inr (11, [.ref zx_y0, .ref zx_y1, .ref zx_y2, .ref zx_y3, .ref zx_y4, .ref zx_y5, .ref zx_y6, .ref zx_y7, .ref zx_y8, .ref zx_y9, .ref zx_y10, .ref zx_y11, .ref zx_y12, .ref zx_y13, .int 0, .int 0]))]) [0] rfl
  have hDc := hD.sub (ws' := [(zx, .inr (11, [.ref zx_y0, .ref zx_y1, .ref zx_y2, .ref zx_y3, .ref zx_y4, .ref zx_y5, .ref zx_y6, .ref zx_y7, .ref zx_y8, .ref zx_y9, .ref zx_y10, .ref zx_y11, .ref zx_y12, .ref zx_y13, .int 0, .int 0]))]) [0] (by decide) rfl
  have hKc := hK.sub (tys' := []) [] rfl
  have hFc := va_free (wc := [(zx, .inr (11, [.ref zx_y0, .ref zx_y1, .ref zx_y2, .ref zx_y3, .ref zx_y4, .ref zx_y5, .ref zx_y6, .ref zx_y7, .ref zx_y8, .ref zx_y9, .ref zx_y10, .ref zx_y11, .ref zx_y12, .ref zx_y13, .int 0, .int 0]))]) hD hS hA [0] rfl
  refine va_calli (va_runV (As := [.int x_2]) (rest := []) ⟨hx, hb, hml, hown, hts⟩ (zk_X11_judge_t l dC dI (zx) (x_2) (zx_y0) (zx_y1) (zx_y2) (zx_y3) (zx_y4) (zx_y5) (zx_y6) (zx_y7) (zx_y8) (zx_y9) (zx_y10) (zx_y11) (zx_y12) (zx_y13) H.size) (cwV 1 hts gL_law_X11_judge rfl rfl rfl (by decide +kernel) ⟨Nat.le_of_ble_eq_true rfl, Nat.le_of_ble_eq_true rfl⟩) ⟨zw_blind, va_recv hK hP (ci := 11) (q0 := 0) rfl rfl, fun U hU hW => ⟨rfl, zw_P.of hPc hKc hDc hN U hU hW⟩⟩ rfl rfl hl.1 rfl (lv_room (Nat.le_of_ble_eq_true rfl)) dL_law_537 ⟨Nat.le_of_ble_eq_true rfl, Nat.le_of_ble_eq_true rfl⟩) hS (fun q _ h => hFc q h) hFc (fun r_3 u t H1 locs ht hvm hw hB hz1 hk1 hS => ?_)
  obtain ⟨hP1, hK1, hD1⟩ := hB
  rw [ht] at hP1
  obtain ⟨hP, hD⟩ := va_join (wr := [(zm, .inr (12, [.int 0, .ref zm_y0, .int 0, .int 0, .int 0, .int 0, .ref zm_y1, .ref zm_y2, .ref zm_y3, .ref zm_y4, .ref zm_y5, .ref zm_y6, .ref zm_y7, .int 0, .int 0, .ref zm_y8, .ref zm_y9, .int 0, .int 0, .int 0, .int 0, .ref zm_y10, .ref zm_y11, .int 0, .int 0, .int 0, .int 0, .int 0, .ref zm_y12, .ref zm_y13, .ref zm_y14, .ref zm_y15, .int 0, .ref zm_y16, .ref zm_y17, .ref zm_y18, .int (-1), .int (-1), .int (-1), .int 0, .int 0, .int 0, .ref zm_y19, .ref zm_y20, .int 0, .ref zm_y21, .ref zm_y22, .ref zm_y23, .ref zm_y24, .ref zm_y25, .int 0, .ref zm_y26, .ref zm_y27, .ref zm_y28, .int 0, .int 0, .int 0, .ref zm_y29, .ref zm_y30, .ref zm_y31, .ref zm_y32, .int 0, .int 0, .long 0, .int 0, .int 0, .int 0, .int 0, .int 0, .int 0]))]) (w1 := []) hP hD [0] [1] rfl rfl (by decide) (by decide) hk1 hFc hP1 hD1
  generalize H1 = H at hP hS ⊢
  have hP : va_P (dC, dI) classes [(zm, .inr (12, [.int 0, .ref zm_y0, .int 0, .int 0, .int 0, .int 0, .ref zm_y1, .ref zm_y2, .ref zm_y3, .ref zm_y4, .ref zm_y5, .ref zm_y6, .ref zm_y7, .int 0, .int 0, .ref zm_y8, .ref zm_y9, .int 0, .int 0, .int 0, .int 0, .ref zm_y10, .ref zm_y11, .int 0, .int 0, .int 0, .int 0, .int 0, .ref zm_y12, .ref zm_y13, .ref zm_y14, .ref zm_y15, .int 0, .ref zm_y16, .ref zm_y17, .ref zm_y18, .int (-1), .int (-1), .int (-1), .int 0, .int 0, .int 0, .ref zm_y19, .ref zm_y20, .int 0, .ref zm_y21, .ref zm_y22, .ref zm_y23, .ref zm_y24, .ref zm_y25, .int 0, .ref zm_y26, .ref zm_y27, .ref zm_y28, .int 0, .int 0, .int 0, .ref zm_y29, .ref zm_y30, .ref zm_y31, .ref zm_y32, .int 0, .int 0, .long 0, .int 0, .int 0, .int 0, .int 0, .int 0, .int 0]))] H := hP
  have hD : va_D (fun q : Nat => s.heap.size ≤ q) [(zm, .inr (12, [.int 0, .ref zm_y0, .int 0, .int 0, .int 0, .int 0, .ref zm_y1, .ref zm_y2, .ref zm_y3, .ref zm_y4, .ref zm_y5, .ref zm_y6, .ref zm_y7, .int 0, .int 0, .ref zm_y8, .ref zm_y9, .int 0, .int 0, .int 0, .int 0, .ref zm_y10, .ref zm_y11, .int 0, .int 0, .int 0, .int 0, .int 0, .ref zm_y12, .ref zm_y13, .ref zm_y14, .ref zm_y15, .int 0, .ref zm_y16, .ref zm_y17, .ref zm_y18, .int (-1), .int (-1), .int (-1), .int 0, .int 0, .int 0, .ref zm_y19, .ref zm_y20, .int 0, .ref zm_y21, .ref zm_y22, .ref zm_y23, .ref zm_y24, .ref zm_y25, .int 0, .ref zm_y26, .ref zm_y27, .ref zm_y28, .int 0, .int 0, .int 0, .ref zm_y29, .ref zm_y30, .ref zm_y31, .ref zm_y32, .int 0, .int 0, .long 0, .int 0, .int 0, .int 0, .int 0, .int 0, .int 0]))] := hD
  obtain rfl : r_3 = (-1000000) := hw
  refine lv_aload_n hx hb dL_law_540 rfl (lv_at hl 2 rfl) ?_
  refine lv_aload_n hx hb dL_law_541 rfl (lv_at hl 0 rfl) ?_
  refine lv_iload hx hb dL_law_542 (lv_at hl 4 rfl) ?_
  refine lv_iconst (v := 1) hx hb dL_law_544 (by decide) ?_
  refine lv_iadd hx hb dL_law_545 ?_
  refine lv_topi (fun x_4 ex_4 => ?_)
  have ex_4 : x_4 = 1 := ex_4.trans (by decide)
  subst ex_4
  refine va_sld hx hb hX hbl hbA hS (vp_in_iff.mpr ⟨by decide, by decide⟩) dL_law_546 ?_
  refine lv_topi (fun x_5 ex_5 => ?_)
  have ex_5 : x_2 = x_5 := ex_2.trans ex_5.symm
  subst ex_5
  have hPc := hP.sub (ws' := [(zm, .inr (12, [.int 0, .ref zm_y0, .int 0, .int 0, .int 0, .int 0, .ref zm_y1, .ref zm_y2, .ref zm_y3, .ref zm_y4, .ref zm_y5, .ref zm_y6, .ref zm_y7, .int 0, .int 0, .ref zm_y8, .ref zm_y9, .int 0, .int 0, .int 0, .int 0, .ref zm_y10, .ref zm_y11, .int 0, .int 0, .int 0, .int 0, .int 0, .ref zm_y12, .ref zm_y13, .ref zm_y14, .ref zm_y15, .int 0, .ref zm_y16, .ref zm_y17, .ref zm_y18, .int (-1), .int (-1), .int (-1), .int 0, .int 0, .int 0, .ref zm_y19, .ref zm_y20, .int 0, .ref zm_y21, .ref zm_y22, .ref zm_y23, .ref zm_y24, .ref zm_y25, .int 0, .ref zm_y26, .ref zm_y27, .ref zm_y28, .int 0, .int 0, .int 0, .ref zm_y29, .ref zm_y30, .ref zm_y31, .ref zm_y32, .int 0, .int 0, .long 0, .int 0, .int 0, .int 0, .int 0, .int 0, .int 0]))]) [0] rfl
  have hDc := hD.sub (ws' := [(zm, .inr (12, [.int 0, .ref zm_y0, .int 0, .int 0, .int 0, .int 0, .ref zm_y1, .ref zm_y2, .ref zm_y3, .ref zm_y4, .ref zm_y5, .ref zm_y6, .ref zm_y7, .int 0, .int 0, .ref zm_y8, .ref zm_y9, .int 0, .int 0, .int 0, .int 0, .ref zm_y10, .ref zm_y11, .int 0, .int 0, .int 0, .int 0, .int 0, .ref zm_y12, .ref zm_y13, .ref zm_y14, .ref zm_y15, .int 0, .ref zm_y16, .ref zm_y17, .ref zm_y18, .int (-1), .int (-1), .int (-1), .int 0, .int 0, .int 0, .ref zm_y19, .ref zm_y20, .int 0, .ref zm_y21, .ref zm_y22, .ref zm_y23, .ref zm_y24, .ref zm_y25, .int 0, .ref zm_y26, .ref zm_y27, .ref zm_y28, .int 0, .int 0, .int 0, .ref zm_y29, .ref zm_y30, .ref zm_y31, .ref zm_y32, .int 0, .int 0, .long 0, .int 0, .int 0, .int 0, .int 0, .int 0, .int 0]))]) [0] (by decide) rfl
  have hKc := hK.sub (tys' := []) [] rfl
  have hFc := va_free (wc := [(zm, .inr (12, [.int 0, .ref zm_y0, .int 0, .int 0, .int 0, .int 0, .ref zm_y1, .ref zm_y2, .ref zm_y3, .ref zm_y4, .ref zm_y5, .ref zm_y6, .ref zm_y7, .int 0, .int 0, .ref zm_y8, .ref zm_y9, .int 0, .int 0, .int 0, .int 0, .ref zm_y10, .ref zm_y11, .int 0, .int 0, .int 0, .int 0, .int 0, .ref zm_y12, .ref zm_y13, .ref zm_y14, .ref zm_y15, .int 0, .ref zm_y16, .ref zm_y17, .ref zm_y18, .int (-1), .int (-1), .int (-1), .int 0, .int 0, .int 0, .ref zm_y19, .ref zm_y20, .int 0, .ref zm_y21, .ref zm_y22, .ref zm_y23, .ref zm_y24, .ref zm_y25, .int 0, .ref zm_y26, .ref zm_y27, .ref zm_y28, .int 0, .int 0, .int 0, .ref zm_y29, .ref zm_y30, .ref zm_y31, .ref zm_y32, .int 0, .int 0, .long 0, .int 0, .int 0, .int 0, .int 0, .int 0, .int 0]))]) hD hS hA [0] rfl
  refine va_calli (va_runV (As := [.int x_2]) (rest := [.int (-1000000)]) ⟨hx, hb, hml, hown, hts⟩ (zk_X12_judge_t l dC dI (zm) (x_2) (zm_y0) (zm_y1) (zm_y2) (zm_y3) (zm_y4) (zm_y5) (zm_y6) (zm_y7) (zm_y8) (zm_y9) (zm_y10) (zm_y11) (zm_y12) (zm_y13) (zm_y14) (zm_y15) (zm_y16) (zm_y17) (zm_y18) (zm_y19) (zm_y20) (zm_y21) (zm_y22) (zm_y23) (zm_y24) (zm_y25) (zm_y26) (zm_y27) (zm_y28) (zm_y29) (zm_y30) (zm_y31) (zm_y32) H.size) (cwV 1 hts gL_law_X12_judge rfl rfl rfl (by decide +kernel) ⟨Nat.le_of_ble_eq_true rfl, Nat.le_of_ble_eq_true rfl⟩) ⟨zw_blind, va_recv hK hP (ci := 12) (q0 := 0) rfl rfl, fun U hU hW => ⟨rfl, zw_P.of hPc hKc hDc hN U hU hW⟩⟩ rfl rfl hl.1 rfl (lv_room (Nat.le_of_ble_eq_true rfl)) dL_law_547 ⟨Nat.le_of_ble_eq_true rfl, Nat.le_of_ble_eq_true rfl⟩) hS (fun q _ h => hFc q h) hFc (fun r_6 u t H1 locs ht hvm hw hB hz1 hk1 hS => ?_)
  obtain ⟨hP1, hK1, hD1⟩ := hB
  rw [ht] at hP1
  obtain ⟨hP, hD⟩ := va_join (wr := []) (w1 := []) hP hD [0] [] rfl rfl (by decide) (by decide) hk1 hFc hP1 hD1
  generalize H1 = H at hP hS ⊢
  have hP : va_P (dC, dI) classes [] H := hP
  have hD : va_D (fun q : Nat => s.heap.size ≤ q) [] := hD
  obtain rfl : r_6 = (-1000000) := hw
  refine lv_icmp_eq (tgt := 1170) hx hb dL_law_550 (by decide) (fun _ => ?_) (fun c9 => absurd (by decide) c9)
  refine lv_iinc (v := 6) (lv' := [(4, .int 6), (0, .ref b), (1, .ref zx), (2, .ref zm), (3, .ref zo)]) hx hb dL_law_1170 hl (k := 4) rfl (by decide) (by decide) rfl (fun ls hl => ?_)
  refine lv_goto (tgt := 23) hx hb dL_law_1173 (by decide) ?_
  refine lv_iload hx hb dL_law_23 (lv_at hl 0 rfl) ?_
  refine lv_aload_n hx hb dL_law_25 rfl (lv_at hl 1 rfl) ?_
  refine va_slen hx hb hX hbl hbA hS dL_law_26 ?_
  refine lv_topi (fun x_7 ex_7 => ?_)
  have ex_7 : x_7 = 6 := ex_7.trans (by decide)
  subst ex_7
  refine lv_bipush (v := 6) hx hb dL_law_27 (by decide) ?_
  refine lv_isub hx hb dL_law_29 ?_
  refine lv_topi (fun x_8 ex_8 => ?_)
  have ex_8 : x_8 = 0 := ex_8.trans (by decide)
  subst ex_8
  refine lv_icmp_gt (tgt := 1176) hx hb dL_law_30 (by decide) (fun _ => ?_) (fun c9 => absurd (by decide) c9)
  refine lv_iconst (v := 1) hx hb dL_law_1176 (by decide) ?_
  refine va_forget (fun q hq => hS.2.2 q hq) ?_
  refine W.widen (k := 600002) (n := 7302232) (Nat.le_of_ble_eq_true rfl) (Nat.le_of_ble_eq_true rfl) ?_
  exact lw_ret hx hb hr hlocks dL_law_1177
