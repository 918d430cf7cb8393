set_option maxHeartbeats 8000000 in
set_option maxRecDepth 100000 in
theorem zl_12 {p : Program} {e : Env} {s : State} {m : MethodId} {below : List Frame} {meth : Method} {c : Code} (l : Launch) {b : Nat} {xs : Nat → Int32} (C0 : lw_At p s m meth c b 6 xs) (dC : Nat → ClassId) (dI : Nat → Nat → Nat) (zx : Nat) (zx_y0 : Nat) (zx_y1 : Nat) (zx_y2 : Nat) (zx_y3 : Nat) (zx_y4 : Nat) (zx_y5 : Nat) (zx_y6 : Nat) (zx_y7 : Nat) (zx_y8 : Nat) (zx_y9 : Nat) (zx_y10 : Nat) (zx_y11 : Nat) (zx_y12 : Nat) (zx_y13 : Nat) (zx_y16 : Nat) (zx_y17 : Nat) (zx_y18 : Nat) (zx_y19 : Nat) (zx_y20 : Nat) (zx_y21 : Nat) (zm : Nat) (zm_y0 : Nat) (zm_y1 : Nat) (zm_y2 : Nat) (zm_y3 : Nat) (zm_y4 : Nat) (zm_y5 : Nat) (zm_y6 : Nat) (zm_y7 : Nat) (zm_y8 : Nat) (zm_y9 : Nat) (zm_y10 : Nat) (zm_y11 : Nat) (zm_y12 : Nat) (zm_y13 : Nat) (zm_y14 : Nat) (zm_y15 : Nat) (zm_y16 : Nat) (zm_y17 : Nat) (zm_y18 : Nat) (zm_y19 : Nat) (zm_y20 : Nat) (zm_y21 : Nat) (zm_y22 : Nat) (zm_y23 : Nat) (zm_y24 : Nat) (zm_y25 : Nat) (zm_y26 : Nat) (zm_y27 : Nat) (zm_y28 : Nat) (zm_y29 : Nat) (zm_y30 : Nat) (zm_y31 : Nat) (zm_y32 : Nat) (zo : Nat) {H : Heap} {locs : List Loc} (hN : zw_N s) (hK : va_K (dC, dI) classes [] s) (hP : va_P (dC, dI) classes [(zx, .inr (11, [.ref zx_y0, .ref zx_y1, .ref zx_y2, .ref zx_y3, .ref zx_y4, .ref zx_y5, .ref zx_y6, .ref zx_y7, .ref zx_y8, .ref zx_y9, .ref zx_y10, .ref zx_y11, .ref zx_y12, .ref zx_y13, .int 0, .int 0])), (zx_y1, .inr (6, [.ref zx_y16, .ref zx_y17, .ref zx_y18, .ref zx_y19, .int 0, .int (-1), .int (-1)])), (zx_y19, .inr (0, [.ref zx_y20, .ref zx_y21, .int 0, .int 0, .int 0, .int 0, .int 0])), (zx_y7, .inr (7, [.int 0, .int 0, .int 0])), (zm, .inr (12, [.int 0, .ref zm_y0, .int 0, .int 0, .int 0, .int 0, .ref zm_y1, .ref zm_y2, .ref zm_y3, .ref zm_y4, .ref zm_y5, .ref zm_y6, .ref zm_y7, .int 0, .int 0, .ref zm_y8, .ref zm_y9, .int 0, .int 0, .int 0, .int 0, .ref zm_y10, .ref zm_y11, .int 0, .int 0, .int 0, .int 0, .int 0, .ref zm_y12, .ref zm_y13, .ref zm_y14, .ref zm_y15, .int 0, .ref zm_y16, .ref zm_y17, .ref zm_y18, .int (-1), .int (-1), .int (-1), .int 0, .int 0, .int 0, .ref zm_y19, .ref zm_y20, .int 0, .ref zm_y21, .ref zm_y22, .ref zm_y23, .ref zm_y24, .ref zm_y25, .int 0, .ref zm_y26, .ref zm_y27, .ref zm_y28, .int 0, .int 0, .int 0, .ref zm_y29, .ref zm_y30, .ref zm_y31, .ref zm_y32, .int 0, .int 0, .long 0, .int 0, .int 0, .int 0, .int 0, .int 0, .int 0]))] H) (hD : va_D (fun q : Nat => s.heap.size ≤ q) [(zx, .inr (11, [.ref zx_y0, .ref zx_y1, .ref zx_y2, .ref zx_y3, .ref zx_y4, .ref zx_y5, .ref zx_y6, .ref zx_y7, .ref zx_y8, .ref zx_y9, .ref zx_y10, .ref zx_y11, .ref zx_y12, .ref zx_y13, .int 0, .int 0])), (zx_y1, .inr (6, [.ref zx_y16, .ref zx_y17, .ref zx_y18, .ref zx_y19, .int 0, .int (-1), .int (-1)])), (zx_y19, .inr (0, [.ref zx_y20, .ref zx_y21, .int 0, .int 0, .int 0, .int 0, .int 0])), (zx_y7, .inr (7, [.int 0, .int 0, .int 0])), (zm, .inr (12, [.int 0, .ref zm_y0, .int 0, .int 0, .int 0, .int 0, .ref zm_y1, .ref zm_y2, .ref zm_y3, .ref zm_y4, .ref zm_y5, .ref zm_y6, .ref zm_y7, .int 0, .int 0, .ref zm_y8, .ref zm_y9, .int 0, .int 0, .int 0, .int 0, .ref zm_y10, .ref zm_y11, .int 0, .int 0, .int 0, .int 0, .int 0, .ref zm_y12, .ref zm_y13, .ref zm_y14, .ref zm_y15, .int 0, .ref zm_y16, .ref zm_y17, .ref zm_y18, .int (-1), .int (-1), .int (-1), .int 0, .int 0, .int 0, .ref zm_y19, .ref zm_y20, .int 0, .ref zm_y21, .ref zm_y22, .ref zm_y23, .ref zm_y24, .ref zm_y25, .int 0, .ref zm_y26, .ref zm_y27, .ref zm_y28, .int 0, .int 0, .int 0, .ref zm_y29, .ref zm_y30, .ref zm_y31, .ref zm_y32, .int 0, .int 0, .long 0, .int 0, .int 0, .int 0, .int 0, .int 0, .int 0]))]) (hS : va_S (fun q : Nat => s.heap.size ≤ q) s.heap H locs) (ls : Array Slot) (hl : lv_has ls 7 [(0, .ref b), (1, .ref zx), (2, .ref zm), (3, .ref zo), (4, .int 0)]) : W p l e room_1 s m #[Value.ref b] below meth c H locs 99 952984 (lw_Z below #[Value.ref b] s) (F0 m 555 ls []) := by
  obtain ⟨hx, hb, hr, hml, hown, hts0, hX, hbl, hlocks, hgv⟩ := C0
  have hts : ∀ w ∈ wsL_law, w.before #[Value.ref b] s = true := fun w h => hts0 w (wsL_law_in w h)
  have hA : ∀ q : Nat, s.heap.size ≤ q → (fun q : Nat => s.heap.size ≤ q) q := fun _ h => h
  have hbA : ¬ (fun q : Nat => s.heap.size ≤ q) b := Nat.not_le.mpr hbl
  refine lv_aload_n hx hb dL_law_555 rfl (lv_at hl 1 rfl) ?_
  refine lv_aload_n hx hb dL_law_556 rfl (lv_at hl 0 rfl) ?_
  refine lv_iload hx hb dL_law_557 (lv_at hl 4 rfl) ?_
  refine lv_iconst (v := 1) hx hb dL_law_559 (by decide) ?_
  refine lv_iadd hx hb dL_law_560 ?_
  refine lv_topi (fun x_1 ex_1 => ?_)
  have ex_1 : x_1 = 1 := ex_1.trans (by decide)
  subst ex_1
  refine va_sld hx hb hX hbl hbA hS (vp_in_iff.mpr ⟨by decide, by decide⟩) dL_law_561 ?_
  refine lv_topi (fun x_2 ex_2 => ?_)
  refine lv_aload_n hx hb dL_law_562 rfl (lv_at hl 0 rfl) ?_
  refine lv_iload hx hb dL_law_563 (lv_at hl 4 rfl) ?_
  refine lv_iconst (v := 2) hx hb dL_law_565 (by decide) ?_
  refine lv_iadd hx hb dL_law_566 ?_
  refine lv_topi (fun x_3 ex_3 => ?_)
  have ex_3 : x_3 = 2 := ex_3.trans (by decide)
  subst ex_3
  refine va_sld hx hb hX hbl hbA hS (vp_in_iff.mpr ⟨by decide, by decide⟩) dL_law_567 ?_
  refine lv_topi (fun x_4 ex_4 => ?_)
  have hPc := hP.sub (ws' := [(zx, .inr (11, [.ref zx_y0, .ref zx_y1, .ref zx_y2, .ref zx_y3, .ref zx_y4, .ref zx_y5, .ref zx_y6, .ref zx_y7, .ref zx_y8, .ref zx_y9, .ref zx_y10, .ref zx_y11, .ref zx_y12, .ref zx_y13, .int 0, .int 0])), (zx_y1, .inr (6, [.ref zx_y16, .ref zx_y17, .ref zx_y18, .ref zx_y19, .int 0, .int (-1), .int (-1)])), (zx_y19, .inr (0, [.ref zx_y20, .ref zx_y21, .int 0, .int 0, .int 0, .int 0, .int 0])), (zx_y7, .inr (7, [.int 0, .int 0, .int 0]))]) [0, 1, 2, 3] rfl
  have hDc := hD.sub (ws' := [(zx, .inr (11, [.ref zx_y0, .ref zx_y1, .ref zx_y2, .ref zx_y3, .ref zx_y4, .ref zx_y5, .ref zx_y6, .ref zx_y7, .ref zx_y8, .ref zx_y9, .ref zx_y10, .ref zx_y11, .ref zx_y12, .ref zx_y13, .int 0, .int 0])), (zx_y1, .inr (6, [.ref zx_y16, .ref zx_y17, .ref zx_y18, .ref zx_y19, .int 0, .int (-1), .int (-1)])), (zx_y19, .inr (0, [.ref zx_y20, .ref zx_y21, .int 0, .int 0, .int 0, .int 0, .int 0])), (zx_y7, .inr (7, [.int 0, .int 0, .int 0]))]) [0, 1, 2, 3] (by decide) rfl
  have hKc := hK.sub (tys' := []) [] rfl
  have hFc := va_free (wc := [(zx, .inr (11, [.ref zx_y0, .ref zx_y1, .ref zx_y2, .ref zx_y3, .ref zx_y4, .ref zx_y5, .ref zx_y6, .ref zx_y7, .ref zx_y8, .ref zx_y9, .ref zx_y10, .ref zx_y11, .ref zx_y12, .ref zx_y13, .int 0, .int 0])), (zx_y1, .inr (6, [.ref zx_y16, .ref zx_y17, .ref zx_y18, .ref zx_y19, .int 0, .int (-1), .int (-1)])), (zx_y19, .inr (0, [.ref zx_y20, .ref zx_y21, .int 0, .int 0, .int 0, .int 0, .int 0])), (zx_y7, .inr (7, [.int 0, .int 0, .int 0]))]) hD hS hA [0, 1, 2, 3] rfl
  refine va_calli (va_runV (As := [.int x_2, .int x_4]) (rest := []) ⟨hx, hb, hml, hown, hts⟩ (zk_X11_value_t l dC dI (zx) (x_2) (x_4) (zx_y0) (zx_y1) (zx_y2) (zx_y3) (zx_y4) (zx_y5) (zx_y6) (zx_y7) (zx_y8) (zx_y9) (zx_y10) (zx_y11) (zx_y12) (zx_y13) (zx_y16) (zx_y17) (zx_y18) (zx_y19) (zx_y20) (zx_y21) H.size) (cwV 2 hts gL_law_X11_value rfl rfl rfl (by decide +kernel) ⟨Nat.le_of_ble_eq_true rfl, Nat.le_of_ble_eq_true rfl⟩) ⟨zw_blind, va_recv hK hP (ci := 11) (q0 := 0) rfl rfl, fun U hU hW => ⟨rfl, zw_P.of hPc hKc hDc hN U hU hW⟩⟩ rfl rfl hl.1 rfl (lv_room (Nat.le_of_ble_eq_true rfl)) dL_law_568 ⟨Nat.le_of_ble_eq_true rfl, Nat.le_of_ble_eq_true rfl⟩) hS (fun q _ h => hFc q h) hFc (fun r_5 u t H1 locs ht hvm hw hB hz1 hk1 hS => ?_)
  obtain ⟨hP1, hK1, hD1⟩ := hB
  rw [ht] at hP1
  obtain ⟨hP, hD⟩ := va_join (wr := [(zm, .inr (12, [.int 0, .ref zm_y0, .int 0, .int 0, .int 0, .int 0, .ref zm_y1, .ref zm_y2, .ref zm_y3, .ref zm_y4, .ref zm_y5, .ref zm_y6, .ref zm_y7, .int 0, .int 0, .ref zm_y8, .ref zm_y9, .int 0, .int 0, .int 0, .int 0, .ref zm_y10, .ref zm_y11, .int 0, .int 0, .int 0, .int 0, .int 0, .ref zm_y12, .ref zm_y13, .ref zm_y14, .ref zm_y15, .int 0, .ref zm_y16, .ref zm_y17, .ref zm_y18, .int (-1), .int (-1), .int (-1), .int 0, .int 0, .int 0, .ref zm_y19, .ref zm_y20, .int 0, .ref zm_y21, .ref zm_y22, .ref zm_y23, .ref zm_y24, .ref zm_y25, .int 0, .ref zm_y26, .ref zm_y27, .ref zm_y28, .int 0, .int 0, .int 0, .ref zm_y29, .ref zm_y30, .ref zm_y31, .ref zm_y32, .int 0, .int 0, .long 0, .int 0, .int 0, .int 0, .int 0, .int 0, .int 0]))]) (w1 := []) hP hD [0, 1, 2, 3] [4] rfl rfl (by decide) (by decide) hk1 hFc hP1 hD1
  generalize H1 = H at hP hS ⊢
  have hP : va_P (dC, dI) classes [(zm, .inr (12, [.int 0, .ref zm_y0, .int 0, .int 0, .int 0, .int 0, .ref zm_y1, .ref zm_y2, .ref zm_y3, .ref zm_y4, .ref zm_y5, .ref zm_y6, .ref zm_y7, .int 0, .int 0, .ref zm_y8, .ref zm_y9, .int 0, .int 0, .int 0, .int 0, .ref zm_y10, .ref zm_y11, .int 0, .int 0, .int 0, .int 0, .int 0, .ref zm_y12, .ref zm_y13, .ref zm_y14, .ref zm_y15, .int 0, .ref zm_y16, .ref zm_y17, .ref zm_y18, .int (-1), .int (-1), .int (-1), .int 0, .int 0, .int 0, .ref zm_y19, .ref zm_y20, .int 0, .ref zm_y21, .ref zm_y22, .ref zm_y23, .ref zm_y24, .ref zm_y25, .int 0, .ref zm_y26, .ref zm_y27, .ref zm_y28, .int 0, .int 0, .int 0, .ref zm_y29, .ref zm_y30, .ref zm_y31, .ref zm_y32, .int 0, .int 0, .long 0, .int 0, .int 0, .int 0, .int 0, .int 0, .int 0]))] H := hP
  have hD : va_D (fun q : Nat => s.heap.size ≤ q) [(zm, .inr (12, [.int 0, .ref zm_y0, .int 0, .int 0, .int 0, .int 0, .ref zm_y1, .ref zm_y2, .ref zm_y3, .ref zm_y4, .ref zm_y5, .ref zm_y6, .ref zm_y7, .int 0, .int 0, .ref zm_y8, .ref zm_y9, .int 0, .int 0, .int 0, .int 0, .ref zm_y10, .ref zm_y11, .int 0, .int 0, .int 0, .int 0, .int 0, .ref zm_y12, .ref zm_y13, .ref zm_y14, .ref zm_y15, .int 0, .ref zm_y16, .ref zm_y17, .ref zm_y18, .int (-1), .int (-1), .int (-1), .int 0, .int 0, .int 0, .ref zm_y19, .ref zm_y20, .int 0, .ref zm_y21, .ref zm_y22, .ref zm_y23, .ref zm_y24, .ref zm_y25, .int 0, .ref zm_y26, .ref zm_y27, .ref zm_y28, .int 0, .int 0, .int 0, .ref zm_y29, .ref zm_y30, .ref zm_y31, .ref zm_y32, .int 0, .int 0, .long 0, .int 0, .int 0, .int 0, .int 0, .int 0, .int 0]))] := hD
  obtain rfl : r_5 = (-1000000) := hw
  refine lv_aload_n hx hb dL_law_571 rfl (lv_at hl 2 rfl) ?_
  refine lv_aload_n hx hb dL_law_572 rfl (lv_at hl 0 rfl) ?_
  refine lv_iload hx hb dL_law_573 (lv_at hl 4 rfl) ?_
  refine lv_iconst (v := 1) hx hb dL_law_575 (by decide) ?_
  refine lv_iadd hx hb dL_law_576 ?_
  refine lv_topi (fun x_6 ex_6 => ?_)
  have ex_6 : x_6 = 1 := ex_6.trans (by decide)
  subst ex_6
  refine va_sld hx hb hX hbl hbA hS (vp_in_iff.mpr ⟨by decide, by decide⟩) dL_law_577 ?_
  refine lv_topi (fun x_7 ex_7 => ?_)
  have ex_7 : x_2 = x_7 := ex_2.trans ex_7.symm
  subst ex_7
  refine lv_aload_n hx hb dL_law_578 rfl (lv_at hl 0 rfl) ?_
  refine lv_iload hx hb dL_law_579 (lv_at hl 4 rfl) ?_
  refine lv_iconst (v := 2) hx hb dL_law_581 (by decide) ?_
  refine lv_iadd hx hb dL_law_582 ?_
  refine lv_topi (fun x_8 ex_8 => ?_)
  have ex_8 : x_8 = 2 := ex_8.trans (by decide)
  subst ex_8
  refine va_sld hx hb hX hbl hbA hS (vp_in_iff.mpr ⟨by decide, by decide⟩) dL_law_583 ?_
  refine lv_topi (fun x_9 ex_9 => ?_)
  have ex_9 : x_4 = x_9 := ex_4.trans ex_9.symm
  subst ex_9
  have hPc := hP.sub (ws' := [(zm, .inr (12, [.int 0, .ref zm_y0, .int 0, .int 0, .int 0, .int 0, .ref zm_y1, .ref zm_y2, .ref zm_y3, .ref zm_y4, .ref zm_y5, .ref zm_y6, .ref zm_y7, .int 0, .int 0, .ref zm_y8, .ref zm_y9, .int 0, .int 0, .int 0, .int 0, .ref zm_y10, .ref zm_y11, .int 0, .int 0, .int 0, .int 0, .int 0, .ref zm_y12, .ref zm_y13, .ref zm_y14, .ref zm_y15, .int 0, .ref zm_y16, .ref zm_y17, .ref zm_y18, .int (-1), .int (-1), .int (-1), .int 0, .int 0, .int 0, .ref zm_y19, .ref zm_y20, .int 0, .ref zm_y21, .ref zm_y22, .ref zm_y23, .ref zm_y24, .ref zm_y25, .int 0, .ref zm_y26, .ref zm_y27, .ref zm_y28, .int 0, .int 0, .int 0, .ref zm_y29, .ref zm_y30, .ref zm_y31, .ref zm_y32, .int 0, .int 0, .long 0, .int 0, .int 0, .int 0, .int 0, .int 0, .int 0]))]) [0] rfl
  have hDc := hD.sub (ws' := [(zm, .inr (12, [.int 0, .ref zm_y0, .int 0, .int 0, .int 0, .int 0, .ref zm_y1, .ref zm_y2, .ref zm_y3, .ref zm_y4, .ref zm_y5, .ref zm_y6, .ref zm_y7, .int 0, .int 0, .ref zm_y8, .ref zm_y9, .int 0, .int 0, .int 0, .int 0, .ref zm_y10, .ref zm_y11, .int 0, .int 0, .int 0, .int 0, .int 0, .ref zm_y12, .ref zm_y13, .ref zm_y14, .ref zm_y15, .int 0, .ref zm_y16, .ref zm_y17, .ref zm_y18, .int (-1), .int (-1), .int (-1), .int 0, .int 0, .int 0, .ref zm_y19, .ref zm_y20, .int 0, .ref zm_y21, .ref zm_y22, .ref zm_y23, .ref zm_y24, .ref zm_y25, .int 0, .ref zm_y26, .ref zm_y27, .ref zm_y28, .int 0, .int 0, .int 0, .ref zm_y29, .ref zm_y30, .ref zm_y31, .ref zm_y32, .int 0, .int 0, .long 0, .int 0, .int 0, .int 0, .int 0, .int 0, .int 0]))]) [0] (by decide) rfl
  have hKc := hK.sub (tys' := []) [] rfl
  have hFc := va_free (wc := [(zm, .inr (12, [.int 0, .ref zm_y0, .int 0, .int 0, .int 0, .int 0, .ref zm_y1, .ref zm_y2, .ref zm_y3, .ref zm_y4, .ref zm_y5, .ref zm_y6, .ref zm_y7, .int 0, .int 0, .ref zm_y8, .ref zm_y9, .int 0, .int 0, .int 0, .int 0, .ref zm_y10, .ref zm_y11, .int 0, .int 0, .int 0, .int 0, .int 0, .ref zm_y12, .ref zm_y13, .ref zm_y14, .ref zm_y15, .int 0, .ref zm_y16, .ref zm_y17, .ref zm_y18, .int (-1), .int (-1), .int (-1), .int 0, .int 0, .int 0, .ref zm_y19, .ref zm_y20, .int 0, .ref zm_y21, .ref zm_y22, .ref zm_y23, .ref zm_y24, .ref zm_y25, .int 0, .ref zm_y26, .ref zm_y27, .ref zm_y28, .int 0, .int 0, .int 0, .ref zm_y29, .ref zm_y30, .ref zm_y31, .ref zm_y32, .int 0, .int 0, .long 0, .int 0, .int 0, .int 0, .int 0, .int 0, .int 0]))]) hD hS hA [0] rfl
  refine va_calli (va_runV (As := [.int x_2, .int x_4]) (rest := [.int (-1000000)]) ⟨hx, hb, hml, hown, hts⟩ (zk_X12_value_t l dC dI (zm) (x_2) (x_4) (zm_y0) (zm_y1) (zm_y2) (zm_y3) (zm_y4) (zm_y5) (zm_y6) (zm_y7) (zm_y8) (zm_y9) (zm_y10) (zm_y11) (zm_y12) (zm_y13) (zm_y14) (zm_y15) (zm_y16) (zm_y17) (zm_y18) (zm_y19) (zm_y20) (zm_y21) (zm_y22) (zm_y23) (zm_y24) (zm_y25) (zm_y26) (zm_y27) (zm_y28) (zm_y29) (zm_y30) (zm_y31) (zm_y32) H.size) (cwV 2 hts gL_law_X12_value rfl rfl rfl (by decide +kernel) ⟨Nat.le_of_ble_eq_true rfl, Nat.le_of_ble_eq_true rfl⟩) ⟨zw_blind, va_recv hK hP (ci := 12) (q0 := 0) rfl rfl, fun U hU hW => ⟨rfl, zw_P.of hPc hKc hDc hN U hU hW⟩⟩ rfl rfl hl.1 rfl (lv_room (Nat.le_of_ble_eq_true rfl)) dL_law_584 ⟨Nat.le_of_ble_eq_true rfl, Nat.le_of_ble_eq_true rfl⟩) hS (fun q _ h => hFc q h) hFc (fun r_10 u t H1 locs ht hvm hw hB hz1 hk1 hS => ?_)
  obtain ⟨hP1, hK1, hD1⟩ := hB
  rw [ht] at hP1
  obtain ⟨hP, hD⟩ := va_join (wr := []) (w1 := []) hP hD [0] [] rfl rfl (by decide) (by decide) hk1 hFc hP1 hD1
  generalize H1 = H at hP hS ⊢
  have hP : va_P (dC, dI) classes [] H := hP
  have hD : va_D (fun q : Nat => s.heap.size ≤ q) [] := hD
  obtain rfl : r_10 = (-1000000) := hw
  refine lv_icmp_eq (tgt := 1170) hx hb dL_law_587 (by decide) (fun _ => ?_) (fun c9 => absurd (by decide) c9)
  refine lv_iinc (v := 6) (lv' := [(4, .int 6), (0, .ref b), (1, .ref zx), (2, .ref zm), (3, .ref zo)]) hx hb dL_law_1170 hl (k := 4) rfl (by decide) (by decide) rfl (fun ls hl => ?_)
  refine lv_goto (tgt := 23) hx hb dL_law_1173 (by decide) ?_
  refine lv_iload hx hb dL_law_23 (lv_at hl 0 rfl) ?_
  refine lv_aload_n hx hb dL_law_25 rfl (lv_at hl 1 rfl) ?_
  refine va_slen hx hb hX hbl hbA hS dL_law_26 ?_
  refine lv_topi (fun x_11 ex_11 => ?_)
  have ex_11 : x_11 = 6 := ex_11.trans (by decide)
  subst ex_11
  refine lv_bipush (v := 6) hx hb dL_law_27 (by decide) ?_
  refine lv_isub hx hb dL_law_29 ?_
  refine lv_topi (fun x_12 ex_12 => ?_)
  have ex_12 : x_12 = 0 := ex_12.trans (by decide)
  subst ex_12
  refine lv_icmp_gt (tgt := 1176) hx hb dL_law_30 (by decide) (fun _ => ?_) (fun c9 => absurd (by decide) c9)
  refine lv_iconst (v := 1) hx hb dL_law_1176 (by decide) ?_
  refine va_forget (fun q hq => hS.2.2 q hq) ?_
  refine W.widen (k := 600002) (n := 7302232) (Nat.le_of_ble_eq_true rfl) (Nat.le_of_ble_eq_true rfl) ?_
  exact lw_ret hx hb hr hlocks dL_law_1177
set_option maxHeartbeats 8000000 in
set_option maxRecDepth 100000 in
theorem zl_13 {p : Program} {e : Env} {s : State} {m : MethodId} {below : List Frame} {meth : Method} {c : Code} (l : Launch) {b : Nat} {xs : Nat → Int32} (C0 : lw_At p s m meth c b 6 xs) (dC : Nat → ClassId) (dI : Nat → Nat → Nat) (zx : Nat) (zx_y0 : Nat) (zx_y1 : Nat) (zx_y2 : Nat) (zx_y3 : Nat) (zx_y4 : Nat) (zx_y5 : Nat) (zx_y6 : Nat) (zx_y7 : Nat) (zx_y8 : Nat) (zx_y9 : Nat) (zx_y10 : Nat) (zx_y11 : Nat) (zx_y12 : Nat) (zx_y13 : Nat) (zx_y16 : Nat) (zx_y17 : Nat) (zx_y18 : Nat) (zx_y19 : Nat) (zx_y20 : Nat) (zx_y21 : Nat) (zm : Nat) (zm_y0 : Nat) (zm_y1 : Nat) (zm_y2 : Nat) (zm_y3 : Nat) (zm_y4 : Nat) (zm_y5 : Nat) (zm_y6 : Nat) (zm_y7 : Nat) (zm_y8 : Nat) (zm_y9 : Nat) (zm_y10 : Nat) (zm_y11 : Nat) (zm_y12 : Nat) (zm_y13 : Nat) (zm_y14 : Nat) (zm_y15 : Nat) (zm_y16 : Nat) (zm_y17 : Nat) (zm_y18 : Nat) (zm_y19 : Nat) (zm_y20 : Nat) (zm_y21 : Nat) (zm_y22 : Nat) (zm_y23 : Nat) (zm_y24 : Nat) (zm_y25 : Nat) (zm_y26 : Nat) (zm_y27 : Nat) (zm_y28 : Nat) (zm_y29 : Nat) (zm_y30 : Nat) (zm_y31 : Nat) (zm_y32 : Nat) (zo : Nat) {H : Heap} {locs : List Loc} (hN : zw_N s) (hK : va_K (dC, dI) classes [] s) (hP : va_P (dC, dI) classes [(zx, .inr (11, [.ref zx_y0, .ref zx_y1, .ref zx_y2, .ref zx_y3, .ref zx_y4, .ref zx_y5, .ref zx_y6, .ref zx_y7, .ref zx_y8, .ref zx_y9, .ref zx_y10, .ref zx_y11, .ref zx_y12, .ref zx_y13, .int 0, .int 0])), (zx_y1, .inr (6, [.ref zx_y16, .ref zx_y17, .ref zx_y18, .ref zx_y19, .int 0, .int (-1), .int (-1)])), (zx_y19, .inr (0, [.ref zx_y20, .ref zx_y21, .int 0, .int 0, .int 0, .int 0, .int 0])), (zm, .inr (12, [.int 0, .ref zm_y0, .int 0, .int 0, .int 0, .int 0, .ref zm_y1, .ref zm_y2, .ref zm_y3, .ref zm_y4, .ref zm_y5, .ref zm_y6, .ref zm_y7, .int 0, .int 0, .ref zm_y8, .ref zm_y9, .int 0, .int 0, .int 0, .int 0, .ref zm_y10, .ref zm_y11, .int 0, .int 0, .int 0, .int 0, .int 0, .ref zm_y12, .ref zm_y13, .ref zm_y14, .ref zm_y15, .int 0, .ref zm_y16, .ref zm_y17, .ref zm_y18, .int (-1), .int (-1), .int (-1), .int 0, .int 0, .int 0, .ref zm_y19, .ref zm_y20, .int 0, .ref zm_y21, .ref zm_y22, .ref zm_y23, .ref zm_y24, .ref zm_y25, .int 0, .ref zm_y26, .ref zm_y27, .ref zm_y28, .int 0, .int 0, .int 0, .ref zm_y29, .ref zm_y30, .ref zm_y31, .ref zm_y32, .int 0, .int 0, .long 0, .int 0, .int 0, .int 0, .int 0, .int 0, .int 0]))] H) (hD : va_D (fun q : Nat => s.heap.size ≤ q) [(zx, .inr (11, [.ref zx_y0, .ref zx_y1, .ref zx_y2, .ref zx_y3, .ref zx_y4, .ref zx_y5, .ref zx_y6, .ref zx_y7, .ref zx_y8, .ref zx_y9, .ref zx_y10, .ref zx_y11, .ref zx_y12, .ref zx_y13, .int 0, .int 0])), (zx_y1, .inr (6, [.ref zx_y16, .ref zx_y17, .ref zx_y18, .ref zx_y19, .int 0, .int (-1), .int (-1)])), (zx_y19, .inr (0, [.ref zx_y20, .ref zx_y21, .int 0, .int 0, .int 0, .int 0, .int 0])), (zm, .inr (12, [.int 0, .ref zm_y0, .int 0, .int 0, .int 0, .int 0, .ref zm_y1, .ref zm_y2, .ref zm_y3, .ref zm_y4, .ref zm_y5, .ref zm_y6, .ref zm_y7, .int 0, .int 0, .ref zm_y8, .ref zm_y9, .int 0, .int 0, .int 0, .int 0, .ref zm_y10, .ref zm_y11, .int 0, .int 0, .int 0, .int 0, .int 0, .ref zm_y12, .ref zm_y13, .ref zm_y14, .ref zm_y15, .int 0, .ref zm_y16, .ref zm_y17, .ref zm_y18, .int (-1), .int (-1), .int (-1), .int 0, .int 0, .int 0, .ref zm_y19, .ref zm_y20, .int 0, .ref zm_y21, .ref zm_y22, .ref zm_y23, .ref zm_y24, .ref zm_y25, .int 0, .ref zm_y26, .ref zm_y27, .ref zm_y28, .int 0, .int 0, .int 0, .ref zm_y29, .ref zm_y30, .ref zm_y31, .ref zm_y32, .int 0, .int 0, .long 0, .int 0, .int 0, .int 0, .int 0, .int 0, .int 0]))]) (hS : va_S (fun q : Nat => s.heap.size ≤ q) s.heap H locs) (ls : Array Slot) (hl : lv_has ls 7 [(0, .ref b), (1, .ref zx), (2, .ref zm), (3, .ref zo), (4, .int 0)]) : W p l e room_1 s m #[Value.ref b] below meth c H locs 99 952984 (lw_Z below #[Value.ref b] s) (F0 m 592 ls []) := by
  obtain ⟨hx, hb, hr, hml, hown, hts0, hX, hbl, hlocks, hgv⟩ := C0
  have hts : ∀ w ∈ wsL_law, w.before #[Value.ref b] s = true := fun w h => hts0 w (wsL_law_in w h)
  have hA : ∀ q : Nat, s.heap.size ≤ q → (fun q : Nat => s.heap.size ≤ q) q := fun _ h => h
  have hbA : ¬ (fun q : Nat => s.heap.size ≤ q) b := Nat.not_le.mpr hbl
  refine lv_aload_n hx hb dL_law_592 rfl (lv_at hl 1 rfl) ?_
  refine lv_aload_n hx hb dL_law_593 rfl (lv_at hl 0 rfl) ?_
  refine lv_iload hx hb dL_law_594 (lv_at hl 4 rfl) ?_
  refine lv_iconst (v := 1) hx hb dL_law_596 (by decide) ?_
  refine lv_iadd hx hb dL_law_597 ?_
  refine lv_topi (fun x_1 ex_1 => ?_)
  have ex_1 : x_1 = 1 := ex_1.trans (by decide)
  subst ex_1
  refine va_sld hx hb hX hbl hbA hS (vp_in_iff.mpr ⟨by decide, by decide⟩) dL_law_598 ?_
  refine lv_topi (fun x_2 ex_2 => ?_)
  have hPc := hP.sub (ws' := [(zx, .inr (11, [.ref zx_y0, .ref zx_y1, .ref zx_y2, .ref zx_y3, .ref zx_y4, .ref zx_y5, .ref zx_y6, .ref zx_y7, .ref zx_y8, .ref zx_y9, .ref zx_y10, .ref zx_y11, .ref zx_y12, .ref zx_y13, .int 0, .int 0])), (zx_y1, .inr (6, [.ref zx_y16, .ref zx_y17, .ref zx_y18, .ref zx_y19, .int 0, .int (-1), .int (-1)])), (zx_y19, .inr (0, [.ref zx_y20, .ref zx_y21, .int 0, .int 0, .int 0, .int 0, .int 0]))]) [0, 1, 2] rfl
  have hDc := hD.sub (ws' := [(zx, .inr (11, [.ref zx_y0, .ref zx_y1, .ref zx_y2, .ref zx_y3, .ref zx_y4, .ref zx_y5, .ref zx_y6, .ref zx_y7, .ref zx_y8, .ref zx_y9, .ref zx_y10, .ref zx_y11, .ref zx_y12, .ref zx_y13, .int 0, .int 0])), (zx_y1, .inr (6, [.ref zx_y16, .ref zx_y17, .ref zx_y18, .ref zx_y19, .int 0, .int (-1), .int (-1)])), (zx_y19, .inr (0, [.ref zx_y20, .ref zx_y21, .int 0, .int 0, .int 0, .int 0, .int 0]))]) [0, 1, 2] (by decide) rfl
  have hKc := hK.sub (tys' := []) [] rfl
  have hFc := va_free (wc := [(zx, .inr (11, [.ref zx_y0, .ref zx_y1, .ref zx_y2, .ref zx_y3, .ref zx_y4, .ref zx_y5, .ref zx_y6, .ref zx_y7, .ref zx_y8, .ref zx_y9, .ref zx_y10, .ref zx_y11, .ref zx_y12, .ref zx_y13, .int 0, .int 0])), (zx_y1, .inr (6, [.ref zx_y16, .ref zx_y17, .ref zx_y18, .ref zx_y19, .int 0, .int (-1), .int (-1)])), (zx_y19, .inr (0, [.ref zx_y20, .ref zx_y21, .int 0, .int 0, .int 0, .int 0, .int 0]))]) hD hS hA [0, 1, 2] rfl
  refine va_calli (va_runV (As := [.int x_2]) (rest := []) ⟨hx, hb, hml, hown, hts⟩ (zk_X11_proof_t l dC dI (zx) (x_2) (zx_y0) (zx_y1) (zx_y2) (zx_y3) (zx_y4) (zx_y5) (zx_y6) (zx_y7) (zx_y8) (zx_y9) (zx_y10) (zx_y11) (zx_y12) (zx_y13) (zx_y16) (zx_y17) (zx_y18) (zx_y19) (zx_y20) (zx_y21) H.size) (cwV 1 hts gL_law_X11_proof rfl rfl rfl (by decide +kernel) ⟨Nat.le_of_ble_eq_true rfl, Nat.le_of_ble_eq_true rfl⟩) ⟨zw_blind, va_recv hK hP (ci := 11) (q0 := 0) rfl rfl, fun U hU hW => ⟨rfl, zw_P.of hPc hKc hDc hN U hU hW⟩⟩ rfl rfl hl.1 rfl (lv_room (Nat.le_of_ble_eq_true rfl)) dL_law_599 ⟨Nat.le_of_ble_eq_true rfl, Nat.le_of_ble_eq_true rfl⟩) hS (fun q _ h => hFc q h) hFc (fun r_3 u t H1 locs ht hvm hw hB hz1 hk1 hS => ?_)
  obtain ⟨hP1, hK1, hD1⟩ := hB
  rw [ht] at hP1
  obtain ⟨hP, hD⟩ := va_join (wr := [(zm, .inr (12, [.int 0, .ref zm_y0, .int 0, .int 0, .int 0, .int 0, .ref zm_y1, .ref zm_y2, .ref zm_y3, .ref zm_y4, .ref zm_y5, .ref zm_y6, .ref zm_y7, .int 0, .int 0, .ref zm_y8, .ref zm_y9, .int 0, .int 0, .int 0, .int 0, .ref zm_y10, .ref zm_y11, .int 0, .int 0, .int 0, .int 0, .int 0, .ref zm_y12, .ref zm_y13, .ref zm_y14, .ref zm_y15, .int 0, .ref zm_y16, .ref zm_y17, .ref zm_y18, .int (-1), .int (-1), .int (-1), .int 0, .int 0, .int 0, .ref zm_y19, .ref zm_y20, .int 0, .ref zm_y21, .ref zm_y22, .ref zm_y23, .ref zm_y24, .ref zm_y25, .int 0, .ref zm_y26, .ref zm_y27, .ref zm_y28, .int 0, .int 0, .int 0, .ref zm_y29, .ref zm_y30, .ref zm_y31, .ref zm_y32, .int 0, .int 0, .long 0, .int 0, .int 0, .int 0, .int 0, .int 0, .int 0]))]) (w1 := []) hP hD [0, 1, 2] [3] rfl rfl (by decide) (by decide) hk1 hFc hP1 hD1
  generalize H1 = H at hP hS ⊢
  have hP : va_P (dC, dI) classes [(zm, .inr (12, [.int 0, .ref zm_y0, .int 0, .int 0, .int 0, .int 0, .ref zm_y1, .ref zm_y2, .ref zm_y3, .ref zm_y4, .ref zm_y5, .ref zm_y6, .ref zm_y7, .int 0, .int 0, .ref zm_y8, .ref zm_y9, .int 0, .int 0, .int 0, .int 0, .ref zm_y10, .ref zm_y11, .int 0, .int 0, .int 0, .int 0, .int 0, .ref zm_y12, .ref zm_y13, .ref zm_y14, .ref zm_y15, .int 0, .ref zm_y16, .ref zm_y17, .ref zm_y18, .int (-1), .int (-1), .int (-1), .int 0, .int 0, .int 0, .ref zm_y19, .ref zm_y20, .int 0, .ref zm_y21, .ref zm_y22, .ref zm_y23, .ref zm_y24, .ref zm_y25, .int 0, .ref zm_y26, .ref zm_y27, .ref zm_y28, .int 0, .int 0, .int 0, .ref zm_y29, .ref zm_y30, .ref zm_y31, .ref zm_y32, .int 0, .int 0, .long 0, .int 0, .int 0, .int 0, .int 0, .int 0, .int 0]))] H := hP
  have hD : va_D (fun q : Nat => s.heap.size ≤ q) [(zm, .inr (12, [.int 0, .ref zm_y0, .int 0, .int 0, .int 0, .int 0, .ref zm_y1, .ref zm_y2, .ref zm_y3, .ref zm_y4, .ref zm_y5, .ref zm_y6, .ref zm_y7, .int 0, .int 0, .ref zm_y8, .ref zm_y9, .int 0, .int 0, .int 0, .int 0, .ref zm_y10, .ref zm_y11, .int 0, .int 0, .int 0, .int 0, .int 0, .ref zm_y12, .ref zm_y13, .ref zm_y14, .ref zm_y15, .int 0, .ref zm_y16, .ref zm_y17, .ref zm_y18, .int (-1), .int (-1), .int (-1), .int 0, .int 0, .int 0, .ref zm_y19, .ref zm_y20, .int 0, .ref zm_y21, .ref zm_y22, .ref zm_y23, .ref zm_y24, .ref zm_y25, .int 0, .ref zm_y26, .ref zm_y27, .ref zm_y28, .int 0, .int 0, .int 0, .ref zm_y29, .ref zm_y30, .ref zm_y31, .ref zm_y32, .int 0, .int 0, .long 0, .int 0, .int 0, .int 0, .int 0, .int 0, .int 0]))] := hD
  obtain rfl : r_3 = (-1000000) := hw
  refine lv_aload_n hx hb dL_law_602 rfl (lv_at hl 2 rfl) ?_
  refine lv_aload_n hx hb dL_law_603 rfl (lv_at hl 0 rfl) ?_
  refine lv_iload hx hb dL_law_604 (lv_at hl 4 rfl) ?_
  refine lv_iconst (v := 1) hx hb dL_law_606 (by decide) ?_
  refine lv_iadd hx hb dL_law_607 ?_
  refine lv_topi (fun x_4 ex_4 => ?_)
  have ex_4 : x_4 = 1 := ex_4.trans (by decide)
  subst ex_4
  refine va_sld hx hb hX hbl hbA hS (vp_in_iff.mpr ⟨by decide, by decide⟩) dL_law_608 ?_
  refine lv_topi (fun x_5 ex_5 => ?_)
  have ex_5 : x_2 = x_5 := ex_2.trans ex_5.symm
  subst ex_5
  have hPc := hP.sub (ws' := [(zm, .inr (12, [.int 0, .ref zm_y0, .int 0, .int 0, .int 0, .int 0, .ref zm_y1, .ref zm_y2, .ref zm_y3, .ref zm_y4, .ref zm_y5, .ref zm_y6, .ref zm_y7, .int 0, .int 0, .ref zm_y8, .ref zm_y9, .int 0, .int 0, .int 0, .int 0, .ref zm_y10, .ref zm_y11, .int 0, .int 0, .int 0, .int 0, .int 0, .ref zm_y12, .ref zm_y13, .ref zm_y14, .ref zm_y15, .int 0, .ref zm_y16, .ref zm_y17, .ref zm_y18, .int (-1), .int (-1), .int (-1), .int 0, .int 0, .int 0, .ref zm_y19, .ref zm_y20, .int 0, .ref zm_y21, .ref zm_y22, .ref zm_y23, .ref zm_y24, .ref zm_y25, .int 0, .ref zm_y26, .ref zm_y27, .ref zm_y28, .int 0, .int 0, .int 0, .ref zm_y29, .ref zm_y30, .ref zm_y31, .ref zm_y32, .int 0, .int 0, .long 0, .int 0, .int 0, .int 0, .int 0, .int 0, .int 0]))]) [0] rfl
  have hDc := hD.sub (ws' := [(zm, .inr (12, [.int 0, .ref zm_y0, .int 0, .int 0, .int 0, .int 0, .ref zm_y1, .ref zm_y2, .ref zm_y3, .ref zm_y4, .ref zm_y5, .ref zm_y6, .ref zm_y7, .int 0, .int 0, .ref zm_y8, .ref zm_y9, .int 0, .int 0, .int 0, .int 0, .ref zm_y10, .ref zm_y11, .int 0, .int 0, .int 0, .int 0, .int 0, .ref zm_y12, .ref zm_y13, .ref zm_y14, .ref zm_y15, .int 0, .ref zm_y16, .ref zm_y17, .ref zm_y18, .int (-1), .int (-1), .int (-1), .int 0, .int 0, .int 0, .ref zm_y19, .ref zm_y20, .int 0, .ref zm_y21, .ref zm_y22, .ref zm_y23, .ref zm_y24, .ref zm_y25, .int 0, .ref zm_y26, .ref zm_y27, .ref zm_y28, .int 0, .int 0, .int 0, .ref zm_y29, .ref zm_y30, .ref zm_y31, .ref zm_y32, .int 0, .int 0, .long 0, .int 0, .int 0, .int 0, .int 0, .int 0, .int 0]))]) [0] (by decide) rfl
  have hKc := hK.sub (tys' := []) [] rfl
  have hFc := va_free (wc := [(zm, .inr (12, [.int 0, .ref zm_y0, .int 0, .int 0, .int 0, .int 0, .ref zm_y1, .ref zm_y2, .ref zm_y3, .ref zm_y4, .ref zm_y5, .ref zm_y6, .ref zm_y7, .int 0, .int 0, .ref zm_y8, .ref zm_y9, .int 0, .int 0, .int 0, .int 0, .ref zm_y10, .ref zm_y11, .int 0, .int 0, .int 0, .int 0, .int 0, .ref zm_y12, .ref zm_y13, .ref zm_y14, .ref zm_y15, .int 0, .ref zm_y16, .ref zm_y17, .ref zm_y18, .int (-1), .int (-1), .int (-1), .int 0, .int 0, .int 0, .ref zm_y19, .ref zm_y20, .int 0, .ref zm_y21, .ref zm_y22, .ref zm_y23, .ref zm_y24, .ref zm_y25, .int 0, .ref zm_y26, .ref zm_y27, .ref zm_y28, .int 0, .int 0, .int 0, .ref zm_y29, .ref zm_y30, .ref zm_y31, .ref zm_y32, .int 0, .int 0, .long 0, .int 0, .int 0, .int 0, .int 0, .int 0, .int 0]))]) hD hS hA [0] rfl
  refine va_calli (va_runV (As := [.int x_2]) (rest := [.int (-1000000)]) ⟨hx, hb, hml, hown, hts⟩ (zk_X12_proof_t l dC dI (zm) (x_2) (zm_y0) (zm_y1) (zm_y2) (zm_y3) (zm_y4) (zm_y5) (zm_y6) (zm_y7) (zm_y8) (zm_y9) (zm_y10) (zm_y11) (zm_y12) (zm_y13) (zm_y14) (zm_y15) (zm_y16) (zm_y17) (zm_y18) (zm_y19) (zm_y20) (zm_y21) (zm_y22) (zm_y23) (zm_y24) (zm_y25) (zm_y26) (zm_y27) (zm_y28) (zm_y29) (zm_y30) (zm_y31) (zm_y32) H.size) (cwV 1 hts gL_law_X12_proof rfl rfl rfl (by decide +kernel) ⟨Nat.le_of_ble_eq_true rfl, Nat.le_of_ble_eq_true rfl⟩) ⟨zw_blind, va_recv hK hP (ci := 12) (q0 := 0) rfl rfl, fun U hU hW => ⟨rfl, zw_P.of hPc hKc hDc hN U hU hW⟩⟩ rfl rfl hl.1 rfl (lv_room (Nat.le_of_ble_eq_true rfl)) dL_law_609 ⟨Nat.le_of_ble_eq_true rfl, Nat.le_of_ble_eq_true rfl⟩) hS (fun q _ h => hFc q h) hFc (fun r_6 u t H1 locs ht hvm hw hB hz1 hk1 hS => ?_)
  obtain ⟨hP1, hK1, hD1⟩ := hB
  rw [ht] at hP1
  obtain ⟨hP, hD⟩ := va_join (wr := []) (w1 := []) hP hD [0] [] rfl rfl (by decide) (by decide) hk1 hFc hP1 hD1
  generalize H1 = H at hP hS ⊢
  have hP : va_P (dC, dI) classes [] H := hP
  have hD : va_D (fun q : Nat => s.heap.size ≤ q) [] := hD
  obtain rfl : r_6 = (-1000000) := hw
  refine lv_icmp_eq (tgt := 1170) hx hb dL_law_612 (by decide) (fun _ => ?_) (fun c9 => absurd (by decide) c9)
  refine lv_iinc (v := 6) (lv' := [(4, .int 6), (0, .ref b), (1, .ref zx), (2, .ref zm), (3, .ref zo)]) hx hb dL_law_1170 hl (k := 4) rfl (by decide) (by decide) rfl (fun ls hl => ?_)
  refine lv_goto (tgt := 23) hx hb dL_law_1173 (by decide) ?_
  refine lv_iload hx hb dL_law_23 (lv_at hl 0 rfl) ?_
  refine lv_aload_n hx hb dL_law_25 rfl (lv_at hl 1 rfl) ?_
  refine va_slen hx hb hX hbl hbA hS dL_law_26 ?_
  refine lv_topi (fun x_7 ex_7 => ?_)
  have ex_7 : x_7 = 6 := ex_7.trans (by decide)
  subst ex_7
  refine lv_bipush (v := 6) hx hb dL_law_27 (by decide) ?_
  refine lv_isub hx hb dL_law_29 ?_
  refine lv_topi (fun x_8 ex_8 => ?_)
  have ex_8 : x_8 = 0 := ex_8.trans (by decide)
  subst ex_8
  refine lv_icmp_gt (tgt := 1176) hx hb dL_law_30 (by decide) (fun _ => ?_) (fun c9 => absurd (by decide) c9)
  refine lv_iconst (v := 1) hx hb dL_law_1176 (by decide) ?_
  refine va_forget (fun q hq => hS.2.2 q hq) ?_
  refine W.widen (k := 600002) (n := 7302232) (Nat.le_of_ble_eq_true rfl) (Nat.le_of_ble_eq_true rfl) ?_
  exact lw_ret hx hb hr hlocks dL_law_1177
set_option maxHeartbeats 8000000 in
set_option maxRecDepth 100000 in
theorem zl_14 {p : Program} {e : Env} {s : State} {m : MethodId} {below : List Frame} {meth : Method} {c : Code} (l : Launch) {b : Nat} {xs : Nat → Int32} (C0 : lw_At p s m meth c b 6 xs) (dC : Nat → ClassId) (dI : Nat → Nat → Nat) (zx : Nat) (zx_y0 : Nat) (zx_y1 : Nat) (zx_y2 : Nat) (zx_y3 : Nat) (zx_y4 : Nat) (zx_y5 : Nat) (zx_y6 : Nat) (zx_y7 : Nat) (zx_y8 : Nat) (zx_y9 : Nat) (zx_y10 : Nat) (zx_y11 : Nat) (zx_y12 : Nat) (zx_y13 : Nat) (zx_y16 : Nat) (zx_y17 : Nat) (zx_y18 : Nat) (zx_y19 : Nat) (zx_y20 : Nat) (zx_y21 : Nat) (zm : Nat) (zm_y0 : Nat) (zm_y1 : Nat) (zm_y2 : Nat) (zm_y3 : Nat) (zm_y4 : Nat) (zm_y5 : Nat) (zm_y6 : Nat) (zm_y7 : Nat) (zm_y8 : Nat) (zm_y9 : Nat) (zm_y10 : Nat) (zm_y11 : Nat) (zm_y12 : Nat) (zm_y13 : Nat) (zm_y14 : Nat) (zm_y15 : Nat) (zm_y16 : Nat) (zm_y17 : Nat) (zm_y18 : Nat) (zm_y19 : Nat) (zm_y20 : Nat) (zm_y21 : Nat) (zm_y22 : Nat) (zm_y23 : Nat) (zm_y24 : Nat) (zm_y25 : Nat) (zm_y26 : Nat) (zm_y27 : Nat) (zm_y28 : Nat) (zm_y29 : Nat) (zm_y30 : Nat) (zm_y31 : Nat) (zm_y32 : Nat) (zo : Nat) {H : Heap} {locs : List Loc} (hN : zw_N s) (hK : va_K (dC, dI) classes [] s) (hP : va_P (dC, dI) classes [(zx, .inr (11, [.ref zx_y0, .ref zx_y1, .ref zx_y2, .ref zx_y3, .ref zx_y4, .ref zx_y5, .ref zx_y6, .ref zx_y7, .ref zx_y8, .ref zx_y9, .ref zx_y10, .ref zx_y11, .ref zx_y12, .ref zx_y13, .int 0, .int 0])), (zx_y1, .inr (6, [.ref zx_y16, .ref zx_y17, .ref zx_y18, .ref zx_y19, .int 0, .int (-1), .int (-1)])), (zx_y19, .inr (0, [.ref zx_y20, .ref zx_y21, .int 0, .int 0, .int 0, .int 0, .int 0])), (zm, .inr (12, [.int 0, .ref zm_y0, .int 0, .int 0, .int 0, .int 0, .ref zm_y1, .ref zm_y2, .ref zm_y3, .ref zm_y4, .ref zm_y5, .ref zm_y6, .ref zm_y7, .int 0, .int 0, .ref zm_y8, .ref zm_y9, .int 0, .int 0, .int 0, .int 0, .ref zm_y10, .ref zm_y11, .int 0, .int 0, .int 0, .int 0, .int 0, .ref zm_y12, .ref zm_y13, .ref zm_y14, .ref zm_y15, .int 0, .ref zm_y16, .ref zm_y17, .ref zm_y18, .int (-1), .int (-1), .int (-1), .int 0, .int 0, .int 0, .ref zm_y19, .ref zm_y20, .int 0, .ref zm_y21, .ref zm_y22, .ref zm_y23, .ref zm_y24, .ref zm_y25, .int 0, .ref zm_y26, .ref zm_y27, .ref zm_y28, .int 0, .int 0, .int 0, .ref zm_y29, .ref zm_y30, .ref zm_y31, .ref zm_y32, .int 0, .int 0, .long 0, .int 0, .int 0, .int 0, .int 0, .int 0, .int 0]))] H) (hD : va_D (fun q : Nat => s.heap.size ≤ q) [(zx, .inr (11, [.ref zx_y0, .ref zx_y1, .ref zx_y2, .ref zx_y3, .ref zx_y4, .ref zx_y5, .ref zx_y6, .ref zx_y7, .ref zx_y8, .ref zx_y9, .ref zx_y10, .ref zx_y11, .ref zx_y12, .ref zx_y13, .int 0, .int 0])), (zx_y1, .inr (6, [.ref zx_y16, .ref zx_y17, .ref zx_y18, .ref zx_y19, .int 0, .int (-1), .int (-1)])), (zx_y19, .inr (0, [.ref zx_y20, .ref zx_y21, .int 0, .int 0, .int 0, .int 0, .int 0])), (zm, .inr (12, [.int 0, .ref zm_y0, .int 0, .int 0, .int 0, .int 0, .ref zm_y1, .ref zm_y2, .ref zm_y3, .ref zm_y4, .ref zm_y5, .ref zm_y6, .ref zm_y7, .int 0, .int 0, .ref zm_y8, .ref zm_y9, .int 0, .int 0, .int 0, .int 0, .ref zm_y10, .ref zm_y11, .int 0, .int 0, .int 0, .int 0, .int 0, .ref zm_y12, .ref zm_y13, .ref zm_y14, .ref zm_y15, .int 0, .ref zm_y16, .ref zm_y17, .ref zm_y18, .int (-1), .int (-1), .int (-1), .int 0, .int 0, .int 0, .ref zm_y19, .ref zm_y20, .int 0, .ref zm_y21, .ref zm_y22, .ref zm_y23, .ref zm_y24, .ref zm_y25, .int 0, .ref zm_y26, .ref zm_y27, .ref zm_y28, .int 0, .int 0, .int 0, .ref zm_y29, .ref zm_y30, .ref zm_y31, .ref zm_y32, .int 0, .int 0, .long 0, .int 0, .int 0, .int 0, .int 0, .int 0, .int 0]))]) (hS : va_S (fun q : Nat => s.heap.size ≤ q) s.heap H locs) (ls : Array Slot) (hl : lv_has ls 7 [(0, .ref b), (1, .ref zx), (2, .ref zm), (3, .ref zo), (4, .int 0)]) : W p l e room_1 s m #[Value.ref b] below meth c H locs 99 952984 (lw_Z below #[Value.ref b] s) (F0 m 617 ls []) := by
  obtain ⟨hx, hb, hr, hml, hown, hts0, hX, hbl, hlocks, hgv⟩ := C0
  have hts : ∀ w ∈ wsL_law, w.before #[Value.ref b] s = true := fun w h => hts0 w (wsL_law_in w h)
  have hA : ∀ q : Nat, s.heap.size ≤ q → (fun q : Nat => s.heap.size ≤ q) q := fun _ h => h
  have hbA : ¬ (fun q : Nat => s.heap.size ≤ q) b := Nat.not_le.mpr hbl
  refine lv_aload_n hx hb dL_law_617 rfl (lv_at hl 1 rfl) ?_
  refine lv_aload_n hx hb dL_law_618 rfl (lv_at hl 0 rfl) ?_
  refine lv_iload hx hb dL_law_619 (lv_at hl 4 rfl) ?_
  refine lv_iconst (v := 1) hx hb dL_law_621 (by decide) ?_
  refine lv_iadd hx hb dL_law_622 ?_
  refine lv_topi (fun x_1 ex_1 => ?_)
  have ex_1 : x_1 = 1 := ex_1.trans (by decide)
  subst ex_1
  refine va_sld hx hb hX hbl hbA hS (vp_in_iff.mpr ⟨by decide, by decide⟩) dL_law_623 ?_
  refine lv_topi (fun x_2 ex_2 => ?_)
  have hPc := hP.sub (ws' := [(zx, .inr (11, [.ref zx_y0, .ref zx_y1, .ref zx_y2, .ref zx_y3, .ref zx_y4, .ref zx_y5, .ref zx_y6, .ref zx_y7, .ref zx_y8, .ref zx_y9, .ref zx_y10, .ref zx_y11, .ref zx_y12, .ref zx_y13, .int 0, .int 0])), (zx_y1, .inr (6, [.ref zx_y16, .ref zx_y17, .ref zx_y18, .ref zx_y19, .int 0, .int (-1), .int (-1)])), (zx_y19, .inr (0, [.ref zx_y20, .ref zx_y21, .int 0, .int 0, .int 0, .int 0, .int 0]))]) [0, 1, 2] rfl
  have hDc := hD.sub (ws' := [(zx, .inr (11, [.ref zx_y0, .ref zx_y1, .ref zx_y2, .ref zx_y3, .ref zx_y4, .ref zx_y5, .ref zx_y6, .ref zx_y7, .ref zx_y8, .ref zx_y9, .ref zx_y10, .ref zx_y11, .ref zx_y12, .ref zx_y13, .int 0, .int 0])), (zx_y1, .inr (6, [.ref zx_y16, .ref zx_y17, .ref zx_y18, .ref zx_y19, .int 0, .int (-1), .int (-1)])), (zx_y19, .inr (0, [.ref zx_y20, .ref zx_y21, .int 0, .int 0, .int 0, .int 0, .int 0]))]) [0, 1, 2] (by decide) rfl
  have hKc := hK.sub (tys' := []) [] rfl
  have hFc := va_free (wc := [(zx, .inr (11, [.ref zx_y0, .ref zx_y1, .ref zx_y2, .ref zx_y3, .ref zx_y4, .ref zx_y5, .ref zx_y6, .ref zx_y7, .ref zx_y8, .ref zx_y9, .ref zx_y10, .ref zx_y11, .ref zx_y12, .ref zx_y13, .int 0, .int 0])), (zx_y1, .inr (6, [.ref zx_y16, .ref zx_y17, .ref zx_y18, .ref zx_y19, .int 0, .int (-1), .int (-1)])), (zx_y19, .inr (0, [.ref zx_y20, .ref zx_y21, .int 0, .int 0, .int 0, .int 0, .int 0]))]) hD hS hA [0, 1, 2] rfl
  refine va_calli (va_runV (As := [.int x_2]) (rest := []) ⟨hx, hb, hml, hown, hts⟩ (zk_X11_pair_t l dC dI (zx) (x_2) (zx_y0) (zx_y1) (zx_y2) (zx_y3) (zx_y4) (zx_y5) (zx_y6) (zx_y7) (zx_y8) (zx_y9) (zx_y10) (zx_y11) (zx_y12) (zx_y13) (zx_y16) (zx_y17) (zx_y18) (zx_y19) (zx_y20) (zx_y21) H.size) (cwV 1 hts gL_law_X11_pair rfl rfl rfl (by decide +kernel) ⟨Nat.le_of_ble_eq_true rfl, Nat.le_of_ble_eq_true rfl⟩) ⟨zw_blind, va_recv hK hP (ci := 11) (q0 := 0) rfl rfl, fun U hU hW => ⟨rfl, zw_P.of hPc hKc hDc hN U hU hW⟩⟩ rfl rfl hl.1 rfl (lv_room (Nat.le_of_ble_eq_true rfl)) dL_law_624 ⟨Nat.le_of_ble_eq_true rfl, Nat.le_of_ble_eq_true rfl⟩) hS (fun q _ h => hFc q h) hFc (fun r_3 u t H1 locs ht hvm hw hB hz1 hk1 hS => ?_)
  obtain ⟨hP1, hK1, hD1⟩ := hB
  rw [ht] at hP1
  obtain ⟨hP, hD⟩ := va_join (wr := [(zm, .inr (12, [.int 0, .ref zm_y0, .int 0, .int 0, .int 0, .int 0, .ref zm_y1, .ref zm_y2, .ref zm_y3, .ref zm_y4, .ref zm_y5, .ref zm_y6, .ref zm_y7, .int 0, .int 0, .ref zm_y8, .ref zm_y9, .int 0, .int 0, .int 0, .int 0, .ref zm_y10, .ref zm_y11, .int 0, .int 0, .int 0, .int 0, .int 0, .ref zm_y12, .ref zm_y13, .ref zm_y14, .ref zm_y15, .int 0, .ref zm_y16, .ref zm_y17, .ref zm_y18, .int (-1), .int (-1), .int (-1), .int 0, .int 0, .int 0, .ref zm_y19, .ref zm_y20, .int 0, .ref zm_y21, .ref zm_y22, .ref zm_y23, .ref zm_y24, .ref zm_y25, .int 0, .ref zm_y26, .ref zm_y27, .ref zm_y28, .int 0, .int 0, .int 0, .ref zm_y29, .ref zm_y30, .ref zm_y31, .ref zm_y32, .int 0, .int 0, .long 0, .int 0, .int 0, .int 0, .int 0, .int 0, .int 0]))]) (w1 := []) hP hD [0, 1, 2] [3] rfl rfl (by decide) (by decide) hk1 hFc hP1 hD1
  generalize H1 = H at hP hS ⊢
  have hP : va_P (dC, dI) classes [(zm, .inr (12, [.int 0, .ref zm_y0, .int 0, .int 0, .int 0, .int 0, .ref zm_y1, .ref zm_y2, .ref zm_y3, .ref zm_y4, .ref zm_y5, .ref zm_y6, .ref zm_y7, .int 0, .int 0, .ref zm_y8, .ref zm_y9, .int 0, .int 0, .int 0, .int 0, .ref zm_y10, .ref zm_y11, .int 0, .int 0, .int 0, .int 0, .int 0, .ref zm_y12, .ref zm_y13, .ref zm_y14, .ref zm_y15, .int 0, .ref zm_y16, .ref zm_y17, .ref zm_y18, .int (-1), .int (-1), .int (-1), .int 0, .int 0, .int 0, .ref zm_y19, .ref zm_y20, .int 0, .ref zm_y21, .ref zm_y22, .ref zm_y23, .ref zm_y24, .ref zm_y25, .int 0, .ref zm_y26, .ref zm_y27, .ref zm_y28, .int 0, .int 0, .int 0, .ref zm_y29, .ref zm_y30, .ref zm_y31, .ref zm_y32, .int 0, .int 0, .long 0, .int 0, .int 0, .int 0, .int 0, .int 0, .int 0]))] H := hP
  have hD : va_D (fun q : Nat => s.heap.size ≤ q) [(zm, .inr (12, [.int 0, .ref zm_y0, .int 0, .int 0, .int 0, .int 0, .ref zm_y1, .ref zm_y2, .ref zm_y3, .ref zm_y4, .ref zm_y5, .ref zm_y6, .ref zm_y7, .int 0, .int 0, .ref zm_y8, .ref zm_y9, .int 0, .int 0, .int 0, .int 0, .ref zm_y10, .ref zm_y11, .int 0, .int 0, .int 0, .int 0, .int 0, .ref zm_y12, .ref zm_y13, .ref zm_y14, .ref zm_y15, .int 0, .ref zm_y16, .ref zm_y17, .ref zm_y18, .int (-1), .int (-1), .int (-1), .int 0, .int 0, .int 0, .ref zm_y19, .ref zm_y20, .int 0, .ref zm_y21, .ref zm_y22, .ref zm_y23, .ref zm_y24, .ref zm_y25, .int 0, .ref zm_y26, .ref zm_y27, .ref zm_y28, .int 0, .int 0, .int 0, .ref zm_y29, .ref zm_y30, .ref zm_y31, .ref zm_y32, .int 0, .int 0, .long 0, .int 0, .int 0, .int 0, .int 0, .int 0, .int 0]))] := hD
  obtain rfl : r_3 = (-1) := hw
  refine lv_aload_n hx hb dL_law_627 rfl (lv_at hl 2 rfl) ?_
  refine lv_aload_n hx hb dL_law_628 rfl (lv_at hl 0 rfl) ?_
  refine lv_iload hx hb dL_law_629 (lv_at hl 4 rfl) ?_
  refine lv_iconst (v := 1) hx hb dL_law_631 (by decide) ?_
  refine lv_iadd hx hb dL_law_632 ?_
  refine lv_topi (fun x_4 ex_4 => ?_)
  have ex_4 : x_4 = 1 := ex_4.trans (by decide)
  subst ex_4
  refine va_sld hx hb hX hbl hbA hS (vp_in_iff.mpr ⟨by decide, by decide⟩) dL_law_633 ?_
  refine lv_topi (fun x_5 ex_5 => ?_)
  have ex_5 : x_2 = x_5 := ex_2.trans ex_5.symm
  subst ex_5
  have hPc := hP.sub (ws' := [(zm, .inr (12, [.int 0, .ref zm_y0, .int 0, .int 0, .int 0, .int 0, .ref zm_y1, .ref zm_y2, .ref zm_y3, .ref zm_y4, .ref zm_y5, .ref zm_y6, .ref zm_y7, .int 0, .int 0, .ref zm_y8, .ref zm_y9, .int 0, .int 0, .int 0, .int 0, .ref zm_y10, .ref zm_y11, .int 0, .int 0, .int 0, .int 0, .int 0, .ref zm_y12, .ref zm_y13, .ref zm_y14, .ref zm_y15, .int 0, .ref zm_y16, .ref zm_y17, .ref zm_y18, .int (-1), .int (-1), .int (-1), .int 0, .int 0, .int 0, .ref zm_y19, .ref zm_y20, .int 0, .ref zm_y21, .ref zm_y22, .ref zm_y23, .ref zm_y24, .ref zm_y25, .int 0, .ref zm_y26, .ref zm_y27, .ref zm_y28, .int 0, .int 0, .int 0, .ref zm_y29, .ref zm_y30, .ref zm_y31, .ref zm_y32, .int 0, .int 0, .long 0, .int 0, .int 0, .int 0, .int 0, .int 0, .int 0]))]) [0] rfl
  have hDc := hD.sub (ws' := [(zm, .inr (12, [.int 0, .ref zm_y0, .int 0, .int 0, .int 0, .int 0, .ref zm_y1, .ref zm_y2, .ref zm_y3, .ref zm_y4, .ref zm_y5, .ref zm_y6, .ref zm_y7, .int 0, .int 0, .ref zm_y8, .ref zm_y9, .int 0, .int 0, .int 0, .int 0, .ref zm_y10, .ref zm_y11, .int 0, .int 0, .int 0, .int 0, .int 0, .ref zm_y12, .ref zm_y13, .ref zm_y14, .ref zm_y15, .int 0, .ref zm_y16, .ref zm_y17, .ref zm_y18, .int (-1), .int (-1), .int (-1), .int 0, .int 0, .int 0, .ref zm_y19, .ref zm_y20, .int 0, .ref zm_y21, .ref zm_y22, .ref zm_y23, .ref zm_y24, .ref zm_y25, .int 0, .ref zm_y26, .ref zm_y27, .ref zm_y28, .int 0, .int 0, .int 0, .ref zm_y29, .ref zm_y30, .ref zm_y31, .ref zm_y32, .int 0, .int 0, .long 0, .int 0, .int 0, .int 0, .int 0, .int 0, .int 0]))]) [0] (by decide) rfl
  have hKc := hK.sub (tys' := []) [] rfl
  have hFc := va_free (wc := [(zm, .inr (12, [.int 0, .ref zm_y0, .int 0, .int 0, .int 0, .int 0, .ref zm_y1, .ref zm_y2, .ref zm_y3, .ref zm_y4, .ref zm_y5, .ref zm_y6, .ref zm_y7, .int 0, .int 0, .ref zm_y8, .ref zm_y9, .int 0, .int 0, .int 0, .int 0, .ref zm_y10, .ref zm_y11, .int 0, .int 0, .int 0, .int 0, .int 0, .ref zm_y12, .ref zm_y13, .ref zm_y14, .ref zm_y15, .int 0, .ref zm_y16, .ref zm_y17, .ref zm_y18, .int (-1), .int (-1), .int (-1), .int 0, .int 0, .int 0, .ref zm_y19, .ref zm_y20, .int 0, .ref zm_y21, .ref zm_y22, .ref zm_y23, .ref zm_y24, .ref zm_y25, .int 0, .ref zm_y26, .ref zm_y27, .ref zm_y28, .int 0, .int 0, .int 0, .ref zm_y29, .ref zm_y30, .ref zm_y31, .ref zm_y32, .int 0, .int 0, .long 0, .int 0, .int 0, .int 0, .int 0, .int 0, .int 0]))]) hD hS hA [0] rfl
  refine va_calli (va_runV (As := [.int x_2]) (rest := [.int (-1)]) ⟨hx, hb, hml, hown, hts⟩ (zk_X12_pair_t l dC dI (zm) (x_2) (zm_y0) (zm_y1) (zm_y2) (zm_y3) (zm_y4) (zm_y5) (zm_y6) (zm_y7) (zm_y8) (zm_y9) (zm_y10) (zm_y11) (zm_y12) (zm_y13) (zm_y14) (zm_y15) (zm_y16) (zm_y17) (zm_y18) (zm_y19) (zm_y20) (zm_y21) (zm_y22) (zm_y23) (zm_y24) (zm_y25) (zm_y26) (zm_y27) (zm_y28) (zm_y29) (zm_y30) (zm_y31) (zm_y32) H.size) (cwV 1 hts gL_law_X12_pair rfl rfl rfl (by decide +kernel) ⟨Nat.le_of_ble_eq_true rfl, Nat.le_of_ble_eq_true rfl⟩) ⟨zw_blind, va_recv hK hP (ci := 12) (q0 := 0) rfl rfl, fun U hU hW => ⟨rfl, zw_P.of hPc hKc hDc hN U hU hW⟩⟩ rfl rfl hl.1 rfl (lv_room (Nat.le_of_ble_eq_true rfl)) dL_law_634 ⟨Nat.le_of_ble_eq_true rfl, Nat.le_of_ble_eq_true rfl⟩) hS (fun q _ h => hFc q h) hFc (fun r_6 u t H1 locs ht hvm hw hB hz1 hk1 hS => ?_)
  obtain ⟨hP1, hK1, hD1⟩ := hB
  rw [ht] at hP1
  obtain ⟨hP, hD⟩ := va_join (wr := []) (w1 := []) hP hD [0] [] rfl rfl (by decide) (by decide) hk1 hFc hP1 hD1
  generalize H1 = H at hP hS ⊢
  have hP : va_P (dC, dI) classes [] H := hP
  have hD : va_D (fun q : Nat => s.heap.size ≤ q) [] := hD
  obtain rfl : r_6 = (-1) := hw
  refine lv_icmp_eq (tgt := 1170) hx hb dL_law_637 (by decide) (fun _ => ?_) (fun c9 => absurd (by decide) c9)
  refine lv_iinc (v := 6) (lv' := [(4, .int 6), (0, .ref b), (1, .ref zx), (2, .ref zm), (3, .ref zo)]) hx hb dL_law_1170 hl (k := 4) rfl (by decide) (by decide) rfl (fun ls hl => ?_)
  refine lv_goto (tgt := 23) hx hb dL_law_1173 (by decide) ?_
  refine lv_iload hx hb dL_law_23 (lv_at hl 0 rfl) ?_
  refine lv_aload_n hx hb dL_law_25 rfl (lv_at hl 1 rfl) ?_
  refine va_slen hx hb hX hbl hbA hS dL_law_26 ?_
  refine lv_topi (fun x_7 ex_7 => ?_)
  have ex_7 : x_7 = 6 := ex_7.trans (by decide)
  subst ex_7
  refine lv_bipush (v := 6) hx hb dL_law_27 (by decide) ?_
  refine lv_isub hx hb dL_law_29 ?_
  refine lv_topi (fun x_8 ex_8 => ?_)
  have ex_8 : x_8 = 0 := ex_8.trans (by decide)
  subst ex_8
  refine lv_icmp_gt (tgt := 1176) hx hb dL_law_30 (by decide) (fun _ => ?_) (fun c9 => absurd (by decide) c9)
  refine lv_iconst (v := 1) hx hb dL_law_1176 (by decide) ?_
  refine va_forget (fun q hq => hS.2.2 q hq) ?_
  refine W.widen (k := 600002) (n := 7302232) (Nat.le_of_ble_eq_true rfl) (Nat.le_of_ble_eq_true rfl) ?_
  exact lw_ret hx hb hr hlocks dL_law_1177
set_option maxHeartbeats 8000000 in
set_option maxRecDepth 100000 in
theorem zl_15 {p : Program} {e : Env} {s : State} {m : MethodId} {below : List Frame} {meth : Method} {c : Code} (l : Launch) {b : Nat} {xs : Nat → Int32} (C0 : lw_At p s m meth c b 6 xs) (dC : Nat → ClassId) (dI : Nat → Nat → Nat) (zx : Nat) (zx_y0 : Nat) (zx_y1 : Nat) (zx_y2 : Nat) (zx_y3 : Nat) (zx_y4 : Nat) (zx_y5 : Nat) (zx_y6 : Nat) (zx_y7 : Nat) (zx_y8 : Nat) (zx_y9 : Nat) (zx_y10 : Nat) (zx_y11 : Nat) (zx_y12 : Nat) (zx_y13 : Nat) (zx_y16 : Nat) (zx_y17 : Nat) (zx_y18 : Nat) (zx_y19 : Nat) (zx_y20 : Nat) (zx_y21 : Nat) (zm : Nat) (zm_y0 : Nat) (zm_y1 : Nat) (zm_y2 : Nat) (zm_y3 : Nat) (zm_y4 : Nat) (zm_y5 : Nat) (zm_y6 : Nat) (zm_y7 : Nat) (zm_y8 : Nat) (zm_y9 : Nat) (zm_y10 : Nat) (zm_y11 : Nat) (zm_y12 : Nat) (zm_y13 : Nat) (zm_y14 : Nat) (zm_y15 : Nat) (zm_y16 : Nat) (zm_y17 : Nat) (zm_y18 : Nat) (zm_y19 : Nat) (zm_y20 : Nat) (zm_y21 : Nat) (zm_y22 : Nat) (zm_y23 : Nat) (zm_y24 : Nat) (zm_y25 : Nat) (zm_y26 : Nat) (zm_y27 : Nat) (zm_y28 : Nat) (zm_y29 : Nat) (zm_y30 : Nat) (zm_y31 : Nat) (zm_y32 : Nat) (zo : Nat) {H : Heap} {locs : List Loc} (hN : zw_N s) (hK : va_K (dC, dI) classes [] s) (hP : va_P (dC, dI) classes [(zx, .inr (11, [.ref zx_y0, .ref zx_y1, .ref zx_y2, .ref zx_y3, .ref zx_y4, .ref zx_y5, .ref zx_y6, .ref zx_y7, .ref zx_y8, .ref zx_y9, .ref zx_y10, .ref zx_y11, .ref zx_y12, .ref zx_y13, .int 0, .int 0])), (zx_y1, .inr (6, [.ref zx_y16, .ref zx_y17, .ref zx_y18, .ref zx_y19, .int 0, .int (-1), .int (-1)])), (zx_y19, .inr (0, [.ref zx_y20, .ref zx_y21, .int 0, .int 0, .int 0, .int 0, .int 0])), (zm, .inr (12, [.int 0, .ref zm_y0, .int 0, .int 0, .int 0, .int 0, .ref zm_y1, .ref zm_y2, .ref zm_y3, .ref zm_y4, .ref zm_y5, .ref zm_y6, .ref zm_y7, .int 0, .int 0, .ref zm_y8, .ref zm_y9, .int 0, .int 0, .int 0, .int 0, .ref zm_y10, .ref zm_y11, .int 0, .int 0, .int 0, .int 0, .int 0, .ref zm_y12, .ref zm_y13, .ref zm_y14, .ref zm_y15, .int 0, .ref zm_y16, .ref zm_y17, .ref zm_y18, .int (-1), .int (-1), .int (-1), .int 0, .int 0, .int 0, .ref zm_y19, .ref zm_y20, .int 0, .ref zm_y21, .ref zm_y22, .ref zm_y23, .ref zm_y24, .ref zm_y25, .int 0, .ref zm_y26, .ref zm_y27, .ref zm_y28, .int 0, .int 0, .int 0, .ref zm_y29, .ref zm_y30, .ref zm_y31, .ref zm_y32, .int 0, .int 0, .long 0, .int 0, .int 0, .int 0, .int 0, .int 0, .int 0]))] H) (hD : va_D (fun q : Nat => s.heap.size ≤ q) [(zx, .inr (11, [.ref zx_y0, .ref zx_y1, .ref zx_y2, .ref zx_y3, .ref zx_y4, .ref zx_y5, .ref zx_y6, .ref zx_y7, .ref zx_y8, .ref zx_y9, .ref zx_y10, .ref zx_y11, .ref zx_y12, .ref zx_y13, .int 0, .int 0])), (zx_y1, .inr (6, [.ref zx_y16, .ref zx_y17, .ref zx_y18, .ref zx_y19, .int 0, .int (-1), .int (-1)])), (zx_y19, .inr (0, [.ref zx_y20, .ref zx_y21, .int 0, .int 0, .int 0, .int 0, .int 0])), (zm, .inr (12, [.int 0, .ref zm_y0, .int 0, .int 0, .int 0, .int 0, .ref zm_y1, .ref zm_y2, .ref zm_y3, .ref zm_y4, .ref zm_y5, .ref zm_y6, .ref zm_y7, .int 0, .int 0, .ref zm_y8, .ref zm_y9, .int 0, .int 0, .int 0, .int 0, .ref zm_y10, .ref zm_y11, .int 0, .int 0, .int 0, .int 0, .int 0, .ref zm_y12, .ref zm_y13, .ref zm_y14, .ref zm_y15, .int 0, .ref zm_y16, .ref zm_y17, .ref zm_y18, .int (-1), .int (-1), .int (-1), .int 0, .int 0, .int 0, .ref zm_y19, .ref zm_y20, .int 0, .ref zm_y21, .ref zm_y22, .ref zm_y23, .ref zm_y24, .ref zm_y25, .int 0, .ref zm_y26, .ref zm_y27, .ref zm_y28, .int 0, .int 0, .int 0, .ref zm_y29, .ref zm_y30, .ref zm_y31, .ref zm_y32, .int 0, .int 0, .long 0, .int 0, .int 0, .int 0, .int 0, .int 0, .int 0]))]) (hS : va_S (fun q : Nat => s.heap.size ≤ q) s.heap H locs) (ls : Array Slot) (hl : lv_has ls 7 [(0, .ref b), (1, .ref zx), (2, .ref zm), (3, .ref zo), (4, .int 0)]) : W p l e room_1 s m #[Value.ref b] below meth c H locs 99 952984 (lw_Z below #[Value.ref b] s) (F0 m 642 ls []) := by
  obtain ⟨hx, hb, hr, hml, hown, hts0, hX, hbl, hlocks, hgv⟩ := C0
  have hts : ∀ w ∈ wsL_law, w.before #[Value.ref b] s = true := fun w h => hts0 w (wsL_law_in w h)
  have hA : ∀ q : Nat, s.heap.size ≤ q → (fun q : Nat => s.heap.size ≤ q) q := fun _ h => h
  have hbA : ¬ (fun q : Nat => s.heap.size ≤ q) b := Nat.not_le.mpr hbl
  refine lv_aload_n hx hb dL_law_642 rfl (lv_at hl 1 rfl) ?_
  refine lv_aload_n hx hb dL_law_643 rfl (lv_at hl 0 rfl) ?_
  refine lv_iload hx hb dL_law_644 (lv_at hl 4 rfl) ?_
  refine lv_iconst (v := 1) hx hb dL_law_646 (by decide) ?_
  refine lv_iadd hx hb dL_law_647 ?_
  refine lv_topi (fun x_1 ex_1 => ?_)
  have ex_1 : x_1 = 1 := ex_1.trans (by decide)
  subst ex_1
  refine va_sld hx hb hX hbl hbA hS (vp_in_iff.mpr ⟨by decide, by decide⟩) dL_law_648 ?_
  refine lv_topi (fun x_2 ex_2 => ?_)
  refine lv_aload_n hx hb dL_law_649 rfl (lv_at hl 0 rfl) ?_
  refine lv_iload hx hb dL_law_650 (lv_at hl 4 rfl) ?_
  refine lv_iconst (v := 2) hx hb dL_law_652 (by decide) ?_
  refine lv_iadd hx hb dL_law_653 ?_
  refine lv_topi (fun x_3 ex_3 => ?_)
  have ex_3 : x_3 = 2 := ex_3.trans (by decide)
  subst ex_3
  refine va_sld hx hb hX hbl hbA hS (vp_in_iff.mpr ⟨by decide, by decide⟩) dL_law_654 ?_
  refine lv_topi (fun x_4 ex_4 => ?_)
  refine lv_aload_n hx hb dL_law_655 rfl (lv_at hl 0 rfl) ?_
  refine lv_iload hx hb dL_law_656 (lv_at hl 4 rfl) ?_
  refine lv_iconst (v := 3) hx hb dL_law_658 (by decide) ?_
  refine lv_iadd hx hb dL_law_659 ?_
  refine lv_topi (fun x_5 ex_5 => ?_)
  have ex_5 : x_5 = 3 := ex_5.trans (by decide)
  subst ex_5
  refine va_sld hx hb hX hbl hbA hS (vp_in_iff.mpr ⟨by decide, by decide⟩) dL_law_660 ?_
  refine lv_topi (fun x_6 ex_6 => ?_)
  refine lv_aload_n hx hb dL_law_661 rfl (lv_at hl 0 rfl) ?_
  refine lv_iload hx hb dL_law_662 (lv_at hl 4 rfl) ?_
  refine lv_iconst (v := 4) hx hb dL_law_664 (by decide) ?_
  refine lv_iadd hx hb dL_law_665 ?_
  refine lv_topi (fun x_7 ex_7 => ?_)
  have ex_7 : x_7 = 4 := ex_7.trans (by decide)
  subst ex_7
  refine va_sld hx hb hX hbl hbA hS (vp_in_iff.mpr ⟨by decide, by decide⟩) dL_law_666 ?_
  refine lv_topi (fun x_8 ex_8 => ?_)
  refine lv_if_eq (tgt := 674) hx hb dL_law_667 (by decide) (fun c_9 => ?_) (fun c_9 => ?_)
  · skip
    refine lv_iconst (v := 0) hx hb dL_law_674 (by decide) ?_
    refine lv_aload_n hx hb dL_law_675 rfl (lv_at hl 0 rfl) ?_
    refine lv_iload hx hb dL_law_676 (lv_at hl 4 rfl) ?_
    refine lv_iconst (v := 5) hx hb dL_law_678 (by decide) ?_
    refine lv_iadd hx hb dL_law_679 ?_
    refine lv_topi (fun x_10 ex_10 => ?_)
    have ex_10 : x_10 = 5 := ex_10.trans (by decide)
    subst ex_10
    refine va_sld hx hb hX hbl hbA hS (vp_in_iff.mpr ⟨by decide, by decide⟩) dL_law_680 ?_
    refine lv_topi (fun x_11 ex_11 => ?_)
    have hPc := hP.sub (ws' := [(zx, .inr (11, [.ref zx_y0, .ref zx_y1, .ref zx_y2, .ref zx_y3, .ref zx_y4, .ref zx_y5, .ref zx_y6, .ref zx_y7, .ref zx_y8, .ref zx_y9, .ref zx_y10, .ref zx_y11, .ref zx_y12, .ref zx_y13, .int 0, .int 0])), (zx_y1, .inr (6, [.ref zx_y16, .ref zx_y17, .ref zx_y18, .ref zx_y19, .int 0, .int (-1), .int (-1)])), (zx_y19, .inr (0, [.ref zx_y20, .ref zx_y21, .int 0, .int 0, .int 0, .int 0, .int 0]))]) [0, 1, 2] rfl
    have hDc := hD.sub (ws' := [(zx, .inr (11, [.ref zx_y0, .ref zx_y1, .ref zx_y2, .ref zx_y3, .ref zx_y4, .ref zx_y5, .ref zx_y6, .ref zx_y7, .ref zx_y8, .ref zx_y9, .ref zx_y10, .ref zx_y11, .ref zx_y12, .ref zx_y13, .int 0, .int 0])), (zx_y1, .inr (6, [.ref zx_y16, .ref zx_y17, .ref zx_y18, .ref zx_y19, .int 0, .int (-1), .int (-1)])), (zx_y19, .inr (0, [.ref zx_y20, .ref zx_y21, .int 0, .int 0, .int 0, .int 0, .int 0]))]) [0, 1, 2] (by decide) rfl
    have hKc := hK.sub (tys' := []) [] rfl
    have hFc := va_free (wc := [(zx, .inr (11, [.ref zx_y0, .ref zx_y1, .ref zx_y2, .ref zx_y3, .ref zx_y4, .ref zx_y5, .ref zx_y6, .ref zx_y7, .ref zx_y8, .ref zx_y9, .ref zx_y10, .ref zx_y11, .ref zx_y12, .ref zx_y13, .int 0, .int 0])), (zx_y1, .inr (6, [.ref zx_y16, .ref zx_y17, .ref zx_y18, .ref zx_y19, .int 0, .int (-1), .int (-1)])), (zx_y19, .inr (0, [.ref zx_y20, .ref zx_y21, .int 0, .int 0, .int 0, .int 0, .int 0]))]) hD hS hA [0, 1, 2] rfl
    refine va_calli (va_runV (As := [.int x_2, .int x_4, .int x_6, .int 0, .int x_11]) (rest := []) ⟨hx, hb, hml, hown, hts⟩ (zk_X11_hurts_1_t l dC dI (zx) (x_2) (x_4) (x_6) (x_11) (zx_y0) (zx_y1) (zx_y2) (zx_y3) (zx_y4) (zx_y5) (zx_y6) (zx_y7) (zx_y8) (zx_y9) (zx_y10) (zx_y11) (zx_y12) (zx_y13) (zx_y16) (zx_y17) (zx_y18) (zx_y19) (zx_y20) (zx_y21) H.size) (cwV 5 hts gL_law_X11_hurts rfl rfl rfl (by decide +kernel) ⟨Nat.le_of_ble_eq_true rfl, Nat.le_of_ble_eq_true rfl⟩) ⟨zw_blind, va_recv hK hP (ci := 11) (q0 := 0) rfl rfl, fun U hU hW => ⟨rfl, zw_P.of hPc hKc hDc hN U hU hW⟩⟩ rfl rfl hl.1 rfl (lv_room (Nat.le_of_ble_eq_true rfl)) dL_law_681 ⟨Nat.le_of_ble_eq_true rfl, Nat.le_of_ble_eq_true rfl⟩) hS (fun q _ h => hFc q h) hFc (fun r_12 u t H1 locs ht hvm hw hB hz1 hk1 hS => ?_)
    obtain ⟨hP1, hK1, hD1⟩ := hB
    rw [ht] at hP1
    obtain ⟨hP, hD⟩ := va_join (wr := [(zm, .inr (12, [.int 0, .ref zm_y0, .int 0, .int 0, .int 0, .int 0, .ref zm_y1, .ref zm_y2, .ref zm_y3, .ref zm_y4, .ref zm_y5, .ref zm_y6, .ref zm_y7, .int 0, .int 0, .ref zm_y8, .ref zm_y9, .int 0, .int 0, .int 0, .int 0, .ref zm_y10, .ref zm_y11, .int 0, .int 0, .int 0, .int 0, .int 0, .ref zm_y12, .ref zm_y13, .ref zm_y14, .ref zm_y15, .int 0, .ref zm_y16, .ref zm_y17, .ref zm_y18, .int (-1), .int (-1), .int (-1), .int 0, .int 0, .int 0, .ref zm_y19, .ref zm_y20, .int 0, .ref zm_y21, .ref zm_y22, .ref zm_y23, .ref zm_y24, .ref zm_y25, .int 0, .ref zm_y26, .ref zm_y27, .ref zm_y28, .int 0, .int 0, .int 0, .ref zm_y29, .ref zm_y30, .ref zm_y31, .ref zm_y32, .int 0, .int 0, .long 0, .int 0, .int 0, .int 0, .int 0, .int 0, .int 0]))]) (w1 := []) hP hD [0, 1, 2] [3] rfl rfl (by decide) (by decide) hk1 hFc hP1 hD1
    generalize H1 = H at hP hS ⊢
    have hP : va_P (dC, dI) classes [(zm, .inr (12, [.int 0, .ref zm_y0, .int 0, .int 0, .int 0, .int 0, .ref zm_y1, .ref zm_y2, .ref zm_y3, .ref zm_y4, .ref zm_y5, .ref zm_y6, .ref zm_y7, .int 0, .int 0, .ref zm_y8, .ref zm_y9, .int 0, .int 0, .int 0, .int 0, .ref zm_y10, .ref zm_y11, .int 0, .int 0, .int 0, .int 0, .int 0, .ref zm_y12, .ref zm_y13, .ref zm_y14, .ref zm_y15, .int 0, .ref zm_y16, .ref zm_y17, .ref zm_y18, .int (-1), .int (-1), .int (-1), .int 0, .int 0, .int 0, .ref zm_y19, .ref zm_y20, .int 0, .ref zm_y21, .ref zm_y22, .ref zm_y23, .ref zm_y24, .ref zm_y25, .int 0, .ref zm_y26, .ref zm_y27, .ref zm_y28, .int 0, .int 0, .int 0, .ref zm_y29, .ref zm_y30, .ref zm_y31, .ref zm_y32, .int 0, .int 0, .long 0, .int 0, .int 0, .int 0, .int 0, .int 0, .int 0]))] H := hP
    have hD : va_D (fun q : Nat => s.heap.size ≤ q) [(zm, .inr (12, [.int 0, .ref zm_y0, .int 0, .int 0, .int 0, .int 0, .ref zm_y1, .ref zm_y2, .ref zm_y3, .ref zm_y4, .ref zm_y5, .ref zm_y6, .ref zm_y7, .int 0, .int 0, .ref zm_y8, .ref zm_y9, .int 0, .int 0, .int 0, .int 0, .ref zm_y10, .ref zm_y11, .int 0, .int 0, .int 0, .int 0, .int 0, .ref zm_y12, .ref zm_y13, .ref zm_y14, .ref zm_y15, .int 0, .ref zm_y16, .ref zm_y17, .ref zm_y18, .int (-1), .int (-1), .int (-1), .int 0, .int 0, .int 0, .ref zm_y19, .ref zm_y20, .int 0, .ref zm_y21, .ref zm_y22, .ref zm_y23, .ref zm_y24, .ref zm_y25, .int 0, .ref zm_y26, .ref zm_y27, .ref zm_y28, .int 0, .int 0, .int 0, .ref zm_y29, .ref zm_y30, .ref zm_y31, .ref zm_y32, .int 0, .int 0, .long 0, .int 0, .int 0, .int 0, .int 0, .int 0, .int 0]))] := hD
    obtain rfl : r_12 = (-1) := hw
    refine lv_aload_n hx hb dL_law_684 rfl (lv_at hl 2 rfl) ?_
    refine lv_aload_n hx hb dL_law_685 rfl (lv_at hl 0 rfl) ?_
    refine lv_iload hx hb dL_law_686 (lv_at hl 4 rfl) ?_
    refine lv_iconst (v := 1) hx hb dL_law_688 (by decide) ?_
    refine lv_iadd hx hb dL_law_689 ?_
    refine lv_topi (fun x_13 ex_13 => ?_)
    have ex_13 : x_13 = 1 := ex_13.trans (by decide)
    subst ex_13
    refine va_sld hx hb hX hbl hbA hS (vp_in_iff.mpr ⟨by decide, by decide⟩) dL_law_690 ?_
    refine lv_topi (fun x_14 ex_14 => ?_)
    have ex_14 : x_2 = x_14 := ex_2.trans ex_14.symm
    subst ex_14
    refine lv_aload_n hx hb dL_law_691 rfl (lv_at hl 0 rfl) ?_
    refine lv_iload hx hb dL_law_692 (lv_at hl 4 rfl) ?_
    refine lv_iconst (v := 2) hx hb dL_law_694 (by decide) ?_
    refine lv_iadd hx hb dL_law_695 ?_
    refine lv_topi (fun x_15 ex_15 => ?_)
    have ex_15 : x_15 = 2 := ex_15.trans (by decide)
    subst ex_15
    refine va_sld hx hb hX hbl hbA hS (vp_in_iff.mpr ⟨by decide, by decide⟩) dL_law_696 ?_
    refine lv_topi (fun x_16 ex_16 => ?_)
    have ex_16 : x_4 = x_16 := ex_4.trans ex_16.symm
    subst ex_16
    refine lv_aload_n hx hb dL_law_697 rfl (lv_at hl 0 rfl) ?_
    refine lv_iload hx hb dL_law_698 (lv_at hl 4 rfl) ?_
    refine lv_iconst (v := 3) hx hb dL_law_700 (by decide) ?_
    refine lv_iadd hx hb dL_law_701 ?_
    refine lv_topi (fun x_17 ex_17 => ?_)
    have ex_17 : x_17 = 3 := ex_17.trans (by decide)
    subst ex_17
    refine va_sld hx hb hX hbl hbA hS (vp_in_iff.mpr ⟨by decide, by decide⟩) dL_law_702 ?_
    refine lv_topi (fun x_18 ex_18 => ?_)
    have ex_18 : x_6 = x_18 := ex_6.trans ex_18.symm
    subst ex_18
    refine lv_aload_n hx hb dL_law_703 rfl (lv_at hl 0 rfl) ?_
    refine lv_iload hx hb dL_law_704 (lv_at hl 4 rfl) ?_
    refine lv_iconst (v := 4) hx hb dL_law_706 (by decide) ?_
    refine lv_iadd hx hb dL_law_707 ?_
    refine lv_topi (fun x_19 ex_19 => ?_)
    have ex_19 : x_19 = 4 := ex_19.trans (by decide)
    subst ex_19
    refine va_sld hx hb hX hbl hbA hS (vp_in_iff.mpr ⟨by decide, by decide⟩) dL_law_708 ?_
    refine lv_topi (fun x_20 ex_20 => ?_)
    have ex_20 : x_8 = x_20 := ex_8.trans ex_20.symm
    subst ex_20
    refine lv_if_eq (tgt := 716) hx hb dL_law_709 (by decide) (fun c_21 => ?_) (fun c_21 => ?_)
    · skip
      refine lv_iconst (v := 0) hx hb dL_law_716 (by decide) ?_
      refine lv_aload_n hx hb dL_law_717 rfl (lv_at hl 0 rfl) ?_
      refine lv_iload hx hb dL_law_718 (lv_at hl 4 rfl) ?_
      refine lv_iconst (v := 5) hx hb dL_law_720 (by decide) ?_
      refine lv_iadd hx hb dL_law_721 ?_
      refine lv_topi (fun x_22 ex_22 => ?_)
      have ex_22 : x_22 = 5 := ex_22.trans (by decide)
      subst ex_22
      refine va_sld hx hb hX hbl hbA hS (vp_in_iff.mpr ⟨by decide, by decide⟩) dL_law_722 ?_
      refine lv_topi (fun x_23 ex_23 => ?_)
      have ex_23 : x_11 = x_23 := ex_11.trans ex_23.symm
      subst ex_23
      have hPc := hP.sub (ws' := [(zm, .inr (12, [.int 0, .ref zm_y0, .int 0, .int 0, .int 0, .int 0, .ref zm_y1, .ref zm_y2, .ref zm_y3, .ref zm_y4, .ref zm_y5, .ref zm_y6, .ref zm_y7, .int 0, .int 0, .ref zm_y8, .ref zm_y9, .int 0, .int 0, .int 0, .int 0, .ref zm_y10, .ref zm_y11, .int 0, .int 0, .int 0, .int 0, .int 0, .ref zm_y12, .ref zm_y13, .ref zm_y14, .ref zm_y15, .int 0, .ref zm_y16, .ref zm_y17, .ref zm_y18, .int (-1), .int (-1), .int (-1), .int 0, .int 0, .int 0, .ref zm_y19, .ref zm_y20, .int 0, .ref zm_y21, .ref zm_y22, .ref zm_y23, .ref zm_y24, .ref zm_y25, .int 0, .ref zm_y26, .ref zm_y27, .ref zm_y28, .int 0, .int 0, .int 0, .ref zm_y29, .ref zm_y30, .ref zm_y31, .ref zm_y32, .int 0, .int 0, .long 0, .int 0, .int 0, .int 0, .int 0, .int 0, .int 0]))]) [0] rfl
      have hDc := hD.sub (ws' := [(zm, .inr (12, [.int 0, .ref zm_y0, .int 0, .int 0, .int 0, .int 0, .ref zm_y1, .ref zm_y2, .ref zm_y3, .ref zm_y4, .ref zm_y5, .ref zm_y6, .ref zm_y7, .int 0, .int 0, .ref zm_y8, .ref zm_y9, .int 0, .int 0, .int 0, .int 0, .ref zm_y10, .ref zm_y11, .int 0, .int 0, .int 0, .int 0, .int 0, .ref zm_y12, .ref zm_y13, .ref zm_y14, .ref zm_y15, .int 0, .ref zm_y16, .ref zm_y17, .ref zm_y18, .int (-1), .int (-1), .int (-1), .int 0, .int 0, .int 0, .ref zm_y19, .ref zm_y20, .int 0, .ref zm_y21, .ref zm_y22, .ref zm_y23, .ref zm_y24, .ref zm_y25, .int 0, .ref zm_y26, .ref zm_y27, .ref zm_y28, .int 0, .int 0, .int 0, .ref zm_y29, .ref zm_y30, .ref zm_y31, .ref zm_y32, .int 0, .int 0, .long 0, .int 0, .int 0, .int 0, .int 0, .int 0, .int 0]))]) [0] (by decide) rfl
      have hKc := hK.sub (tys' := []) [] rfl
      have hFc := va_free (wc := [(zm, .inr (12, [.int 0, .ref zm_y0, .int 0, .int 0, .int 0, .int 0, .ref zm_y1, .ref zm_y2, .ref zm_y3, .ref zm_y4, .ref zm_y5, .ref zm_y6, .ref zm_y7, .int 0, .int 0, .ref zm_y8, .ref zm_y9, .int 0, .int 0, .int 0, .int 0, .ref zm_y10, .ref zm_y11, .int 0, .int 0, .int 0, .int 0, .int 0, .ref zm_y12, .ref zm_y13, .ref zm_y14, .ref zm_y15, .int 0, .ref zm_y16, .ref zm_y17, .ref zm_y18, .int (-1), .int (-1), .int (-1), .int 0, .int 0, .int 0, .ref zm_y19, .ref zm_y20, .int 0, .ref zm_y21, .ref zm_y22, .ref zm_y23, .ref zm_y24, .ref zm_y25, .int 0, .ref zm_y26, .ref zm_y27, .ref zm_y28, .int 0, .int 0, .int 0, .ref zm_y29, .ref zm_y30, .ref zm_y31, .ref zm_y32, .int 0, .int 0, .long 0, .int 0, .int 0, .int 0, .int 0, .int 0, .int 0]))]) hD hS hA [0] rfl
      refine va_calli (va_runV (As := [.int x_2, .int x_4, .int x_6, .int 0, .int x_11]) (rest := [.int (-1)]) ⟨hx, hb, hml, hown, hts⟩ (zk_X12_hurts_1_t l dC dI (zm) (x_2) (x_4) (x_6) (x_11) (zm_y0) (zm_y1) (zm_y2) (zm_y3) (zm_y4) (zm_y5) (zm_y6) (zm_y7) (zm_y8) (zm_y9) (zm_y10) (zm_y11) (zm_y12) (zm_y13) (zm_y14) (zm_y15) (zm_y16) (zm_y17) (zm_y18) (zm_y19) (zm_y20) (zm_y21) (zm_y22) (zm_y23) (zm_y24) (zm_y25) (zm_y26) (zm_y27) (zm_y28) (zm_y29) (zm_y30) (zm_y31) (zm_y32) H.size) (cwV 5 hts gL_law_X12_hurts rfl rfl rfl (by decide +kernel) ⟨Nat.le_of_ble_eq_true rfl, Nat.le_of_ble_eq_true rfl⟩) ⟨zw_blind, va_recv hK hP (ci := 12) (q0 := 0) rfl rfl, fun U hU hW => ⟨rfl, zw_P.of hPc hKc hDc hN U hU hW⟩⟩ rfl rfl hl.1 rfl (lv_room (Nat.le_of_ble_eq_true rfl)) dL_law_723 ⟨Nat.le_of_ble_eq_true rfl, Nat.le_of_ble_eq_true rfl⟩) hS (fun q _ h => hFc q h) hFc (fun r_24 u t H1 locs ht hvm hw hB hz1 hk1 hS => ?_)
      obtain ⟨hP1, hK1, hD1⟩ := hB
      rw [ht] at hP1
      obtain ⟨hP, hD⟩ := va_join (wr := []) (w1 := []) hP hD [0] [] rfl rfl (by decide) (by decide) hk1 hFc hP1 hD1
      generalize H1 = H at hP hS ⊢
      have hP : va_P (dC, dI) classes [] H := hP
      have hD : va_D (fun q : Nat => s.heap.size ≤ q) [] := hD
      obtain rfl : r_24 = (-1) := hw
      refine lv_icmp_eq (tgt := 1170) hx hb dL_law_726 (by decide) (fun _ => ?_) (fun c9 => absurd (by decide) c9)
      refine lv_iinc (v := 6) (lv' := [(4, .int 6), (0, .ref b), (1, .ref zx), (2, .ref zm), (3, .ref zo)]) hx hb dL_law_1170 hl (k := 4) rfl (by decide) (by decide) rfl (fun ls hl => ?_)
      refine lv_goto (tgt := 23) hx hb dL_law_1173 (by decide) ?_
      refine lv_iload hx hb dL_law_23 (lv_at hl 0 rfl) ?_
      refine lv_aload_n hx hb dL_law_25 rfl (lv_at hl 1 rfl) ?_
      refine va_slen hx hb hX hbl hbA hS dL_law_26 ?_
      refine lv_topi (fun x_25 ex_25 => ?_)
      have ex_25 : x_25 = 6 := ex_25.trans (by decide)
      subst ex_25
      refine lv_bipush (v := 6) hx hb dL_law_27 (by decide) ?_
      refine lv_isub hx hb dL_law_29 ?_
      refine lv_topi (fun x_26 ex_26 => ?_)
      have ex_26 : x_26 = 0 := ex_26.trans (by decide)
      subst ex_26
      refine lv_icmp_gt (tgt := 1176) hx hb dL_law_30 (by decide) (fun _ => ?_) (fun c9 => absurd (by decide) c9)
      refine lv_iconst (v := 1) hx hb dL_law_1176 (by decide) ?_
      refine va_forget (fun q hq => hS.2.2 q hq) ?_
      refine W.widen (k := 600002) (n := 7302232) (Nat.le_of_ble_eq_true rfl) (Nat.le_of_ble_eq_true rfl) ?_
      exact lw_ret hx hb hr hlocks dL_law_1177
    · skip
      have d_c_9 := zz_eq.mp c_9
      have d_c_21 := (not_congr zz_eq).mp c_21
      have ez_0 : (0 : Int32).toInt = 0 := by decide
      exact absurd (show False by omega) id
  · skip
    refine lv_iconst (v := 1) hx hb dL_law_670 (by decide) ?_
    refine lv_goto (tgt := 675) hx hb dL_law_671 (by decide) ?_
    refine lv_aload_n hx hb dL_law_675 rfl (lv_at hl 0 rfl) ?_
    refine lv_iload hx hb dL_law_676 (lv_at hl 4 rfl) ?_
    refine lv_iconst (v := 5) hx hb dL_law_678 (by decide) ?_
    refine lv_iadd hx hb dL_law_679 ?_
    refine lv_topi (fun x_27 ex_27 => ?_)
    have ex_27 : x_27 = 5 := ex_27.trans (by decide)
    subst ex_27
    refine va_sld hx hb hX hbl hbA hS (vp_in_iff.mpr ⟨by decide, by decide⟩) dL_law_680 ?_
    refine lv_topi (fun x_28 ex_28 => ?_)
    have hPc := hP.sub (ws' := [(zx, .inr (11, [.ref zx_y0, .ref zx_y1, .ref zx_y2, .ref zx_y3, .ref zx_y4, .ref zx_y5, .ref zx_y6, .ref zx_y7, .ref zx_y8, .ref zx_y9, .ref zx_y10, .ref zx_y11, .ref zx_y12, .ref zx_y13, .int 0, .int 0])), (zx_y1, .inr (6, [.ref zx_y16, .ref zx_y17, .ref zx_y18, .ref zx_y19, .int 0, .int (-1), .int (-1)])), (zx_y19, .inr (0, [.ref zx_y20, .ref zx_y21, .int 0, .int 0, .int 0, .int 0, .int 0]))]) [0, 1, 2] rfl
    have hDc := hD.sub (ws' := [(zx, .inr (11, [.ref zx_y0, .ref zx_y1, .ref zx_y2, .ref zx_y3, .ref zx_y4, .ref zx_y5, .ref zx_y6, .ref zx_y7, .ref zx_y8, .ref zx_y9, .ref zx_y10, .ref zx_y11, .ref zx_y12, .ref zx_y13, .int 0, .int 0])), (zx_y1, .inr (6, [.ref zx_y16, .ref zx_y17, .ref zx_y18, .ref zx_y19, .int 0, .int (-1), .int (-1)])), (zx_y19, .inr (0, [.ref zx_y20, .ref zx_y21, .int 0, .int 0, .int 0, .int 0, .int 0]))]) [0, 1, 2] (by decide) rfl
    have hKc := hK.sub (tys' := []) [] rfl
    have hFc := va_free (wc := [(zx, .inr (11, [.ref zx_y0, .ref zx_y1, .ref zx_y2, .ref zx_y3, .ref zx_y4, .ref zx_y5, .ref zx_y6, .ref zx_y7, .ref zx_y8, .ref zx_y9, .ref zx_y10, .ref zx_y11, .ref zx_y12, .ref zx_y13, .int 0, .int 0])), (zx_y1, .inr (6, [.ref zx_y16, .ref zx_y17, .ref zx_y18, .ref zx_y19, .int 0, .int (-1), .int (-1)])), (zx_y19, .inr (0, [.ref zx_y20, .ref zx_y21, .int 0, .int 0, .int 0, .int 0, .int 0]))]) hD hS hA [0, 1, 2] rfl
    refine va_calli (va_runV (As := [.int x_2, .int x_4, .int x_6, .int 1, .int x_28]) (rest := []) ⟨hx, hb, hml, hown, hts⟩ (zk_X11_hurts_2_t l dC dI (zx) (x_2) (x_4) (x_6) (x_28) (zx_y0) (zx_y1) (zx_y2) (zx_y3) (zx_y4) (zx_y5) (zx_y6) (zx_y7) (zx_y8) (zx_y9) (zx_y10) (zx_y11) (zx_y12) (zx_y13) (zx_y16) (zx_y17) (zx_y18) (zx_y19) (zx_y20) (zx_y21) H.size) (cwV 5 hts gL_law_X11_hurts rfl rfl rfl (by decide +kernel) ⟨Nat.le_of_ble_eq_true rfl, Nat.le_of_ble_eq_true rfl⟩) ⟨zw_blind, va_recv hK hP (ci := 11) (q0 := 0) rfl rfl, fun U hU hW => ⟨rfl, zw_P.of hPc hKc hDc hN U hU hW⟩⟩ rfl rfl hl.1 rfl (lv_room (Nat.le_of_ble_eq_true rfl)) dL_law_681 ⟨Nat.le_of_ble_eq_true rfl, Nat.le_of_ble_eq_true rfl⟩) hS (fun q _ h => hFc q h) hFc (fun r_29 u t H1 locs ht hvm hw hB hz1 hk1 hS => ?_)
    obtain ⟨hP1, hK1, hD1⟩ := hB
    rw [ht] at hP1
    obtain ⟨hP, hD⟩ := va_join (wr := [(zm, .inr (12, [.int 0, .ref zm_y0, .int 0, .int 0, .int 0, .int 0, .ref zm_y1, .ref zm_y2, .ref zm_y3, .ref zm_y4, .ref zm_y5, .ref zm_y6, .ref zm_y7, .int 0, .int 0, .ref zm_y8, .ref zm_y9, .int 0, .int 0, .int 0, .int 0, .ref zm_y10, .ref zm_y11, .int 0, .int 0, .int 0, .int 0, .int 0, .ref zm_y12, .ref zm_y13, .ref zm_y14, .ref zm_y15, .int 0, .ref zm_y16, .ref zm_y17, .ref zm_y18, .int (-1), .int (-1), .int (-1), .int 0, .int 0, .int 0, .ref zm_y19, .ref zm_y20, .int 0, .ref zm_y21, .ref zm_y22, .ref zm_y23, .ref zm_y24, .ref zm_y25, .int 0, .ref zm_y26, .ref zm_y27, .ref zm_y28, .int 0, .int 0, .int 0, .ref zm_y29, .ref zm_y30, .ref zm_y31, .ref zm_y32, .int 0, .int 0, .long 0, .int 0, .int 0, .int 0, .int 0, .int 0, .int 0]))]) (w1 := []) hP hD [0, 1, 2] [3] rfl rfl (by decide) (by decide) hk1 hFc hP1 hD1
    generalize H1 = H at hP hS ⊢
    have hP : va_P (dC, dI) classes [(zm, .inr (12, [.int 0, .ref zm_y0, .int 0, .int 0, .int 0, .int 0, .ref zm_y1, .ref zm_y2, .ref zm_y3, .ref zm_y4, .ref zm_y5, .ref zm_y6, .ref zm_y7, .int 0, .int 0, .ref zm_y8, .ref zm_y9, .int 0, .int 0, .int 0, .int 0, .ref zm_y10, .ref zm_y11, .int 0, .int 0, .int 0, .int 0, .int 0, .ref zm_y12, .ref zm_y13, .ref zm_y14, .ref zm_y15, .int 0, .ref zm_y16, .ref zm_y17, .ref zm_y18, .int (-1), .int (-1), .int (-1), .int 0, .int 0, .int 0, .ref zm_y19, .ref zm_y20, .int 0, .ref zm_y21, .ref zm_y22, .ref zm_y23, .ref zm_y24, .ref zm_y25, .int 0, .ref zm_y26, .ref zm_y27, .ref zm_y28, .int 0, .int 0, .int 0, .ref zm_y29, .ref zm_y30, .ref zm_y31, .ref zm_y32, .int 0, .int 0, .long 0, .int 0, .int 0, .int 0, .int 0, .int 0, .int 0]))] H := hP
    have hD : va_D (fun q : Nat => s.heap.size ≤ q) [(zm, .inr (12, [.int 0, .ref zm_y0, .int 0, .int 0, .int 0, .int 0, .ref zm_y1, .ref zm_y2, .ref zm_y3, .ref zm_y4, .ref zm_y5, .ref zm_y6, .ref zm_y7, .int 0, .int 0, .ref zm_y8, .ref zm_y9, .int 0, .int 0, .int 0, .int 0, .ref zm_y10, .ref zm_y11, .int 0, .int 0, .int 0, .int 0, .int 0, .ref zm_y12, .ref zm_y13, .ref zm_y14, .ref zm_y15, .int 0, .ref zm_y16, .ref zm_y17, .ref zm_y18, .int (-1), .int (-1), .int (-1), .int 0, .int 0, .int 0, .ref zm_y19, .ref zm_y20, .int 0, .ref zm_y21, .ref zm_y22, .ref zm_y23, .ref zm_y24, .ref zm_y25, .int 0, .ref zm_y26, .ref zm_y27, .ref zm_y28, .int 0, .int 0, .int 0, .ref zm_y29, .ref zm_y30, .ref zm_y31, .ref zm_y32, .int 0, .int 0, .long 0, .int 0, .int 0, .int 0, .int 0, .int 0, .int 0]))] := hD
    obtain rfl : r_29 = (-1) := hw
    refine lv_aload_n hx hb dL_law_684 rfl (lv_at hl 2 rfl) ?_
    refine lv_aload_n hx hb dL_law_685 rfl (lv_at hl 0 rfl) ?_
    refine lv_iload hx hb dL_law_686 (lv_at hl 4 rfl) ?_
    refine lv_iconst (v := 1) hx hb dL_law_688 (by decide) ?_
    refine lv_iadd hx hb dL_law_689 ?_
    refine lv_topi (fun x_30 ex_30 => ?_)
    have ex_30 : x_30 = 1 := ex_30.trans (by decide)
    subst ex_30
    refine va_sld hx hb hX hbl hbA hS (vp_in_iff.mpr ⟨by decide, by decide⟩) dL_law_690 ?_
    refine lv_topi (fun x_31 ex_31 => ?_)
    have ex_31 : x_2 = x_31 := ex_2.trans ex_31.symm
    subst ex_31
    refine lv_aload_n hx hb dL_law_691 rfl (lv_at hl 0 rfl) ?_
    refine lv_iload hx hb dL_law_692 (lv_at hl 4 rfl) ?_
    refine lv_iconst (v := 2) hx hb dL_law_694 (by decide) ?_
    refine lv_iadd hx hb dL_law_695 ?_
    refine lv_topi (fun x_32 ex_32 => ?_)
    have ex_32 : x_32 = 2 := ex_32.trans (by decide)
    subst ex_32
    refine va_sld hx hb hX hbl hbA hS (vp_in_iff.mpr ⟨by decide, by decide⟩) dL_law_696 ?_
    refine lv_topi (fun x_33 ex_33 => ?_)
    have ex_33 : x_4 = x_33 := ex_4.trans ex_33.symm
    subst ex_33
    refine lv_aload_n hx hb dL_law_697 rfl (lv_at hl 0 rfl) ?_
    refine lv_iload hx hb dL_law_698 (lv_at hl 4 rfl) ?_
    refine lv_iconst (v := 3) hx hb dL_law_700 (by decide) ?_
    refine lv_iadd hx hb dL_law_701 ?_
    refine lv_topi (fun x_34 ex_34 => ?_)
    have ex_34 : x_34 = 3 := ex_34.trans (by decide)
    subst ex_34
    refine va_sld hx hb hX hbl hbA hS (vp_in_iff.mpr ⟨by decide, by decide⟩) dL_law_702 ?_
    refine lv_topi (fun x_35 ex_35 => ?_)
    have ex_35 : x_6 = x_35 := ex_6.trans ex_35.symm
    subst ex_35
    refine lv_aload_n hx hb dL_law_703 rfl (lv_at hl 0 rfl) ?_
    refine lv_iload hx hb dL_law_704 (lv_at hl 4 rfl) ?_
    refine lv_iconst (v := 4) hx hb dL_law_706 (by decide) ?_
    refine lv_iadd hx hb dL_law_707 ?_
    refine lv_topi (fun x_36 ex_36 => ?_)
    have ex_36 : x_36 = 4 := ex_36.trans (by decide)
    subst ex_36
    refine va_sld hx hb hX hbl hbA hS (vp_in_iff.mpr ⟨by decide, by decide⟩) dL_law_708 ?_
    refine lv_topi (fun x_37 ex_37 => ?_)
    have ex_37 : x_8 = x_37 := ex_8.trans ex_37.symm
    subst ex_37
    refine lv_if_eq (tgt := 716) hx hb dL_law_709 (by decide) (fun c_38 => ?_) (fun c_38 => ?_)
    · skip
      have d_c_9 := (not_congr zz_eq).mp c_9
      have d_c_38 := zz_eq.mp c_38
      have ez_0 : (0 : Int32).toInt = 0 := by decide
      exact absurd (show False by omega) id
    · skip
      refine lv_iconst (v := 1) hx hb dL_law_712 (by decide) ?_
      refine lv_goto (tgt := 717) hx hb dL_law_713 (by decide) ?_
      refine lv_aload_n hx hb dL_law_717 rfl (lv_at hl 0 rfl) ?_
      refine lv_iload hx hb dL_law_718 (lv_at hl 4 rfl) ?_
      refine lv_iconst (v := 5) hx hb dL_law_720 (by decide) ?_
      refine lv_iadd hx hb dL_law_721 ?_
      refine lv_topi (fun x_39 ex_39 => ?_)
      have ex_39 : x_39 = 5 := ex_39.trans (by decide)
      subst ex_39
      refine va_sld hx hb hX hbl hbA hS (vp_in_iff.mpr ⟨by decide, by decide⟩) dL_law_722 ?_
      refine lv_topi (fun x_40 ex_40 => ?_)
      have ex_40 : x_28 = x_40 := ex_28.trans ex_40.symm
      subst ex_40
      have hPc := hP.sub (ws' := [(zm, .inr (12, [.int 0, .ref zm_y0, .int 0, .int 0, .int 0, .int 0, .ref zm_y1, .ref zm_y2, .ref zm_y3, .ref zm_y4, .ref zm_y5, .ref zm_y6, .ref zm_y7, .int 0, .int 0, .ref zm_y8, .ref zm_y9, .int 0, .int 0, .int 0, .int 0, .ref zm_y10, .ref zm_y11, .int 0, .int 0, .int 0, .int 0, .int 0, .ref zm_y12, .ref zm_y13, .ref zm_y14, .ref zm_y15, .int 0, .ref zm_y16, .ref zm_y17, .ref zm_y18, .int (-1), .int (-1), .int (-1), .int 0, .int 0, .int 0, .ref zm_y19, .ref zm_y20, .int 0, .ref zm_y21, .ref zm_y22, .ref zm_y23, .ref zm_y24, .ref zm_y25, .int 0, .ref zm_y26, .ref zm_y27, .ref zm_y28, .int 0, .int 0, .int 0, .ref zm_y29, .ref zm_y30, .ref zm_y31, .ref zm_y32, .int 0, .int 0, .long 0, .int 0, .int 0, .int 0, .int 0, .int 0, .int 0]))]) [0] rfl
      have hDc := hD.sub (ws' := [(zm, .inr (12, [.int 0, .ref zm_y0, .int 0, .int 0, .int 0, .int 0, .ref zm_y1, .ref zm_y2, .ref zm_y3, .ref zm_y4, .ref zm_y5, .ref zm_y6, .ref zm_y7, .int 0, .int 0, .ref zm_y8, .ref zm_y9, .int 0, .int 0, .int 0, .int 0, .ref zm_y10, .ref zm_y11, .int 0, .int 0, .int 0, .int 0, .int 0, .ref zm_y12, .ref zm_y13, .ref zm_y14, .ref zm_y15, .int 0, .ref zm_y16, .ref zm_y17, .ref zm_y18, .int (-1), .int (-1), .int (-1), .int 0, .int 0, .int 0, .ref zm_y19, .ref zm_y20, .int 0, .ref zm_y21, .ref zm_y22, .ref zm_y23, .ref zm_y24, .ref zm_y25, .int 0, .ref zm_y26, .ref zm_y27, .ref zm_y28, .int 0, .int 0, .int 0, .ref zm_y29, .ref zm_y30, .ref zm_y31, .ref zm_y32, .int 0, .int 0, .long 0, .int 0, .int 0, .int 0, .int 0, .int 0, .int 0]))]) [0] (by decide) rfl
      have hKc := hK.sub (tys' := []) [] rfl
      have hFc := va_free (wc := [(zm, .inr (12, [.int 0, .ref zm_y0, .int 0, .int 0, .int 0, .int 0, .ref zm_y1, .ref zm_y2, .ref zm_y3, .ref zm_y4, .ref zm_y5, .ref zm_y6, .ref zm_y7, .int 0, .int 0, .ref zm_y8, .ref zm_y9, .int 0, .int 0, .int 0, .int 0, .ref zm_y10, .ref zm_y11, .int 0, .int 0, .int 0, .int 0, .int 0, .ref zm_y12, .ref zm_y13, .ref zm_y14, .ref zm_y15, .int 0, .ref zm_y16, .ref zm_y17, .ref zm_y18, .int (-1), .int (-1), .int (-1), .int 0, .int 0, .int 0, .ref zm_y19, .ref zm_y20, .int 0, .ref zm_y21, .ref zm_y22, .ref zm_y23, .ref zm_y24, .ref zm_y25, .int 0, .ref zm_y26, .ref zm_y27, .ref zm_y28, .int 0, .int 0, .int 0, .ref zm_y29, .ref zm_y30, .ref zm_y31, .ref zm_y32, .int 0, .int 0, .long 0, .int 0, .int 0, .int 0, .int 0, .int 0, .int 0]))]) hD hS hA [0] rfl
      refine va_calli (va_runV (As := [.int x_2, .int x_4, .int x_6, .int 1, .int x_28]) (rest := [.int (-1)]) ⟨hx, hb, hml, hown, hts⟩ (zk_X12_hurts_2_t l dC dI (zm) (x_2) (x_4) (x_6) (x_28) (zm_y0) (zm_y1) (zm_y2) (zm_y3) (zm_y4) (zm_y5) (zm_y6) (zm_y7) (zm_y8) (zm_y9) (zm_y10) (zm_y11) (zm_y12) (zm_y13) (zm_y14) (zm_y15) (zm_y16) (zm_y17) (zm_y18) (zm_y19) (zm_y20) (zm_y21) (zm_y22) (zm_y23) (zm_y24) (zm_y25) (zm_y26) (zm_y27) (zm_y28) (zm_y29) (zm_y30) (zm_y31) (zm_y32) H.size) (cwV 5 hts gL_law_X12_hurts rfl rfl rfl (by decide +kernel) ⟨Nat.le_of_ble_eq_true rfl, Nat.le_of_ble_eq_true rfl⟩) ⟨zw_blind, va_recv hK hP (ci := 12) (q0 := 0) rfl rfl, fun U hU hW => ⟨rfl, zw_P.of hPc hKc hDc hN U hU hW⟩⟩ rfl rfl hl.1 rfl (lv_room (Nat.le_of_ble_eq_true rfl)) dL_law_723 ⟨Nat.le_of_ble_eq_true rfl, Nat.le_of_ble_eq_true rfl⟩) hS (fun q _ h => hFc q h) hFc (fun r_41 u t H1 locs ht hvm hw hB hz1 hk1 hS => ?_)
      obtain ⟨hP1, hK1, hD1⟩ := hB
      rw [ht] at hP1
      obtain ⟨hP, hD⟩ := va_join (wr := []) (w1 := []) hP hD [0] [] rfl rfl (by decide) (by decide) hk1 hFc hP1 hD1
      generalize H1 = H at hP hS ⊢
      have hP : va_P (dC, dI) classes [] H := hP
      have hD : va_D (fun q : Nat => s.heap.size ≤ q) [] := hD
      obtain rfl : r_41 = (-1) := hw
      refine lv_icmp_eq (tgt := 1170) hx hb dL_law_726 (by decide) (fun _ => ?_) (fun c9 => absurd (by decide) c9)
      refine lv_iinc (v := 6) (lv' := [(4, .int 6), (0, .ref b), (1, .ref zx), (2, .ref zm), (3, .ref zo)]) hx hb dL_law_1170 hl (k := 4) rfl (by decide) (by decide) rfl (fun ls hl => ?_)
      refine lv_goto (tgt := 23) hx hb dL_law_1173 (by decide) ?_
      refine lv_iload hx hb dL_law_23 (lv_at hl 0 rfl) ?_
      refine lv_aload_n hx hb dL_law_25 rfl (lv_at hl 1 rfl) ?_
      refine va_slen hx hb hX hbl hbA hS dL_law_26 ?_
      refine lv_topi (fun x_42 ex_42 => ?_)
      have ex_42 : x_42 = 6 := ex_42.trans (by decide)
      subst ex_42
      refine lv_bipush (v := 6) hx hb dL_law_27 (by decide) ?_
      refine lv_isub hx hb dL_law_29 ?_
      refine lv_topi (fun x_43 ex_43 => ?_)
      have ex_43 : x_43 = 0 := ex_43.trans (by decide)
      subst ex_43
      refine lv_icmp_gt (tgt := 1176) hx hb dL_law_30 (by decide) (fun _ => ?_) (fun c9 => absurd (by decide) c9)
      refine lv_iconst (v := 1) hx hb dL_law_1176 (by decide) ?_
      refine va_forget (fun q hq => hS.2.2 q hq) ?_
      refine W.widen (k := 600002) (n := 7302232) (Nat.le_of_ble_eq_true rfl) (Nat.le_of_ble_eq_true rfl) ?_
      exact lw_ret hx hb hr hlocks dL_law_1177
set_option maxHeartbeats 8000000 in
set_option maxRecDepth 100000 in
theorem zl_16 {p : Program} {e : Env} {s : State} {m : MethodId} {below : List Frame} {meth : Method} {c : Code} (l : Launch) {b : Nat} {xs : Nat → Int32} (C0 : lw_At p s m meth c b 6 xs) (dC : Nat → ClassId) (dI : Nat → Nat → Nat) (zx : Nat) (zx_y0 : Nat) (zx_y1 : Nat) (zx_y2 : Nat) (zx_y3 : Nat) (zx_y4 : Nat) (zx_y5 : Nat) (zx_y6 : Nat) (zx_y7 : Nat) (zx_y8 : Nat) (zx_y9 : Nat) (zx_y10 : Nat) (zx_y11 : Nat) (zx_y12 : Nat) (zx_y13 : Nat) (zx_y16 : Nat) (zx_y17 : Nat) (zx_y18 : Nat) (zx_y19 : Nat) (zx_y20 : Nat) (zx_y21 : Nat) (zm : Nat) (zm_y0 : Nat) (zm_y1 : Nat) (zm_y2 : Nat) (zm_y3 : Nat) (zm_y4 : Nat) (zm_y5 : Nat) (zm_y6 : Nat) (zm_y7 : Nat) (zm_y8 : Nat) (zm_y9 : Nat) (zm_y10 : Nat) (zm_y11 : Nat) (zm_y12 : Nat) (zm_y13 : Nat) (zm_y14 : Nat) (zm_y15 : Nat) (zm_y16 : Nat) (zm_y17 : Nat) (zm_y18 : Nat) (zm_y19 : Nat) (zm_y20 : Nat) (zm_y21 : Nat) (zm_y22 : Nat) (zm_y23 : Nat) (zm_y24 : Nat) (zm_y25 : Nat) (zm_y26 : Nat) (zm_y27 : Nat) (zm_y28 : Nat) (zm_y29 : Nat) (zm_y30 : Nat) (zm_y31 : Nat) (zm_y32 : Nat) (zo : Nat) {H : Heap} {locs : List Loc} (hN : zw_N s) (hK : va_K (dC, dI) classes [] s) (hP : va_P (dC, dI) classes [(zx, .inr (11, [.ref zx_y0, .ref zx_y1, .ref zx_y2, .ref zx_y3, .ref zx_y4, .ref zx_y5, .ref zx_y6, .ref zx_y7, .ref zx_y8, .ref zx_y9, .ref zx_y10, .ref zx_y11, .ref zx_y12, .ref zx_y13, .int 0, .int 0])), (zx_y1, .inr (6, [.ref zx_y16, .ref zx_y17, .ref zx_y18, .ref zx_y19, .int 0, .int (-1), .int (-1)])), (zx_y19, .inr (0, [.ref zx_y20, .ref zx_y21, .int 0, .int 0, .int 0, .int 0, .int 0])), (zm, .inr (12, [.int 0, .ref zm_y0, .int 0, .int 0, .int 0, .int 0, .ref zm_y1, .ref zm_y2, .ref zm_y3, .ref zm_y4, .ref zm_y5, .ref zm_y6, .ref zm_y7, .int 0, .int 0, .ref zm_y8, .ref zm_y9, .int 0, .int 0, .int 0, .int 0, .ref zm_y10, .ref zm_y11, .int 0, .int 0, .int 0, .int 0, .int 0, .ref zm_y12, .ref zm_y13, .ref zm_y14, .ref zm_y15, .int 0, .ref zm_y16, .ref zm_y17, .ref zm_y18, .int (-1), .int (-1), .int (-1), .int 0, .int 0, .int 0, .ref zm_y19, .ref zm_y20, .int 0, .ref zm_y21, .ref zm_y22, .ref zm_y23, .ref zm_y24, .ref zm_y25, .int 0, .ref zm_y26, .ref zm_y27, .ref zm_y28, .int 0, .int 0, .int 0, .ref zm_y29, .ref zm_y30, .ref zm_y31, .ref zm_y32, .int 0, .int 0, .long 0, .int 0, .int 0, .int 0, .int 0, .int 0, .int 0]))] H) (hD : va_D (fun q : Nat => s.heap.size ≤ q) [(zx, .inr (11, [.ref zx_y0, .ref zx_y1, .ref zx_y2, .ref zx_y3, .ref zx_y4, .ref zx_y5, .ref zx_y6, .ref zx_y7, .ref zx_y8, .ref zx_y9, .ref zx_y10, .ref zx_y11, .ref zx_y12, .ref zx_y13, .int 0, .int 0])), (zx_y1, .inr (6, [.ref zx_y16, .ref zx_y17, .ref zx_y18, .ref zx_y19, .int 0, .int (-1), .int (-1)])), (zx_y19, .inr (0, [.ref zx_y20, .ref zx_y21, .int 0, .int 0, .int 0, .int 0, .int 0])), (zm, .inr (12, [.int 0, .ref zm_y0, .int 0, .int 0, .int 0, .int 0, .ref zm_y1, .ref zm_y2, .ref zm_y3, .ref zm_y4, .ref zm_y5, .ref zm_y6, .ref zm_y7, .int 0, .int 0, .ref zm_y8, .ref zm_y9, .int 0, .int 0, .int 0, .int 0, .ref zm_y10, .ref zm_y11, .int 0, .int 0, .int 0, .int 0, .int 0, .ref zm_y12, .ref zm_y13, .ref zm_y14, .ref zm_y15, .int 0, .ref zm_y16, .ref zm_y17, .ref zm_y18, .int (-1), .int (-1), .int (-1), .int 0, .int 0, .int 0, .ref zm_y19, .ref zm_y20, .int 0, .ref zm_y21, .ref zm_y22, .ref zm_y23, .ref zm_y24, .ref zm_y25, .int 0, .ref zm_y26, .ref zm_y27, .ref zm_y28, .int 0, .int 0, .int 0, .ref zm_y29, .ref zm_y30, .ref zm_y31, .ref zm_y32, .int 0, .int 0, .long 0, .int 0, .int 0, .int 0, .int 0, .int 0, .int 0]))]) (hS : va_S (fun q : Nat => s.heap.size ≤ q) s.heap H locs) (ls : Array Slot) (hl : lv_has ls 7 [(0, .ref b), (1, .ref zx), (2, .ref zm), (3, .ref zo), (4, .int 0)]) : W p l e room_1 s m #[Value.ref b] below meth c H locs 99 952984 (lw_Z below #[Value.ref b] s) (F0 m 731 ls []) := by
  obtain ⟨hx, hb, hr, hml, hown, hts0, hX, hbl, hlocks, hgv⟩ := C0
  have hts : ∀ w ∈ wsL_law, w.before #[Value.ref b] s = true := fun w h => hts0 w (wsL_law_in w h)
  have hA : ∀ q : Nat, s.heap.size ≤ q → (fun q : Nat => s.heap.size ≤ q) q := fun _ h => h
  have hbA : ¬ (fun q : Nat => s.heap.size ≤ q) b := Nat.not_le.mpr hbl
  refine lv_aload_n hx hb dL_law_731 rfl (lv_at hl 1 rfl) ?_
  refine lv_aload_n hx hb dL_law_732 rfl (lv_at hl 0 rfl) ?_
  refine lv_iload hx hb dL_law_733 (lv_at hl 4 rfl) ?_
  refine lv_iconst (v := 1) hx hb dL_law_735 (by decide) ?_
  refine lv_iadd hx hb dL_law_736 ?_
  refine lv_topi (fun x_1 ex_1 => ?_)
  have ex_1 : x_1 = 1 := ex_1.trans (by decide)
  subst ex_1
  refine va_sld hx hb hX hbl hbA hS (vp_in_iff.mpr ⟨by decide, by decide⟩) dL_law_737 ?_
  refine lv_topi (fun x_2 ex_2 => ?_)
  refine lv_aload_n hx hb dL_law_738 rfl (lv_at hl 0 rfl) ?_
  refine lv_iload hx hb dL_law_739 (lv_at hl 4 rfl) ?_
  refine lv_iconst (v := 2) hx hb dL_law_741 (by decide) ?_
  refine lv_iadd hx hb dL_law_742 ?_
  refine lv_topi (fun x_3 ex_3 => ?_)
  have ex_3 : x_3 = 2 := ex_3.trans (by decide)
  subst ex_3
  refine va_sld hx hb hX hbl hbA hS (vp_in_iff.mpr ⟨by decide, by decide⟩) dL_law_743 ?_
  refine lv_topi (fun x_4 ex_4 => ?_)
  refine lv_aload_n hx hb dL_law_744 rfl (lv_at hl 0 rfl) ?_
  refine lv_iload hx hb dL_law_745 (lv_at hl 4 rfl) ?_
  refine lv_iconst (v := 3) hx hb dL_law_747 (by decide) ?_
  refine lv_iadd hx hb dL_law_748 ?_
  refine lv_topi (fun x_5 ex_5 => ?_)
  have ex_5 : x_5 = 3 := ex_5.trans (by decide)
  subst ex_5
  refine va_sld hx hb hX hbl hbA hS (vp_in_iff.mpr ⟨by decide, by decide⟩) dL_law_749 ?_
  refine lv_topi (fun x_6 ex_6 => ?_)
  refine lv_aload_n hx hb dL_law_750 rfl (lv_at hl 0 rfl) ?_
  refine lv_iload hx hb dL_law_751 (lv_at hl 4 rfl) ?_
  refine lv_iconst (v := 4) hx hb dL_law_753 (by decide) ?_
  refine lv_iadd hx hb dL_law_754 ?_
  refine lv_topi (fun x_7 ex_7 => ?_)
  have ex_7 : x_7 = 4 := ex_7.trans (by decide)
  subst ex_7
  refine va_sld hx hb hX hbl hbA hS (vp_in_iff.mpr ⟨by decide, by decide⟩) dL_law_755 ?_
  refine lv_topi (fun x_8 ex_8 => ?_)
  have hPc := hP.sub (ws' := [(zx, .inr (11, [.ref zx_y0, .ref zx_y1, .ref zx_y2, .ref zx_y3, .ref zx_y4, .ref zx_y5, .ref zx_y6, .ref zx_y7, .ref zx_y8, .ref zx_y9, .ref zx_y10, .ref zx_y11, .ref zx_y12, .ref zx_y13, .int 0, .int 0])), (zx_y1, .inr (6, [.ref zx_y16, .ref zx_y17, .ref zx_y18, .ref zx_y19, .int 0, .int (-1), .int (-1)])), (zx_y19, .inr (0, [.ref zx_y20, .ref zx_y21, .int 0, .int 0, .int 0, .int 0, .int 0]))]) [0, 1, 2] rfl
  have hDc := hD.sub (ws' := [(zx, .inr (11, [.ref zx_y0, .ref zx_y1, .ref zx_y2, .ref zx_y3, .ref zx_y4, .ref zx_y5, .ref zx_y6, .ref zx_y7, .ref zx_y8, .ref zx_y9, .ref zx_y10, .ref zx_y11, .ref zx_y12, .ref zx_y13, .int 0, .int 0])), (zx_y1, .inr (6, [.ref zx_y16, .ref zx_y17, .ref zx_y18, .ref zx_y19, .int 0, .int (-1), .int (-1)])), (zx_y19, .inr (0, [.ref zx_y20, .ref zx_y21, .int 0, .int 0, .int 0, .int 0, .int 0]))]) [0, 1, 2] (by decide) rfl
  have hKc := hK.sub (tys' := []) [] rfl
  have hFc := va_free (wc := [(zx, .inr (11, [.ref zx_y0, .ref zx_y1, .ref zx_y2, .ref zx_y3, .ref zx_y4, .ref zx_y5, .ref zx_y6, .ref zx_y7, .ref zx_y8, .ref zx_y9, .ref zx_y10, .ref zx_y11, .ref zx_y12, .ref zx_y13, .int 0, .int 0])), (zx_y1, .inr (6, [.ref zx_y16, .ref zx_y17, .ref zx_y18, .ref zx_y19, .int 0, .int (-1), .int (-1)])), (zx_y19, .inr (0, [.ref zx_y20, .ref zx_y21, .int 0, .int 0, .int 0, .int 0, .int 0]))]) hD hS hA [0, 1, 2] rfl
  refine va_calli (va_runV (As := [.int x_2, .int x_4, .int x_6, .int x_8]) (rest := []) ⟨hx, hb, hml, hown, hts⟩ (zk_X11_ending_t l dC dI (zx) (x_2) (x_4) (x_6) (x_8) (zx_y0) (zx_y1) (zx_y2) (zx_y3) (zx_y4) (zx_y5) (zx_y6) (zx_y7) (zx_y8) (zx_y9) (zx_y10) (zx_y11) (zx_y12) (zx_y13) (zx_y16) (zx_y17) (zx_y18) (zx_y19) (zx_y20) (zx_y21) H.size) (cwV 4 hts gL_law_X11_ending rfl rfl rfl (by decide +kernel) ⟨Nat.le_of_ble_eq_true rfl, Nat.le_of_ble_eq_true rfl⟩) ⟨zw_blind, va_recv hK hP (ci := 11) (q0 := 0) rfl rfl, fun U hU hW => ⟨rfl, zw_P.of hPc hKc hDc hN U hU hW⟩⟩ rfl rfl hl.1 rfl (lv_room (Nat.le_of_ble_eq_true rfl)) dL_law_756 ⟨Nat.le_of_ble_eq_true rfl, Nat.le_of_ble_eq_true rfl⟩) hS (fun q _ h => hFc q h) hFc (fun r_9 u t H1 locs ht hvm hw hB hz1 hk1 hS => ?_)
  obtain ⟨hP1, hK1, hD1⟩ := hB
  rw [ht] at hP1
  obtain ⟨hP, hD⟩ := va_join (wr := [(zm, .inr (12, [.int 0, .ref zm_y0, .int 0, .int 0, .int 0, .int 0, .ref zm_y1, .ref zm_y2, .ref zm_y3, .ref zm_y4, .ref zm_y5, .ref zm_y6, .ref zm_y7, .int 0, .int 0, .ref zm_y8, .ref zm_y9, .int 0, .int 0, .int 0, .int 0, .ref zm_y10, .ref zm_y11, .int 0, .int 0, .int 0, .int 0, .int 0, .ref zm_y12, .ref zm_y13, .ref zm_y14, .ref zm_y15, .int 0, .ref zm_y16, .ref zm_y17, .ref zm_y18, .int (-1), .int (-1), .int (-1), .int 0, .int 0, .int 0, .ref zm_y19, .ref zm_y20, .int 0, .ref zm_y21, .ref zm_y22, .ref zm_y23, .ref zm_y24, .ref zm_y25, .int 0, .ref zm_y26, .ref zm_y27, .ref zm_y28, .int 0, .int 0, .int 0, .ref zm_y29, .ref zm_y30, .ref zm_y31, .ref zm_y32, .int 0, .int 0, .long 0, .int 0, .int 0, .int 0, .int 0, .int 0, .int 0]))]) (w1 := []) hP hD [0, 1, 2] [3] rfl rfl (by decide) (by decide) hk1 hFc hP1 hD1
  generalize H1 = H at hP hS ⊢
  have hP : va_P (dC, dI) classes [(zm, .inr (12, [.int 0, .ref zm_y0, .int 0, .int 0, .int 0, .int 0, .ref zm_y1, .ref zm_y2, .ref zm_y3, .ref zm_y4, .ref zm_y5, .ref zm_y6, .ref zm_y7, .int 0, .int 0, .ref zm_y8, .ref zm_y9, .int 0, .int 0, .int 0, .int 0, .ref zm_y10, .ref zm_y11, .int 0, .int 0, .int 0, .int 0, .int 0, .ref zm_y12, .ref zm_y13, .ref zm_y14, .ref zm_y15, .int 0, .ref zm_y16, .ref zm_y17, .ref zm_y18, .int (-1), .int (-1), .int (-1), .int 0, .int 0, .int 0, .ref zm_y19, .ref zm_y20, .int 0, .ref zm_y21, .ref zm_y22, .ref zm_y23, .ref zm_y24, .ref zm_y25, .int 0, .ref zm_y26, .ref zm_y27, .ref zm_y28, .int 0, .int 0, .int 0, .ref zm_y29, .ref zm_y30, .ref zm_y31, .ref zm_y32, .int 0, .int 0, .long 0, .int 0, .int 0, .int 0, .int 0, .int 0, .int 0]))] H := hP
  have hD : va_D (fun q : Nat => s.heap.size ≤ q) [(zm, .inr (12, [.int 0, .ref zm_y0, .int 0, .int 0, .int 0, .int 0, .ref zm_y1, .ref zm_y2, .ref zm_y3, .ref zm_y4, .ref zm_y5, .ref zm_y6, .ref zm_y7, .int 0, .int 0, .ref zm_y8, .ref zm_y9, .int 0, .int 0, .int 0, .int 0, .ref zm_y10, .ref zm_y11, .int 0, .int 0, .int 0, .int 0, .int 0, .ref zm_y12, .ref zm_y13, .ref zm_y14, .ref zm_y15, .int 0, .ref zm_y16, .ref zm_y17, .ref zm_y18, .int (-1), .int (-1), .int (-1), .int 0, .int 0, .int 0, .ref zm_y19, .ref zm_y20, .int 0, .ref zm_y21, .ref zm_y22, .ref zm_y23, .ref zm_y24, .ref zm_y25, .int 0, .ref zm_y26, .ref zm_y27, .ref zm_y28, .int 0, .int 0, .int 0, .ref zm_y29, .ref zm_y30, .ref zm_y31, .ref zm_y32, .int 0, .int 0, .long 0, .int 0, .int 0, .int 0, .int 0, .int 0, .int 0]))] := hD
  obtain rfl : r_9 = (-1) := hw
  refine lv_aload_n hx hb dL_law_759 rfl (lv_at hl 2 rfl) ?_
  refine lv_aload_n hx hb dL_law_760 rfl (lv_at hl 0 rfl) ?_
  refine lv_iload hx hb dL_law_761 (lv_at hl 4 rfl) ?_
  refine lv_iconst (v := 1) hx hb dL_law_763 (by decide) ?_
  refine lv_iadd hx hb dL_law_764 ?_
  refine lv_topi (fun x_10 ex_10 => ?_)
  have ex_10 : x_10 = 1 := ex_10.trans (by decide)
  subst ex_10
  refine va_sld hx hb hX hbl hbA hS (vp_in_iff.mpr ⟨by decide, by decide⟩) dL_law_765 ?_
  refine lv_topi (fun x_11 ex_11 => ?_)
  have ex_11 : x_2 = x_11 := ex_2.trans ex_11.symm
  subst ex_11
  refine lv_aload_n hx hb dL_law_766 rfl (lv_at hl 0 rfl) ?_
  refine lv_iload hx hb dL_law_767 (lv_at hl 4 rfl) ?_
  refine lv_iconst (v := 2) hx hb dL_law_769 (by decide) ?_
  refine lv_iadd hx hb dL_law_770 ?_
  refine lv_topi (fun x_12 ex_12 => ?_)
  have ex_12 : x_12 = 2 := ex_12.trans (by decide)
  subst ex_12
  refine va_sld hx hb hX hbl hbA hS (vp_in_iff.mpr ⟨by decide, by decide⟩) dL_law_771 ?_
  refine lv_topi (fun x_13 ex_13 => ?_)
  have ex_13 : x_4 = x_13 := ex_4.trans ex_13.symm
  subst ex_13
  refine lv_aload_n hx hb dL_law_772 rfl (lv_at hl 0 rfl) ?_
  refine lv_iload hx hb dL_law_773 (lv_at hl 4 rfl) ?_
  refine lv_iconst (v := 3) hx hb dL_law_775 (by decide) ?_
  refine lv_iadd hx hb dL_law_776 ?_
  refine lv_topi (fun x_14 ex_14 => ?_)
  have ex_14 : x_14 = 3 := ex_14.trans (by decide)
  subst ex_14
  refine va_sld hx hb hX hbl hbA hS (vp_in_iff.mpr ⟨by decide, by decide⟩) dL_law_777 ?_
  refine lv_topi (fun x_15 ex_15 => ?_)
  have ex_15 : x_6 = x_15 := ex_6.trans ex_15.symm
  subst ex_15
  refine lv_aload_n hx hb dL_law_778 rfl (lv_at hl 0 rfl) ?_
  refine lv_iload hx hb dL_law_779 (lv_at hl 4 rfl) ?_
  refine lv_iconst (v := 4) hx hb dL_law_781 (by decide) ?_
  refine lv_iadd hx hb dL_law_782 ?_
  refine lv_topi (fun x_16 ex_16 => ?_)
  have ex_16 : x_16 = 4 := ex_16.trans (by decide)
  subst ex_16
  refine va_sld hx hb hX hbl hbA hS (vp_in_iff.mpr ⟨by decide, by decide⟩) dL_law_783 ?_
  refine lv_topi (fun x_17 ex_17 => ?_)
  have ex_17 : x_8 = x_17 := ex_8.trans ex_17.symm
  subst ex_17
  have hPc := hP.sub (ws' := [(zm, .inr (12, [.int 0, .ref zm_y0, .int 0, .int 0, .int 0, .int 0, .ref zm_y1, .ref zm_y2, .ref zm_y3, .ref zm_y4, .ref zm_y5, .ref zm_y6, .ref zm_y7, .int 0, .int 0, .ref zm_y8, .ref zm_y9, .int 0, .int 0, .int 0, .int 0, .ref zm_y10, .ref zm_y11, .int 0, .int 0, .int 0, .int 0, .int 0, .ref zm_y12, .ref zm_y13, .ref zm_y14, .ref zm_y15, .int 0, .ref zm_y16, .ref zm_y17, .ref zm_y18, .int (-1), .int (-1), .int (-1), .int 0, .int 0, .int 0, .ref zm_y19, .ref zm_y20, .int 0, .ref zm_y21, .ref zm_y22, .ref zm_y23, .ref zm_y24, .ref zm_y25, .int 0, .ref zm_y26, .ref zm_y27, .ref zm_y28, .int 0, .int 0, .int 0, .ref zm_y29, .ref zm_y30, .ref zm_y31, .ref zm_y32, .int 0, .int 0, .long 0, .int 0, .int 0, .int 0, .int 0, .int 0, .int 0]))]) [0] rfl
  have hDc := hD.sub (ws' := [(zm, .inr (12, [.int 0, .ref zm_y0, .int 0, .int 0, .int 0, .int 0, .ref zm_y1, .ref zm_y2, .ref zm_y3, .ref zm_y4, .ref zm_y5, .ref zm_y6, .ref zm_y7, .int 0, .int 0, .ref zm_y8, .ref zm_y9, .int 0, .int 0, .int 0, .int 0, .ref zm_y10, .ref zm_y11, .int 0, .int 0, .int 0, .int 0, .int 0, .ref zm_y12, .ref zm_y13, .ref zm_y14, .ref zm_y15, .int 0, .ref zm_y16, .ref zm_y17, .ref zm_y18, .int (-1), .int (-1), .int (-1), .int 0, .int 0, .int 0, .ref zm_y19, .ref zm_y20, .int 0, .ref zm_y21, .ref zm_y22, .ref zm_y23, .ref zm_y24, .ref zm_y25, .int 0, .ref zm_y26, .ref zm_y27, .ref zm_y28, .int 0, .int 0, .int 0, .ref zm_y29, .ref zm_y30, .ref zm_y31, .ref zm_y32, .int 0, .int 0, .long 0, .int 0, .int 0, .int 0, .int 0, .int 0, .int 0]))]) [0] (by decide) rfl
  have hKc := hK.sub (tys' := []) [] rfl
  have hFc := va_free (wc := [(zm, .inr (12, [.int 0, .ref zm_y0, .int 0, .int 0, .int 0, .int 0, .ref zm_y1, .ref zm_y2, .ref zm_y3, .ref zm_y4, .ref zm_y5, .ref zm_y6, .ref zm_y7, .int 0, .int 0, .ref zm_y8, .ref zm_y9, .int 0, .int 0, .int 0, .int 0, .ref zm_y10, .ref zm_y11, .int 0, .int 0, .int 0, .int 0, .int 0, .ref zm_y12, .ref zm_y13, .ref zm_y14, .ref zm_y15, .int 0, .ref zm_y16, .ref zm_y17, .ref zm_y18, .int (-1), .int (-1), .int (-1), .int 0, .int 0, .int 0, .ref zm_y19, .ref zm_y20, .int 0, .ref zm_y21, .ref zm_y22, .ref zm_y23, .ref zm_y24, .ref zm_y25, .int 0, .ref zm_y26, .ref zm_y27, .ref zm_y28, .int 0, .int 0, .int 0, .ref zm_y29, .ref zm_y30, .ref zm_y31, .ref zm_y32, .int 0, .int 0, .long 0, .int 0, .int 0, .int 0, .int 0, .int 0, .int 0]))]) hD hS hA [0] rfl
  refine va_calli (va_runV (As := [.int x_2, .int x_4, .int x_6, .int x_8]) (rest := [.int (-1)]) ⟨hx, hb, hml, hown, hts⟩ (zk_X12_ending_t l dC dI (zm) (x_2) (x_4) (x_6) (x_8) (zm_y0) (zm_y1) (zm_y2) (zm_y3) (zm_y4) (zm_y5) (zm_y6) (zm_y7) (zm_y8) (zm_y9) (zm_y10) (zm_y11) (zm_y12) (zm_y13) (zm_y14) (zm_y15) (zm_y16) (zm_y17) (zm_y18) (zm_y19) (zm_y20) (zm_y21) (zm_y22) (zm_y23) (zm_y24) (zm_y25) (zm_y26) (zm_y27) (zm_y28) (zm_y29) (zm_y30) (zm_y31) (zm_y32) H.size) (cwV 4 hts gL_law_X12_ending rfl rfl rfl (by decide +kernel) ⟨Nat.le_of_ble_eq_true rfl, Nat.le_of_ble_eq_true rfl⟩) ⟨zw_blind, va_recv hK hP (ci := 12) (q0 := 0) rfl rfl, fun U hU hW => ⟨rfl, zw_P.of hPc hKc hDc hN U hU hW⟩⟩ rfl rfl hl.1 rfl (lv_room (Nat.le_of_ble_eq_true rfl)) dL_law_784 ⟨Nat.le_of_ble_eq_true rfl, Nat.le_of_ble_eq_true rfl⟩) hS (fun q _ h => hFc q h) hFc (fun r_18 u t H1 locs ht hvm hw hB hz1 hk1 hS => ?_)
  obtain ⟨hP1, hK1, hD1⟩ := hB
  rw [ht] at hP1
  obtain ⟨hP, hD⟩ := va_join (wr := []) (w1 := []) hP hD [0] [] rfl rfl (by decide) (by decide) hk1 hFc hP1 hD1
  generalize H1 = H at hP hS ⊢
  have hP : va_P (dC, dI) classes [] H := hP
  have hD : va_D (fun q : Nat => s.heap.size ≤ q) [] := hD
  obtain rfl : r_18 = (-1) := hw
  refine lv_icmp_eq (tgt := 1170) hx hb dL_law_787 (by decide) (fun _ => ?_) (fun c9 => absurd (by decide) c9)
  refine lv_iinc (v := 6) (lv' := [(4, .int 6), (0, .ref b), (1, .ref zx), (2, .ref zm), (3, .ref zo)]) hx hb dL_law_1170 hl (k := 4) rfl (by decide) (by decide) rfl (fun ls hl => ?_)
  refine lv_goto (tgt := 23) hx hb dL_law_1173 (by decide) ?_
  refine lv_iload hx hb dL_law_23 (lv_at hl 0 rfl) ?_
  refine lv_aload_n hx hb dL_law_25 rfl (lv_at hl 1 rfl) ?_
  refine va_slen hx hb hX hbl hbA hS dL_law_26 ?_
  refine lv_topi (fun x_19 ex_19 => ?_)
  have ex_19 : x_19 = 6 := ex_19.trans (by decide)
  subst ex_19
  refine lv_bipush (v := 6) hx hb dL_law_27 (by decide) ?_
  refine lv_isub hx hb dL_law_29 ?_
  refine lv_topi (fun x_20 ex_20 => ?_)
  have ex_20 : x_20 = 0 := ex_20.trans (by decide)
  subst ex_20
  refine lv_icmp_gt (tgt := 1176) hx hb dL_law_30 (by decide) (fun _ => ?_) (fun c9 => absurd (by decide) c9)
  refine lv_iconst (v := 1) hx hb dL_law_1176 (by decide) ?_
  refine va_forget (fun q hq => hS.2.2 q hq) ?_
  refine W.widen (k := 600002) (n := 7302232) (Nat.le_of_ble_eq_true rfl) (Nat.le_of_ble_eq_true rfl) ?_
  exact lw_ret hx hb hr hlocks dL_law_1177
set_option maxHeartbeats 8000000 in
set_option maxRecDepth 100000 in
theorem zl_17 {p : Program} {e : Env} {s : State} {m : MethodId} {below : List Frame} {meth : Method} {c : Code} (l : Launch) {b : Nat} {xs : Nat → Int32} (C0 : lw_At p s m meth c b 6 xs) (dC : Nat → ClassId) (dI : Nat → Nat → Nat) (zx : Nat) (zx_y0 : Nat) (zx_y1 : Nat) (zx_y2 : Nat) (zx_y3 : Nat) (zx_y4 : Nat) (zx_y5 : Nat) (zx_y6 : Nat) (zx_y7 : Nat) (zx_y8 : Nat) (zx_y9 : Nat) (zx_y10 : Nat) (zx_y11 : Nat) (zx_y12 : Nat) (zx_y13 : Nat) (zx_y16 : Nat) (zx_y17 : Nat) (zx_y18 : Nat) (zx_y19 : Nat) (zx_y20 : Nat) (zx_y21 : Nat) (zm : Nat) (zm_y0 : Nat) (zm_y1 : Nat) (zm_y2 : Nat) (zm_y3 : Nat) (zm_y4 : Nat) (zm_y5 : Nat) (zm_y6 : Nat) (zm_y7 : Nat) (zm_y8 : Nat) (zm_y9 : Nat) (zm_y10 : Nat) (zm_y11 : Nat) (zm_y12 : Nat) (zm_y13 : Nat) (zm_y14 : Nat) (zm_y15 : Nat) (zm_y16 : Nat) (zm_y17 : Nat) (zm_y18 : Nat) (zm_y19 : Nat) (zm_y20 : Nat) (zm_y21 : Nat) (zm_y22 : Nat) (zm_y23 : Nat) (zm_y24 : Nat) (zm_y25 : Nat) (zm_y26 : Nat) (zm_y27 : Nat) (zm_y28 : Nat) (zm_y29 : Nat) (zm_y30 : Nat) (zm_y31 : Nat) (zm_y32 : Nat) (zo : Nat) {H : Heap} {locs : List Loc} (hN : zw_N s) (hK : va_K (dC, dI) classes [] s) (hP : va_P (dC, dI) classes [(zx, .inr (11, [.ref zx_y0, .ref zx_y1, .ref zx_y2, .ref zx_y3, .ref zx_y4, .ref zx_y5, .ref zx_y6, .ref zx_y7, .ref zx_y8, .ref zx_y9, .ref zx_y10, .ref zx_y11, .ref zx_y12, .ref zx_y13, .int 0, .int 0])), (zx_y1, .inr (6, [.ref zx_y16, .ref zx_y17, .ref zx_y18, .ref zx_y19, .int 0, .int (-1), .int (-1)])), (zx_y19, .inr (0, [.ref zx_y20, .ref zx_y21, .int 0, .int 0, .int 0, .int 0, .int 0])), (zm, .inr (12, [.int 0, .ref zm_y0, .int 0, .int 0, .int 0, .int 0, .ref zm_y1, .ref zm_y2, .ref zm_y3, .ref zm_y4, .ref zm_y5, .ref zm_y6, .ref zm_y7, .int 0, .int 0, .ref zm_y8, .ref zm_y9, .int 0, .int 0, .int 0, .int 0, .ref zm_y10, .ref zm_y11, .int 0, .int 0, .int 0, .int 0, .int 0, .ref zm_y12, .ref zm_y13, .ref zm_y14, .ref zm_y15, .int 0, .ref zm_y16, .ref zm_y17, .ref zm_y18, .int (-1), .int (-1), .int (-1), .int 0, .int 0, .int 0, .ref zm_y19, .ref zm_y20, .int 0, .ref zm_y21, .ref zm_y22, .ref zm_y23, .ref zm_y24, .ref zm_y25, .int 0, .ref zm_y26, .ref zm_y27, .ref zm_y28, .int 0, .int 0, .int 0, .ref zm_y29, .ref zm_y30, .ref zm_y31, .ref zm_y32, .int 0, .int 0, .long 0, .int 0, .int 0, .int 0, .int 0, .int 0, .int 0]))] H) (hD : va_D (fun q : Nat => s.heap.size ≤ q) [(zx, .inr (11, [.ref zx_y0, .ref zx_y1, .ref zx_y2, .ref zx_y3, .ref zx_y4, .ref zx_y5, .ref zx_y6, .ref zx_y7, .ref zx_y8, .ref zx_y9, .ref zx_y10, .ref zx_y11, .ref zx_y12, .ref zx_y13, .int 0, .int 0])), (zx_y1, .inr (6, [.ref zx_y16, .ref zx_y17, .ref zx_y18, .ref zx_y19, .int 0, .int (-1), .int (-1)])), (zx_y19, .inr (0, [.ref zx_y20, .ref zx_y21, .int 0, .int 0, .int 0, .int 0, .int 0])), (zm, .inr (12, [.int 0, .ref zm_y0, .int 0, .int 0, .int 0, .int 0, .ref zm_y1, .ref zm_y2, .ref zm_y3, .ref zm_y4, .ref zm_y5, .ref zm_y6, .ref zm_y7, .int 0, .int 0, .ref zm_y8, .ref zm_y9, .int 0, .int 0, .int 0, .int 0, .ref zm_y10, .ref zm_y11, .int 0, .int 0, .int 0, .int 0, .int 0, .ref zm_y12, .ref zm_y13, .ref zm_y14, .ref zm_y15, .int 0, .ref zm_y16, .ref zm_y17, .ref zm_y18, .int (-1), .int (-1), .int (-1), .int 0, .int 0, .int 0, .ref zm_y19, .ref zm_y20, .int 0, .ref zm_y21, .ref zm_y22, .ref zm_y23, .ref zm_y24, .ref zm_y25, .int 0, .ref zm_y26, .ref zm_y27, .ref zm_y28, .int 0, .int 0, .int 0, .ref zm_y29, .ref zm_y30, .ref zm_y31, .ref zm_y32, .int 0, .int 0, .long 0, .int 0, .int 0, .int 0, .int 0, .int 0, .int 0]))]) (hS : va_S (fun q : Nat => s.heap.size ≤ q) s.heap H locs) (ls : Array Slot) (hl : lv_has ls 7 [(0, .ref b), (1, .ref zx), (2, .ref zm), (3, .ref zo), (4, .int 0)]) : W p l e room_1 s m #[Value.ref b] below meth c H locs 99 952984 (lw_Z below #[Value.ref b] s) (F0 m 792 ls []) := by
  obtain ⟨hx, hb, hr, hml, hown, hts0, hX, hbl, hlocks, hgv⟩ := C0
  have hts : ∀ w ∈ wsL_law, w.before #[Value.ref b] s = true := fun w h => hts0 w (wsL_law_in w h)
  have hA : ∀ q : Nat, s.heap.size ≤ q → (fun q : Nat => s.heap.size ≤ q) q := fun _ h => h
  have hbA : ¬ (fun q : Nat => s.heap.size ≤ q) b := Nat.not_le.mpr hbl
  refine lv_aload_n hx hb dL_law_792 rfl (lv_at hl 1 rfl) ?_
  refine lv_aload_n hx hb dL_law_793 rfl (lv_at hl 0 rfl) ?_
  refine lv_iload hx hb dL_law_794 (lv_at hl 4 rfl) ?_
  refine lv_iconst (v := 1) hx hb dL_law_796 (by decide) ?_
  refine lv_iadd hx hb dL_law_797 ?_
  refine lv_topi (fun x_1 ex_1 => ?_)
  have ex_1 : x_1 = 1 := ex_1.trans (by decide)
  subst ex_1
  refine va_sld hx hb hX hbl hbA hS (vp_in_iff.mpr ⟨by decide, by decide⟩) dL_law_798 ?_
  refine lv_topi (fun x_2 ex_2 => ?_)
  refine lv_aload_n hx hb dL_law_799 rfl (lv_at hl 0 rfl) ?_
  refine lv_iload hx hb dL_law_800 (lv_at hl 4 rfl) ?_
  refine lv_iconst (v := 2) hx hb dL_law_802 (by decide) ?_
  refine lv_iadd hx hb dL_law_803 ?_
  refine lv_topi (fun x_3 ex_3 => ?_)
  have ex_3 : x_3 = 2 := ex_3.trans (by decide)
  subst ex_3
  refine va_sld hx hb hX hbl hbA hS (vp_in_iff.mpr ⟨by decide, by decide⟩) dL_law_804 ?_
  refine lv_topi (fun x_4 ex_4 => ?_)
  refine lv_aload_n hx hb dL_law_805 rfl (lv_at hl 0 rfl) ?_
  refine lv_iload hx hb dL_law_806 (lv_at hl 4 rfl) ?_
  refine lv_iconst (v := 3) hx hb dL_law_808 (by decide) ?_
  refine lv_iadd hx hb dL_law_809 ?_
  refine lv_topi (fun x_5 ex_5 => ?_)
  have ex_5 : x_5 = 3 := ex_5.trans (by decide)
  subst ex_5
  refine va_sld hx hb hX hbl hbA hS (vp_in_iff.mpr ⟨by decide, by decide⟩) dL_law_810 ?_
  refine lv_topi (fun x_6 ex_6 => ?_)
  refine lv_aload_n hx hb dL_law_811 rfl (lv_at hl 0 rfl) ?_
  refine lv_iload hx hb dL_law_812 (lv_at hl 4 rfl) ?_
  refine lv_iconst (v := 4) hx hb dL_law_814 (by decide) ?_
  refine lv_iadd hx hb dL_law_815 ?_
  refine lv_topi (fun x_7 ex_7 => ?_)
  have ex_7 : x_7 = 4 := ex_7.trans (by decide)
  subst ex_7
  refine va_sld hx hb hX hbl hbA hS (vp_in_iff.mpr ⟨by decide, by decide⟩) dL_law_816 ?_
  refine lv_topi (fun x_8 ex_8 => ?_)
  have hPc := hP.sub (ws' := [(zx, .inr (11, [.ref zx_y0, .ref zx_y1, .ref zx_y2, .ref zx_y3, .ref zx_y4, .ref zx_y5, .ref zx_y6, .ref zx_y7, .ref zx_y8, .ref zx_y9, .ref zx_y10, .ref zx_y11, .ref zx_y12, .ref zx_y13, .int 0, .int 0])), (zx_y1, .inr (6, [.ref zx_y16, .ref zx_y17, .ref zx_y18, .ref zx_y19, .int 0, .int (-1), .int (-1)])), (zx_y19, .inr (0, [.ref zx_y20, .ref zx_y21, .int 0, .int 0, .int 0, .int 0, .int 0]))]) [0, 1, 2] rfl
  have hDc := hD.sub (ws' := [(zx, .inr (11, [.ref zx_y0, .ref zx_y1, .ref zx_y2, .ref zx_y3, .ref zx_y4, .ref zx_y5, .ref zx_y6, .ref zx_y7, .ref zx_y8, .ref zx_y9, .ref zx_y10, .ref zx_y11, .ref zx_y12, .ref zx_y13, .int 0, .int 0])), (zx_y1, .inr (6, [.ref zx_y16, .ref zx_y17, .ref zx_y18, .ref zx_y19, .int 0, .int (-1), .int (-1)])), (zx_y19, .inr (0, [.ref zx_y20, .ref zx_y21, .int 0, .int 0, .int 0, .int 0, .int 0]))]) [0, 1, 2] (by decide) rfl
  have hKc := hK.sub (tys' := []) [] rfl
  have hFc := va_free (wc := [(zx, .inr (11, [.ref zx_y0, .ref zx_y1, .ref zx_y2, .ref zx_y3, .ref zx_y4, .ref zx_y5, .ref zx_y6, .ref zx_y7, .ref zx_y8, .ref zx_y9, .ref zx_y10, .ref zx_y11, .ref zx_y12, .ref zx_y13, .int 0, .int 0])), (zx_y1, .inr (6, [.ref zx_y16, .ref zx_y17, .ref zx_y18, .ref zx_y19, .int 0, .int (-1), .int (-1)])), (zx_y19, .inr (0, [.ref zx_y20, .ref zx_y21, .int 0, .int 0, .int 0, .int 0, .int 0]))]) hD hS hA [0, 1, 2] rfl
  refine va_calli (va_runV (As := [.int x_2, .int x_4, .int x_6, .int x_8]) (rest := []) ⟨hx, hb, hml, hown, hts⟩ (zk_X11_puzzles_t l dC dI (zx) (x_2) (x_4) (x_6) (x_8) (zx_y0) (zx_y1) (zx_y2) (zx_y3) (zx_y4) (zx_y5) (zx_y6) (zx_y7) (zx_y8) (zx_y9) (zx_y10) (zx_y11) (zx_y12) (zx_y13) (zx_y16) (zx_y17) (zx_y18) (zx_y19) (zx_y20) (zx_y21) H.size) (cwV 4 hts gL_law_X11_puzzles rfl rfl rfl (by decide +kernel) ⟨Nat.le_of_ble_eq_true rfl, Nat.le_of_ble_eq_true rfl⟩) ⟨zw_blind, va_recv hK hP (ci := 11) (q0 := 0) rfl rfl, fun U hU hW => ⟨rfl, zw_P.of hPc hKc hDc hN U hU hW⟩⟩ rfl rfl hl.1 rfl (lv_room (Nat.le_of_ble_eq_true rfl)) dL_law_817 ⟨Nat.le_of_ble_eq_true rfl, Nat.le_of_ble_eq_true rfl⟩) hS (fun q _ h => hFc q h) hFc (fun r_9 u t H1 locs ht hvm hw hB hz1 hk1 hS => ?_)
  obtain ⟨hP1, hK1, hD1⟩ := hB
  rw [ht] at hP1
  obtain ⟨hP, hD⟩ := va_join (wr := [(zm, .inr (12, [.int 0, .ref zm_y0, .int 0, .int 0, .int 0, .int 0, .ref zm_y1, .ref zm_y2, .ref zm_y3, .ref zm_y4, .ref zm_y5, .ref zm_y6, .ref zm_y7, .int 0, .int 0, .ref zm_y8, .ref zm_y9, .int 0, .int 0, .int 0, .int 0, .ref zm_y10, .ref zm_y11, .int 0, .int 0, .int 0, .int 0, .int 0, .ref zm_y12, .ref zm_y13, .ref zm_y14, .ref zm_y15, .int 0, .ref zm_y16, .ref zm_y17, .ref zm_y18, .int (-1), .int (-1), .int (-1), .int 0, .int 0, .int 0, .ref zm_y19, .ref zm_y20, .int 0, .ref zm_y21, .ref zm_y22, .ref zm_y23, .ref zm_y24, .ref zm_y25, .int 0, .ref zm_y26, .ref zm_y27, .ref zm_y28, .int 0, .int 0, .int 0, .ref zm_y29, .ref zm_y30, .ref zm_y31, .ref zm_y32, .int 0, .int 0, .long 0, .int 0, .int 0, .int 0, .int 0, .int 0, .int 0]))]) (w1 := []) hP hD [0, 1, 2] [3] rfl rfl (by decide) (by decide) hk1 hFc hP1 hD1
  generalize H1 = H at hP hS ⊢
  have hP : va_P (dC, dI) classes [(zm, .inr (12, [.int 0, .ref zm_y0, .int 0, .int 0, .int 0, .int 0, .ref zm_y1, .ref zm_y2, .ref zm_y3, .ref zm_y4, .ref zm_y5, .ref zm_y6, .ref zm_y7, .int 0, .int 0, .ref zm_y8, .ref zm_y9, .int 0, .int 0, .int 0, .int 0, .ref zm_y10, .ref zm_y11, .int 0, .int 0, .int 0, .int 0, .int 0, .ref zm_y12, .ref zm_y13, .ref zm_y14, .ref zm_y15, .int 0, .ref zm_y16, .ref zm_y17, .ref zm_y18, .int (-1), .int (-1), .int (-1), .int 0, .int 0, .int 0, .ref zm_y19, .ref zm_y20, .int 0, .ref zm_y21, .ref zm_y22, .ref zm_y23, .ref zm_y24, .ref zm_y25, .int 0, .ref zm_y26, .ref zm_y27, .ref zm_y28, .int 0, .int 0, .int 0, .ref zm_y29, .ref zm_y30, .ref zm_y31, .ref zm_y32, .int 0, .int 0, .long 0, .int 0, .int 0, .int 0, .int 0, .int 0, .int 0]))] H := hP
  have hD : va_D (fun q : Nat => s.heap.size ≤ q) [(zm, .inr (12, [.int 0, .ref zm_y0, .int 0, .int 0, .int 0, .int 0, .ref zm_y1, .ref zm_y2, .ref zm_y3, .ref zm_y4, .ref zm_y5, .ref zm_y6, .ref zm_y7, .int 0, .int 0, .ref zm_y8, .ref zm_y9, .int 0, .int 0, .int 0, .int 0, .ref zm_y10, .ref zm_y11, .int 0, .int 0, .int 0, .int 0, .int 0, .ref zm_y12, .ref zm_y13, .ref zm_y14, .ref zm_y15, .int 0, .ref zm_y16, .ref zm_y17, .ref zm_y18, .int (-1), .int (-1), .int (-1), .int 0, .int 0, .int 0, .ref zm_y19, .ref zm_y20, .int 0, .ref zm_y21, .ref zm_y22, .ref zm_y23, .ref zm_y24, .ref zm_y25, .int 0, .ref zm_y26, .ref zm_y27, .ref zm_y28, .int 0, .int 0, .int 0, .ref zm_y29, .ref zm_y30, .ref zm_y31, .ref zm_y32, .int 0, .int 0, .long 0, .int 0, .int 0, .int 0, .int 0, .int 0, .int 0]))] := hD
  obtain rfl : r_9 = (-1) := hw
  refine lv_aload_n hx hb dL_law_820 rfl (lv_at hl 2 rfl) ?_
  refine lv_aload_n hx hb dL_law_821 rfl (lv_at hl 0 rfl) ?_
  refine lv_iload hx hb dL_law_822 (lv_at hl 4 rfl) ?_
  refine lv_iconst (v := 1) hx hb dL_law_824 (by decide) ?_
  refine lv_iadd hx hb dL_law_825 ?_
  refine lv_topi (fun x_10 ex_10 => ?_)
  have ex_10 : x_10 = 1 := ex_10.trans (by decide)
  subst ex_10
  refine va_sld hx hb hX hbl hbA hS (vp_in_iff.mpr ⟨by decide, by decide⟩) dL_law_826 ?_
  refine lv_topi (fun x_11 ex_11 => ?_)
  have ex_11 : x_2 = x_11 := ex_2.trans ex_11.symm
  subst ex_11
  refine lv_aload_n hx hb dL_law_827 rfl (lv_at hl 0 rfl) ?_
  refine lv_iload hx hb dL_law_828 (lv_at hl 4 rfl) ?_
  refine lv_iconst (v := 2) hx hb dL_law_830 (by decide) ?_
  refine lv_iadd hx hb dL_law_831 ?_
  refine lv_topi (fun x_12 ex_12 => ?_)
  have ex_12 : x_12 = 2 := ex_12.trans (by decide)
  subst ex_12
  refine va_sld hx hb hX hbl hbA hS (vp_in_iff.mpr ⟨by decide, by decide⟩) dL_law_832 ?_
  refine lv_topi (fun x_13 ex_13 => ?_)
  have ex_13 : x_4 = x_13 := ex_4.trans ex_13.symm
  subst ex_13
  refine lv_aload_n hx hb dL_law_833 rfl (lv_at hl 0 rfl) ?_
  refine lv_iload hx hb dL_law_834 (lv_at hl 4 rfl) ?_
  refine lv_iconst (v := 3) hx hb dL_law_836 (by decide) ?_
  refine lv_iadd hx hb dL_law_837 ?_
  refine lv_topi (fun x_14 ex_14 => ?_)
  have ex_14 : x_14 = 3 := ex_14.trans (by decide)
  subst ex_14
  refine va_sld hx hb hX hbl hbA hS (vp_in_iff.mpr ⟨by decide, by decide⟩) dL_law_838 ?_
  refine lv_topi (fun x_15 ex_15 => ?_)
  have ex_15 : x_6 = x_15 := ex_6.trans ex_15.symm
  subst ex_15
  refine lv_aload_n hx hb dL_law_839 rfl (lv_at hl 0 rfl) ?_
  refine lv_iload hx hb dL_law_840 (lv_at hl 4 rfl) ?_
  refine lv_iconst (v := 4) hx hb dL_law_842 (by decide) ?_
  refine lv_iadd hx hb dL_law_843 ?_
  refine lv_topi (fun x_16 ex_16 => ?_)
  have ex_16 : x_16 = 4 := ex_16.trans (by decide)
  subst ex_16
  refine va_sld hx hb hX hbl hbA hS (vp_in_iff.mpr ⟨by decide, by decide⟩) dL_law_844 ?_
  refine lv_topi (fun x_17 ex_17 => ?_)
  have ex_17 : x_8 = x_17 := ex_8.trans ex_17.symm
  subst ex_17
  have hPc := hP.sub (ws' := [(zm, .inr (12, [.int 0, .ref zm_y0, .int 0, .int 0, .int 0, .int 0, .ref zm_y1, .ref zm_y2, .ref zm_y3, .ref zm_y4, .ref zm_y5, .ref zm_y6, .ref zm_y7, .int 0, .int 0, .ref zm_y8, .ref zm_y9, .int 0, .int 0, .int 0, .int 0, .ref zm_y10, .ref zm_y11, .int 0, .int 0, .int 0, .int 0, .int 0, .ref zm_y12, .ref zm_y13, .ref zm_y14, .ref zm_y15, .int 0, .ref zm_y16, .ref zm_y17, .ref zm_y18, .int (-1), .int (-1), .int (-1), .int 0, .int 0, .int 0, .ref zm_y19, .ref zm_y20, .int 0, .ref zm_y21, .ref zm_y22, .ref zm_y23, .ref zm_y24, .ref zm_y25, .int 0, .ref zm_y26, .ref zm_y27, .ref zm_y28, .int 0, .int 0, .int 0, .ref zm_y29, .ref zm_y30, .ref zm_y31, .ref zm_y32, .int 0, .int 0, .long 0, .int 0, .int 0, .int 0, .int 0, .int 0, .int 0]))]) [0] rfl
  have hDc := hD.sub (ws' := [(zm, .inr (12, [.int 0, .ref zm_y0, .int 0, .int 0, .int 0, .int 0, .ref zm_y1, .ref zm_y2, .ref zm_y3, .ref zm_y4, .ref zm_y5, .ref zm_y6, .ref zm_y7, .int 0, .int 0, .ref zm_y8, .ref zm_y9, .int 0, .int 0, .int 0, .int 0, .ref zm_y10, .ref zm_y11, .int 0, .int 0, .int 0, .int 0, .int 0, .ref zm_y12, .ref zm_y13, .ref zm_y14, .ref zm_y15, .int 0, .ref zm_y16, .ref zm_y17, .ref zm_y18, .int (-1), .int (-1), .int (-1), .int 0, .int 0, .int 0, .ref zm_y19, .ref zm_y20, .int 0, .ref zm_y21, .ref zm_y22, .ref zm_y23, .ref zm_y24, .ref zm_y25, .int 0, .ref zm_y26, .ref zm_y27, .ref zm_y28, .int 0, .int 0, .int 0, .ref zm_y29, .ref zm_y30, .ref zm_y31, .ref zm_y32, .int 0, .int 0, .long 0, .int 0, .int 0, .int 0, .int 0, .int 0, .int 0]))]) [0] (by decide) rfl
  have hKc := hK.sub (tys' := []) [] rfl
  have hFc := va_free (wc := [(zm, .inr (12, [.int 0, .ref zm_y0, .int 0, .int 0, .int 0, .int 0, .ref zm_y1, .ref zm_y2, .ref zm_y3, .ref zm_y4, .ref zm_y5, .ref zm_y6, .ref zm_y7, .int 0, .int 0, .ref zm_y8, .ref zm_y9, .int 0, .int 0, .int 0, .int 0, .ref zm_y10, .ref zm_y11, .int 0, .int 0, .int 0, .int 0, .int 0, .ref zm_y12, .ref zm_y13, .ref zm_y14, .ref zm_y15, .int 0, .ref zm_y16, .ref zm_y17, .ref zm_y18, .int (-1), .int (-1), .int (-1), .int 0, .int 0, .int 0, .ref zm_y19, .ref zm_y20, .int 0, .ref zm_y21, .ref zm_y22, .ref zm_y23, .ref zm_y24, .ref zm_y25, .int 0, .ref zm_y26, .ref zm_y27, .ref zm_y28, .int 0, .int 0, .int 0, .ref zm_y29, .ref zm_y30, .ref zm_y31, .ref zm_y32, .int 0, .int 0, .long 0, .int 0, .int 0, .int 0, .int 0, .int 0, .int 0]))]) hD hS hA [0] rfl
  refine va_calli (va_runV (As := [.int x_2, .int x_4, .int x_6, .int x_8]) (rest := [.int (-1)]) ⟨hx, hb, hml, hown, hts⟩ (zk_X12_puzzles_t l dC dI (zm) (x_2) (x_4) (x_6) (x_8) (zm_y0) (zm_y1) (zm_y2) (zm_y3) (zm_y4) (zm_y5) (zm_y6) (zm_y7) (zm_y8) (zm_y9) (zm_y10) (zm_y11) (zm_y12) (zm_y13) (zm_y14) (zm_y15) (zm_y16) (zm_y17) (zm_y18) (zm_y19) (zm_y20) (zm_y21) (zm_y22) (zm_y23) (zm_y24) (zm_y25) (zm_y26) (zm_y27) (zm_y28) (zm_y29) (zm_y30) (zm_y31) (zm_y32) H.size) (cwV 4 hts gL_law_X12_puzzles rfl rfl rfl (by decide +kernel) ⟨Nat.le_of_ble_eq_true rfl, Nat.le_of_ble_eq_true rfl⟩) ⟨zw_blind, va_recv hK hP (ci := 12) (q0 := 0) rfl rfl, fun U hU hW => ⟨rfl, zw_P.of hPc hKc hDc hN U hU hW⟩⟩ rfl rfl hl.1 rfl (lv_room (Nat.le_of_ble_eq_true rfl)) dL_law_845 ⟨Nat.le_of_ble_eq_true rfl, Nat.le_of_ble_eq_true rfl⟩) hS (fun q _ h => hFc q h) hFc (fun r_18 u t H1 locs ht hvm hw hB hz1 hk1 hS => ?_)
  obtain ⟨hP1, hK1, hD1⟩ := hB
  rw [ht] at hP1
  obtain ⟨hP, hD⟩ := va_join (wr := []) (w1 := []) hP hD [0] [] rfl rfl (by decide) (by decide) hk1 hFc hP1 hD1
  generalize H1 = H at hP hS ⊢
  have hP : va_P (dC, dI) classes [] H := hP
  have hD : va_D (fun q : Nat => s.heap.size ≤ q) [] := hD
  obtain rfl : r_18 = (-1) := hw
  refine lv_icmp_eq (tgt := 1170) hx hb dL_law_848 (by decide) (fun _ => ?_) (fun c9 => absurd (by decide) c9)
  refine lv_iinc (v := 6) (lv' := [(4, .int 6), (0, .ref b), (1, .ref zx), (2, .ref zm), (3, .ref zo)]) hx hb dL_law_1170 hl (k := 4) rfl (by decide) (by decide) rfl (fun ls hl => ?_)
  refine lv_goto (tgt := 23) hx hb dL_law_1173 (by decide) ?_
  refine lv_iload hx hb dL_law_23 (lv_at hl 0 rfl) ?_
  refine lv_aload_n hx hb dL_law_25 rfl (lv_at hl 1 rfl) ?_
  refine va_slen hx hb hX hbl hbA hS dL_law_26 ?_
  refine lv_topi (fun x_19 ex_19 => ?_)
  have ex_19 : x_19 = 6 := ex_19.trans (by decide)
  subst ex_19
  refine lv_bipush (v := 6) hx hb dL_law_27 (by decide) ?_
  refine lv_isub hx hb dL_law_29 ?_
  refine lv_topi (fun x_20 ex_20 => ?_)
  have ex_20 : x_20 = 0 := ex_20.trans (by decide)
  subst ex_20
  refine lv_icmp_gt (tgt := 1176) hx hb dL_law_30 (by decide) (fun _ => ?_) (fun c9 => absurd (by decide) c9)
  refine lv_iconst (v := 1) hx hb dL_law_1176 (by decide) ?_
  refine va_forget (fun q hq => hS.2.2 q hq) ?_
  refine W.widen (k := 600002) (n := 7302232) (Nat.le_of_ble_eq_true rfl) (Nat.le_of_ble_eq_true rfl) ?_
  exact lw_ret hx hb hr hlocks dL_law_1177
set_option maxHeartbeats 8000000 in
set_option maxRecDepth 100000 in
theorem zl_18 {p : Program} {e : Env} {s : State} {m : MethodId} {below : List Frame} {meth : Method} {c : Code} (l : Launch) {b : Nat} {xs : Nat → Int32} (C0 : lw_At p s m meth c b 6 xs) (dC : Nat → ClassId) (dI : Nat → Nat → Nat) (zx : Nat) (zx_y0 : Nat) (zx_y1 : Nat) (zx_y2 : Nat) (zx_y3 : Nat) (zx_y4 : Nat) (zx_y5 : Nat) (zx_y6 : Nat) (zx_y7 : Nat) (zx_y8 : Nat) (zx_y9 : Nat) (zx_y10 : Nat) (zx_y11 : Nat) (zx_y12 : Nat) (zx_y13 : Nat) (zx_y16 : Nat) (zx_y17 : Nat) (zx_y18 : Nat) (zx_y19 : Nat) (zx_y20 : Nat) (zx_y21 : Nat) (zm : Nat) (zm_y0 : Nat) (zm_y1 : Nat) (zm_y2 : Nat) (zm_y3 : Nat) (zm_y4 : Nat) (zm_y5 : Nat) (zm_y6 : Nat) (zm_y7 : Nat) (zm_y8 : Nat) (zm_y9 : Nat) (zm_y10 : Nat) (zm_y11 : Nat) (zm_y12 : Nat) (zm_y13 : Nat) (zm_y14 : Nat) (zm_y15 : Nat) (zm_y16 : Nat) (zm_y17 : Nat) (zm_y18 : Nat) (zm_y19 : Nat) (zm_y20 : Nat) (zm_y21 : Nat) (zm_y22 : Nat) (zm_y23 : Nat) (zm_y24 : Nat) (zm_y25 : Nat) (zm_y26 : Nat) (zm_y27 : Nat) (zm_y28 : Nat) (zm_y29 : Nat) (zm_y30 : Nat) (zm_y31 : Nat) (zm_y32 : Nat) (zo : Nat) {H : Heap} {locs : List Loc} (hN : zw_N s) (hK : va_K (dC, dI) classes [] s) (hP : va_P (dC, dI) classes [(zx, .inr (11, [.ref zx_y0, .ref zx_y1, .ref zx_y2, .ref zx_y3, .ref zx_y4, .ref zx_y5, .ref zx_y6, .ref zx_y7, .ref zx_y8, .ref zx_y9, .ref zx_y10, .ref zx_y11, .ref zx_y12, .ref zx_y13, .int 0, .int 0])), (zx_y1, .inr (6, [.ref zx_y16, .ref zx_y17, .ref zx_y18, .ref zx_y19, .int 0, .int (-1), .int (-1)])), (zx_y19, .inr (0, [.ref zx_y20, .ref zx_y21, .int 0, .int 0, .int 0, .int 0, .int 0])), (zm, .inr (12, [.int 0, .ref zm_y0, .int 0, .int 0, .int 0, .int 0, .ref zm_y1, .ref zm_y2, .ref zm_y3, .ref zm_y4, .ref zm_y5, .ref zm_y6, .ref zm_y7, .int 0, .int 0, .ref zm_y8, .ref zm_y9, .int 0, .int 0, .int 0, .int 0, .ref zm_y10, .ref zm_y11, .int 0, .int 0, .int 0, .int 0, .int 0, .ref zm_y12, .ref zm_y13, .ref zm_y14, .ref zm_y15, .int 0, .ref zm_y16, .ref zm_y17, .ref zm_y18, .int (-1), .int (-1), .int (-1), .int 0, .int 0, .int 0, .ref zm_y19, .ref zm_y20, .int 0, .ref zm_y21, .ref zm_y22, .ref zm_y23, .ref zm_y24, .ref zm_y25, .int 0, .ref zm_y26, .ref zm_y27, .ref zm_y28, .int 0, .int 0, .int 0, .ref zm_y29, .ref zm_y30, .ref zm_y31, .ref zm_y32, .int 0, .int 0, .long 0, .int 0, .int 0, .int 0, .int 0, .int 0, .int 0]))] H) (hD : va_D (fun q : Nat => s.heap.size ≤ q) [(zx, .inr (11, [.ref zx_y0, .ref zx_y1, .ref zx_y2, .ref zx_y3, .ref zx_y4, .ref zx_y5, .ref zx_y6, .ref zx_y7, .ref zx_y8, .ref zx_y9, .ref zx_y10, .ref zx_y11, .ref zx_y12, .ref zx_y13, .int 0, .int 0])), (zx_y1, .inr (6, [.ref zx_y16, .ref zx_y17, .ref zx_y18, .ref zx_y19, .int 0, .int (-1), .int (-1)])), (zx_y19, .inr (0, [.ref zx_y20, .ref zx_y21, .int 0, .int 0, .int 0, .int 0, .int 0])), (zm, .inr (12, [.int 0, .ref zm_y0, .int 0, .int 0, .int 0, .int 0, .ref zm_y1, .ref zm_y2, .ref zm_y3, .ref zm_y4, .ref zm_y5, .ref zm_y6, .ref zm_y7, .int 0, .int 0, .ref zm_y8, .ref zm_y9, .int 0, .int 0, .int 0, .int 0, .ref zm_y10, .ref zm_y11, .int 0, .int 0, .int 0, .int 0, .int 0, .ref zm_y12, .ref zm_y13, .ref zm_y14, .ref zm_y15, .int 0, .ref zm_y16, .ref zm_y17, .ref zm_y18, .int (-1), .int (-1), .int (-1), .int 0, .int 0, .int 0, .ref zm_y19, .ref zm_y20, .int 0, .ref zm_y21, .ref zm_y22, .ref zm_y23, .ref zm_y24, .ref zm_y25, .int 0, .ref zm_y26, .ref zm_y27, .ref zm_y28, .int 0, .int 0, .int 0, .ref zm_y29, .ref zm_y30, .ref zm_y31, .ref zm_y32, .int 0, .int 0, .long 0, .int 0, .int 0, .int 0, .int 0, .int 0, .int 0]))]) (hS : va_S (fun q : Nat => s.heap.size ≤ q) s.heap H locs) (ls : Array Slot) (hl : lv_has ls 7 [(0, .ref b), (1, .ref zx), (2, .ref zm), (3, .ref zo), (4, .int 0)]) : W p l e room_1 s m #[Value.ref b] below meth c H locs 99 952984 (lw_Z below #[Value.ref b] s) (F0 m 853 ls []) := by
  obtain ⟨hx, hb, hr, hml, hown, hts0, hX, hbl, hlocks, hgv⟩ := C0
  have hts : ∀ w ∈ wsL_law, w.before #[Value.ref b] s = true := fun w h => hts0 w (wsL_law_in w h)
  have hA : ∀ q : Nat, s.heap.size ≤ q → (fun q : Nat => s.heap.size ≤ q) q := fun _ h => h
  have hbA : ¬ (fun q : Nat => s.heap.size ≤ q) b := Nat.not_le.mpr hbl
  refine lv_aload_n hx hb dL_law_853 rfl (lv_at hl 1 rfl) ?_
  refine lv_aload_n hx hb dL_law_854 rfl (lv_at hl 0 rfl) ?_
  refine lv_iload hx hb dL_law_855 (lv_at hl 4 rfl) ?_
  refine lv_iconst (v := 1) hx hb dL_law_857 (by decide) ?_
  refine lv_iadd hx hb dL_law_858 ?_
  refine lv_topi (fun x_1 ex_1 => ?_)
  have ex_1 : x_1 = 1 := ex_1.trans (by decide)
  subst ex_1
  refine va_sld hx hb hX hbl hbA hS (vp_in_iff.mpr ⟨by decide, by decide⟩) dL_law_859 ?_
  refine lv_topi (fun x_2 ex_2 => ?_)
  have hPc := hP.sub (ws' := [(zx, .inr (11, [.ref zx_y0, .ref zx_y1, .ref zx_y2, .ref zx_y3, .ref zx_y4, .ref zx_y5, .ref zx_y6, .ref zx_y7, .ref zx_y8, .ref zx_y9, .ref zx_y10, .ref zx_y11, .ref zx_y12, .ref zx_y13, .int 0, .int 0])), (zx_y1, .inr (6, [.ref zx_y16, .ref zx_y17, .ref zx_y18, .ref zx_y19, .int 0, .int (-1), .int (-1)])), (zx_y19, .inr (0, [.ref zx_y20, .ref zx_y21, .int 0, .int 0, .int 0, .int 0, .int 0]))]) [0, 1, 2] rfl
  have hDc := hD.sub (ws' := [(zx, .inr (11, [.ref zx_y0, .ref zx_y1, .ref zx_y2, .ref zx_y3, .ref zx_y4, .ref zx_y5, .ref zx_y6, .ref zx_y7, .ref zx_y8, .ref zx_y9, .ref zx_y10, .ref zx_y11, .ref zx_y12, .ref zx_y13, .int 0, .int 0])), (zx_y1, .inr (6, [.ref zx_y16, .ref zx_y17, .ref zx_y18, .ref zx_y19, .int 0, .int (-1), .int (-1)])), (zx_y19, .inr (0, [.ref zx_y20, .ref zx_y21, .int 0, .int 0, .int 0, .int 0, .int 0]))]) [0, 1, 2] (by decide) rfl
  have hKc := hK.sub (tys' := []) [] rfl
  have hFc := va_free (wc := [(zx, .inr (11, [.ref zx_y0, .ref zx_y1, .ref zx_y2, .ref zx_y3, .ref zx_y4, .ref zx_y5, .ref zx_y6, .ref zx_y7, .ref zx_y8, .ref zx_y9, .ref zx_y10, .ref zx_y11, .ref zx_y12, .ref zx_y13, .int 0, .int 0])), (zx_y1, .inr (6, [.ref zx_y16, .ref zx_y17, .ref zx_y18, .ref zx_y19, .int 0, .int (-1), .int (-1)])), (zx_y19, .inr (0, [.ref zx_y20, .ref zx_y21, .int 0, .int 0, .int 0, .int 0, .int 0]))]) hD hS hA [0, 1, 2] rfl
  refine va_calli (va_runV (As := [.int x_2]) (rest := []) ⟨hx, hb, hml, hown, hts⟩ (zk_X11_round_t l dC dI (zx) (x_2) (zx_y0) (zx_y1) (zx_y2) (zx_y3) (zx_y4) (zx_y5) (zx_y6) (zx_y7) (zx_y8) (zx_y9) (zx_y10) (zx_y11) (zx_y12) (zx_y13) (zx_y16) (zx_y17) (zx_y18) (zx_y19) (zx_y20) (zx_y21) H.size) (cwV 1 hts gL_law_X11_round rfl rfl rfl (by decide +kernel) ⟨Nat.le_of_ble_eq_true rfl, Nat.le_of_ble_eq_true rfl⟩) ⟨zw_blind, va_recv hK hP (ci := 11) (q0 := 0) rfl rfl, fun U hU hW => ⟨rfl, zw_P.of hPc hKc hDc hN U hU hW⟩⟩ rfl rfl hl.1 rfl (lv_room (Nat.le_of_ble_eq_true rfl)) dL_law_860 ⟨Nat.le_of_ble_eq_true rfl, Nat.le_of_ble_eq_true rfl⟩) hS (fun q _ h => hFc q h) hFc (fun r_3 u t H1 locs ht hvm hw hB hz1 hk1 hS => ?_)
  obtain ⟨hP1, hK1, hD1⟩ := hB
  rw [ht] at hP1
  obtain ⟨hP, hD⟩ := va_join (wr := [(zm, .inr (12, [.int 0, .ref zm_y0, .int 0, .int 0, .int 0, .int 0, .ref zm_y1, .ref zm_y2, .ref zm_y3, .ref zm_y4, .ref zm_y5, .ref zm_y6, .ref zm_y7, .int 0, .int 0, .ref zm_y8, .ref zm_y9, .int 0, .int 0, .int 0, .int 0, .ref zm_y10, .ref zm_y11, .int 0, .int 0, .int 0, .int 0, .int 0, .ref zm_y12, .ref zm_y13, .ref zm_y14, .ref zm_y15, .int 0, .ref zm_y16, .ref zm_y17, .ref zm_y18, .int (-1), .int (-1), .int (-1), .int 0, .int 0, .int 0, .ref zm_y19, .ref zm_y20, .int 0, .ref zm_y21, .ref zm_y22, .ref zm_y23, .ref zm_y24, .ref zm_y25, .int 0, .ref zm_y26, .ref zm_y27, .ref zm_y28, .int 0, .int 0, .int 0, .ref zm_y29, .ref zm_y30, .ref zm_y31, .ref zm_y32, .int 0, .int 0, .long 0, .int 0, .int 0, .int 0, .int 0, .int 0, .int 0]))]) (w1 := []) hP hD [0, 1, 2] [3] rfl rfl (by decide) (by decide) hk1 hFc hP1 hD1
  generalize H1 = H at hP hS ⊢
  have hP : va_P (dC, dI) classes [(zm, .inr (12, [.int 0, .ref zm_y0, .int 0, .int 0, .int 0, .int 0, .ref zm_y1, .ref zm_y2, .ref zm_y3, .ref zm_y4, .ref zm_y5, .ref zm_y6, .ref zm_y7, .int 0, .int 0, .ref zm_y8, .ref zm_y9, .int 0, .int 0, .int 0, .int 0, .ref zm_y10, .ref zm_y11, .int 0, .int 0, .int 0, .int 0, .int 0, .ref zm_y12, .ref zm_y13, .ref zm_y14, .ref zm_y15, .int 0, .ref zm_y16, .ref zm_y17, .ref zm_y18, .int (-1), .int (-1), .int (-1), .int 0, .int 0, .int 0, .ref zm_y19, .ref zm_y20, .int 0, .ref zm_y21, .ref zm_y22, .ref zm_y23, .ref zm_y24, .ref zm_y25, .int 0, .ref zm_y26, .ref zm_y27, .ref zm_y28, .int 0, .int 0, .int 0, .ref zm_y29, .ref zm_y30, .ref zm_y31, .ref zm_y32, .int 0, .int 0, .long 0, .int 0, .int 0, .int 0, .int 0, .int 0, .int 0]))] H := hP
  have hD : va_D (fun q : Nat => s.heap.size ≤ q) [(zm, .inr (12, [.int 0, .ref zm_y0, .int 0, .int 0, .int 0, .int 0, .ref zm_y1, .ref zm_y2, .ref zm_y3, .ref zm_y4, .ref zm_y5, .ref zm_y6, .ref zm_y7, .int 0, .int 0, .ref zm_y8, .ref zm_y9, .int 0, .int 0, .int 0, .int 0, .ref zm_y10, .ref zm_y11, .int 0, .int 0, .int 0, .int 0, .int 0, .ref zm_y12, .ref zm_y13, .ref zm_y14, .ref zm_y15, .int 0, .ref zm_y16, .ref zm_y17, .ref zm_y18, .int (-1), .int (-1), .int (-1), .int 0, .int 0, .int 0, .ref zm_y19, .ref zm_y20, .int 0, .ref zm_y21, .ref zm_y22, .ref zm_y23, .ref zm_y24, .ref zm_y25, .int 0, .ref zm_y26, .ref zm_y27, .ref zm_y28, .int 0, .int 0, .int 0, .ref zm_y29, .ref zm_y30, .ref zm_y31, .ref zm_y32, .int 0, .int 0, .long 0, .int 0, .int 0, .int 0, .int 0, .int 0, .int 0]))] := hD
  obtain rfl : r_3 = (-1) := hw
  refine lv_aload_n hx hb dL_law_863 rfl (lv_at hl 2 rfl) ?_
  refine lv_aload_n hx hb dL_law_864 rfl (lv_at hl 0 rfl) ?_
  refine lv_iload hx hb dL_law_865 (lv_at hl 4 rfl) ?_
  refine lv_iconst (v := 1) hx hb dL_law_867 (by decide) ?_
  refine lv_iadd hx hb dL_law_868 ?_
  refine lv_topi (fun x_4 ex_4 => ?_)
  have ex_4 : x_4 = 1 := ex_4.trans (by decide)
  subst ex_4
  refine va_sld hx hb hX hbl hbA hS (vp_in_iff.mpr ⟨by decide, by decide⟩) dL_law_869 ?_
  refine lv_topi (fun x_5 ex_5 => ?_)
  have ex_5 : x_2 = x_5 := ex_2.trans ex_5.symm
  subst ex_5
  have hPc := hP.sub (ws' := [(zm, .inr (12, [.int 0, .ref zm_y0, .int 0, .int 0, .int 0, .int 0, .ref zm_y1, .ref zm_y2, .ref zm_y3, .ref zm_y4, .ref zm_y5, .ref zm_y6, .ref zm_y7, .int 0, .int 0, .ref zm_y8, .ref zm_y9, .int 0, .int 0, .int 0, .int 0, .ref zm_y10, .ref zm_y11, .int 0, .int 0, .int 0, .int 0, .int 0, .ref zm_y12, .ref zm_y13, .ref zm_y14, .ref zm_y15, .int 0, .ref zm_y16, .ref zm_y17, .ref zm_y18, .int (-1), .int (-1), .int (-1), .int 0, .int 0, .int 0, .ref zm_y19, .ref zm_y20, .int 0, .ref zm_y21, .ref zm_y22, .ref zm_y23, .ref zm_y24, .ref zm_y25, .int 0, .ref zm_y26, .ref zm_y27, .ref zm_y28, .int 0, .int 0, .int 0, .ref zm_y29, .ref zm_y30, .ref zm_y31, .ref zm_y32, .int 0, .int 0, .long 0, .int 0, .int 0, .int 0, .int 0, .int 0, .int 0]))]) [0] rfl
  have hDc := hD.sub (ws' := [(zm, .inr (12, [.int 0, .ref zm_y0, .int 0, .int 0, .int 0, .int 0, .ref zm_y1, .ref zm_y2, .ref zm_y3, .ref zm_y4, .ref zm_y5, .ref zm_y6, .ref zm_y7, .int 0, .int 0, .ref zm_y8, .ref zm_y9, .int 0, .int 0, .int 0, .int 0, .ref zm_y10, .ref zm_y11, .int 0, .int 0, .int 0, .int 0, .int 0, .ref zm_y12, .ref zm_y13, .ref zm_y14, .ref zm_y15, .int 0, .ref zm_y16, .ref zm_y17, .ref zm_y18, .int (-1), .int (-1), .int (-1), .int 0, .int 0, .int 0, .ref zm_y19, .ref zm_y20, .int 0, .ref zm_y21, .ref zm_y22, .ref zm_y23, .ref zm_y24, .ref zm_y25, .int 0, .ref zm_y26, .ref zm_y27, .ref zm_y28, .int 0, .int 0, .int 0, .ref zm_y29, .ref zm_y30, .ref zm_y31, .ref zm_y32, .int 0, .int 0, .long 0, .int 0, .int 0, .int 0, .int 0, .int 0, .int 0]))]) [0] (by decide) rfl
  have hKc := hK.sub (tys' := []) [] rfl
  have hFc := va_free (wc := [(zm, .inr (12, [.int 0, .ref zm_y0, .int 0, .int 0, .int 0, .int 0, .ref zm_y1, .ref zm_y2, .ref zm_y3, .ref zm_y4, .ref zm_y5, .ref zm_y6, .ref zm_y7, .int 0, .int 0, .ref zm_y8, .ref zm_y9, .int 0, .int 0, .int 0, .int 0, .ref zm_y10, .ref zm_y11, .int 0, .int 0, .int 0, .int 0, .int 0, .ref zm_y12, .ref zm_y13, .ref zm_y14, .ref zm_y15, .int 0, .ref zm_y16, .ref zm_y17, .ref zm_y18, .int (-1), .int (-1), .int (-1), .int 0, .int 0, .int 0, .ref zm_y19, .ref zm_y20, .int 0, .ref zm_y21, .ref zm_y22, .ref zm_y23, .ref zm_y24, .ref zm_y25, .int 0, .ref zm_y26, .ref zm_y27, .ref zm_y28, .int 0, .int 0, .int 0, .ref zm_y29, .ref zm_y30, .ref zm_y31, .ref zm_y32, .int 0, .int 0, .long 0, .int 0, .int 0, .int 0, .int 0, .int 0, .int 0]))]) hD hS hA [0] rfl
  refine va_calli (va_runV (As := [.int x_2]) (rest := [.int (-1)]) ⟨hx, hb, hml, hown, hts⟩ (zk_X12_round_t l dC dI (zm) (x_2) (zm_y0) (zm_y1) (zm_y2) (zm_y3) (zm_y4) (zm_y5) (zm_y6) (zm_y7) (zm_y8) (zm_y9) (zm_y10) (zm_y11) (zm_y12) (zm_y13) (zm_y14) (zm_y15) (zm_y16) (zm_y17) (zm_y18) (zm_y19) (zm_y20) (zm_y21) (zm_y22) (zm_y23) (zm_y24) (zm_y25) (zm_y26) (zm_y27) (zm_y28) (zm_y29) (zm_y30) (zm_y31) (zm_y32) H.size) (cwV 1 hts gL_law_X12_round rfl rfl rfl (by decide +kernel) ⟨Nat.le_of_ble_eq_true rfl, Nat.le_of_ble_eq_true rfl⟩) ⟨zw_blind, va_recv hK hP (ci := 12) (q0 := 0) rfl rfl, fun U hU hW => ⟨rfl, zw_P.of hPc hKc hDc hN U hU hW⟩⟩ rfl rfl hl.1 rfl (lv_room (Nat.le_of_ble_eq_true rfl)) dL_law_870 ⟨Nat.le_of_ble_eq_true rfl, Nat.le_of_ble_eq_true rfl⟩) hS (fun q _ h => hFc q h) hFc (fun r_6 u t H1 locs ht hvm hw hB hz1 hk1 hS => ?_)
  obtain ⟨hP1, hK1, hD1⟩ := hB
  rw [ht] at hP1
  obtain ⟨hP, hD⟩ := va_join (wr := []) (w1 := []) hP hD [0] [] rfl rfl (by decide) (by decide) hk1 hFc hP1 hD1
  generalize H1 = H at hP hS ⊢
  have hP : va_P (dC, dI) classes [] H := hP
  have hD : va_D (fun q : Nat => s.heap.size ≤ q) [] := hD
  obtain rfl : r_6 = (-1) := hw
  refine lv_icmp_eq (tgt := 1170) hx hb dL_law_873 (by decide) (fun _ => ?_) (fun c9 => absurd (by decide) c9)
  refine lv_iinc (v := 6) (lv' := [(4, .int 6), (0, .ref b), (1, .ref zx), (2, .ref zm), (3, .ref zo)]) hx hb dL_law_1170 hl (k := 4) rfl (by decide) (by decide) rfl (fun ls hl => ?_)
  refine lv_goto (tgt := 23) hx hb dL_law_1173 (by decide) ?_
  refine lv_iload hx hb dL_law_23 (lv_at hl 0 rfl) ?_
  refine lv_aload_n hx hb dL_law_25 rfl (lv_at hl 1 rfl) ?_
  refine va_slen hx hb hX hbl hbA hS dL_law_26 ?_
  refine lv_topi (fun x_7 ex_7 => ?_)
  have ex_7 : x_7 = 6 := ex_7.trans (by decide)
  subst ex_7
  refine lv_bipush (v := 6) hx hb dL_law_27 (by decide) ?_
  refine lv_isub hx hb dL_law_29 ?_
  refine lv_topi (fun x_8 ex_8 => ?_)
  have ex_8 : x_8 = 0 := ex_8.trans (by decide)
  subst ex_8
  refine lv_icmp_gt (tgt := 1176) hx hb dL_law_30 (by decide) (fun _ => ?_) (fun c9 => absurd (by decide) c9)
  refine lv_iconst (v := 1) hx hb dL_law_1176 (by decide) ?_
  refine va_forget (fun q hq => hS.2.2 q hq) ?_
  refine W.widen (k := 600002) (n := 7302232) (Nat.le_of_ble_eq_true rfl) (Nat.le_of_ble_eq_true rfl) ?_
  exact lw_ret hx hb hr hlocks dL_law_1177
