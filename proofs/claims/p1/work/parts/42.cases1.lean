set_option maxHeartbeats 8000000 in
set_option maxRecDepth 100000 in
theorem zl_1 {p : Program} {e : Env} {s : State} {m : MethodId} {below : List Frame} {meth : Method} {c : Code} (l : Launch) {b : Nat} {xs : Nat → Int32} (C0 : lw_At p s m meth c b 6 xs) (dC : Nat → ClassId) (dI : Nat → Nat → Nat) (zx : Nat) (zx_y0 : Nat) (zx_y1 : Nat) (zx_y2 : Nat) (zx_y3 : Nat) (zx_y4 : Nat) (zx_y5 : Nat) (zx_y6 : Nat) (zx_y7 : Nat) (zx_y8 : Nat) (zx_y9 : Nat) (zx_y10 : Nat) (zx_y11 : Nat) (zx_y12 : Nat) (zx_y13 : Nat) (zx_y14 : Nat) (zm : Nat) (zm_y0 : Nat) (zm_y1 : Nat) (zm_y2 : Nat) (zm_y3 : Nat) (zm_y4 : Nat) (zm_y5 : Nat) (zm_y6 : Nat) (zm_y7 : Nat) (zm_y8 : Nat) (zm_y9 : Nat) (zm_y10 : Nat) (zm_y11 : Nat) (zm_y12 : Nat) (zm_y13 : Nat) (zm_y14 : Nat) (zm_y15 : Nat) (zm_y16 : Nat) (zm_y17 : Nat) (zm_y18 : Nat) (zm_y19 : Nat) (zm_y20 : Nat) (zm_y21 : Nat) (zm_y22 : Nat) (zm_y23 : Nat) (zm_y24 : Nat) (zm_y25 : Nat) (zm_y26 : Nat) (zm_y27 : Nat) (zm_y28 : Nat) (zm_y29 : Nat) (zm_y30 : Nat) (zm_y31 : Nat) (zm_y32 : Nat) (zo : Nat) {H : Heap} {locs : List Loc} (hN : zw_N s) (hK : va_K (dC, dI) classes [] s) (hP : va_P (dC, dI) classes [(zx, .inr (11, [.ref zx_y0, .ref zx_y1, .ref zx_y2, .ref zx_y3, .ref zx_y4, .ref zx_y5, .ref zx_y6, .ref zx_y7, .ref zx_y8, .ref zx_y9, .ref zx_y10, .ref zx_y11, .ref zx_y12, .ref zx_y13, .int 0, .int 0])), (zx_y0, .inr (8, [.ref zx_y14, .int 0, .int 0, .int (-1)])), (zm, .inr (12, [.int 0, .ref zm_y0, .int 0, .int 0, .int 0, .int 0, .ref zm_y1, .ref zm_y2, .ref zm_y3, .ref zm_y4, .ref zm_y5, .ref zm_y6, .ref zm_y7, .int 0, .int 0, .ref zm_y8, .ref zm_y9, .int 0, .int 0, .int 0, .int 0, .ref zm_y10, .ref zm_y11, .int 0, .int 0, .int 0, .int 0, .int 0, .ref zm_y12, .ref zm_y13, .ref zm_y14, .ref zm_y15, .int 0, .ref zm_y16, .ref zm_y17, .ref zm_y18, .int (-1), .int (-1), .int (-1), .int 0, .int 0, .int 0, .ref zm_y19, .ref zm_y20, .int 0, .ref zm_y21, .ref zm_y22, .ref zm_y23, .ref zm_y24, .ref zm_y25, .int 0, .ref zm_y26, .ref zm_y27, .ref zm_y28, .int 0, .int 0, .int 0, .ref zm_y29, .ref zm_y30, .ref zm_y31, .ref zm_y32, .int 0, .int 0, .long 0, .int 0, .int 0, .int 0, .int 0, .int 0, .int 0]))] H) (hD : va_D (fun q : Nat => s.heap.size ≤ q) [(zx, .inr (11, [.ref zx_y0, .ref zx_y1, .ref zx_y2, .ref zx_y3, .ref zx_y4, .ref zx_y5, .ref zx_y6, .ref zx_y7, .ref zx_y8, .ref zx_y9, .ref zx_y10, .ref zx_y11, .ref zx_y12, .ref zx_y13, .int 0, .int 0])), (zx_y0, .inr (8, [.ref zx_y14, .int 0, .int 0, .int (-1)])), (zm, .inr (12, [.int 0, .ref zm_y0, .int 0, .int 0, .int 0, .int 0, .ref zm_y1, .ref zm_y2, .ref zm_y3, .ref zm_y4, .ref zm_y5, .ref zm_y6, .ref zm_y7, .int 0, .int 0, .ref zm_y8, .ref zm_y9, .int 0, .int 0, .int 0, .int 0, .ref zm_y10, .ref zm_y11, .int 0, .int 0, .int 0, .int 0, .int 0, .ref zm_y12, .ref zm_y13, .ref zm_y14, .ref zm_y15, .int 0, .ref zm_y16, .ref zm_y17, .ref zm_y18, .int (-1), .int (-1), .int (-1), .int 0, .int 0, .int 0, .ref zm_y19, .ref zm_y20, .int 0, .ref zm_y21, .ref zm_y22, .ref zm_y23, .ref zm_y24, .ref zm_y25, .int 0, .ref zm_y26, .ref zm_y27, .ref zm_y28, .int 0, .int 0, .int 0, .ref zm_y29, .ref zm_y30, .ref zm_y31, .ref zm_y32, .int 0, .int 0, .long 0, .int 0, .int 0, .int 0, .int 0, .int 0, .int 0]))]) (hS : va_S (fun q : Nat => s.heap.size ≤ q) s.heap H locs) (ls : Array Slot) (hl : lv_has ls 7 [(0, .ref b), (1, .ref zx), (2, .ref zm), (3, .ref zo), (4, .int 0)]) : W p l e room_1 s m #[Value.ref b] below meth c H locs 99 952984 (lw_Z below #[Value.ref b] s) (F0 m 237 ls []) := by
  obtain ⟨hx, hb, hr, hml, hown, hts0, hX, hbl, hlocks, hgv⟩ := C0
  have hts : ∀ w ∈ wsL_law, w.before #[Value.ref b] s = true := fun w h => hts0 w (wsL_law_in w h)
  have hA : ∀ q : Nat, s.heap.size ≤ q → (fun q : Nat => s.heap.size ≤ q) q := fun _ h => h
  have hbA : ¬ (fun q : Nat => s.heap.size ≤ q) b := Nat.not_le.mpr hbl
  refine lv_aload_n hx hb dL_law_237 rfl (lv_at hl 1 rfl) ?_
  refine lv_aload_n hx hb dL_law_238 rfl (lv_at hl 0 rfl) ?_
  refine lv_iload hx hb dL_law_239 (lv_at hl 4 rfl) ?_
  refine lv_iconst (v := 1) hx hb dL_law_241 (by decide) ?_
  refine lv_iadd hx hb dL_law_242 ?_
  refine lv_topi (fun x_1 ex_1 => ?_)
  have ex_1 : x_1 = 1 := ex_1.trans (by decide)
  subst ex_1
  refine va_sld hx hb hX hbl hbA hS (vp_in_iff.mpr ⟨by decide, by decide⟩) dL_law_243 ?_
  refine lv_topi (fun x_2 ex_2 => ?_)
  have hPc := hP.sub (ws' := [(zx, .inr (11, [.ref zx_y0, .ref zx_y1, .ref zx_y2, .ref zx_y3, .ref zx_y4, .ref zx_y5, .ref zx_y6, .ref zx_y7, .ref zx_y8, .ref zx_y9, .ref zx_y10, .ref zx_y11, .ref zx_y12, .ref zx_y13, .int 0, .int 0])), (zx_y0, .inr (8, [.ref zx_y14, .int 0, .int 0, .int (-1)]))]) [0, 1] rfl
  have hDc := hD.sub (ws' := [(zx, .inr (11, [.ref zx_y0, .ref zx_y1, .ref zx_y2, .ref zx_y3, .ref zx_y4, .ref zx_y5, .ref zx_y6, .ref zx_y7, .ref zx_y8, .ref zx_y9, .ref zx_y10, .ref zx_y11, .ref zx_y12, .ref zx_y13, .int 0, .int 0])), (zx_y0, .inr (8, [.ref zx_y14, .int 0, .int 0, .int (-1)]))]) [0, 1] (by decide) rfl
  have hKc := hK.sub (tys' := []) [] rfl
  have hFc := va_free (wc := [(zx, .inr (11, [.ref zx_y0, .ref zx_y1, .ref zx_y2, .ref zx_y3, .ref zx_y4, .ref zx_y5, .ref zx_y6, .ref zx_y7, .ref zx_y8, .ref zx_y9, .ref zx_y10, .ref zx_y11, .ref zx_y12, .ref zx_y13, .int 0, .int 0])), (zx_y0, .inr (8, [.ref zx_y14, .int 0, .int 0, .int (-1)]))]) hD hS hA [0, 1] rfl
  refine va_calli (va_runV (As := [.int x_2]) (rest := []) ⟨hx, hb, hml, hown, hts⟩ (zk_X11_end_t l dC dI (zx) (x_2) (zx_y0) (zx_y1) (zx_y2) (zx_y3) (zx_y4) (zx_y5) (zx_y6) (zx_y7) (zx_y8) (zx_y9) (zx_y10) (zx_y11) (zx_y12) (zx_y13) (zx_y14) H.size) (cwV 1 hts gL_law_X11_end rfl rfl rfl (by decide +kernel) ⟨Nat.le_of_ble_eq_true rfl, Nat.le_of_ble_eq_true rfl⟩) ⟨zw_blind, va_recv hK hP (ci := 11) (q0 := 0) rfl rfl, fun U hU hW => ⟨rfl, zw_P.of hPc hKc hDc hN U hU hW⟩⟩ rfl rfl hl.1 rfl (lv_room (Nat.le_of_ble_eq_true rfl)) dL_law_244 ⟨Nat.le_of_ble_eq_true rfl, Nat.le_of_ble_eq_true rfl⟩) hS (fun q _ h => hFc q h) hFc (fun r_3 u t H1 locs ht hvm hw hB hz1 hk1 hS => ?_)
  obtain ⟨hP1, hK1, hD1⟩ := hB
  rw [ht] at hP1
  obtain ⟨hP, hD⟩ := va_join (wr := [(zm, .inr (12, [.int 0, .ref zm_y0, .int 0, .int 0, .int 0, .int 0, .ref zm_y1, .ref zm_y2, .ref zm_y3, .ref zm_y4, .ref zm_y5, .ref zm_y6, .ref zm_y7, .int 0, .int 0, .ref zm_y8, .ref zm_y9, .int 0, .int 0, .int 0, .int 0, .ref zm_y10, .ref zm_y11, .int 0, .int 0, .int 0, .int 0, .int 0, .ref zm_y12, .ref zm_y13, .ref zm_y14, .ref zm_y15, .int 0, .ref zm_y16, .ref zm_y17, .ref zm_y18, .int (-1), .int (-1), .int (-1), .int 0, .int 0, .int 0, .ref zm_y19, .ref zm_y20, .int 0, .ref zm_y21, .ref zm_y22, .ref zm_y23, .ref zm_y24, .ref zm_y25, .int 0, .ref zm_y26, .ref zm_y27, .ref zm_y28, .int 0, .int 0, .int 0, .ref zm_y29, .ref zm_y30, .ref zm_y31, .ref zm_y32, .int 0, .int 0, .long 0, .int 0, .int 0, .int 0, .int 0, .int 0, .int 0]))]) (w1 := []) hP hD [0, 1] [2] rfl rfl (by decide) (by decide) hk1 hFc hP1 hD1
  generalize H1 = H at hP hS ⊢
  have hP : va_P (dC, dI) classes [(zm, .inr (12, [.int 0, .ref zm_y0, .int 0, .int 0, .int 0, .int 0, .ref zm_y1, .ref zm_y2, .ref zm_y3, .ref zm_y4, .ref zm_y5, .ref zm_y6, .ref zm_y7, .int 0, .int 0, .ref zm_y8, .ref zm_y9, .int 0, .int 0, .int 0, .int 0, .ref zm_y10, .ref zm_y11, .int 0, .int 0, .int 0, .int 0, .int 0, .ref zm_y12, .ref zm_y13, .ref zm_y14, .ref zm_y15, .int 0, .ref zm_y16, .ref zm_y17, .ref zm_y18, .int (-1), .int (-1), .int (-1), .int 0, .int 0, .int 0, .ref zm_y19, .ref zm_y20, .int 0, .ref zm_y21, .ref zm_y22, .ref zm_y23, .ref zm_y24, .ref zm_y25, .int 0, .ref zm_y26, .ref zm_y27, .ref zm_y28, .int 0, .int 0, .int 0, .ref zm_y29, .ref zm_y30, .ref zm_y31, .ref zm_y32, .int 0, .int 0, .long 0, .int 0, .int 0, .int 0, .int 0, .int 0, .int 0]))] H := hP
  have hD : va_D (fun q : Nat => s.heap.size ≤ q) [(zm, .inr (12, [.int 0, .ref zm_y0, .int 0, .int 0, .int 0, .int 0, .ref zm_y1, .ref zm_y2, .ref zm_y3, .ref zm_y4, .ref zm_y5, .ref zm_y6, .ref zm_y7, .int 0, .int 0, .ref zm_y8, .ref zm_y9, .int 0, .int 0, .int 0, .int 0, .ref zm_y10, .ref zm_y11, .int 0, .int 0, .int 0, .int 0, .int 0, .ref zm_y12, .ref zm_y13, .ref zm_y14, .ref zm_y15, .int 0, .ref zm_y16, .ref zm_y17, .ref zm_y18, .int (-1), .int (-1), .int (-1), .int 0, .int 0, .int 0, .ref zm_y19, .ref zm_y20, .int 0, .ref zm_y21, .ref zm_y22, .ref zm_y23, .ref zm_y24, .ref zm_y25, .int 0, .ref zm_y26, .ref zm_y27, .ref zm_y28, .int 0, .int 0, .int 0, .ref zm_y29, .ref zm_y30, .ref zm_y31, .ref zm_y32, .int 0, .int 0, .long 0, .int 0, .int 0, .int 0, .int 0, .int 0, .int 0]))] := hD
  rcases hw with ⟨c_4, rfl⟩ | ⟨c_5, c_6, rfl⟩ | ⟨c_7, c_8, rfl⟩
  · skip
    refine lv_aload_n hx hb dL_law_247 rfl (lv_at hl 2 rfl) ?_
    refine lv_aload_n hx hb dL_law_248 rfl (lv_at hl 0 rfl) ?_
    refine lv_iload hx hb dL_law_249 (lv_at hl 4 rfl) ?_
    refine lv_iconst (v := 1) hx hb dL_law_251 (by decide) ?_
    refine lv_iadd hx hb dL_law_252 ?_
    refine lv_topi (fun x_9 ex_9 => ?_)
    have ex_9 : x_9 = 1 := ex_9.trans (by decide)
    subst ex_9
    refine va_sld hx hb hX hbl hbA hS (vp_in_iff.mpr ⟨by decide, by decide⟩) dL_law_253 ?_
    refine lv_topi (fun x_10 ex_10 => ?_)
    have ex_10 : x_2 = x_10 := ex_2.trans ex_10.symm
    subst ex_10
    have hPc := hP.sub (ws' := [(zm, .inr (12, [.int 0, .ref zm_y0, .int 0, .int 0, .int 0, .int 0, .ref zm_y1, .ref zm_y2, .ref zm_y3, .ref zm_y4, .ref zm_y5, .ref zm_y6, .ref zm_y7, .int 0, .int 0, .ref zm_y8, .ref zm_y9, .int 0, .int 0, .int 0, .int 0, .ref zm_y10, .ref zm_y11, .int 0, .int 0, .int 0, .int 0, .int 0, .ref zm_y12, .ref zm_y13, .ref zm_y14, .ref zm_y15, .int 0, .ref zm_y16, .ref zm_y17, .ref zm_y18, .int (-1), .int (-1), .int (-1), .int 0, .int 0, .int 0, .ref zm_y19, .ref zm_y20, .int 0, .ref zm_y21, .ref zm_y22, .ref zm_y23, .ref zm_y24, .ref zm_y25, .int 0, .ref zm_y26, .ref zm_y27, .ref zm_y28, .int 0, .int 0, .int 0, .ref zm_y29, .ref zm_y30, .ref zm_y31, .ref zm_y32, .int 0, .int 0, .long 0, .int 0, .int 0, .int 0, .int 0, .int 0, .int 0]))]) [0] rfl
    have hDc := hD.sub (ws' := [(zm, .inr (12, [.int 0, .ref zm_y0, .int 0, .int 0, .int 0, .int 0, .ref zm_y1, .ref zm_y2, .ref zm_y3, .ref zm_y4, .ref zm_y5, .ref zm_y6, .ref zm_y7, .int 0, .int 0, .ref zm_y8, .ref zm_y9, .int 0, .int 0, .int 0, .int 0, .ref zm_y10, .ref zm_y11, .int 0, .int 0, .int 0, .int 0, .int 0, .ref zm_y12, .ref zm_y13, .ref zm_y14, .ref zm_y15, .int 0, .ref zm_y16, .ref zm_y17, .ref zm_y18, .int (-1), .int (-1), .int (-1), .int 0, .int 0, .int 0, .ref zm_y19, .ref zm_y20, .int 0, .ref zm_y21, .ref zm_y22, .ref zm_y23, .ref zm_y24, .ref zm_y25, .int 0, .ref zm_y26, .ref zm_y27, .ref zm_y28, .int 0, .int 0, .int 0, .ref zm_y29, .ref zm_y30, .ref zm_y31, .ref zm_y32, .int 0, .int 0, .long 0, .int 0, .int 0, .int 0, .int 0, .int 0, .int 0]))]) [0] (by decide) rfl
    have hKc := hK.sub (tys' := []) [] rfl
    have hFc := va_free (wc := [(zm, .inr (12, [.int 0, .ref zm_y0, .int 0, .int 0, .int 0, .int 0, .ref zm_y1, .ref zm_y2, .ref zm_y3, .ref zm_y4, .ref zm_y5, .ref zm_y6, .ref zm_y7, .int 0, .int 0, .ref zm_y8, .ref zm_y9, .int 0, .int 0, .int 0, .int 0, .ref zm_y10, .ref zm_y11, .int 0, .int 0, .int 0, .int 0, .int 0, .ref zm_y12, .ref zm_y13, .ref zm_y14, .ref zm_y15, .int 0, .ref zm_y16, .ref zm_y17, .ref zm_y18, .int (-1), .int (-1), .int (-1), .int 0, .int 0, .int 0, .ref zm_y19, .ref zm_y20, .int 0, .ref zm_y21, .ref zm_y22, .ref zm_y23, .ref zm_y24, .ref zm_y25, .int 0, .ref zm_y26, .ref zm_y27, .ref zm_y28, .int 0, .int 0, .int 0, .ref zm_y29, .ref zm_y30, .ref zm_y31, .ref zm_y32, .int 0, .int 0, .long 0, .int 0, .int 0, .int 0, .int 0, .int 0, .int 0]))]) hD hS hA [0] rfl
    refine va_calli (va_runV (As := [.int x_2]) (rest := [.int 0]) ⟨hx, hb, hml, hown, hts⟩ (zk_X12_end_t l dC dI (zm) (x_2) (zm_y0) (zm_y1) (zm_y2) (zm_y3) (zm_y4) (zm_y5) (zm_y6) (zm_y7) (zm_y8) (zm_y9) (zm_y10) (zm_y11) (zm_y12) (zm_y13) (zm_y14) (zm_y15) (zm_y16) (zm_y17) (zm_y18) (zm_y19) (zm_y20) (zm_y21) (zm_y22) (zm_y23) (zm_y24) (zm_y25) (zm_y26) (zm_y27) (zm_y28) (zm_y29) (zm_y30) (zm_y31) (zm_y32) H.size) (cwV 1 hts gL_law_X12_end rfl rfl rfl (by decide +kernel) ⟨Nat.le_of_ble_eq_true rfl, Nat.le_of_ble_eq_true rfl⟩) ⟨zw_blind, va_recv hK hP (ci := 12) (q0 := 0) rfl rfl, fun U hU hW => ⟨rfl, zw_P.of hPc hKc hDc hN U hU hW⟩⟩ rfl rfl hl.1 rfl (lv_room (Nat.le_of_ble_eq_true rfl)) dL_law_254 ⟨Nat.le_of_ble_eq_true rfl, Nat.le_of_ble_eq_true rfl⟩) hS (fun q _ h => hFc q h) hFc (fun r_11 u t H1 locs ht hvm hw hB hz1 hk1 hS => ?_)
    obtain ⟨hP1, hK1, hD1⟩ := hB
    rw [ht] at hP1
    obtain ⟨hP, hD⟩ := va_join (wr := []) (w1 := []) hP hD [0] [] rfl rfl (by decide) (by decide) hk1 hFc hP1 hD1
    generalize H1 = H at hP hS ⊢
    have hP : va_P (dC, dI) classes [] H := hP
    have hD : va_D (fun q : Nat => s.heap.size ≤ q) [] := hD
    rcases hw with ⟨c_12, rfl⟩ | ⟨c_13, c_14, rfl⟩ | ⟨c_15, c_16, rfl⟩
    · skip
      refine lv_icmp_eq (tgt := 1170) hx hb dL_law_257 (by decide) (fun _ => ?_) (fun c9 => absurd (by decide) c9)
      refine lv_iinc (v := 6) (lv' := [(4, .int 6), (0, .ref b), (1, .ref zx), (2, .ref zm), (3, .ref zo)]) hx hb dL_law_1170 hl (k := 4) rfl (by decide) (by decide) rfl (fun ls hl => ?_)
      refine lv_goto (tgt := 23) hx hb dL_law_1173 (by decide) ?_
      refine lv_iload hx hb dL_law_23 (lv_at hl 0 rfl) ?_
      refine lv_aload_n hx hb dL_law_25 rfl (lv_at hl 1 rfl) ?_
      refine va_slen hx hb hX hbl hbA hS dL_law_26 ?_
      refine lv_topi (fun x_17 ex_17 => ?_)
      have ex_17 : x_17 = 6 := ex_17.trans (by decide)
      subst ex_17
      refine lv_bipush (v := 6) hx hb dL_law_27 (by decide) ?_
      refine lv_isub hx hb dL_law_29 ?_
      refine lv_topi (fun x_18 ex_18 => ?_)
      have ex_18 : x_18 = 0 := ex_18.trans (by decide)
      subst ex_18
      refine lv_icmp_gt (tgt := 1176) hx hb dL_law_30 (by decide) (fun _ => ?_) (fun c9 => absurd (by decide) c9)
      refine lv_iconst (v := 1) hx hb dL_law_1176 (by decide) ?_
      refine va_forget (fun q hq => hS.2.2 q hq) ?_
      refine W.widen (k := 600002) (n := 7302232) (Nat.le_of_ble_eq_true rfl) (Nat.le_of_ble_eq_true rfl) ?_
      exact lw_ret hx hb hr hlocks dL_law_1177
    · skip
      have d_c_4 := zz_lt.mp c_4
      have d_c_13 := (not_congr zz_lt).mp c_13
      have d_c_14 := zz_le.mp c_14
      have ez_0 : (0 : Int32).toInt = 0 := by decide
      exact absurd (show False by omega) id
    · skip
      have d_c_4 := zz_lt.mp c_4
      have d_c_15 := (not_congr zz_lt).mp c_15
      have d_c_16 := (not_congr zz_le).mp c_16
      have ez_0 : (0 : Int32).toInt = 0 := by decide
      exact absurd (show False by omega) id
  · skip
    refine lv_aload_n hx hb dL_law_247 rfl (lv_at hl 2 rfl) ?_
    refine lv_aload_n hx hb dL_law_248 rfl (lv_at hl 0 rfl) ?_
    refine lv_iload hx hb dL_law_249 (lv_at hl 4 rfl) ?_
    refine lv_iconst (v := 1) hx hb dL_law_251 (by decide) ?_
    refine lv_iadd hx hb dL_law_252 ?_
    refine lv_topi (fun x_19 ex_19 => ?_)
    have ex_19 : x_19 = 1 := ex_19.trans (by decide)
    subst ex_19
    refine va_sld hx hb hX hbl hbA hS (vp_in_iff.mpr ⟨by decide, by decide⟩) dL_law_253 ?_
    refine lv_topi (fun x_20 ex_20 => ?_)
    have ex_20 : x_2 = x_20 := ex_2.trans ex_20.symm
    subst ex_20
    have hPc := hP.sub (ws' := [(zm, .inr (12, [.int 0, .ref zm_y0, .int 0, .int 0, .int 0, .int 0, .ref zm_y1, .ref zm_y2, .ref zm_y3, .ref zm_y4, .ref zm_y5, .ref zm_y6, .ref zm_y7, .int 0, .int 0, .ref zm_y8, .ref zm_y9, .int 0, .int 0, .int 0, .int 0, .ref zm_y10, .ref zm_y11, .int 0, .int 0, .int 0, .int 0, .int 0, .ref zm_y12, .ref zm_y13, .ref zm_y14, .ref zm_y15, .int 0, .ref zm_y16, .ref zm_y17, .ref zm_y18, .int (-1), .int (-1), .int (-1), .int 0, .int 0, .int 0, .ref zm_y19, .ref zm_y20, .int 0, .ref zm_y21, .ref zm_y22, .ref zm_y23, .ref zm_y24, .ref zm_y25, .int 0, .ref zm_y26, .ref zm_y27, .ref zm_y28, .int 0, .int 0, .int 0, .ref zm_y29, .ref zm_y30, .ref zm_y31, .ref zm_y32, .int 0, .int 0, .long 0, .int 0, .int 0, .int 0, .int 0, .int 0, .int 0]))]) [0] rfl
    have hDc := hD.sub (ws' := [(zm, .inr (12, [.int 0, .ref zm_y0, .int 0, .int 0, .int 0, .int 0, .ref zm_y1, .ref zm_y2, .ref zm_y3, .ref zm_y4, .ref zm_y5, .ref zm_y6, .ref zm_y7, .int 0, .int 0, .ref zm_y8, .ref zm_y9, .int 0, .int 0, .int 0, .int 0, .ref zm_y10, .ref zm_y11, .int 0, .int 0, .int 0, .int 0, .int 0, .ref zm_y12, .ref zm_y13, .ref zm_y14, .ref zm_y15, .int 0, .ref zm_y16, .ref zm_y17, .ref zm_y18, .int (-1), .int (-1), .int (-1), .int 0, .int 0, .int 0, .ref zm_y19, .ref zm_y20, .int 0, .ref zm_y21, .ref zm_y22, .ref zm_y23, .ref zm_y24, .ref zm_y25, .int 0, .ref zm_y26, .ref zm_y27, .ref zm_y28, .int 0, .int 0, .int 0, .ref zm_y29, .ref zm_y30, .ref zm_y31, .ref zm_y32, .int 0, .int 0, .long 0, .int 0, .int 0, .int 0, .int 0, .int 0, .int 0]))]) [0] (by decide) rfl
    have hKc := hK.sub (tys' := []) [] rfl
    have hFc := va_free (wc := [(zm, .inr (12, [.int 0, .ref zm_y0, .int 0, .int 0, .int 0, .int 0, .ref zm_y1, .ref zm_y2, .ref zm_y3, .ref zm_y4, .ref zm_y5, .ref zm_y6, .ref zm_y7, .int 0, .int 0, .ref zm_y8, .ref zm_y9, .int 0, .int 0, .int 0, .int 0, .ref zm_y10, .ref zm_y11, .int 0, .int 0, .int 0, .int 0, .int 0, .ref zm_y12, .ref zm_y13, .ref zm_y14, .ref zm_y15, .int 0, .ref zm_y16, .ref zm_y17, .ref zm_y18, .int (-1), .int (-1), .int (-1), .int 0, .int 0, .int 0, .ref zm_y19, .ref zm_y20, .int 0, .ref zm_y21, .ref zm_y22, .ref zm_y23, .ref zm_y24, .ref zm_y25, .int 0, .ref zm_y26, .ref zm_y27, .ref zm_y28, .int 0, .int 0, .int 0, .ref zm_y29, .ref zm_y30, .ref zm_y31, .ref zm_y32, .int 0, .int 0, .long 0, .int 0, .int 0, .int 0, .int 0, .int 0, .int 0]))]) hD hS hA [0] rfl
    refine va_calli (va_runV (As := [.int x_2]) (rest := [.int 1]) ⟨hx, hb, hml, hown, hts⟩ (zk_X12_end_t l dC dI (zm) (x_2) (zm_y0) (zm_y1) (zm_y2) (zm_y3) (zm_y4) (zm_y5) (zm_y6) (zm_y7) (zm_y8) (zm_y9) (zm_y10) (zm_y11) (zm_y12) (zm_y13) (zm_y14) (zm_y15) (zm_y16) (zm_y17) (zm_y18) (zm_y19) (zm_y20) (zm_y21) (zm_y22) (zm_y23) (zm_y24) (zm_y25) (zm_y26) (zm_y27) (zm_y28) (zm_y29) (zm_y30) (zm_y31) (zm_y32) H.size) (cwV 1 hts gL_law_X12_end rfl rfl rfl (by decide +kernel) ⟨Nat.le_of_ble_eq_true rfl, Nat.le_of_ble_eq_true rfl⟩) ⟨zw_blind, va_recv hK hP (ci := 12) (q0 := 0) rfl rfl, fun U hU hW => ⟨rfl, zw_P.of hPc hKc hDc hN U hU hW⟩⟩ rfl rfl hl.1 rfl (lv_room (Nat.le_of_ble_eq_true rfl)) dL_law_254 ⟨Nat.le_of_ble_eq_true rfl, Nat.le_of_ble_eq_true rfl⟩) hS (fun q _ h => hFc q h) hFc (fun r_21 u t H1 locs ht hvm hw hB hz1 hk1 hS => ?_)
    obtain ⟨hP1, hK1, hD1⟩ := hB
    rw [ht] at hP1
    obtain ⟨hP, hD⟩ := va_join (wr := []) (w1 := []) hP hD [0] [] rfl rfl (by decide) (by decide) hk1 hFc hP1 hD1
    generalize H1 = H at hP hS ⊢
    have hP : va_P (dC, dI) classes [] H := hP
    have hD : va_D (fun q : Nat => s.heap.size ≤ q) [] := hD
    rcases hw with ⟨c_22, rfl⟩ | ⟨c_23, c_24, rfl⟩ | ⟨c_25, c_26, rfl⟩
    · skip
      have d_c_5 := (not_congr zz_lt).mp c_5
      have d_c_6 := zz_le.mp c_6
      have d_c_22 := zz_lt.mp c_22
      have ez_0 : (0 : Int32).toInt = 0 := by decide
      exact absurd (show False by omega) id
    · skip
      refine lv_icmp_eq (tgt := 1170) hx hb dL_law_257 (by decide) (fun _ => ?_) (fun c9 => absurd (by decide) c9)
      refine lv_iinc (v := 6) (lv' := [(4, .int 6), (0, .ref b), (1, .ref zx), (2, .ref zm), (3, .ref zo)]) hx hb dL_law_1170 hl (k := 4) rfl (by decide) (by decide) rfl (fun ls hl => ?_)
      refine lv_goto (tgt := 23) hx hb dL_law_1173 (by decide) ?_
      refine lv_iload hx hb dL_law_23 (lv_at hl 0 rfl) ?_
      refine lv_aload_n hx hb dL_law_25 rfl (lv_at hl 1 rfl) ?_
      refine va_slen hx hb hX hbl hbA hS dL_law_26 ?_
      refine lv_topi (fun x_27 ex_27 => ?_)
      have ex_27 : x_27 = 6 := ex_27.trans (by decide)
      subst ex_27
      refine lv_bipush (v := 6) hx hb dL_law_27 (by decide) ?_
      refine lv_isub hx hb dL_law_29 ?_
      refine lv_topi (fun x_28 ex_28 => ?_)
      have ex_28 : x_28 = 0 := ex_28.trans (by decide)
      subst ex_28
      refine lv_icmp_gt (tgt := 1176) hx hb dL_law_30 (by decide) (fun _ => ?_) (fun c9 => absurd (by decide) c9)
      refine lv_iconst (v := 1) hx hb dL_law_1176 (by decide) ?_
      refine va_forget (fun q hq => hS.2.2 q hq) ?_
      refine W.widen (k := 600002) (n := 7302232) (Nat.le_of_ble_eq_true rfl) (Nat.le_of_ble_eq_true rfl) ?_
      exact lw_ret hx hb hr hlocks dL_law_1177
    · skip
      have d_c_5 := (not_congr zz_lt).mp c_5
      have d_c_6 := zz_le.mp c_6
      have d_c_25 := (not_congr zz_lt).mp c_25
      have d_c_26 := (not_congr zz_le).mp c_26
      have ez_0 : (0 : Int32).toInt = 0 := by decide
      exact absurd (show False by omega) id
  · skip
    refine lv_aload_n hx hb dL_law_247 rfl (lv_at hl 2 rfl) ?_
    refine lv_aload_n hx hb dL_law_248 rfl (lv_at hl 0 rfl) ?_
    refine lv_iload hx hb dL_law_249 (lv_at hl 4 rfl) ?_
    refine lv_iconst (v := 1) hx hb dL_law_251 (by decide) ?_
    refine lv_iadd hx hb dL_law_252 ?_
    refine lv_topi (fun x_29 ex_29 => ?_)
    have ex_29 : x_29 = 1 := ex_29.trans (by decide)
    subst ex_29
    refine va_sld hx hb hX hbl hbA hS (vp_in_iff.mpr ⟨by decide, by decide⟩) dL_law_253 ?_
    refine lv_topi (fun x_30 ex_30 => ?_)
    have ex_30 : x_2 = x_30 := ex_2.trans ex_30.symm
    subst ex_30
    have hPc := hP.sub (ws' := [(zm, .inr (12, [.int 0, .ref zm_y0, .int 0, .int 0, .int 0, .int 0, .ref zm_y1, .ref zm_y2, .ref zm_y3, .ref zm_y4, .ref zm_y5, .ref zm_y6, .ref zm_y7, .int 0, .int 0, .ref zm_y8, .ref zm_y9, .int 0, .int 0, .int 0, .int 0, .ref zm_y10, .ref zm_y11, .int 0, .int 0, .int 0, .int 0, .int 0, .ref zm_y12, .ref zm_y13, .ref zm_y14, .ref zm_y15, .int 0, .ref zm_y16, .ref zm_y17, .ref zm_y18, .int (-1), .int (-1), .int (-1), .int 0, .int 0, .int 0, .ref zm_y19, .ref zm_y20, .int 0, .ref zm_y21, .ref zm_y22, .ref zm_y23, .ref zm_y24, .ref zm_y25, .int 0, .ref zm_y26, .ref zm_y27, .ref zm_y28, .int 0, .int 0, .int 0, .ref zm_y29, .ref zm_y30, .ref zm_y31, .ref zm_y32, .int 0, .int 0, .long 0, .int 0, .int 0, .int 0, .int 0, .int 0, .int 0]))]) [0] rfl
    have hDc := hD.sub (ws' := [(zm, .inr (12, [.int 0, .ref zm_y0, .int 0, .int 0, .int 0, .int 0, .ref zm_y1, .ref zm_y2, .ref zm_y3, .ref zm_y4, .ref zm_y5, .ref zm_y6, .ref zm_y7, .int 0, .int 0, .ref zm_y8, .ref zm_y9, .int 0, .int 0, .int 0, .int 0, .ref zm_y10, .ref zm_y11, .int 0, .int 0, .int 0, .int 0, .int 0, .ref zm_y12, .ref zm_y13, .ref zm_y14, .ref zm_y15, .int 0, .ref zm_y16, .ref zm_y17, .ref zm_y18, .int (-1), .int (-1), .int (-1), .int 0, .int 0, .int 0, .ref zm_y19, .ref zm_y20, .int 0, .ref zm_y21, .ref zm_y22, .ref zm_y23, .ref zm_y24, .ref zm_y25, .int 0, .ref zm_y26, .ref zm_y27, .ref zm_y28, .int 0, .int 0, .int 0, .ref zm_y29, .ref zm_y30, .ref zm_y31, .ref zm_y32, .int 0, .int 0, .long 0, .int 0, .int 0, .int 0, .int 0, .int 0, .int 0]))]) [0] (by decide) rfl
    have hKc := hK.sub (tys' := []) [] rfl
    have hFc := va_free (wc := [(zm, .inr (12, [.int 0, .ref zm_y0, .int 0, .int 0, .int 0, .int 0, .ref zm_y1, .ref zm_y2, .ref zm_y3, .ref zm_y4, .ref zm_y5, .ref zm_y6, .ref zm_y7, .int 0, .int 0, .ref zm_y8, .ref zm_y9, .int 0, .int 0, .int 0, .int 0, .ref zm_y10, .ref zm_y11, .int 0, .int 0, .int 0, .int 0, .int 0, .ref zm_y12, .ref zm_y13, .ref zm_y14, .ref zm_y15, .int 0, .ref zm_y16, .ref zm_y17, .ref zm_y18, .int (-1), .int (-1), .int (-1), .int 0, .int 0, .int 0, .ref zm_y19, .ref zm_y20, .int 0, .ref zm_y21, .ref zm_y22, .ref zm_y23, .ref zm_y24, .ref zm_y25, .int 0, .ref zm_y26, .ref zm_y27, .ref zm_y28, .int 0, .int 0, .int 0, .ref zm_y29, .ref zm_y30, .ref zm_y31, .ref zm_y32, .int 0, .int 0, .long 0, .int 0, .int 0, .int 0, .int 0, .int 0, .int 0]))]) hD hS hA [0] rfl
    refine va_calli (va_runV (As := [.int x_2]) (rest := [.int 0]) ⟨hx, hb, hml, hown, hts⟩ (zk_X12_end_t l dC dI (zm) (x_2) (zm_y0) (zm_y1) (zm_y2) (zm_y3) (zm_y4) (zm_y5) (zm_y6) (zm_y7) (zm_y8) (zm_y9) (zm_y10) (zm_y11) (zm_y12) (zm_y13) (zm_y14) (zm_y15) (zm_y16) (zm_y17) (zm_y18) (zm_y19) (zm_y20) (zm_y21) (zm_y22) (zm_y23) (zm_y24) (zm_y25) (zm_y26) (zm_y27) (zm_y28) (zm_y29) (zm_y30) (zm_y31) (zm_y32) H.size) (cwV 1 hts gL_law_X12_end rfl rfl rfl (by decide +kernel) ⟨Nat.le_of_ble_eq_true rfl, Nat.le_of_ble_eq_true rfl⟩) ⟨zw_blind, va_recv hK hP (ci := 12) (q0 := 0) rfl rfl, fun U hU hW => ⟨rfl, zw_P.of hPc hKc hDc hN U hU hW⟩⟩ rfl rfl hl.1 rfl (lv_room (Nat.le_of_ble_eq_true rfl)) dL_law_254 ⟨Nat.le_of_ble_eq_true rfl, Nat.le_of_ble_eq_true rfl⟩) hS (fun q _ h => hFc q h) hFc (fun r_31 u t H1 locs ht hvm hw hB hz1 hk1 hS => ?_)
    obtain ⟨hP1, hK1, hD1⟩ := hB
    rw [ht] at hP1
    obtain ⟨hP, hD⟩ := va_join (wr := []) (w1 := []) hP hD [0] [] rfl rfl (by decide) (by decide) hk1 hFc hP1 hD1
    generalize H1 = H at hP hS ⊢
    have hP : va_P (dC, dI) classes [] H := hP
    have hD : va_D (fun q : Nat => s.heap.size ≤ q) [] := hD
    rcases hw with ⟨c_32, rfl⟩ | ⟨c_33, c_34, rfl⟩ | ⟨c_35, c_36, rfl⟩
    · skip
      have d_c_7 := (not_congr zz_lt).mp c_7
      have d_c_8 := (not_congr zz_le).mp c_8
      have d_c_32 := zz_lt.mp c_32
      have ez_0 : (0 : Int32).toInt = 0 := by decide
      exact absurd (show False by omega) id
    · skip
      have d_c_7 := (not_congr zz_lt).mp c_7
      have d_c_8 := (not_congr zz_le).mp c_8
      have d_c_33 := (not_congr zz_lt).mp c_33
      have d_c_34 := zz_le.mp c_34
      have ez_0 : (0 : Int32).toInt = 0 := by decide
      exact absurd (show False by omega) id
    · skip
      refine lv_icmp_eq (tgt := 1170) hx hb dL_law_257 (by decide) (fun _ => ?_) (fun c9 => absurd (by decide) c9)
      refine lv_iinc (v := 6) (lv' := [(4, .int 6), (0, .ref b), (1, .ref zx), (2, .ref zm), (3, .ref zo)]) hx hb dL_law_1170 hl (k := 4) rfl (by decide) (by decide) rfl (fun ls hl => ?_)
      refine lv_goto (tgt := 23) hx hb dL_law_1173 (by decide) ?_
      refine lv_iload hx hb dL_law_23 (lv_at hl 0 rfl) ?_
      refine lv_aload_n hx hb dL_law_25 rfl (lv_at hl 1 rfl) ?_
      refine va_slen hx hb hX hbl hbA hS dL_law_26 ?_
      refine lv_topi (fun x_37 ex_37 => ?_)
      have ex_37 : x_37 = 6 := ex_37.trans (by decide)
      subst ex_37
      refine lv_bipush (v := 6) hx hb dL_law_27 (by decide) ?_
      refine lv_isub hx hb dL_law_29 ?_
      refine lv_topi (fun x_38 ex_38 => ?_)
      have ex_38 : x_38 = 0 := ex_38.trans (by decide)
      subst ex_38
      refine lv_icmp_gt (tgt := 1176) hx hb dL_law_30 (by decide) (fun _ => ?_) (fun c9 => absurd (by decide) c9)
      refine lv_iconst (v := 1) hx hb dL_law_1176 (by decide) ?_
      refine va_forget (fun q hq => hS.2.2 q hq) ?_
      refine W.widen (k := 600002) (n := 7302232) (Nat.le_of_ble_eq_true rfl) (Nat.le_of_ble_eq_true rfl) ?_
      exact lw_ret hx hb hr hlocks dL_law_1177
set_option maxHeartbeats 8000000 in
set_option maxRecDepth 100000 in
theorem zl_2 {p : Program} {e : Env} {s : State} {m : MethodId} {below : List Frame} {meth : Method} {c : Code} (l : Launch) {b : Nat} {xs : Nat → Int32} (C0 : lw_At p s m meth c b 6 xs) (dC : Nat → ClassId) (dI : Nat → Nat → Nat) (zx : Nat) (zx_y0 : Nat) (zx_y1 : Nat) (zx_y2 : Nat) (zx_y3 : Nat) (zx_y4 : Nat) (zx_y5 : Nat) (zx_y6 : Nat) (zx_y7 : Nat) (zx_y8 : Nat) (zx_y9 : Nat) (zx_y10 : Nat) (zx_y11 : Nat) (zx_y12 : Nat) (zx_y13 : Nat) (zx_y14 : Nat) (zx_y22 : Nat) (zx_y23 : Nat) (zx_kA24 : ClassId) (zx_kA25 : ClassId) (zx_y26 : Nat) (zx_y27 : Nat) (zx_kA28 : ClassId) (zx_y29 : Nat) (zx_y30 : Nat) (zx_y31 : Nat) (zx_kA32 : ClassId) (zx_kA33 : ClassId) (zx_kA34 : ClassId) (zm : Nat) (zm_y0 : Nat) (zm_y1 : Nat) (zm_y2 : Nat) (zm_y3 : Nat) (zm_y4 : Nat) (zm_y5 : Nat) (zm_y6 : Nat) (zm_y7 : Nat) (zm_y8 : Nat) (zm_y9 : Nat) (zm_y10 : Nat) (zm_y11 : Nat) (zm_y12 : Nat) (zm_y13 : Nat) (zm_y14 : Nat) (zm_y15 : Nat) (zm_y16 : Nat) (zm_y17 : Nat) (zm_y18 : Nat) (zm_y19 : Nat) (zm_y20 : Nat) (zm_y21 : Nat) (zm_y22 : Nat) (zm_y23 : Nat) (zm_y24 : Nat) (zm_y25 : Nat) (zm_y26 : Nat) (zm_y27 : Nat) (zm_y28 : Nat) (zm_y29 : Nat) (zm_y30 : Nat) (zm_y31 : Nat) (zm_y32 : Nat) (zm_kA34 : ClassId) (zm_kA35 : ClassId) (zm_kA36 : ClassId) (zm_kA37 : ClassId) (zm_kA38 : ClassId) (zo : Nat) {H : Heap} {locs : List Loc} (hN : zw_N s) (hK : va_K (dC, dI) classes [(zx_kA24, .int), (zx_kA25, .int), (zx_kA28, .int), (zx_kA32, .int), (zx_kA33, .int), (zx_kA34, .int), (zm_kA34, .int), (zm_kA35, .int), (zm_kA36, .int), (zm_kA37, .int), (zm_kA38, .int)] s) (hP : va_P (dC, dI) classes [(zx, .inr (11, [.ref zx_y0, .ref zx_y1, .ref zx_y2, .ref zx_y3, .ref zx_y4, .ref zx_y5, .ref zx_y6, .ref zx_y7, .ref zx_y8, .ref zx_y9, .ref zx_y10, .ref zx_y11, .ref zx_y12, .ref zx_y13, .int 0, .int 0])), (zx_y0, .inr (8, [.ref zx_y14, .int 0, .int 0, .int (-1)])), (zx_y10, .inr (0, [.ref zx_y22, .ref zx_y23, .int 0, .int 0, .int 0, .int 0, .int 0])), (zx_y22, .inl (zx_kA24, 9, .inl (fun _ => 0))), (zx_y23, .inl (zx_kA25, 2, .inl (fun _ => 0))), (zx_y11, .inr (1, [.ref zx_y26, .ref zx_y27, .int 0, .int 0])), (zx_y26, .inl (zx_kA28, 160, .inl (fun _ => 0))), (zx_y13, .inr (2, [.ref zx_y29, .ref zx_y30, .ref zx_y31, .int 0])), (zx_y29, .inl (zx_kA32, 30, .inl (fun _ => 0))), (zx_y30, .inl (zx_kA33, 30, .inl (fun _ => 0))), (zx_y31, .inl (zx_kA34, 30, .inl (fun _ => 0))), (zm, .inr (12, [.int 0, .ref zm_y0, .int 0, .int 0, .int 0, .int 0, .ref zm_y1, .ref zm_y2, .ref zm_y3, .ref zm_y4, .ref zm_y5, .ref zm_y6, .ref zm_y7, .int 0, .int 0, .ref zm_y8, .ref zm_y9, .int 0, .int 0, .int 0, .int 0, .ref zm_y10, .ref zm_y11, .int 0, .int 0, .int 0, .int 0, .int 0, .ref zm_y12, .ref zm_y13, .ref zm_y14, .ref zm_y15, .int 0, .ref zm_y16, .ref zm_y17, .ref zm_y18, .int (-1), .int (-1), .int (-1), .int 0, .int 0, .int 0, .ref zm_y19, .ref zm_y20, .int 0, .ref zm_y21, .ref zm_y22, .ref zm_y23, .ref zm_y24, .ref zm_y25, .int 0, .ref zm_y26, .ref zm_y27, .ref zm_y28, .int 0, .int 0, .int 0, .ref zm_y29, .ref zm_y30, .ref zm_y31, .ref zm_y32, .int 0, .int 0, .long 0, .int 0, .int 0, .int 0, .int 0, .int 0, .int 0])), (zm_y3, .inl (zm_kA34, 5, .inl (fun _ => 0))), (zm_y4, .inl (zm_kA35, 5, .inl (fun _ => 0))), (zm_y13, .inl (zm_kA36, 30, .inl (fun _ => 0))), (zm_y14, .inl (zm_kA37, 30, .inl (fun _ => 0))), (zm_y15, .inl (zm_kA38, 30, .inl (fun _ => 0)))] H) (hD : va_D (fun q : Nat => s.heap.size ≤ q) [(zx, .inr (11, [.ref zx_y0, .ref zx_y1, .ref zx_y2, .ref zx_y3, .ref zx_y4, .ref zx_y5, .ref zx_y6, .ref zx_y7, .ref zx_y8, .ref zx_y9, .ref zx_y10, .ref zx_y11, .ref zx_y12, .ref zx_y13, .int 0, .int 0])), (zx_y0, .inr (8, [.ref zx_y14, .int 0, .int 0, .int (-1)])), (zx_y10, .inr (0, [.ref zx_y22, .ref zx_y23, .int 0, .int 0, .int 0, .int 0, .int 0])), (zx_y22, .inl (zx_kA24, 9, .inl (fun _ => 0))), (zx_y23, .inl (zx_kA25, 2, .inl (fun _ => 0))), (zx_y11, .inr (1, [.ref zx_y26, .ref zx_y27, .int 0, .int 0])), (zx_y26, .inl (zx_kA28, 160, .inl (fun _ => 0))), (zx_y13, .inr (2, [.ref zx_y29, .ref zx_y30, .ref zx_y31, .int 0])), (zx_y29, .inl (zx_kA32, 30, .inl (fun _ => 0))), (zx_y30, .inl (zx_kA33, 30, .inl (fun _ => 0))), (zx_y31, .inl (zx_kA34, 30, .inl (fun _ => 0))), (zm, .inr (12, [.int 0, .ref zm_y0, .int 0, .int 0, .int 0, .int 0, .ref zm_y1, .ref zm_y2, .ref zm_y3, .ref zm_y4, .ref zm_y5, .ref zm_y6, .ref zm_y7, .int 0, .int 0, .ref zm_y8, .ref zm_y9, .int 0, .int 0, .int 0, .int 0, .ref zm_y10, .ref zm_y11, .int 0, .int 0, .int 0, .int 0, .int 0, .ref zm_y12, .ref zm_y13, .ref zm_y14, .ref zm_y15, .int 0, .ref zm_y16, .ref zm_y17, .ref zm_y18, .int (-1), .int (-1), .int (-1), .int 0, .int 0, .int 0, .ref zm_y19, .ref zm_y20, .int 0, .ref zm_y21, .ref zm_y22, .ref zm_y23, .ref zm_y24, .ref zm_y25, .int 0, .ref zm_y26, .ref zm_y27, .ref zm_y28, .int 0, .int 0, .int 0, .ref zm_y29, .ref zm_y30, .ref zm_y31, .ref zm_y32, .int 0, .int 0, .long 0, .int 0, .int 0, .int 0, .int 0, .int 0, .int 0])), (zm_y3, .inl (zm_kA34, 5, .inl (fun _ => 0))), (zm_y4, .inl (zm_kA35, 5, .inl (fun _ => 0))), (zm_y13, .inl (zm_kA36, 30, .inl (fun _ => 0))), (zm_y14, .inl (zm_kA37, 30, .inl (fun _ => 0))), (zm_y15, .inl (zm_kA38, 30, .inl (fun _ => 0)))]) (hS : va_S (fun q : Nat => s.heap.size ≤ q) s.heap H locs) (ls : Array Slot) (hl : lv_has ls 7 [(0, .ref b), (1, .ref zx), (2, .ref zm), (3, .ref zo), (4, .int 0)]) : W p l e room_1 s m #[Value.ref b] below meth c H locs 99 952984 (lw_Z below #[Value.ref b] s) (F0 m 262 ls []) := by
  obtain ⟨hx, hb, hr, hml, hown, hts0, hX, hbl, hlocks, hgv⟩ := C0
  have hts : ∀ w ∈ wsL_law, w.before #[Value.ref b] s = true := fun w h => hts0 w (wsL_law_in w h)
  have hA : ∀ q : Nat, s.heap.size ≤ q → (fun q : Nat => s.heap.size ≤ q) q := fun _ h => h
  have hbA : ¬ (fun q : Nat => s.heap.size ≤ q) b := Nat.not_le.mpr hbl
  refine lv_aload_n hx hb dL_law_262 rfl (lv_at hl 1 rfl) ?_
  refine lv_aload_n hx hb dL_law_263 rfl (lv_at hl 0 rfl) ?_
  refine lv_iload hx hb dL_law_264 (lv_at hl 4 rfl) ?_
  refine lv_iconst (v := 1) hx hb dL_law_266 (by decide) ?_
  refine lv_iadd hx hb dL_law_267 ?_
  refine lv_topi (fun x_1 ex_1 => ?_)
  have ex_1 : x_1 = 1 := ex_1.trans (by decide)
  subst ex_1
  refine va_sld hx hb hX hbl hbA hS (vp_in_iff.mpr ⟨by decide, by decide⟩) dL_law_268 ?_
  refine lv_topi (fun x_2 ex_2 => ?_)
  have hPc := hP.sub (ws' := [(zx, .inr (11, [.ref zx_y0, .ref zx_y1, .ref zx_y2, .ref zx_y3, .ref zx_y4, .ref zx_y5, .ref zx_y6, .ref zx_y7, .ref zx_y8, .ref zx_y9, .ref zx_y10, .ref zx_y11, .ref zx_y12, .ref zx_y13, .int 0, .int 0])), (zx_y0, .inr (8, [.ref zx_y14, .int 0, .int 0, .int (-1)])), (zx_y10, .inr (0, [.ref zx_y22, .ref zx_y23, .int 0, .int 0, .int 0, .int 0, .int 0])), (zx_y22, .inl (zx_kA24, 9, .inl (fun _ => 0))), (zx_y23, .inl (zx_kA25, 2, .inl (fun _ => 0))), (zx_y11, .inr (1, [.ref zx_y26, .ref zx_y27, .int 0, .int 0])), (zx_y26, .inl (zx_kA28, 160, .inl (fun _ => 0))), (zx_y13, .inr (2, [.ref zx_y29, .ref zx_y30, .ref zx_y31, .int 0])), (zx_y29, .inl (zx_kA32, 30, .inl (fun _ => 0))), (zx_y30, .inl (zx_kA33, 30, .inl (fun _ => 0))), (zx_y31, .inl (zx_kA34, 30, .inl (fun _ => 0)))]) [0, 1, 2, 3, 4, 5, 6, 7, 8, 9, 10] rfl
  have hDc := hD.sub (ws' := [(zx, .inr (11, [.ref zx_y0, .ref zx_y1, .ref zx_y2, .ref zx_y3, .ref zx_y4, .ref zx_y5, .ref zx_y6, .ref zx_y7, .ref zx_y8, .ref zx_y9, .ref zx_y10, .ref zx_y11, .ref zx_y12, .ref zx_y13, .int 0, .int 0])), (zx_y0, .inr (8, [.ref zx_y14, .int 0, .int 0, .int (-1)])), (zx_y10, .inr (0, [.ref zx_y22, .ref zx_y23, .int 0, .int 0, .int 0, .int 0, .int 0])), (zx_y22, .inl (zx_kA24, 9, .inl (fun _ => 0))), (zx_y23, .inl (zx_kA25, 2, .inl (fun _ => 0))), (zx_y11, .inr (1, [.ref zx_y26, .ref zx_y27, .int 0, .int 0])), (zx_y26, .inl (zx_kA28, 160, .inl (fun _ => 0))), (zx_y13, .inr (2, [.ref zx_y29, .ref zx_y30, .ref zx_y31, .int 0])), (zx_y29, .inl (zx_kA32, 30, .inl (fun _ => 0))), (zx_y30, .inl (zx_kA33, 30, .inl (fun _ => 0))), (zx_y31, .inl (zx_kA34, 30, .inl (fun _ => 0)))]) [0, 1, 2, 3, 4, 5, 6, 7, 8, 9, 10] (by decide) rfl
  have hKc := hK.sub (tys' := [(zx_kA24, .int), (zx_kA25, .int), (zx_kA28, .int), (zx_kA32, .int), (zx_kA33, .int), (zx_kA34, .int)]) [0, 1, 2, 3, 4, 5] rfl
  have hFc := va_free (wc := [(zx, .inr (11, [.ref zx_y0, .ref zx_y1, .ref zx_y2, .ref zx_y3, .ref zx_y4, .ref zx_y5, .ref zx_y6, .ref zx_y7, .ref zx_y8, .ref zx_y9, .ref zx_y10, .ref zx_y11, .ref zx_y12, .ref zx_y13, .int 0, .int 0])), (zx_y0, .inr (8, [.ref zx_y14, .int 0, .int 0, .int (-1)])), (zx_y10, .inr (0, [.ref zx_y22, .ref zx_y23, .int 0, .int 0, .int 0, .int 0, .int 0])), (zx_y22, .inl (zx_kA24, 9, .inl (fun _ => 0))), (zx_y23, .inl (zx_kA25, 2, .inl (fun _ => 0))), (zx_y11, .inr (1, [.ref zx_y26, .ref zx_y27, .int 0, .int 0])), (zx_y26, .inl (zx_kA28, 160, .inl (fun _ => 0))), (zx_y13, .inr (2, [.ref zx_y29, .ref zx_y30, .ref zx_y31, .int 0])), (zx_y29, .inl (zx_kA32, 30, .inl (fun _ => 0))), (zx_y30, .inl (zx_kA33, 30, .inl (fun _ => 0))), (zx_y31, .inl (zx_kA34, 30, .inl (fun _ => 0)))]) hD hS hA [0, 1, 2, 3, 4, 5, 6, 7, 8, 9, 10] rfl
  refine va_calli (va_runV (As := [.int x_2]) (rest := []) ⟨hx, hb, hml, hown, hts⟩ (zk_X11_fault_t l dC dI (zx) (x_2) (zx_y0) (zx_y1) (zx_y2) (zx_y3) (zx_y4) (zx_y5) (zx_y6) (zx_y7) (zx_y8) (zx_y9) (zx_y10) (zx_y11) (zx_y12) (zx_y13) (zx_y14) (zx_y22) (zx_y23) (zx_kA24) (fun _ => 0) (zx_kA25) (zx_y26) (zx_y27) (zx_kA28) (zx_y29) (zx_y30) (zx_y31) (zx_kA32) (zx_kA33) (zx_kA34) H.size) (cwV 1 hts gL_law_X11_fault rfl rfl rfl (by decide +kernel) ⟨Nat.le_of_ble_eq_true rfl, Nat.le_of_ble_eq_true rfl⟩) ⟨zw_blind, va_recv hK hP (ci := 11) (q0 := 0) rfl rfl, fun U hU hW => ⟨rfl, zw_P.of hPc hKc hDc hN U hU hW⟩⟩ rfl rfl hl.1 rfl (lv_room (Nat.le_of_ble_eq_true rfl)) dL_law_269 ⟨Nat.le_of_ble_eq_true rfl, Nat.le_of_ble_eq_true rfl⟩) hS (fun q _ h => hFc q h) hFc (fun r_3 u t H1 locs ht hvm hw hB hz1 hk1 hS => ?_)
  obtain ⟨hP1, hK1, hD1⟩ := hB
  rw [ht] at hP1
  obtain ⟨hP, hD⟩ := va_join (wr := [(zm, .inr (12, [.int 0, .ref zm_y0, .int 0, .int 0, .int 0, .int 0, .ref zm_y1, .ref zm_y2, .ref zm_y3, .ref zm_y4, .ref zm_y5, .ref zm_y6, .ref zm_y7, .int 0, .int 0, .ref zm_y8, .ref zm_y9, .int 0, .int 0, .int 0, .int 0, .ref zm_y10, .ref zm_y11, .int 0, .int 0, .int 0, .int 0, .int 0, .ref zm_y12, .ref zm_y13, .ref zm_y14, .ref zm_y15, .int 0, .ref zm_y16, .ref zm_y17, .ref zm_y18, .int (-1), .int (-1), .int (-1), .int 0, .int 0, .int 0, .ref zm_y19, .ref zm_y20, .int 0, .ref zm_y21, .ref zm_y22, .ref zm_y23, .ref zm_y24, .ref zm_y25, .int 0, .ref zm_y26, .ref zm_y27, .ref zm_y28, .int 0, .int 0, .int 0, .ref zm_y29, .ref zm_y30, .ref zm_y31, .ref zm_y32, .int 0, .int 0, .long 0, .int 0, .int 0, .int 0, .int 0, .int 0, .int 0])), (zm_y3, .inl (zm_kA34, 5, .inl (fun _ => 0))), (zm_y4, .inl (zm_kA35, 5, .inl (fun _ => 0))), (zm_y13, .inl (zm_kA36, 30, .inl (fun _ => 0))), (zm_y14, .inl (zm_kA37, 30, .inl (fun _ => 0))), (zm_y15, .inl (zm_kA38, 30, .inl (fun _ => 0)))]) (w1 := []) hP hD [0, 1, 2, 3, 4, 5, 6, 7, 8, 9, 10] [11, 12, 13, 14, 15, 16] rfl rfl (by decide) (by decide) hk1 hFc hP1 hD1
  generalize H1 = H at hP hS ⊢
  have hP : va_P (dC, dI) classes [(zm, .inr (12, [.int 0, .ref zm_y0, .int 0, .int 0, .int 0, .int 0, .ref zm_y1, .ref zm_y2, .ref zm_y3, .ref zm_y4, .ref zm_y5, .ref zm_y6, .ref zm_y7, .int 0, .int 0, .ref zm_y8, .ref zm_y9, .int 0, .int 0, .int 0, .int 0, .ref zm_y10, .ref zm_y11, .int 0, .int 0, .int 0, .int 0, .int 0, .ref zm_y12, .ref zm_y13, .ref zm_y14, .ref zm_y15, .int 0, .ref zm_y16, .ref zm_y17, .ref zm_y18, .int (-1), .int (-1), .int (-1), .int 0, .int 0, .int 0, .ref zm_y19, .ref zm_y20, .int 0, .ref zm_y21, .ref zm_y22, .ref zm_y23, .ref zm_y24, .ref zm_y25, .int 0, .ref zm_y26, .ref zm_y27, .ref zm_y28, .int 0, .int 0, .int 0, .ref zm_y29, .ref zm_y30, .ref zm_y31, .ref zm_y32, .int 0, .int 0, .long 0, .int 0, .int 0, .int 0, .int 0, .int 0, .int 0])), (zm_y3, .inl (zm_kA34, 5, .inl (fun _ => 0))), (zm_y4, .inl (zm_kA35, 5, .inl (fun _ => 0))), (zm_y13, .inl (zm_kA36, 30, .inl (fun _ => 0))), (zm_y14, .inl (zm_kA37, 30, .inl (fun _ => 0))), (zm_y15, .inl (zm_kA38, 30, .inl (fun _ => 0)))] H := hP
  have hD : va_D (fun q : Nat => s.heap.size ≤ q) [(zm, .inr (12, [.int 0, .ref zm_y0, .int 0, .int 0, .int 0, .int 0, .ref zm_y1, .ref zm_y2, .ref zm_y3, .ref zm_y4, .ref zm_y5, .ref zm_y6, .ref zm_y7, .int 0, .int 0, .ref zm_y8, .ref zm_y9, .int 0, .int 0, .int 0, .int 0, .ref zm_y10, .ref zm_y11, .int 0, .int 0, .int 0, .int 0, .int 0, .ref zm_y12, .ref zm_y13, .ref zm_y14, .ref zm_y15, .int 0, .ref zm_y16, .ref zm_y17, .ref zm_y18, .int (-1), .int (-1), .int (-1), .int 0, .int 0, .int 0, .ref zm_y19, .ref zm_y20, .int 0, .ref zm_y21, .ref zm_y22, .ref zm_y23, .ref zm_y24, .ref zm_y25, .int 0, .ref zm_y26, .ref zm_y27, .ref zm_y28, .int 0, .int 0, .int 0, .ref zm_y29, .ref zm_y30, .ref zm_y31, .ref zm_y32, .int 0, .int 0, .long 0, .int 0, .int 0, .int 0, .int 0, .int 0, .int 0])), (zm_y3, .inl (zm_kA34, 5, .inl (fun _ => 0))), (zm_y4, .inl (zm_kA35, 5, .inl (fun _ => 0))), (zm_y13, .inl (zm_kA36, 30, .inl (fun _ => 0))), (zm_y14, .inl (zm_kA37, 30, .inl (fun _ => 0))), (zm_y15, .inl (zm_kA38, 30, .inl (fun _ => 0)))] := hD
  rcases hw with ⟨c_4, rfl⟩ | ⟨c_5, c_6, rfl⟩ | ⟨c_7, c_8, rfl⟩
  · skip
    refine lv_aload_n hx hb dL_law_272 rfl (lv_at hl 2 rfl) ?_
    refine lv_aload_n hx hb dL_law_273 rfl (lv_at hl 0 rfl) ?_
    refine lv_iload hx hb dL_law_274 (lv_at hl 4 rfl) ?_
    refine lv_iconst (v := 1) hx hb dL_law_276 (by decide) ?_
    refine lv_iadd hx hb dL_law_277 ?_
    refine lv_topi (fun x_9 ex_9 => ?_)
    have ex_9 : x_9 = 1 := ex_9.trans (by decide)
    subst ex_9
    refine va_sld hx hb hX hbl hbA hS (vp_in_iff.mpr ⟨by decide, by decide⟩) dL_law_278 ?_
    refine lv_topi (fun x_10 ex_10 => ?_)
    have ex_10 : x_2 = x_10 := ex_2.trans ex_10.symm
    subst ex_10
    have hPc := hP.sub (ws' := [(zm, .inr (12, [.int 0, .ref zm_y0, .int 0, .int 0, .int 0, .int 0, .ref zm_y1, .ref zm_y2, .ref zm_y3, .ref zm_y4, .ref zm_y5, .ref zm_y6, .ref zm_y7, .int 0, .int 0, .ref zm_y8, .ref zm_y9, .int 0, .int 0, .int 0, .int 0, .ref zm_y10, .ref zm_y11, .int 0, .int 0, .int 0, .int 0, .int 0, .ref zm_y12, .ref zm_y13, .ref zm_y14, .ref zm_y15, .int 0, .ref zm_y16, .ref zm_y17, .ref zm_y18, .int (-1), .int (-1), .int (-1), .int 0, .int 0, .int 0, .ref zm_y19, .ref zm_y20, .int 0, .ref zm_y21, .ref zm_y22, .ref zm_y23, .ref zm_y24, .ref zm_y25, .int 0, .ref zm_y26, .ref zm_y27, .ref zm_y28, .int 0, .int 0, .int 0, .ref zm_y29, .ref zm_y30, .ref zm_y31, .ref zm_y32, .int 0, .int 0, .long 0, .int 0, .int 0, .int 0, .int 0, .int 0, .int 0])), (zm_y3, .inl (zm_kA34, 5, .inl (fun _ => 0))), (zm_y4, .inl (zm_kA35, 5, .inl (fun _ => 0))), (zm_y13, .inl (zm_kA36, 30, .inl (fun _ => 0))), (zm_y14, .inl (zm_kA37, 30, .inl (fun _ => 0))), (zm_y15, .inl (zm_kA38, 30, .inl (fun _ => 0)))]) [0, 1, 2, 3, 4, 5] rfl
    have hDc := hD.sub (ws' := [(zm, .inr (12, [.int 0, .ref zm_y0, .int 0, .int 0, .int 0, .int 0, .ref zm_y1, .ref zm_y2, .ref zm_y3, .ref zm_y4, .ref zm_y5, .ref zm_y6, .ref zm_y7, .int 0, .int 0, .ref zm_y8, .ref zm_y9, .int 0, .int 0, .int 0, .int 0, .ref zm_y10, .ref zm_y11, .int 0, .int 0, .int 0, .int 0, .int 0, .ref zm_y12, .ref zm_y13, .ref zm_y14, .ref zm_y15, .int 0, .ref zm_y16, .ref zm_y17, .ref zm_y18, .int (-1), .int (-1), .int (-1), .int 0, .int 0, .int 0, .ref zm_y19, .ref zm_y20, .int 0, .ref zm_y21, .ref zm_y22, .ref zm_y23, .ref zm_y24, .ref zm_y25, .int 0, .ref zm_y26, .ref zm_y27, .ref zm_y28, .int 0, .int 0, .int 0, .ref zm_y29, .ref zm_y30, .ref zm_y31, .ref zm_y32, .int 0, .int 0, .long 0, .int 0, .int 0, .int 0, .int 0, .int 0, .int 0])), (zm_y3, .inl (zm_kA34, 5, .inl (fun _ => 0))), (zm_y4, .inl (zm_kA35, 5, .inl (fun _ => 0))), (zm_y13, .inl (zm_kA36, 30, .inl (fun _ => 0))), (zm_y14, .inl (zm_kA37, 30, .inl (fun _ => 0))), (zm_y15, .inl (zm_kA38, 30, .inl (fun _ => 0)))]) [0, 1, 2, 3, 4, 5] (by decide) rfl
    have hKc := hK.sub (tys' := [(zm_kA34, .int), (zm_kA35, .int), (zm_kA36, .int), (zm_kA37, .int), (zm_kA38, .int)]) [6, 7, 8, 9, 10] rfl
    have hFc := va_free (wc := [(zm, .inr (12, [.int 0, .ref zm_y0, .int 0, .int 0, .int 0, .int 0, .ref zm_y1, .ref zm_y2, .ref zm_y3, .ref zm_y4, .ref zm_y5, .ref zm_y6, .ref zm_y7, .int 0, .int 0, .ref zm_y8, .ref zm_y9, .int 0, .int 0, .int 0, .int 0, .ref zm_y10, .ref zm_y11, .int 0, .int 0, .int 0, .int 0, .int 0, .ref zm_y12, .ref zm_y13, .ref zm_y14, .ref zm_y15, .int 0, .ref zm_y16, .ref zm_y17, .ref zm_y18, .int (-1), .int (-1), .int (-1), .int 0, .int 0, .int 0, .ref zm_y19, .ref zm_y20, .int 0, .ref zm_y21, .ref zm_y22, .ref zm_y23, .ref zm_y24, .ref zm_y25, .int 0, .ref zm_y26, .ref zm_y27, .ref zm_y28, .int 0, .int 0, .int 0, .ref zm_y29, .ref zm_y30, .ref zm_y31, .ref zm_y32, .int 0, .int 0, .long 0, .int 0, .int 0, .int 0, .int 0, .int 0, .int 0])), (zm_y3, .inl (zm_kA34, 5, .inl (fun _ => 0))), (zm_y4, .inl (zm_kA35, 5, .inl (fun _ => 0))), (zm_y13, .inl (zm_kA36, 30, .inl (fun _ => 0))), (zm_y14, .inl (zm_kA37, 30, .inl (fun _ => 0))), (zm_y15, .inl (zm_kA38, 30, .inl (fun _ => 0)))]) hD hS hA [0, 1, 2, 3, 4, 5] rfl
    refine va_calli (va_runV (As := [.int x_2]) (rest := [.int (-2)]) ⟨hx, hb, hml, hown, hts⟩ (zk_X12_fault_t l dC dI (zm) (x_2) (zm_y0) (zm_y1) (zm_y2) (zm_y3) (zm_y4) (zm_y5) (zm_y6) (zm_y7) (zm_y8) (zm_y9) (zm_y10) (zm_y11) (zm_y12) (zm_y13) (zm_y14) (zm_y15) (zm_y16) (zm_y17) (zm_y18) (zm_y19) (zm_y20) (zm_y21) (zm_y22) (zm_y23) (zm_y24) (zm_y25) (zm_y26) (zm_y27) (zm_y28) (zm_y29) (zm_y30) (zm_y31) (zm_y32) (zm_kA34) (fun _ => 0) (zm_kA35) (zm_kA36) (zm_kA37) (zm_kA38) H.size) (cwV 1 hts gL_law_X12_fault rfl rfl rfl (by decide +kernel) ⟨Nat.le_of_ble_eq_true rfl, Nat.le_of_ble_eq_true rfl⟩) ⟨zw_blind, va_recv hK hP (ci := 12) (q0 := 0) rfl rfl, fun U hU hW => ⟨rfl, zw_P.of hPc hKc hDc hN U hU hW⟩⟩ rfl rfl hl.1 rfl (lv_room (Nat.le_of_ble_eq_true rfl)) dL_law_279 ⟨Nat.le_of_ble_eq_true rfl, Nat.le_of_ble_eq_true rfl⟩) hS (fun q _ h => hFc q h) hFc (fun r_11 u t H1 locs ht hvm hw hB hz1 hk1 hS => ?_)
    obtain ⟨hP1, hK1, hD1⟩ := hB
    rw [ht] at hP1
    obtain ⟨hP, hD⟩ := va_join (wr := []) (w1 := []) hP hD [0, 1, 2, 3, 4, 5] [] rfl rfl (by decide) (by decide) hk1 hFc hP1 hD1
    generalize H1 = H at hP hS ⊢
    have hP : va_P (dC, dI) classes [] H := hP
    have hD : va_D (fun q : Nat => s.heap.size ≤ q) [] := hD
    rcases hw with ⟨c_12, c_13, c_14, rfl⟩ | ⟨c_15, c_16, c_17, rfl⟩ | ⟨c_18, c_19, rfl⟩ | ⟨c_20, rfl⟩
    · skip
      refine lv_icmp_eq (tgt := 1170) hx hb dL_law_282 (by decide) (fun _ => ?_) (fun c9 => absurd (by decide) c9)
      refine lv_iinc (v := 6) (lv' := [(4, .int 6), (0, .ref b), (1, .ref zx), (2, .ref zm), (3, .ref zo)]) hx hb dL_law_1170 hl (k := 4) rfl (by decide) (by decide) rfl (fun ls hl => ?_)
      refine lv_goto (tgt := 23) hx hb dL_law_1173 (by decide) ?_
      refine lv_iload hx hb dL_law_23 (lv_at hl 0 rfl) ?_
      refine lv_aload_n hx hb dL_law_25 rfl (lv_at hl 1 rfl) ?_
      refine va_slen hx hb hX hbl hbA hS dL_law_26 ?_
      refine lv_topi (fun x_21 ex_21 => ?_)
      have ex_21 : x_21 = 6 := ex_21.trans (by decide)
      subst ex_21
      refine lv_bipush (v := 6) hx hb dL_law_27 (by decide) ?_
      refine lv_isub hx hb dL_law_29 ?_
      refine lv_topi (fun x_22 ex_22 => ?_)
      have ex_22 : x_22 = 0 := ex_22.trans (by decide)
      subst ex_22
      refine lv_icmp_gt (tgt := 1176) hx hb dL_law_30 (by decide) (fun _ => ?_) (fun c9 => absurd (by decide) c9)
      refine lv_iconst (v := 1) hx hb dL_law_1176 (by decide) ?_
      refine va_forget (fun q hq => hS.2.2 q hq) ?_
      refine W.widen (k := 600002) (n := 7302232) (Nat.le_of_ble_eq_true rfl) (Nat.le_of_ble_eq_true rfl) ?_
      exact lw_ret hx hb hr hlocks dL_law_1177
    · skip
      have d_c_4 := zz_lt.mp c_4
      have d_c_15 := (not_congr zz_eq).mp c_15
      have d_c_16 := (not_congr zz_eq).mp c_16
      have d_c_17 := zz_eq.mp c_17
      have ez_0 : (0 : Int32).toInt = 0 := by decide
      have ez_1 : (1 : Int32).toInt = 1 := by decide
      have ez_2 : (2 : Int32).toInt = 2 := by decide
      exact absurd (show False by omega) id
    · skip
      have d_c_4 := zz_lt.mp c_4
      have d_c_18 := (not_congr zz_eq).mp c_18
      have d_c_19 := zz_eq.mp c_19
      have ez_0 : (0 : Int32).toInt = 0 := by decide
      have ez_1 : (1 : Int32).toInt = 1 := by decide
      exact absurd (show False by omega) id
    · skip
      have d_c_4 := zz_lt.mp c_4
      have d_c_20 := zz_eq.mp c_20
      have ez_0 : (0 : Int32).toInt = 0 := by decide
      exact absurd (show False by omega) id
  · skip
    refine lv_aload_n hx hb dL_law_272 rfl (lv_at hl 2 rfl) ?_
    refine lv_aload_n hx hb dL_law_273 rfl (lv_at hl 0 rfl) ?_
    refine lv_iload hx hb dL_law_274 (lv_at hl 4 rfl) ?_
    refine lv_iconst (v := 1) hx hb dL_law_276 (by decide) ?_
    refine lv_iadd hx hb dL_law_277 ?_
    refine lv_topi (fun x_23 ex_23 => ?_)
    have ex_23 : x_23 = 1 := ex_23.trans (by decide)
    subst ex_23
    refine va_sld hx hb hX hbl hbA hS (vp_in_iff.mpr ⟨by decide, by decide⟩) dL_law_278 ?_
    refine lv_topi (fun x_24 ex_24 => ?_)
    have ex_24 : x_2 = x_24 := ex_2.trans ex_24.symm
    subst ex_24
    have hPc := hP.sub (ws' := [(zm, .inr (12, [.int 0, .ref zm_y0, .int 0, .int 0, .int 0, .int 0, .ref zm_y1, .ref zm_y2, .ref zm_y3, .ref zm_y4, .ref zm_y5, .ref zm_y6, .ref zm_y7, .int 0, .int 0, .ref zm_y8, .ref zm_y9, .int 0, .int 0, .int 0, .int 0, .ref zm_y10, .ref zm_y11, .int 0, .int 0, .int 0, .int 0, .int 0, .ref zm_y12, .ref zm_y13, .ref zm_y14, .ref zm_y15, .int 0, .ref zm_y16, .ref zm_y17, .ref zm_y18, .int (-1), .int (-1), .int (-1), .int 0, .int 0, .int 0, .ref zm_y19, .ref zm_y20, .int 0, .ref zm_y21, .ref zm_y22, .ref zm_y23, .ref zm_y24, .ref zm_y25, .int 0, .ref zm_y26, .ref zm_y27, .ref zm_y28, .int 0, .int 0, .int 0, .ref zm_y29, .ref zm_y30, .ref zm_y31, .ref zm_y32, .int 0, .int 0, .long 0, .int 0, .int 0, .int 0, .int 0, .int 0, .int 0])), (zm_y3, .inl (zm_kA34, 5, .inl (fun _ => 0))), (zm_y4, .inl (zm_kA35, 5, .inl (fun _ => 0))), (zm_y13, .inl (zm_kA36, 30, .inl (fun _ => 0))), (zm_y14, .inl (zm_kA37, 30, .inl (fun _ => 0))), (zm_y15, .inl (zm_kA38, 30, .inl (fun _ => 0)))]) [0, 1, 2, 3, 4, 5] rfl
    have hDc := hD.sub (ws' := [(zm, .inr (12, [.int 0, .ref zm_y0, .int 0, .int 0, .int 0, .int 0, .ref zm_y1, .ref zm_y2, .ref zm_y3, .ref zm_y4, .ref zm_y5, .ref zm_y6, .ref zm_y7, .int 0, .int 0, .ref zm_y8, .ref zm_y9, .int 0, .int 0, .int 0, .int 0, .ref zm_y10, .ref zm_y11, .int 0, .int 0, .int 0, .int 0, .int 0, .ref zm_y12, .ref zm_y13, .ref zm_y14, .ref zm_y15, .int 0, .ref zm_y16, .ref zm_y17, .ref zm_y18, .int (-1), .int (-1), .int (-1), .int 0, .int 0, .int 0, .ref zm_y19, .ref zm_y20, .int 0, .ref zm_y21, .ref zm_y22, .ref zm_y23, .ref zm_y24, .ref zm_y25, .int 0, .ref zm_y26, .ref zm_y27, .ref zm_y28, .int 0, .int 0, .int 0, .ref zm_y29, .ref zm_y30, .ref zm_y31, .ref zm_y32, .int 0, .int 0, .long 0, .int 0, .int 0, .int 0, .int 0, .int 0, .int 0])), (zm_y3, .inl (zm_kA34, 5, .inl (fun _ => 0))), (zm_y4, .inl (zm_kA35, 5, .inl (fun _ => 0))), (zm_y13, .inl (zm_kA36, 30, .inl (fun _ => 0))), (zm_y14, .inl (zm_kA37, 30, .inl (fun _ => 0))), (zm_y15, .inl (zm_kA38, 30, .inl (fun _ => 0)))]) [0, 1, 2, 3, 4, 5] (by decide) rfl
    have hKc := hK.sub (tys' := [(zm_kA34, .int), (zm_kA35, .int), (zm_kA36, .int), (zm_kA37, .int), (zm_kA38, .int)]) [6, 7, 8, 9, 10] rfl
    have hFc := va_free (wc := [(zm, .inr (12, [.int 0, .ref zm_y0, .int 0, .int 0, .int 0, .int 0, .ref zm_y1, .ref zm_y2, .ref zm_y3, .ref zm_y4, .ref zm_y5, .ref zm_y6, .ref zm_y7, .int 0, .int 0, .ref zm_y8, .ref zm_y9, .int 0, .int 0, .int 0, .int 0, .ref zm_y10, .ref zm_y11, .int 0, .int 0, .int 0, .int 0, .int 0, .ref zm_y12, .ref zm_y13, .ref zm_y14, .ref zm_y15, .int 0, .ref zm_y16, .ref zm_y17, .ref zm_y18, .int (-1), .int (-1), .int (-1), .int 0, .int 0, .int 0, .ref zm_y19, .ref zm_y20, .int 0, .ref zm_y21, .ref zm_y22, .ref zm_y23, .ref zm_y24, .ref zm_y25, .int 0, .ref zm_y26, .ref zm_y27, .ref zm_y28, .int 0, .int 0, .int 0, .ref zm_y29, .ref zm_y30, .ref zm_y31, .ref zm_y32, .int 0, .int 0, .long 0, .int 0, .int 0, .int 0, .int 0, .int 0, .int 0])), (zm_y3, .inl (zm_kA34, 5, .inl (fun _ => 0))), (zm_y4, .inl (zm_kA35, 5, .inl (fun _ => 0))), (zm_y13, .inl (zm_kA36, 30, .inl (fun _ => 0))), (zm_y14, .inl (zm_kA37, 30, .inl (fun _ => 0))), (zm_y15, .inl (zm_kA38, 30, .inl (fun _ => 0)))]) hD hS hA [0, 1, 2, 3, 4, 5] rfl
    refine va_calli (va_runV (As := [.int x_2]) (rest := [.int 0]) ⟨hx, hb, hml, hown, hts⟩ (zk_X12_fault_t l dC dI (zm) (x_2) (zm_y0) (zm_y1) (zm_y2) (zm_y3) (zm_y4) (zm_y5) (zm_y6) (zm_y7) (zm_y8) (zm_y9) (zm_y10) (zm_y11) (zm_y12) (zm_y13) (zm_y14) (zm_y15) (zm_y16) (zm_y17) (zm_y18) (zm_y19) (zm_y20) (zm_y21) (zm_y22) (zm_y23) (zm_y24) (zm_y25) (zm_y26) (zm_y27) (zm_y28) (zm_y29) (zm_y30) (zm_y31) (zm_y32) (zm_kA34) (fun _ => 0) (zm_kA35) (zm_kA36) (zm_kA37) (zm_kA38) H.size) (cwV 1 hts gL_law_X12_fault rfl rfl rfl (by decide +kernel) ⟨Nat.le_of_ble_eq_true rfl, Nat.le_of_ble_eq_true rfl⟩) ⟨zw_blind, va_recv hK hP (ci := 12) (q0 := 0) rfl rfl, fun U hU hW => ⟨rfl, zw_P.of hPc hKc hDc hN U hU hW⟩⟩ rfl rfl hl.1 rfl (lv_room (Nat.le_of_ble_eq_true rfl)) dL_law_279 ⟨Nat.le_of_ble_eq_true rfl, Nat.le_of_ble_eq_true rfl⟩) hS (fun q _ h => hFc q h) hFc (fun r_25 u t H1 locs ht hvm hw hB hz1 hk1 hS => ?_)
    obtain ⟨hP1, hK1, hD1⟩ := hB
    rw [ht] at hP1
    obtain ⟨hP, hD⟩ := va_join (wr := []) (w1 := []) hP hD [0, 1, 2, 3, 4, 5] [] rfl rfl (by decide) (by decide) hk1 hFc hP1 hD1
    generalize H1 = H at hP hS ⊢
    have hP : va_P (dC, dI) classes [] H := hP
    have hD : va_D (fun q : Nat => s.heap.size ≤ q) [] := hD
    rcases hw with ⟨c_26, c_27, c_28, rfl⟩ | ⟨c_29, c_30, c_31, rfl⟩ | ⟨c_32, c_33, rfl⟩ | ⟨c_34, rfl⟩
    · skip
      have d_c_5 := (not_congr zz_lt).mp c_5
      have d_c_6 := zz_le.mp c_6
      have d_c_26 := (not_congr zz_eq).mp c_26
      have d_c_27 := (not_congr zz_eq).mp c_27
      have d_c_28 := (not_congr zz_eq).mp c_28
      have ez_0 : (0 : Int32).toInt = 0 := by decide
      have ez_1 : (2 : Int32).toInt = 2 := by decide
      have ez_2 : (1 : Int32).toInt = 1 := by decide
      exact absurd (show False by omega) id
    · skip
      refine lv_icmp_eq (tgt := 1170) hx hb dL_law_282 (by decide) (fun _ => ?_) (fun c9 => absurd (by decide) c9)
      refine lv_iinc (v := 6) (lv' := [(4, .int 6), (0, .ref b), (1, .ref zx), (2, .ref zm), (3, .ref zo)]) hx hb dL_law_1170 hl (k := 4) rfl (by decide) (by decide) rfl (fun ls hl => ?_)
      refine lv_goto (tgt := 23) hx hb dL_law_1173 (by decide) ?_
      refine lv_iload hx hb dL_law_23 (lv_at hl 0 rfl) ?_
      refine lv_aload_n hx hb dL_law_25 rfl (lv_at hl 1 rfl) ?_
      refine va_slen hx hb hX hbl hbA hS dL_law_26 ?_
      refine lv_topi (fun x_35 ex_35 => ?_)
      have ex_35 : x_35 = 6 := ex_35.trans (by decide)
      subst ex_35
      refine lv_bipush (v := 6) hx hb dL_law_27 (by decide) ?_
      refine lv_isub hx hb dL_law_29 ?_
      refine lv_topi (fun x_36 ex_36 => ?_)
      have ex_36 : x_36 = 0 := ex_36.trans (by decide)
      subst ex_36
      refine lv_icmp_gt (tgt := 1176) hx hb dL_law_30 (by decide) (fun _ => ?_) (fun c9 => absurd (by decide) c9)
      refine lv_iconst (v := 1) hx hb dL_law_1176 (by decide) ?_
      refine va_forget (fun q hq => hS.2.2 q hq) ?_
      refine W.widen (k := 600002) (n := 7302232) (Nat.le_of_ble_eq_true rfl) (Nat.le_of_ble_eq_true rfl) ?_
      exact lw_ret hx hb hr hlocks dL_law_1177
    · skip
      refine lv_icmp_eq (tgt := 1170) hx hb dL_law_282 (by decide) (fun _ => ?_) (fun c9 => absurd (by decide) c9)
      refine lv_iinc (v := 6) (lv' := [(4, .int 6), (0, .ref b), (1, .ref zx), (2, .ref zm), (3, .ref zo)]) hx hb dL_law_1170 hl (k := 4) rfl (by decide) (by decide) rfl (fun ls hl => ?_)
      refine lv_goto (tgt := 23) hx hb dL_law_1173 (by decide) ?_
      refine lv_iload hx hb dL_law_23 (lv_at hl 0 rfl) ?_
      refine lv_aload_n hx hb dL_law_25 rfl (lv_at hl 1 rfl) ?_
      refine va_slen hx hb hX hbl hbA hS dL_law_26 ?_
      refine lv_topi (fun x_37 ex_37 => ?_)
      have ex_37 : x_37 = 6 := ex_37.trans (by decide)
      subst ex_37
      refine lv_bipush (v := 6) hx hb dL_law_27 (by decide) ?_
      refine lv_isub hx hb dL_law_29 ?_
      refine lv_topi (fun x_38 ex_38 => ?_)
      have ex_38 : x_38 = 0 := ex_38.trans (by decide)
      subst ex_38
      refine lv_icmp_gt (tgt := 1176) hx hb dL_law_30 (by decide) (fun _ => ?_) (fun c9 => absurd (by decide) c9)
      refine lv_iconst (v := 1) hx hb dL_law_1176 (by decide) ?_
      refine va_forget (fun q hq => hS.2.2 q hq) ?_
      refine W.widen (k := 600002) (n := 7302232) (Nat.le_of_ble_eq_true rfl) (Nat.le_of_ble_eq_true rfl) ?_
      exact lw_ret hx hb hr hlocks dL_law_1177
    · skip
      refine lv_icmp_eq (tgt := 1170) hx hb dL_law_282 (by decide) (fun _ => ?_) (fun c9 => absurd (by decide) c9)
      refine lv_iinc (v := 6) (lv' := [(4, .int 6), (0, .ref b), (1, .ref zx), (2, .ref zm), (3, .ref zo)]) hx hb dL_law_1170 hl (k := 4) rfl (by decide) (by decide) rfl (fun ls hl => ?_)
      refine lv_goto (tgt := 23) hx hb dL_law_1173 (by decide) ?_
      refine lv_iload hx hb dL_law_23 (lv_at hl 0 rfl) ?_
      refine lv_aload_n hx hb dL_law_25 rfl (lv_at hl 1 rfl) ?_
      refine va_slen hx hb hX hbl hbA hS dL_law_26 ?_
      refine lv_topi (fun x_39 ex_39 => ?_)
      have ex_39 : x_39 = 6 := ex_39.trans (by decide)
      subst ex_39
      refine lv_bipush (v := 6) hx hb dL_law_27 (by decide) ?_
      refine lv_isub hx hb dL_law_29 ?_
      refine lv_topi (fun x_40 ex_40 => ?_)
      have ex_40 : x_40 = 0 := ex_40.trans (by decide)
      subst ex_40
      refine lv_icmp_gt (tgt := 1176) hx hb dL_law_30 (by decide) (fun _ => ?_) (fun c9 => absurd (by decide) c9)
      refine lv_iconst (v := 1) hx hb dL_law_1176 (by decide) ?_
      refine va_forget (fun q hq => hS.2.2 q hq) ?_
      refine W.widen (k := 600002) (n := 7302232) (Nat.le_of_ble_eq_true rfl) (Nat.le_of_ble_eq_true rfl) ?_
      exact lw_ret hx hb hr hlocks dL_law_1177
  · skip
    refine lv_aload_n hx hb dL_law_272 rfl (lv_at hl 2 rfl) ?_
    refine lv_aload_n hx hb dL_law_273 rfl (lv_at hl 0 rfl) ?_
    refine lv_iload hx hb dL_law_274 (lv_at hl 4 rfl) ?_
    refine lv_iconst (v := 1) hx hb dL_law_276 (by decide) ?_
    refine lv_iadd hx hb dL_law_277 ?_
    refine lv_topi (fun x_41 ex_41 => ?_)
    have ex_41 : x_41 = 1 := ex_41.trans (by decide)
    subst ex_41
    refine va_sld hx hb hX hbl hbA hS (vp_in_iff.mpr ⟨by decide, by decide⟩) dL_law_278 ?_
    refine lv_topi (fun x_42 ex_42 => ?_)
    have ex_42 : x_2 = x_42 := ex_2.trans ex_42.symm
    subst ex_42
    have hPc := hP.sub (ws' := [(zm, .inr (12, [.int 0, .ref zm_y0, .int 0, .int 0, .int 0, .int 0, .ref zm_y1, .ref zm_y2, .ref zm_y3, .ref zm_y4, .ref zm_y5, .ref zm_y6, .ref zm_y7, .int 0, .int 0, .ref zm_y8, .ref zm_y9, .int 0, .int 0, .int 0, .int 0, .ref zm_y10, .ref zm_y11, .int 0, .int 0, .int 0, .int 0, .int 0, .ref zm_y12, .ref zm_y13, .ref zm_y14, .ref zm_y15, .int 0, .ref zm_y16, .ref zm_y17, .ref zm_y18, .int (-1), .int (-1), .int (-1), .int 0, .int 0, .int 0, .ref zm_y19, .ref zm_y20, .int 0, .ref zm_y21, .ref zm_y22, .ref zm_y23, .ref zm_y24, .ref zm_y25, .int 0, .ref zm_y26, .ref zm_y27, .ref zm_y28, .int 0, .int 0, .int 0, .ref zm_y29, .ref zm_y30, .ref zm_y31, .ref zm_y32, .int 0, .int 0, .long 0, .int 0, .int 0, .int 0, .int 0, .int 0, .int 0])), (zm_y3, .inl (zm_kA34, 5, .inl (fun _ => 0))), (zm_y4, .inl (zm_kA35, 5, .inl (fun _ => 0))), (zm_y13, .inl (zm_kA36, 30, .inl (fun _ => 0))), (zm_y14, .inl (zm_kA37, 30, .inl (fun _ => 0))), (zm_y15, .inl (zm_kA38, 30, .inl (fun _ => 0)))]) [0, 1, 2, 3, 4, 5] rfl
    have hDc := hD.sub (ws' := [(zm, .inr (12, [.int 0, .ref zm_y0, .int 0, .int 0, .int 0, .int 0, .ref zm_y1, .ref zm_y2, .ref zm_y3, .ref zm_y4, .ref zm_y5, .ref zm_y6, .ref zm_y7, .int 0, .int 0, .ref zm_y8, .ref zm_y9, .int 0, .int 0, .int 0, .int 0, .ref zm_y10, .ref zm_y11, .int 0, .int 0, .int 0, .int 0, .int 0, .ref zm_y12, .ref zm_y13, .ref zm_y14, .ref zm_y15, .int 0, .ref zm_y16, .ref zm_y17, .ref zm_y18, .int (-1), .int (-1), .int (-1), .int 0, .int 0, .int 0, .ref zm_y19, .ref zm_y20, .int 0, .ref zm_y21, .ref zm_y22, .ref zm_y23, .ref zm_y24, .ref zm_y25, .int 0, .ref zm_y26, .ref zm_y27, .ref zm_y28, .int 0, .int 0, .int 0, .ref zm_y29, .ref zm_y30, .ref zm_y31, .ref zm_y32, .int 0, .int 0, .long 0, .int 0, .int 0, .int 0, .int 0, .int 0, .int 0])), (zm_y3, .inl (zm_kA34, 5, .inl (fun _ => 0))), (zm_y4, .inl (zm_kA35, 5, .inl (fun _ => 0))), (zm_y13, .inl (zm_kA36, 30, .inl (fun _ => 0))), (zm_y14, .inl (zm_kA37, 30, .inl (fun _ => 0))), (zm_y15, .inl (zm_kA38, 30, .inl (fun _ => 0)))]) [0, 1, 2, 3, 4, 5] (by decide) rfl
    have hKc := hK.sub (tys' := [(zm_kA34, .int), (zm_kA35, .int), (zm_kA36, .int), (zm_kA37, .int), (zm_kA38, .int)]) [6, 7, 8, 9, 10] rfl
    have hFc := va_free (wc := [(zm, .inr (12, [.int 0, .ref zm_y0, .int 0, .int 0, .int 0, .int 0, .ref zm_y1, .ref zm_y2, .ref zm_y3, .ref zm_y4, .ref zm_y5, .ref zm_y6, .ref zm_y7, .int 0, .int 0, .ref zm_y8, .ref zm_y9, .int 0, .int 0, .int 0, .int 0, .ref zm_y10, .ref zm_y11, .int 0, .int 0, .int 0, .int 0, .int 0, .ref zm_y12, .ref zm_y13, .ref zm_y14, .ref zm_y15, .int 0, .ref zm_y16, .ref zm_y17, .ref zm_y18, .int (-1), .int (-1), .int (-1), .int 0, .int 0, .int 0, .ref zm_y19, .ref zm_y20, .int 0, .ref zm_y21, .ref zm_y22, .ref zm_y23, .ref zm_y24, .ref zm_y25, .int 0, .ref zm_y26, .ref zm_y27, .ref zm_y28, .int 0, .int 0, .int 0, .ref zm_y29, .ref zm_y30, .ref zm_y31, .ref zm_y32, .int 0, .int 0, .long 0, .int 0, .int 0, .int 0, .int 0, .int 0, .int 0])), (zm_y3, .inl (zm_kA34, 5, .inl (fun _ => 0))), (zm_y4, .inl (zm_kA35, 5, .inl (fun _ => 0))), (zm_y13, .inl (zm_kA36, 30, .inl (fun _ => 0))), (zm_y14, .inl (zm_kA37, 30, .inl (fun _ => 0))), (zm_y15, .inl (zm_kA38, 30, .inl (fun _ => 0)))]) hD hS hA [0, 1, 2, 3, 4, 5] rfl
    refine va_calli (va_runV (As := [.int x_2]) (rest := [.int (-2)]) ⟨hx, hb, hml, hown, hts⟩ (zk_X12_fault_t l dC dI (zm) (x_2) (zm_y0) (zm_y1) (zm_y2) (zm_y3) (zm_y4) (zm_y5) (zm_y6) (zm_y7) (zm_y8) (zm_y9) (zm_y10) (zm_y11) (zm_y12) (zm_y13) (zm_y14) (zm_y15) (zm_y16) (zm_y17) (zm_y18) (zm_y19) (zm_y20) (zm_y21) (zm_y22) (zm_y23) (zm_y24) (zm_y25) (zm_y26) (zm_y27) (zm_y28) (zm_y29) (zm_y30) (zm_y31) (zm_y32) (zm_kA34) (fun _ => 0) (zm_kA35) (zm_kA36) (zm_kA37) (zm_kA38) H.size) (cwV 1 hts gL_law_X12_fault rfl rfl rfl (by decide +kernel) ⟨Nat.le_of_ble_eq_true rfl, Nat.le_of_ble_eq_true rfl⟩) ⟨zw_blind, va_recv hK hP (ci := 12) (q0 := 0) rfl rfl, fun U hU hW => ⟨rfl, zw_P.of hPc hKc hDc hN U hU hW⟩⟩ rfl rfl hl.1 rfl (lv_room (Nat.le_of_ble_eq_true rfl)) dL_law_279 ⟨Nat.le_of_ble_eq_true rfl, Nat.le_of_ble_eq_true rfl⟩) hS (fun q _ h => hFc q h) hFc (fun r_43 u t H1 locs ht hvm hw hB hz1 hk1 hS => ?_)
    obtain ⟨hP1, hK1, hD1⟩ := hB
    rw [ht] at hP1
    obtain ⟨hP, hD⟩ := va_join (wr := []) (w1 := []) hP hD [0, 1, 2, 3, 4, 5] [] rfl rfl (by decide) (by decide) hk1 hFc hP1 hD1
    generalize H1 = H at hP hS ⊢
    have hP : va_P (dC, dI) classes [] H := hP
    have hD : va_D (fun q : Nat => s.heap.size ≤ q) [] := hD
    rcases hw with ⟨c_44, c_45, c_46, rfl⟩ | ⟨c_47, c_48, c_49, rfl⟩ | ⟨c_50, c_51, rfl⟩ | ⟨c_52, rfl⟩
    · skip
      refine lv_icmp_eq (tgt := 1170) hx hb dL_law_282 (by decide) (fun _ => ?_) (fun c9 => absurd (by decide) c9)
      refine lv_iinc (v := 6) (lv' := [(4, .int 6), (0, .ref b), (1, .ref zx), (2, .ref zm), (3, .ref zo)]) hx hb dL_law_1170 hl (k := 4) rfl (by decide) (by decide) rfl (fun ls hl => ?_)
      refine lv_goto (tgt := 23) hx hb dL_law_1173 (by decide) ?_
      refine lv_iload hx hb dL_law_23 (lv_at hl 0 rfl) ?_
      refine lv_aload_n hx hb dL_law_25 rfl (lv_at hl 1 rfl) ?_
      refine va_slen hx hb hX hbl hbA hS dL_law_26 ?_
      refine lv_topi (fun x_53 ex_53 => ?_)
      have ex_53 : x_53 = 6 := ex_53.trans (by decide)
      subst ex_53
      refine lv_bipush (v := 6) hx hb dL_law_27 (by decide) ?_
      refine lv_isub hx hb dL_law_29 ?_
      refine lv_topi (fun x_54 ex_54 => ?_)
      have ex_54 : x_54 = 0 := ex_54.trans (by decide)
      subst ex_54
      refine lv_icmp_gt (tgt := 1176) hx hb dL_law_30 (by decide) (fun _ => ?_) (fun c9 => absurd (by decide) c9)
      refine lv_iconst (v := 1) hx hb dL_law_1176 (by decide) ?_
      refine va_forget (fun q hq => hS.2.2 q hq) ?_
      refine W.widen (k := 600002) (n := 7302232) (Nat.le_of_ble_eq_true rfl) (Nat.le_of_ble_eq_true rfl) ?_
      exact lw_ret hx hb hr hlocks dL_law_1177
    · skip
      have d_c_7 := (not_congr zz_lt).mp c_7
      have d_c_8 := (not_congr zz_le).mp c_8
      have d_c_47 := (not_congr zz_eq).mp c_47
      have d_c_48 := (not_congr zz_eq).mp c_48
      have d_c_49 := zz_eq.mp c_49
      have ez_0 : (0 : Int32).toInt = 0 := by decide
      have ez_1 : (2 : Int32).toInt = 2 := by decide
      have ez_2 : (1 : Int32).toInt = 1 := by decide
      exact absurd (show False by omega) id
    · skip
      have d_c_7 := (not_congr zz_lt).mp c_7
      have d_c_8 := (not_congr zz_le).mp c_8
      have d_c_50 := (not_congr zz_eq).mp c_50
      have d_c_51 := zz_eq.mp c_51
      have ez_0 : (0 : Int32).toInt = 0 := by decide
      have ez_1 : (2 : Int32).toInt = 2 := by decide
      have ez_2 : (1 : Int32).toInt = 1 := by decide
      exact absurd (show False by omega) id
    · skip
      have d_c_7 := (not_congr zz_lt).mp c_7
      have d_c_8 := (not_congr zz_le).mp c_8
      have d_c_52 := zz_eq.mp c_52
      have ez_0 : (0 : Int32).toInt = 0 := by decide
      have ez_1 : (2 : Int32).toInt = 2 := by decide
      exact absurd (show False by omega) id
set_option maxHeartbeats 8000000 in
set_option maxRecDepth 100000 in
theorem zl_3 {p : Program} {e : Env} {s : State} {m : MethodId} {below : List Frame} {meth : Method} {c : Code} (l : Launch) {b : Nat} {xs : Nat → Int32} (C0 : lw_At p s m meth c b 6 xs) (dC : Nat → ClassId) (dI : Nat → Nat → Nat) (zx : Nat) (zx_y0 : Nat) (zx_y1 : Nat) (zx_y2 : Nat) (zx_y3 : Nat) (zx_y4 : Nat) (zx_y5 : Nat) (zx_y6 : Nat) (zx_y7 : Nat) (zx_y8 : Nat) (zx_y9 : Nat) (zx_y10 : Nat) (zx_y11 : Nat) (zx_y12 : Nat) (zx_y13 : Nat) (zx_y14 : Nat) (zx_y22 : Nat) (zx_y23 : Nat) (zx_kA24 : ClassId) (zx_kA25 : ClassId) (zx_y26 : Nat) (zx_y27 : Nat) (zx_kA28 : ClassId) (zx_y29 : Nat) (zx_y30 : Nat) (zx_y31 : Nat) (zx_kA32 : ClassId) (zx_kA33 : ClassId) (zx_kA34 : ClassId) (zm : Nat) (zm_y0 : Nat) (zm_y1 : Nat) (zm_y2 : Nat) (zm_y3 : Nat) (zm_y4 : Nat) (zm_y5 : Nat) (zm_y6 : Nat) (zm_y7 : Nat) (zm_y8 : Nat) (zm_y9 : Nat) (zm_y10 : Nat) (zm_y11 : Nat) (zm_y12 : Nat) (zm_y13 : Nat) (zm_y14 : Nat) (zm_y15 : Nat) (zm_y16 : Nat) (zm_y17 : Nat) (zm_y18 : Nat) (zm_y19 : Nat) (zm_y20 : Nat) (zm_y21 : Nat) (zm_y22 : Nat) (zm_y23 : Nat) (zm_y24 : Nat) (zm_y25 : Nat) (zm_y26 : Nat) (zm_y27 : Nat) (zm_y28 : Nat) (zm_y29 : Nat) (zm_y30 : Nat) (zm_y31 : Nat) (zm_y32 : Nat) (zm_kA34 : ClassId) (zm_kA35 : ClassId) (zo : Nat) {H : Heap} {locs : List Loc} (hN : zw_N s) (hK : va_K (dC, dI) classes [(zx_kA24, .int), (zx_kA25, .int), (zx_kA28, .int), (zx_kA32, .int), (zx_kA33, .int), (zx_kA34, .int), (zm_kA34, .int), (zm_kA35, .int)] s) (hP : va_P (dC, dI) classes [(zx, .inr (11, [.ref zx_y0, .ref zx_y1, .ref zx_y2, .ref zx_y3, .ref zx_y4, .ref zx_y5, .ref zx_y6, .ref zx_y7, .ref zx_y8, .ref zx_y9, .ref zx_y10, .ref zx_y11, .ref zx_y12, .ref zx_y13, .int 0, .int 0])), (zx_y0, .inr (8, [.ref zx_y14, .int 0, .int 0, .int (-1)])), (zx_y10, .inr (0, [.ref zx_y22, .ref zx_y23, .int 0, .int 0, .int 0, .int 0, .int 0])), (zx_y22, .inl (zx_kA24, 9, .inl (fun _ => 0))), (zx_y23, .inl (zx_kA25, 2, .inl (fun _ => 0))), (zx_y11, .inr (1, [.ref zx_y26, .ref zx_y27, .int 0, .int 0])), (zx_y26, .inl (zx_kA28, 160, .inl (fun _ => 0))), (zx_y13, .inr (2, [.ref zx_y29, .ref zx_y30, .ref zx_y31, .int 0])), (zx_y29, .inl (zx_kA32, 30, .inl (fun _ => 0))), (zx_y30, .inl (zx_kA33, 30, .inl (fun _ => 0))), (zx_y31, .inl (zx_kA34, 30, .inl (fun _ => 0))), (zm, .inr (12, [.int 0, .ref zm_y0, .int 0, .int 0, .int 0, .int 0, .ref zm_y1, .ref zm_y2, .ref zm_y3, .ref zm_y4, .ref zm_y5, .ref zm_y6, .ref zm_y7, .int 0, .int 0, .ref zm_y8, .ref zm_y9, .int 0, .int 0, .int 0, .int 0, .ref zm_y10, .ref zm_y11, .int 0, .int 0, .int 0, .int 0, .int 0, .ref zm_y12, .ref zm_y13, .ref zm_y14, .ref zm_y15, .int 0, .ref zm_y16, .ref zm_y17, .ref zm_y18, .int (-1), .int (-1), .int (-1), .int 0, .int 0, .int 0, .ref zm_y19, .ref zm_y20, .int 0, .ref zm_y21, .ref zm_y22, .ref zm_y23, .ref zm_y24, .ref zm_y25, .int 0, .ref zm_y26, .ref zm_y27, .ref zm_y28, .int 0, .int 0, .int 0, .ref zm_y29, .ref zm_y30, .ref zm_y31, .ref zm_y32, .int 0, .int 0, .long 0, .int 0, .int 0, .int 0, .int 0, .int 0, .int 0])), (zm_y3, .inl (zm_kA34, 5, .inl (fun _ => 0))), (zm_y4, .inl (zm_kA35, 5, .inl (fun _ => 0)))] H) (hD : va_D (fun q : Nat => s.heap.size ≤ q) [(zx, .inr (11, [.ref zx_y0, .ref zx_y1, .ref zx_y2, .ref zx_y3, .ref zx_y4, .ref zx_y5, .ref zx_y6, .ref zx_y7, .ref zx_y8, .ref zx_y9, .ref zx_y10, .ref zx_y11, .ref zx_y12, .ref zx_y13, .int 0, .int 0])), (zx_y0, .inr (8, [.ref zx_y14, .int 0, .int 0, .int (-1)])), (zx_y10, .inr (0, [.ref zx_y22, .ref zx_y23, .int 0, .int 0, .int 0, .int 0, .int 0])), (zx_y22, .inl (zx_kA24, 9, .inl (fun _ => 0))), (zx_y23, .inl (zx_kA25, 2, .inl (fun _ => 0))), (zx_y11, .inr (1, [.ref zx_y26, .ref zx_y27, .int 0, .int 0])), (zx_y26, .inl (zx_kA28, 160, .inl (fun _ => 0))), (zx_y13, .inr (2, [.ref zx_y29, .ref zx_y30, .ref zx_y31, .int 0])), (zx_y29, .inl (zx_kA32, 30, .inl (fun _ => 0))), (zx_y30, .inl (zx_kA33, 30, .inl (fun _ => 0))), (zx_y31, .inl (zx_kA34, 30, .inl (fun _ => 0))), (zm, .inr (12, [.int 0, .ref zm_y0, .int 0, .int 0, .int 0, .int 0, .ref zm_y1, .ref zm_y2, .ref zm_y3, .ref zm_y4, .ref zm_y5, .ref zm_y6, .ref zm_y7, .int 0, .int 0, .ref zm_y8, .ref zm_y9, .int 0, .int 0, .int 0, .int 0, .ref zm_y10, .ref zm_y11, .int 0, .int 0, .int 0, .int 0, .int 0, .ref zm_y12, .ref zm_y13, .ref zm_y14, .ref zm_y15, .int 0, .ref zm_y16, .ref zm_y17, .ref zm_y18, .int (-1), .int (-1), .int (-1), .int 0, .int 0, .int 0, .ref zm_y19, .ref zm_y20, .int 0, .ref zm_y21, .ref zm_y22, .ref zm_y23, .ref zm_y24, .ref zm_y25, .int 0, .ref zm_y26, .ref zm_y27, .ref zm_y28, .int 0, .int 0, .int 0, .ref zm_y29, .ref zm_y30, .ref zm_y31, .ref zm_y32, .int 0, .int 0, .long 0, .int 0, .int 0, .int 0, .int 0, .int 0, .int 0])), (zm_y3, .inl (zm_kA34, 5, .inl (fun _ => 0))), (zm_y4, .inl (zm_kA35, 5, .inl (fun _ => 0)))]) (hS : va_S (fun q : Nat => s.heap.size ≤ q) s.heap H locs) (ls : Array Slot) (hl : lv_has ls 7 [(0, .ref b), (1, .ref zx), (2, .ref zm), (3, .ref zo), (4, .int 0)]) : W p l e room_1 s m #[Value.ref b] below meth c H locs 99 952984 (lw_Z below #[Value.ref b] s) (F0 m 287 ls []) := by
  obtain ⟨hx, hb, hr, hml, hown, hts0, hX, hbl, hlocks, hgv⟩ := C0
  have hts : ∀ w ∈ wsL_law, w.before #[Value.ref b] s = true := fun w h => hts0 w (wsL_law_in w h)
  have hA : ∀ q : Nat, s.heap.size ≤ q → (fun q : Nat => s.heap.size ≤ q) q := fun _ h => h
  have hbA : ¬ (fun q : Nat => s.heap.size ≤ q) b := Nat.not_le.mpr hbl
  refine lv_aload_n hx hb dL_law_287 rfl (lv_at hl 1 rfl) ?_
  refine lv_aload_n hx hb dL_law_288 rfl (lv_at hl 0 rfl) ?_
  refine lv_iload hx hb dL_law_289 (lv_at hl 4 rfl) ?_
  refine lv_iconst (v := 1) hx hb dL_law_291 (by decide) ?_
  refine lv_iadd hx hb dL_law_292 ?_
  refine lv_topi (fun x_1 ex_1 => ?_)
  have ex_1 : x_1 = 1 := ex_1.trans (by decide)
  subst ex_1
  refine va_sld hx hb hX hbl hbA hS (vp_in_iff.mpr ⟨by decide, by decide⟩) dL_law_293 ?_
  refine lv_topi (fun x_2 ex_2 => ?_)
  have hPc := hP.sub (ws' := [(zx, .inr (11, [.ref zx_y0, .ref zx_y1, .ref zx_y2, .ref zx_y3, .ref zx_y4, .ref zx_y5, .ref zx_y6, .ref zx_y7, .ref zx_y8, .ref zx_y9, .ref zx_y10, .ref zx_y11, .ref zx_y12, .ref zx_y13, .int 0, .int 0])), (zx_y0, .inr (8, [.ref zx_y14, .int 0, .int 0, .int (-1)])), (zx_y10, .inr (0, [.ref zx_y22, .ref zx_y23, .int 0, .int 0, .int 0, .int 0, .int 0])), (zx_y22, .inl (zx_kA24, 9, .inl (fun _ => 0))), (zx_y23, .inl (zx_kA25, 2, .inl (fun _ => 0))), (zx_y11, .inr (1, [.ref zx_y26, .ref zx_y27, .int 0, .int 0])), (zx_y26, .inl (zx_kA28, 160, .inl (fun _ => 0))), (zx_y13, .inr (2, [.ref zx_y29, .ref zx_y30, .ref zx_y31, .int 0])), (zx_y29, .inl (zx_kA32, 30, .inl (fun _ => 0))), (zx_y30, .inl (zx_kA33, 30, .inl (fun _ => 0))), (zx_y31, .inl (zx_kA34, 30, .inl (fun _ => 0)))]) [0, 1, 2, 3, 4, 5, 6, 7, 8, 9, 10] rfl
  have hDc := hD.sub (ws' := [(zx, .inr (11, [.ref zx_y0, .ref zx_y1, .ref zx_y2, .ref zx_y3, .ref zx_y4, .ref zx_y5, .ref zx_y6, .ref zx_y7, .ref zx_y8, .ref zx_y9, .ref zx_y10, .ref zx_y11, .ref zx_y12, .ref zx_y13, .int 0, .int 0])), (zx_y0, .inr (8, [.ref zx_y14, .int 0, .int 0, .int (-1)])), (zx_y10, .inr (0, [.ref zx_y22, .ref zx_y23, .int 0, .int 0, .int 0, .int 0, .int 0])), (zx_y22, .inl (zx_kA24, 9, .inl (fun _ => 0))), (zx_y23, .inl (zx_kA25, 2, .inl (fun _ => 0))), (zx_y11, .inr (1, [.ref zx_y26, .ref zx_y27, .int 0, .int 0])), (zx_y26, .inl (zx_kA28, 160, .inl (fun _ => 0))), (zx_y13, .inr (2, [.ref zx_y29, .ref zx_y30, .ref zx_y31, .int 0])), (zx_y29, .inl (zx_kA32, 30, .inl (fun _ => 0))), (zx_y30, .inl (zx_kA33, 30, .inl (fun _ => 0))), (zx_y31, .inl (zx_kA34, 30, .inl (fun _ => 0)))]) [0, 1, 2, 3, 4, 5, 6, 7, 8, 9, 10] (by decide) rfl
  have hKc := hK.sub (tys' := [(zx_kA24, .int), (zx_kA25, .int), (zx_kA28, .int), (zx_kA32, .int), (zx_kA33, .int), (zx_kA34, .int)]) [0, 1, 2, 3, 4, 5] rfl
  have hFc := va_free (wc := [(zx, .inr (11, [.ref zx_y0, .ref zx_y1, .ref zx_y2, .ref zx_y3, .ref zx_y4, .ref zx_y5, .ref zx_y6, .ref zx_y7, .ref zx_y8, .ref zx_y9, .ref zx_y10, .ref zx_y11, .ref zx_y12, .ref zx_y13, .int 0, .int 0])), (zx_y0, .inr (8, [.ref zx_y14, .int 0, .int 0, .int (-1)])), (zx_y10, .inr (0, [.ref zx_y22, .ref zx_y23, .int 0, .int 0, .int 0, .int 0, .int 0])), (zx_y22, .inl (zx_kA24, 9, .inl (fun _ => 0))), (zx_y23, .inl (zx_kA25, 2, .inl (fun _ => 0))), (zx_y11, .inr (1, [.ref zx_y26, .ref zx_y27, .int 0, .int 0])), (zx_y26, .inl (zx_kA28, 160, .inl (fun _ => 0))), (zx_y13, .inr (2, [.ref zx_y29, .ref zx_y30, .ref zx_y31, .int 0])), (zx_y29, .inl (zx_kA32, 30, .inl (fun _ => 0))), (zx_y30, .inl (zx_kA33, 30, .inl (fun _ => 0))), (zx_y31, .inl (zx_kA34, 30, .inl (fun _ => 0)))]) hD hS hA [0, 1, 2, 3, 4, 5, 6, 7, 8, 9, 10] rfl
  refine va_calli (va_runV (As := [.int x_2]) (rest := []) ⟨hx, hb, hml, hown, hts⟩ (zk_X11_text_t l dC dI (zx) (x_2) (zx_y0) (zx_y1) (zx_y2) (zx_y3) (zx_y4) (zx_y5) (zx_y6) (zx_y7) (zx_y8) (zx_y9) (zx_y10) (zx_y11) (zx_y12) (zx_y13) (zx_y14) (zx_y22) (zx_y23) (zx_kA24) (fun _ => 0) (zx_kA25) (zx_y26) (zx_y27) (zx_kA28) (zx_y29) (zx_y30) (zx_y31) (zx_kA32) (zx_kA33) (zx_kA34) H.size) (cwV 1 hts gL_law_X11_text rfl rfl rfl (by decide +kernel) ⟨Nat.le_of_ble_eq_true rfl, Nat.le_of_ble_eq_true rfl⟩) ⟨zw_blind, va_recv hK hP (ci := 11) (q0 := 0) rfl rfl, fun U hU hW => ⟨rfl, zw_P.of hPc hKc hDc hN U hU hW⟩⟩ rfl rfl hl.1 rfl (lv_room (Nat.le_of_ble_eq_true rfl)) dL_law_294 ⟨Nat.le_of_ble_eq_true rfl, Nat.le_of_ble_eq_true rfl⟩) hS (fun q _ h => hFc q h) hFc (fun r_3 u t H1 locs ht hvm hw hB hz1 hk1 hS => ?_)
  obtain ⟨hP1, hK1, hD1⟩ := hB
  rw [ht] at hP1
  obtain ⟨hP, hD⟩ := va_join (wr := [(zm, .inr (12, [.int 0, .ref zm_y0, .int 0, .int 0, .int 0, .int 0, .ref zm_y1, .ref zm_y2, .ref zm_y3, .ref zm_y4, .ref zm_y5, .ref zm_y6, .ref zm_y7, .int 0, .int 0, .ref zm_y8, .ref zm_y9, .int 0, .int 0, .int 0, .int 0, .ref zm_y10, .ref zm_y11, .int 0, .int 0, .int 0, .int 0, .int 0, .ref zm_y12, .ref zm_y13, .ref zm_y14, .ref zm_y15, .int 0, .ref zm_y16, .ref zm_y17, .ref zm_y18, .int (-1), .int (-1), .int (-1), .int 0, .int 0, .int 0, .ref zm_y19, .ref zm_y20, .int 0, .ref zm_y21, .ref zm_y22, .ref zm_y23, .ref zm_y24, .ref zm_y25, .int 0, .ref zm_y26, .ref zm_y27, .ref zm_y28, .int 0, .int 0, .int 0, .ref zm_y29, .ref zm_y30, .ref zm_y31, .ref zm_y32, .int 0, .int 0, .long 0, .int 0, .int 0, .int 0, .int 0, .int 0, .int 0])), (zm_y3, .inl (zm_kA34, 5, .inl (fun _ => 0))), (zm_y4, .inl (zm_kA35, 5, .inl (fun _ => 0)))]) (w1 := []) hP hD [0, 1, 2, 3, 4, 5, 6, 7, 8, 9, 10] [11, 12, 13] rfl rfl (by decide) (by decide) hk1 hFc hP1 hD1
  generalize H1 = H at hP hS ⊢
  have hP : va_P (dC, dI) classes [(zm, .inr (12, [.int 0, .ref zm_y0, .int 0, .int 0, .int 0, .int 0, .ref zm_y1, .ref zm_y2, .ref zm_y3, .ref zm_y4, .ref zm_y5, .ref zm_y6, .ref zm_y7, .int 0, .int 0, .ref zm_y8, .ref zm_y9, .int 0, .int 0, .int 0, .int 0, .ref zm_y10, .ref zm_y11, .int 0, .int 0, .int 0, .int 0, .int 0, .ref zm_y12, .ref zm_y13, .ref zm_y14, .ref zm_y15, .int 0, .ref zm_y16, .ref zm_y17, .ref zm_y18, .int (-1), .int (-1), .int (-1), .int 0, .int 0, .int 0, .ref zm_y19, .ref zm_y20, .int 0, .ref zm_y21, .ref zm_y22, .ref zm_y23, .ref zm_y24, .ref zm_y25, .int 0, .ref zm_y26, .ref zm_y27, .ref zm_y28, .int 0, .int 0, .int 0, .ref zm_y29, .ref zm_y30, .ref zm_y31, .ref zm_y32, .int 0, .int 0, .long 0, .int 0, .int 0, .int 0, .int 0, .int 0, .int 0])), (zm_y3, .inl (zm_kA34, 5, .inl (fun _ => 0))), (zm_y4, .inl (zm_kA35, 5, .inl (fun _ => 0)))] H := hP
  have hD : va_D (fun q : Nat => s.heap.size ≤ q) [(zm, .inr (12, [.int 0, .ref zm_y0, .int 0, .int 0, .int 0, .int 0, .ref zm_y1, .ref zm_y2, .ref zm_y3, .ref zm_y4, .ref zm_y5, .ref zm_y6, .ref zm_y7, .int 0, .int 0, .ref zm_y8, .ref zm_y9, .int 0, .int 0, .int 0, .int 0, .ref zm_y10, .ref zm_y11, .int 0, .int 0, .int 0, .int 0, .int 0, .ref zm_y12, .ref zm_y13, .ref zm_y14, .ref zm_y15, .int 0, .ref zm_y16, .ref zm_y17, .ref zm_y18, .int (-1), .int (-1), .int (-1), .int 0, .int 0, .int 0, .ref zm_y19, .ref zm_y20, .int 0, .ref zm_y21, .ref zm_y22, .ref zm_y23, .ref zm_y24, .ref zm_y25, .int 0, .ref zm_y26, .ref zm_y27, .ref zm_y28, .int 0, .int 0, .int 0, .ref zm_y29, .ref zm_y30, .ref zm_y31, .ref zm_y32, .int 0, .int 0, .long 0, .int 0, .int 0, .int 0, .int 0, .int 0, .int 0])), (zm_y3, .inl (zm_kA34, 5, .inl (fun _ => 0))), (zm_y4, .inl (zm_kA35, 5, .inl (fun _ => 0)))] := hD
  obtain rfl : r_3 = (-1) := hw
  refine lv_aload_n hx hb dL_law_297 rfl (lv_at hl 2 rfl) ?_
  refine lv_aload_n hx hb dL_law_298 rfl (lv_at hl 0 rfl) ?_
  refine lv_iload hx hb dL_law_299 (lv_at hl 4 rfl) ?_
  refine lv_iconst (v := 1) hx hb dL_law_301 (by decide) ?_
  refine lv_iadd hx hb dL_law_302 ?_
  refine lv_topi (fun x_4 ex_4 => ?_)
  have ex_4 : x_4 = 1 := ex_4.trans (by decide)
  subst ex_4
  refine va_sld hx hb hX hbl hbA hS (vp_in_iff.mpr ⟨by decide, by decide⟩) dL_law_303 ?_
  refine lv_topi (fun x_5 ex_5 => ?_)
  have ex_5 : x_2 = x_5 := ex_2.trans ex_5.symm
  subst ex_5
  have hPc := hP.sub (ws' := [(zm, .inr (12, [.int 0, .ref zm_y0, .int 0, .int 0, .int 0, .int 0, .ref zm_y1, .ref zm_y2, .ref zm_y3, .ref zm_y4, .ref zm_y5, .ref zm_y6, .ref zm_y7, .int 0, .int 0, .ref zm_y8, .ref zm_y9, .int 0, .int 0, .int 0, .int 0, .ref zm_y10, .ref zm_y11, .int 0, .int 0, .int 0, .int 0, .int 0, .ref zm_y12, .ref zm_y13, .ref zm_y14, .ref zm_y15, .int 0, .ref zm_y16, .ref zm_y17, .ref zm_y18, .int (-1), .int (-1), .int (-1), .int 0, .int 0, .int 0, .ref zm_y19, .ref zm_y20, .int 0, .ref zm_y21, .ref zm_y22, .ref zm_y23, .ref zm_y24, .ref zm_y25, .int 0, .ref zm_y26, .ref zm_y27, .ref zm_y28, .int 0, .int 0, .int 0, .ref zm_y29, .ref zm_y30, .ref zm_y31, .ref zm_y32, .int 0, .int 0, .long 0, .int 0, .int 0, .int 0, .int 0, .int 0, .int 0])), (zm_y3, .inl (zm_kA34, 5, .inl (fun _ => 0))), (zm_y4, .inl (zm_kA35, 5, .inl (fun _ => 0)))]) [0, 1, 2] rfl
  have hDc := hD.sub (ws' := [(zm, .inr (12, [.int 0, .ref zm_y0, .int 0, .int 0, .int 0, .int 0, .ref zm_y1, .ref zm_y2, .ref zm_y3, .ref zm_y4, .ref zm_y5, .ref zm_y6, .ref zm_y7, .int 0, .int 0, .ref zm_y8, .ref zm_y9, .int 0, .int 0, .int 0, .int 0, .ref zm_y10, .ref zm_y11, .int 0, .int 0, .int 0, .int 0, .int 0, .ref zm_y12, .ref zm_y13, .ref zm_y14, .ref zm_y15, .int 0, .ref zm_y16, .ref zm_y17, .ref zm_y18, .int (-1), .int (-1), .int (-1), .int 0, .int 0, .int 0, .ref zm_y19, .ref zm_y20, .int 0, .ref zm_y21, .ref zm_y22, .ref zm_y23, .ref zm_y24, .ref zm_y25, .int 0, .ref zm_y26, .ref zm_y27, .ref zm_y28, .int 0, .int 0, .int 0, .ref zm_y29, .ref zm_y30, .ref zm_y31, .ref zm_y32, .int 0, .int 0, .long 0, .int 0, .int 0, .int 0, .int 0, .int 0, .int 0])), (zm_y3, .inl (zm_kA34, 5, .inl (fun _ => 0))), (zm_y4, .inl (zm_kA35, 5, .inl (fun _ => 0)))]) [0, 1, 2] (by decide) rfl
  have hKc := hK.sub (tys' := [(zm_kA34, .int), (zm_kA35, .int)]) [6, 7] rfl
  have hFc := va_free (wc := [(zm, .inr (12, [.int 0, .ref zm_y0, .int 0, .int 0, .int 0, .int 0, .ref zm_y1, .ref zm_y2, .ref zm_y3, .ref zm_y4, .ref zm_y5, .ref zm_y6, .ref zm_y7, .int 0, .int 0, .ref zm_y8, .ref zm_y9, .int 0, .int 0, .int 0, .int 0, .ref zm_y10, .ref zm_y11, .int 0, .int 0, .int 0, .int 0, .int 0, .ref zm_y12, .ref zm_y13, .ref zm_y14, .ref zm_y15, .int 0, .ref zm_y16, .ref zm_y17, .ref zm_y18, .int (-1), .int (-1), .int (-1), .int 0, .int 0, .int 0, .ref zm_y19, .ref zm_y20, .int 0, .ref zm_y21, .ref zm_y22, .ref zm_y23, .ref zm_y24, .ref zm_y25, .int 0, .ref zm_y26, .ref zm_y27, .ref zm_y28, .int 0, .int 0, .int 0, .ref zm_y29, .ref zm_y30, .ref zm_y31, .ref zm_y32, .int 0, .int 0, .long 0, .int 0, .int 0, .int 0, .int 0, .int 0, .int 0])), (zm_y3, .inl (zm_kA34, 5, .inl (fun _ => 0))), (zm_y4, .inl (zm_kA35, 5, .inl (fun _ => 0)))]) hD hS hA [0, 1, 2] rfl
  refine va_calli (va_runV (As := [.int x_2]) (rest := [.int (-1)]) ⟨hx, hb, hml, hown, hts⟩ (zk_X12_text_t l dC dI (zm) (x_2) (zm_y0) (zm_y1) (zm_y2) (zm_y3) (zm_y4) (zm_y5) (zm_y6) (zm_y7) (zm_y8) (zm_y9) (zm_y10) (zm_y11) (zm_y12) (zm_y13) (zm_y14) (zm_y15) (zm_y16) (zm_y17) (zm_y18) (zm_y19) (zm_y20) (zm_y21) (zm_y22) (zm_y23) (zm_y24) (zm_y25) (zm_y26) (zm_y27) (zm_y28) (zm_y29) (zm_y30) (zm_y31) (zm_y32) (zm_kA34) (fun _ => 0) (zm_kA35) H.size) (cwV 1 hts gL_law_X12_text rfl rfl rfl (by decide +kernel) ⟨Nat.le_of_ble_eq_true rfl, Nat.le_of_ble_eq_true rfl⟩) ⟨zw_blind, va_recv hK hP (ci := 12) (q0 := 0) rfl rfl, fun U hU hW => ⟨rfl, zw_P.of hPc hKc hDc hN U hU hW⟩⟩ rfl rfl hl.1 rfl (lv_room (Nat.le_of_ble_eq_true rfl)) dL_law_304 ⟨Nat.le_of_ble_eq_true rfl, Nat.le_of_ble_eq_true rfl⟩) hS (fun q _ h => hFc q h) hFc (fun r_6 u t H1 locs ht hvm hw hB hz1 hk1 hS => ?_)
  obtain ⟨hP1, hK1, hD1⟩ := hB
  rw [ht] at hP1
  obtain ⟨hP, hD⟩ := va_join (wr := []) (w1 := []) hP hD [0, 1, 2] [] rfl rfl (by decide) (by decide) hk1 hFc hP1 hD1
  generalize H1 = H at hP hS ⊢
  have hP : va_P (dC, dI) classes [] H := hP
  have hD : va_D (fun q : Nat => s.heap.size ≤ q) [] := hD
  obtain rfl : r_6 = (-1) := hw
  refine lv_icmp_eq (tgt := 1170) hx hb dL_law_307 (by decide) (fun _ => ?_) (fun c9 => absurd (by decide) c9)
  refine lv_iinc (v := 6) (lv' := [(4, .int 6), (0, .ref b), (1, .ref zx), (2, .ref zm), (3, .ref zo)]) hx hb dL_law_1170 hl (k := 4) rfl (by decide) (by decide) rfl (fun ls hl => ?_)
  refine lv_goto (tgt := 23) hx hb dL_law_1173 (by decide) ?_
  refine lv_iload hx hb dL_law_23 (lv_at hl 0 rfl) ?_
  refine lv_aload_n hx hb dL_law_25 rfl (lv_at hl 1 rfl) ?_
  refine va_slen hx hb hX hbl hbA hS dL_law_26 ?_
  refine lv_topi (fun x_7 ex_7 => ?_)
  have ex_7 : x_7 = 6 := ex_7.trans (by decide)
  subst ex_7
  refine lv_bipush (v := 6) hx hb dL_law_27 (by decide) ?_
  refine lv_isub hx hb dL_law_29 ?_
  refine lv_topi (fun x_8 ex_8 => ?_)
  have ex_8 : x_8 = 0 := ex_8.trans (by decide)
  subst ex_8
  refine lv_icmp_gt (tgt := 1176) hx hb dL_law_30 (by decide) (fun _ => ?_) (fun c9 => absurd (by decide) c9)
  refine lv_iconst (v := 1) hx hb dL_law_1176 (by decide) ?_
  refine va_forget (fun q hq => hS.2.2 q hq) ?_
  refine W.widen (k := 600002) (n := 7302232) (Nat.le_of_ble_eq_true rfl) (Nat.le_of_ble_eq_true rfl) ?_
  exact lw_ret hx hb hr hlocks dL_law_1177
