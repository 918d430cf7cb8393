set_option maxHeartbeats 8000000 in
set_option maxRecDepth 100000 in
theorem zl_26 {p : Program} {e : Env} {s : State} {m : MethodId} {below : List Frame} {meth : Method} {c : Code} (l : Launch) {b : Nat} {xs : Nat → Int32} (C0 : lw_At p s m meth c b 6 xs) (dC : Nat → ClassId) (dI : Nat → Nat → Nat) (zx : Nat) (zx_y0 : Nat) (zx_y1 : Nat) (zx_y2 : Nat) (zx_y3 : Nat) (zx_y4 : Nat) (zx_y5 : Nat) (zx_y6 : Nat) (zx_y7 : Nat) (zx_y8 : Nat) (zx_y9 : Nat) (zx_y10 : Nat) (zx_y11 : Nat) (zx_y12 : Nat) (zx_y13 : Nat) (zx_y14 : Nat) (zx_y16 : Nat) (zx_y17 : Nat) (zx_y18 : Nat) (zx_y19 : Nat) (zx_y20 : Nat) (zx_y21 : Nat) (zm : Nat) (zm_y0 : Nat) (zm_y1 : Nat) (zm_y2 : Nat) (zm_y3 : Nat) (zm_y4 : Nat) (zm_y5 : Nat) (zm_y6 : Nat) (zm_y7 : Nat) (zm_y8 : Nat) (zm_y9 : Nat) (zm_y10 : Nat) (zm_y11 : Nat) (zm_y12 : Nat) (zm_y13 : Nat) (zm_y14 : Nat) (zm_y15 : Nat) (zm_y16 : Nat) (zm_y17 : Nat) (zm_y18 : Nat) (zm_y19 : Nat) (zm_y20 : Nat) (zm_y21 : Nat) (zm_y22 : Nat) (zm_y23 : Nat) (zm_y24 : Nat) (zm_y25 : Nat) (zm_y26 : Nat) (zm_y27 : Nat) (zm_y28 : Nat) (zm_y29 : Nat) (zm_y30 : Nat) (zm_y31 : Nat) (zm_y32 : Nat) (zo : Nat) {H : Heap} {locs : List Loc} (hN : zw_N s) (hK : va_K (dC, dI) classes [] s) (hP : va_P (dC, dI) classes [(zx, .inr (11, [.ref zx_y0, .ref zx_y1, .ref zx_y2, .ref zx_y3, .ref zx_y4, .ref zx_y5, .ref zx_y6, .ref zx_y7, .ref zx_y8, .ref zx_y9, .ref zx_y10, .ref zx_y11, .ref zx_y12, .ref zx_y13, .int 0, .int 0])), (zx_y0, .inr (8, [.ref zx_y14, .int 0, .int 0, .int (-1)])), (zx_y1, .inr (6, [.ref zx_y16, .ref zx_y17, .ref zx_y18, .ref zx_y19, .int 0, .int (-1), .int (-1)])), (zx_y19, .inr (0, [.ref zx_y20, .ref zx_y21, .int 0, .int 0, .int 0, .int 0, .int 0])), (zx_y7, .inr (7, [.int 0, .int 0, .int 0])), (zm, .inr (12, [.int 0, .ref zm_y0, .int 0, .int 0, .int 0, .int 0, .ref zm_y1, .ref zm_y2, .ref zm_y3, .ref zm_y4, .ref zm_y5, .ref zm_y6, .ref zm_y7, .int 0, .int 0, .ref zm_y8, .ref zm_y9, .int 0, .int 0, .int 0, .int 0, .ref zm_y10, .ref zm_y11, .int 0, .int 0, .int 0, .int 0, .int 0, .ref zm_y12, .ref zm_y13, .ref zm_y14, .ref zm_y15, .int 0, .ref zm_y16, .ref zm_y17, .ref zm_y18, .int (-1), .int (-1), .int (-1), .int 0, .int 0, .int 0, .ref zm_y19, .ref zm_y20, .int 0, .ref zm_y21, .ref zm_y22, .ref zm_y23, .ref zm_y24, .ref zm_y25, .int 0, .ref zm_y26, .ref zm_y27, .ref zm_y28, .int 0, .int 0, .int 0, .ref zm_y29, .ref zm_y30, .ref zm_y31, .ref zm_y32, .int 0, .int 0, .long 0, .int 0, .int 0, .int 0, .int 0, .int 0, .int 0]))] H) (hD : va_D (fun q : Nat => s.heap.size ≤ q) [(zx, .inr (11, [.ref zx_y0, .ref zx_y1, .ref zx_y2, .ref zx_y3, .ref zx_y4, .ref zx_y5, .ref zx_y6, .ref zx_y7, .ref zx_y8, .ref zx_y9, .ref zx_y10, .ref zx_y11, .ref zx_y12, .ref zx_y13, .int 0, .int 0])), (zx_y0, .inr (8, [.ref zx_y14, .int 0, .int 0, .int (-1)])), (zx_y1, .inr (6, [.ref zx_y16, .ref zx_y17, .ref zx_y18, .ref zx_y19, .int 0, .int (-1), .int (-1)])), (zx_y19, .inr (0, [.ref zx_y20, .ref zx_y21, .int 0, .int 0, .int 0, .int 0, .int 0])), (zx_y7, .inr (7, [.int 0, .int 0, .int 0])), (zm, .inr (12, [.int 0, .ref zm_y0, .int 0, .int 0, .int 0, .int 0, .ref zm_y1, .ref zm_y2, .ref zm_y3, .ref zm_y4, .ref zm_y5, .ref zm_y6, .ref zm_y7, .int 0, .int 0, .ref zm_y8, .ref zm_y9, .int 0, .int 0, .int 0, .int 0, .ref zm_y10, .ref zm_y11, .int 0, .int 0, .int 0, .int 0, .int 0, .ref zm_y12, .ref zm_y13, .ref zm_y14, .ref zm_y15, .int 0, .ref zm_y16, .ref zm_y17, .ref zm_y18, .int (-1), .int (-1), .int (-1), .int 0, .int 0, .int 0, .ref zm_y19, .ref zm_y20, .int 0, .ref zm_y21, .ref zm_y22, .ref zm_y23, .ref zm_y24, .ref zm_y25, .int 0, .ref zm_y26, .ref zm_y27, .ref zm_y28, .int 0, .int 0, .int 0, .ref zm_y29, .ref zm_y30, .ref zm_y31, .ref zm_y32, .int 0, .int 0, .long 0, .int 0, .int 0, .int 0, .int 0, .int 0, .int 0]))]) (hS : va_S (fun q : Nat => s.heap.size ≤ q) s.heap H locs) (ls : Array Slot) (hl : lv_has ls 7 [(0, .ref b), (1, .ref zx), (2, .ref zm), (3, .ref zo), (4, .int 0)]) : W p l e room_1 s m #[Value.ref b] below meth c H locs 99 952984 (lw_Z below #[Value.ref b] s) (F0 m 1145 ls []) := by
  obtain ⟨hx, hb, hr, hml, hown, hts0, hX, hbl, hlocks, hgv⟩ := C0
  have hts : ∀ w ∈ wsL_law, w.before #[Value.ref b] s = true := fun w h => hts0 w (wsL_law_in w h)
  have hA : ∀ q : Nat, s.heap.size ≤ q → (fun q : Nat => s.heap.size ≤ q) q := fun _ h => h
  have hbA : ¬ (fun q : Nat => s.heap.size ≤ q) b := Nat.not_le.mpr hbl
  refine lv_aload_n hx hb dL_law_1145 rfl (lv_at hl 1 rfl) ?_
  refine lv_aload_n hx hb dL_law_1146 rfl (lv_at hl 0 rfl) ?_
  refine lv_iload hx hb dL_law_1147 (lv_at hl 4 rfl) ?_
  refine lv_iconst (v := 1) hx hb dL_law_1149 (by decide) ?_
  refine lv_iadd hx hb dL_law_1150 ?_
  refine lv_topi (fun x_1 ex_1 => ?_)
  have ex_1 : x_1 = 1 := ex_1.trans (by decide)
  subst ex_1
  refine va_sld hx hb hX hbl hbA hS (vp_in_iff.mpr ⟨by decide, by decide⟩) dL_law_1151 ?_
  refine lv_topi (fun x_2 ex_2 => ?_)
  have hPc := hP.sub (ws' := [(zx, .inr (11, [.ref zx_y0, .ref zx_y1, .ref zx_y2, .ref zx_y3, .ref zx_y4, .ref zx_y5, .ref zx_y6, .ref zx_y7, .ref zx_y8, .ref zx_y9, .ref zx_y10, .ref zx_y11, .ref zx_y12, .ref zx_y13, .int 0, .int 0])), (zx_y0, .inr (8, [.ref zx_y14, .int 0, .int 0, .int (-1)])), (zx_y1, .inr (6, [.ref zx_y16, .ref zx_y17, .ref zx_y18, .ref zx_y19, .int 0, .int (-1), .int (-1)])), (zx_y19, .inr (0, [.ref zx_y20, .ref zx_y21, .int 0, .int 0, .int 0, .int 0, .int 0])), (zx_y7, .inr (7, [.int 0, .int 0, .int 0]))]) [0, 1, 2, 3, 4] rfl
  have hDc := hD.sub (ws' := [(zx, .inr (11, [.ref zx_y0, .ref zx_y1, .ref zx_y2, .ref zx_y3, .ref zx_y4, .ref zx_y5, .ref zx_y6, .ref zx_y7, .ref zx_y8, .ref zx_y9, .ref zx_y10, .ref zx_y11, .ref zx_y12, .ref zx_y13, .int 0, .int 0])), (zx_y0, .inr (8, [.ref zx_y14, .int 0, .int 0, .int (-1)])), (zx_y1, .inr (6, [.ref zx_y16, .ref zx_y17, .ref zx_y18, .ref zx_y19, .int 0, .int (-1), .int (-1)])), (zx_y19, .inr (0, [.ref zx_y20, .ref zx_y21, .int 0, .int 0, .int 0, .int 0, .int 0])), (zx_y7, .inr (7, [.int 0, .int 0, .int 0]))]) [0, 1, 2, 3, 4] (by decide) rfl
  have hKc := hK.sub (tys' := []) [] rfl
  have hFc := va_free (wc := [(zx, .inr (11, [.ref zx_y0, .ref zx_y1, .ref zx_y2, .ref zx_y3, .ref zx_y4, .ref zx_y5, .ref zx_y6, .ref zx_y7, .ref zx_y8, .ref zx_y9, .ref zx_y10, .ref zx_y11, .ref zx_y12, .ref zx_y13, .int 0, .int 0])), (zx_y0, .inr (8, [.ref zx_y14, .int 0, .int 0, .int (-1)])), (zx_y1, .inr (6, [.ref zx_y16, .ref zx_y17, .ref zx_y18, .ref zx_y19, .int 0, .int (-1), .int (-1)])), (zx_y19, .inr (0, [.ref zx_y20, .ref zx_y21, .int 0, .int 0, .int 0, .int 0, .int 0])), (zx_y7, .inr (7, [.int 0, .int 0, .int 0]))]) hD hS hA [0, 1, 2, 3, 4] rfl
  refine va_calli (va_runV (As := [.int x_2]) (rest := []) ⟨hx, hb, hml, hown, hts⟩ (zk_X11_count_t l dC dI (zx) (x_2) (zx_y0) (zx_y1) (zx_y2) (zx_y3) (zx_y4) (zx_y5) (zx_y6) (zx_y7) (zx_y8) (zx_y9) (zx_y10) (zx_y11) (zx_y12) (zx_y13) (zx_y14) (zx_y16) (zx_y17) (zx_y18) (zx_y19) (zx_y20) (zx_y21) H.size) (cwV 1 hts gL_law_X11_count rfl rfl rfl (by decide +kernel) ⟨Nat.le_of_ble_eq_true rfl, Nat.le_of_ble_eq_true rfl⟩) ⟨zw_blind, va_recv hK hP (ci := 11) (q0 := 0) rfl rfl, fun U hU hW => ⟨rfl, zw_P.of hPc hKc hDc hN U hU hW⟩⟩ rfl rfl hl.1 rfl (lv_room (Nat.le_of_ble_eq_true rfl)) dL_law_1152 ⟨Nat.le_of_ble_eq_true rfl, Nat.le_of_ble_eq_true rfl⟩) hS (fun q _ h => hFc q h) hFc (fun r_3 u t H1 locs ht hvm hw hB hz1 hk1 hS => ?_)
  obtain ⟨hP1, hK1, hD1⟩ := hB
  rw [ht] at hP1
  obtain ⟨hP, hD⟩ := va_join (wr := [(zm, .inr (12, [.int 0, .ref zm_y0, .int 0, .int 0, .int 0, .int 0, .ref zm_y1, .ref zm_y2, .ref zm_y3, .ref zm_y4, .ref zm_y5, .ref zm_y6, .ref zm_y7, .int 0, .int 0, .ref zm_y8, .ref zm_y9, .int 0, .int 0, .int 0, .int 0, .ref zm_y10, .ref zm_y11, .int 0, .int 0, .int 0, .int 0, .int 0, .ref zm_y12, .ref zm_y13, .ref zm_y14, .ref zm_y15, .int 0, .ref zm_y16, .ref zm_y17, .ref zm_y18, .int (-1), .int (-1), .int (-1), .int 0, .int 0, .int 0, .ref zm_y19, .ref zm_y20, .int 0, .ref zm_y21, .ref zm_y22, .ref zm_y23, .ref zm_y24, .ref zm_y25, .int 0, .ref zm_y26, .ref zm_y27, .ref zm_y28, .int 0, .int 0, .int 0, .ref zm_y29, .ref zm_y30, .ref zm_y31, .ref zm_y32, .int 0, .int 0, .long 0, .int 0, .int 0, .int 0, .int 0, .int 0, .int 0]))]) (w1 := []) hP hD [0, 1, 2, 3, 4] [5] rfl rfl (by decide) (by decide) hk1 hFc hP1 hD1
  generalize H1 = H at hP hS ⊢
  have hP : va_P (dC, dI) classes [(zm, .inr (12, [.int 0, .ref zm_y0, .int 0, .int 0, .int 0, .int 0, .ref zm_y1, .ref zm_y2, .ref zm_y3, .ref zm_y4, .ref zm_y5, .ref zm_y6, .ref zm_y7, .int 0, .int 0, .ref zm_y8, .ref zm_y9, .int 0, .int 0, .int 0, .int 0, .ref zm_y10, .ref zm_y11, .int 0, .int 0, .int 0, .int 0, .int 0, .ref zm_y12, .ref zm_y13, .ref zm_y14, .ref zm_y15, .int 0, .ref zm_y16, .ref zm_y17, .ref zm_y18, .int (-1), .int (-1), .int (-1), .int 0, .int 0, .int 0, .ref zm_y19, .ref zm_y20, .int 0, .ref zm_y21, .ref zm_y22, .ref zm_y23, .ref zm_y24, .ref zm_y25, .int 0, .ref zm_y26, .ref zm_y27, .ref zm_y28, .int 0, .int 0, .int 0, .ref zm_y29, .ref zm_y30, .ref zm_y31, .ref zm_y32, .int 0, .int 0, .long 0, .int 0, .int 0, .int 0, .int 0, .int 0, .int 0]))] H := hP
  have hD : va_D (fun q : Nat => s.heap.size ≤ q) [(zm, .inr (12, [.int 0, .ref zm_y0, .int 0, .int 0, .int 0, .int 0, .ref zm_y1, .ref zm_y2, .ref zm_y3, .ref zm_y4, .ref zm_y5, .ref zm_y6, .ref zm_y7, .int 0, .int 0, .ref zm_y8, .ref zm_y9, .int 0, .int 0, .int 0, .int 0, .ref zm_y10, .ref zm_y11, .int 0, .int 0, .int 0, .int 0, .int 0, .ref zm_y12, .ref zm_y13, .ref zm_y14, .ref zm_y15, .int 0, .ref zm_y16, .ref zm_y17, .ref zm_y18, .int (-1), .int (-1), .int (-1), .int 0, .int 0, .int 0, .ref zm_y19, .ref zm_y20, .int 0, .ref zm_y21, .ref zm_y22, .ref zm_y23, .ref zm_y24, .ref zm_y25, .int 0, .ref zm_y26, .ref zm_y27, .ref zm_y28, .int 0, .int 0, .int 0, .ref zm_y29, .ref zm_y30, .ref zm_y31, .ref zm_y32, .int 0, .int 0, .long 0, .int 0, .int 0, .int 0, .int 0, .int 0, .int 0]))] := hD
  rcases hw with ⟨c_4, rfl⟩ | ⟨c_5, c_6, rfl⟩ | ⟨c_7, c_8, c_9, rfl⟩ | ⟨c_10, c_11, c_12, c_13, rfl⟩ | ⟨c_14, c_15, c_16, c_17, c_18, rfl⟩ | ⟨c_19, c_20, c_21, c_22, c_23, c_24, rfl⟩ | ⟨c_25, c_26, c_27, c_28, c_29, c_30, c_31, rfl⟩ | ⟨c_32, c_33, c_34, c_35, c_36, c_37, c_38, rfl⟩
  · skip
    refine lv_aload_n hx hb dL_law_1155 rfl (lv_at hl 2 rfl) ?_
    refine lv_aload_n hx hb dL_law_1156 rfl (lv_at hl 0 rfl) ?_
    refine lv_iload hx hb dL_law_1157 (lv_at hl 4 rfl) ?_
    refine lv_iconst (v := 1) hx hb dL_law_1159 (by decide) ?_
    refine lv_iadd hx hb dL_law_1160 ?_
    refine lv_topi (fun x_39 ex_39 => ?_)
    have ex_39 : x_39 = 1 := ex_39.trans (by decide)
    subst ex_39
    refine va_sld hx hb hX hbl hbA hS (vp_in_iff.mpr ⟨by decide, by decide⟩) dL_law_1161 ?_
    refine lv_topi (fun x_40 ex_40 => ?_)
    have ex_40 : x_2 = x_40 := ex_2.trans ex_40.symm
    subst ex_40
    have hPc := hP.sub (ws' := [(zm, .inr (12, [.int 0, .ref zm_y0, .int 0, .int 0, .int 0, .int 0, .ref zm_y1, .ref zm_y2, .ref zm_y3, .ref zm_y4, .ref zm_y5, .ref zm_y6, .ref zm_y7, .int 0, .int 0, .ref zm_y8, .ref zm_y9, .int 0, .int 0, .int 0, .int 0, .ref zm_y10, .ref zm_y11, .int 0, .int 0, .int 0, .int 0, .int 0, .ref zm_y12, .ref zm_y13, .ref zm_y14, .ref zm_y15, .int 0, .ref zm_y16, .ref zm_y17, .ref zm_y18, .int (-1), .int (-1), .int (-1), .int 0, .int 0, .int 0, .ref zm_y19, .ref zm_y20, .int 0, .ref zm_y21, .ref zm_y22, .ref zm_y23, .ref zm_y24, .ref zm_y25, .int 0, .ref zm_y26, .ref zm_y27, .ref zm_y28, .int 0, .int 0, .int 0, .ref zm_y29, .ref zm_y30, .ref zm_y31, .ref zm_y32, .int 0, .int 0, .long 0, .int 0, .int 0, .int 0, .int 0, .int 0, .int 0]))]) [0] rfl
    have hDc := hD.sub (ws' := [(zm, .inr (12, [.int 0, .ref zm_y0, .int 0, .int 0, .int 0, .int 0, .ref zm_y1, .ref zm_y2, .ref zm_y3, .ref zm_y4, .ref zm_y5, .ref zm_y6, .ref zm_y7, .int 0, .int 0, .ref zm_y8, .ref zm_y9, .int 0, .int 0, .int 0, .int 0, .ref zm_y10, .ref zm_y11, .int 0, .int 0, .int 0, .int 0, .int 0, .ref zm_y12, .ref zm_y13, .ref zm_y14, .ref zm_y15, .int 0, .ref zm_y16, .ref zm_y17, .ref zm_y18, .int (-1), .int (-1), .int (-1), .int 0, .int 0, .int 0, .ref zm_y19, .ref zm_y20, .int 0, .ref zm_y21, .ref zm_y22, .ref zm_y23, .ref zm_y24, .ref zm_y25, .int 0, .ref zm_y26, .ref zm_y27, .ref zm_y28, .int 0, .int 0, .int 0, .ref zm_y29, .ref zm_y30, .ref zm_y31, .ref zm_y32, .int 0, .int 0, .long 0, .int 0, .int 0, .int 0, .int 0, .int 0, .int 0]))]) [0] (by decide) rfl
    have hKc := hK.sub (tys' := []) [] rfl
    have hFc := va_free (wc := [(zm, .inr (12, [.int 0, .ref zm_y0, .int 0, .int 0, .int 0, .int 0, .ref zm_y1, .ref zm_y2, .ref zm_y3, .ref zm_y4, .ref zm_y5, .ref zm_y6, .ref zm_y7, .int 0, .int 0, .ref zm_y8, .ref zm_y9, .int 0, .int 0, .int 0, .int 0, .ref zm_y10, .ref zm_y11, .int 0, .int 0, .int 0, .int 0, .int 0, .ref zm_y12, .ref zm_y13, .ref zm_y14, .ref zm_y15, .int 0, .ref zm_y16, .ref zm_y17, .ref zm_y18, .int (-1), .int (-1), .int (-1), .int 0, .int 0, .int 0, .ref zm_y19, .ref zm_y20, .int 0, .ref zm_y21, .ref zm_y22, .ref zm_y23, .ref zm_y24, .ref zm_y25, .int 0, .ref zm_y26, .ref zm_y27, .ref zm_y28, .int 0, .int 0, .int 0, .ref zm_y29, .ref zm_y30, .ref zm_y31, .ref zm_y32, .int 0, .int 0, .long 0, .int 0, .int 0, .int 0, .int 0, .int 0, .int 0]))]) hD hS hA [0] rfl
    refine va_calli (va_runV (As := [.int x_2]) (rest := [.int 0]) ⟨hx, hb, hml, hown, hts⟩ (zk_X12_count_t l dC dI (zm) (x_2) (zm_y0) (zm_y1) (zm_y2) (zm_y3) (zm_y4) (zm_y5) (zm_y6) (zm_y7) (zm_y8) (zm_y9) (zm_y10) (zm_y11) (zm_y12) (zm_y13) (zm_y14) (zm_y15) (zm_y16) (zm_y17) (zm_y18) (zm_y19) (zm_y20) (zm_y21) (zm_y22) (zm_y23) (zm_y24) (zm_y25) (zm_y26) (zm_y27) (zm_y28) (zm_y29) (zm_y30) (zm_y31) (zm_y32) H.size) (cwV 1 hts gL_law_X12_count rfl rfl rfl (by decide +kernel) ⟨Nat.le_of_ble_eq_true rfl, Nat.le_of_ble_eq_true rfl⟩) ⟨zw_blind, va_recv hK hP (ci := 12) (q0 := 0) rfl rfl, fun U hU hW => ⟨rfl, zw_P.of hPc hKc hDc hN U hU hW⟩⟩ rfl rfl hl.1 rfl (lv_room (Nat.le_of_ble_eq_true rfl)) dL_law_1162 ⟨Nat.le_of_ble_eq_true rfl, Nat.le_of_ble_eq_true rfl⟩) hS (fun q _ h => hFc q h) hFc (fun r_41 u t H1 locs ht hvm hw hB hz1 hk1 hS => ?_)
    obtain ⟨hP1, hK1, hD1⟩ := hB
    rw [ht] at hP1
    obtain ⟨hP, hD⟩ := va_join (wr := []) (w1 := []) hP hD [0] [] rfl rfl (by decide) (by decide) hk1 hFc hP1 hD1
    generalize H1 = H at hP hS ⊢
    have hP : va_P (dC, dI) classes [] H := hP
    have hD : va_D (fun q : Nat => s.heap.size ≤ q) [] := hD
    rcases hw with ⟨c_42, rfl⟩ | ⟨c_43, c_44, rfl⟩ | ⟨c_45, c_46, c_47, rfl⟩ | ⟨c_48, c_49, c_50, c_51, rfl⟩ | ⟨c_52, c_53, c_54, c_55, c_56, rfl⟩ | ⟨c_57, c_58, c_59, c_60, c_61, c_62, rfl⟩ | ⟨c_63, c_64, c_65, c_66, c_67, c_68, c_69, rfl⟩ | ⟨c_70, c_71, c_72, c_73, c_74, c_75, c_76, rfl⟩
    · skip
      refine lv_icmp_eq (tgt := 1170) hx hb dL_law_1165 (by decide) (fun _ => ?_) (fun c9 => absurd (by decide) c9)
      refine lv_iinc (v := 6) (lv' := [(4, .int 6), (0, .ref b), (1, .ref zx), (2, .ref zm), (3, .ref zo)]) hx hb dL_law_1170 hl (k := 4) rfl (by decide) (by decide) rfl (fun ls hl => ?_)
      refine lv_goto (tgt := 23) hx hb dL_law_1173 (by decide) ?_
      refine lv_iload hx hb dL_law_23 (lv_at hl 0 rfl) ?_
      refine lv_aload_n hx hb dL_law_25 rfl (lv_at hl 1 rfl) ?_
      refine va_slen hx hb hX hbl hbA hS dL_law_26 ?_
      refine lv_topi (fun x_77 ex_77 => ?_)
      have ex_77 : x_77 = 6 := ex_77.trans (by decide)
      subst ex_77
      refine lv_bipush (v := 6) hx hb dL_law_27 (by decide) ?_
      refine lv_isub hx hb dL_law_29 ?_
      refine lv_topi (fun x_78 ex_78 => ?_)
      have ex_78 : x_78 = 0 := ex_78.trans (by decide)
      subst ex_78
      refine lv_icmp_gt (tgt := 1176) hx hb dL_law_30 (by decide) (fun _ => ?_) (fun c9 => absurd (by decide) c9)
      refine lv_iconst (v := 1) hx hb dL_law_1176 (by decide) ?_
      refine va_forget (fun q hq => hS.2.2 q hq) ?_
      refine W.widen (k := 600002) (n := 7302232) (Nat.le_of_ble_eq_true rfl) (Nat.le_of_ble_eq_true rfl) ?_
      exact lw_ret hx hb hr hlocks dL_law_1177
    · skip
      have d_c_4 := zz_eq.mp c_4
      have d_c_43 := (not_congr zz_eq).mp c_43
      have d_c_44 := zz_eq.mp c_44
      have ez_0 : (0 : Int32).toInt = 0 := by decide
      have ez_1 : (1 : Int32).toInt = 1 := by decide
      exact absurd (show False by omega) id
    · skip
      have d_c_4 := zz_eq.mp c_4
      have d_c_45 := (not_congr zz_eq).mp c_45
      have d_c_46 := (not_congr zz_eq).mp c_46
      have d_c_47 := zz_eq.mp c_47
      have ez_0 : (0 : Int32).toInt = 0 := by decide
      have ez_1 : (1 : Int32).toInt = 1 := by decide
      have ez_2 : (2 : Int32).toInt = 2 := by decide
      exact absurd (show False by omega) id
    · skip
      have d_c_4 := zz_eq.mp c_4
      have d_c_48 := (not_congr zz_eq).mp c_48
      have d_c_49 := (not_congr zz_eq).mp c_49
      have d_c_50 := (not_congr zz_eq).mp c_50
      have d_c_51 := zz_eq.mp c_51
      have ez_0 : (0 : Int32).toInt = 0 := by decide
      have ez_1 : (1 : Int32).toInt = 1 := by decide
      have ez_2 : (2 : Int32).toInt = 2 := by decide
      have ez_3 : (3 : Int32).toInt = 3 := by decide
      exact absurd (show False by omega) id
    · skip
      have d_c_4 := zz_eq.mp c_4
      have d_c_52 := (not_congr zz_eq).mp c_52
      have d_c_53 := (not_congr zz_eq).mp c_53
      have d_c_54 := (not_congr zz_eq).mp c_54
      have d_c_55 := (not_congr zz_eq).mp c_55
      have d_c_56 := zz_eq.mp c_56
      have ez_0 : (0 : Int32).toInt = 0 := by decide
      have ez_1 : (1 : Int32).toInt = 1 := by decide
      have ez_2 : (2 : Int32).toInt = 2 := by decide
      have ez_3 : (3 : Int32).toInt = 3 := by decide
      have ez_4 : (4 : Int32).toInt = 4 := by decide
      exact absurd (show False by omega) id
    · skip
      have d_c_4 := zz_eq.mp c_4
      have d_c_57 := (not_congr zz_eq).mp c_57
      have d_c_58 := (not_congr zz_eq).mp c_58
      have d_c_59 := (not_congr zz_eq).mp c_59
      have d_c_60 := (not_congr zz_eq).mp c_60
      have d_c_61 := (not_congr zz_eq).mp c_61
      have d_c_62 := zz_eq.mp c_62
      have ez_0 : (0 : Int32).toInt = 0 := by decide
      have ez_1 : (1 : Int32).toInt = 1 := by decide
      have ez_2 : (2 : Int32).toInt = 2 := by decide
      have ez_3 : (3 : Int32).toInt = 3 := by decide
      have ez_4 : (4 : Int32).toInt = 4 := by decide
      have ez_5 : (5 : Int32).toInt = 5 := by decide
      exact absurd (show False by omega) id
    · skip
      have d_c_4 := zz_eq.mp c_4
      have d_c_63 := (not_congr zz_eq).mp c_63
      have d_c_64 := (not_congr zz_eq).mp c_64
      have d_c_65 := (not_congr zz_eq).mp c_65
      have d_c_66 := (not_congr zz_eq).mp c_66
      have d_c_67 := (not_congr zz_eq).mp c_67
      have d_c_68 := (not_congr zz_eq).mp c_68
      have d_c_69 := zz_eq.mp c_69
      have ez_0 : (0 : Int32).toInt = 0 := by decide
      have ez_1 : (1 : Int32).toInt = 1 := by decide
      have ez_2 : (2 : Int32).toInt = 2 := by decide
      have ez_3 : (3 : Int32).toInt = 3 := by decide
      have ez_4 : (4 : Int32).toInt = 4 := by decide
      have ez_5 : (5 : Int32).toInt = 5 := by decide
      have ez_6 : (6 : Int32).toInt = 6 := by decide
      exact absurd (show False by omega) id
    · skip
      have d_c_4 := zz_eq.mp c_4
      have d_c_70 := (not_congr zz_eq).mp c_70
      have d_c_71 := (not_congr zz_eq).mp c_71
      have d_c_72 := (not_congr zz_eq).mp c_72
      have d_c_73 := (not_congr zz_eq).mp c_73
      have d_c_74 := (not_congr zz_eq).mp c_74
      have d_c_75 := (not_congr zz_eq).mp c_75
      have d_c_76 := (not_congr zz_eq).mp c_76
      have ez_0 : (0 : Int32).toInt = 0 := by decide
      have ez_1 : (1 : Int32).toInt = 1 := by decide
      have ez_2 : (2 : Int32).toInt = 2 := by decide
      have ez_3 : (3 : Int32).toInt = 3 := by decide
      have ez_4 : (4 : Int32).toInt = 4 := by decide
      have ez_5 : (5 : Int32).toInt = 5 := by decide
      have ez_6 : (6 : Int32).toInt = 6 := by decide
      exact absurd (show False by omega) id
  · skip
    refine lv_aload_n hx hb dL_law_1155 rfl (lv_at hl 2 rfl) ?_
    refine lv_aload_n hx hb dL_law_1156 rfl (lv_at hl 0 rfl) ?_
    refine lv_iload hx hb dL_law_1157 (lv_at hl 4 rfl) ?_
    refine lv_iconst (v := 1) hx hb dL_law_1159 (by decide) ?_
    refine lv_iadd hx hb dL_law_1160 ?_
    refine lv_topi (fun x_79 ex_79 => ?_)
    have ex_79 : x_79 = 1 := ex_79.trans (by decide)
    subst ex_79
    refine va_sld hx hb hX hbl hbA hS (vp_in_iff.mpr ⟨by decide, by decide⟩) dL_law_1161 ?_
    refine lv_topi (fun x_80 ex_80 => ?_)
    have ex_80 : x_2 = x_80 := ex_2.trans ex_80.symm
    subst ex_80
    have hPc := hP.sub (ws' := [(zm, .inr (12, [.int 0, .ref zm_y0, .int 0, .int 0, .int 0, .int 0, .ref zm_y1, .ref zm_y2, .ref zm_y3, .ref zm_y4, .ref zm_y5, .ref zm_y6, .ref zm_y7, .int 0, .int 0, .ref zm_y8, .ref zm_y9, .int 0, .int 0, .int 0, .int 0, .ref zm_y10, .ref zm_y11, .int 0, .int 0, .int 0, .int 0, .int 0, .ref zm_y12, .ref zm_y13, .ref zm_y14, .ref zm_y15, .int 0, .ref zm_y16, .ref zm_y17, .ref zm_y18, .int (-1), .int (-1), .int (-1), .int 0, .int 0, .int 0, .ref zm_y19, .ref zm_y20, .int 0, .ref zm_y21, .ref zm_y22, .ref zm_y23, .ref zm_y24, .ref zm_y25, .int 0, .ref zm_y26, .ref zm_y27, .ref zm_y28, .int 0, .int 0, .int 0, .ref zm_y29, .ref zm_y30, .ref zm_y31, .ref zm_y32, .int 0, .int 0, .long 0, .int 0, .int 0, .int 0, .int 0, .int 0, .int 0]))]) [0] rfl
    have hDc := hD.sub (ws' := [(zm, .inr (12, [.int 0, .ref zm_y0, .int 0, .int 0, .int 0, .int 0, .ref zm_y1, .ref zm_y2, .ref zm_y3, .ref zm_y4, .ref zm_y5, .ref zm_y6, .ref zm_y7, .int 0, .int 0, .ref zm_y8, .ref zm_y9, .int 0, .int 0, .int 0, .int 0, .ref zm_y10, .ref zm_y11, .int 0, .int 0, .int 0, .int 0, .int 0, .ref zm_y12, .ref zm_y13, .ref zm_y14, .ref zm_y15, .int 0, .ref zm_y16, .ref zm_y17, .ref zm_y18, .int (-1), .int (-1), .int (-1), .int 0, .int 0, .int 0, .ref zm_y19, .ref zm_y20, .int 0, .ref zm_y21, .ref zm_y22, .ref zm_y23, .ref zm_y24, .ref zm_y25, .int 0, .ref zm_y26, .ref zm_y27, .ref zm_y28, .int 0, .int 0, .int 0, .ref zm_y29, .ref zm_y30, .ref zm_y31, .ref zm_y32, .int 0, .int 0, .long 0, .int 0, .int 0, .int 0, .int 0, .int 0, .int 0]))]) [0] (by decide) rfl
    have hKc := hK.sub (tys' := []) [] rfl
    have hFc := va_free (wc := [(zm, .inr (12, [.int 0, .ref zm_y0, .int 0, .int 0, .int 0, .int 0, .ref zm_y1, .ref zm_y2, .ref zm_y3, .ref zm_y4, .ref zm_y5, .ref zm_y6, .ref zm_y7, .int 0, .int 0, .ref zm_y8, .ref zm_y9, .int 0, .int 0, .int 0, .int 0, .ref zm_y10, .ref zm_y11, .int 0, .int 0, .int 0, .int 0, .int 0, .ref zm_y12, .ref zm_y13, .ref zm_y14, .ref zm_y15, .int 0, .ref zm_y16, .ref zm_y17, .ref zm_y18, .int (-1), .int (-1), .int (-1), .int 0, .int 0, .int 0, .ref zm_y19, .ref zm_y20, .int 0, .ref zm_y21, .ref zm_y22, .ref zm_y23, .ref zm_y24, .ref zm_y25, .int 0, .ref zm_y26, .ref zm_y27, .ref zm_y28, .int 0, .int 0, .int 0, .ref zm_y29, .ref zm_y30, .ref zm_y31, .ref zm_y32, .int 0, .int 0, .long 0, .int 0, .int 0, .int 0, .int 0, .int 0, .int 0]))]) hD hS hA [0] rfl
    refine va_calli (va_runV (As := [.int x_2]) (rest := [.int 0]) ⟨hx, hb, hml, hown, hts⟩ (zk_X12_count_t l dC dI (zm) (x_2) (zm_y0) (zm_y1) (zm_y2) (zm_y3) (zm_y4) (zm_y5) (zm_y6) (zm_y7) (zm_y8) (zm_y9) (zm_y10) (zm_y11) (zm_y12) (zm_y13) (zm_y14) (zm_y15) (zm_y16) (zm_y17) (zm_y18) (zm_y19) (zm_y20) (zm_y21) (zm_y22) (zm_y23) (zm_y24) (zm_y25) (zm_y26) (zm_y27) (zm_y28) (zm_y29) (zm_y30) (zm_y31) (zm_y32) H.size) (cwV 1 hts gL_law_X12_count rfl rfl rfl (by decide +kernel) ⟨Nat.le_of_ble_eq_true rfl, Nat.le_of_ble_eq_true rfl⟩) ⟨zw_blind, va_recv hK hP (ci := 12) (q0 := 0) rfl rfl, fun U hU hW => ⟨rfl, zw_P.of hPc hKc hDc hN U hU hW⟩⟩ rfl rfl hl.1 rfl (lv_room (Nat.le_of_ble_eq_true rfl)) dL_law_1162 ⟨Nat.le_of_ble_eq_true rfl, Nat.le_of_ble_eq_true rfl⟩) hS (fun q _ h => hFc q h) hFc (fun r_81 u t H1 locs ht hvm hw hB hz1 hk1 hS => ?_)
    obtain ⟨hP1, hK1, hD1⟩ := hB
    rw [ht] at hP1
    obtain ⟨hP, hD⟩ := va_join (wr := []) (w1 := []) hP hD [0] [] rfl rfl (by decide) (by decide) hk1 hFc hP1 hD1
    generalize H1 = H at hP hS ⊢
    have hP : va_P (dC, dI) classes [] H := hP
    have hD : va_D (fun q : Nat => s.heap.size ≤ q) [] := hD
    rcases hw with ⟨c_82, rfl⟩ | ⟨c_83, c_84, rfl⟩ | ⟨c_85, c_86, c_87, rfl⟩ | ⟨c_88, c_89, c_90, c_91, rfl⟩ | ⟨c_92, c_93, c_94, c_95, c_96, rfl⟩ | ⟨c_97, c_98, c_99, c_100, c_101, c_102, rfl⟩ | ⟨c_103, c_104, c_105, c_106, c_107, c_108, c_109, rfl⟩ | ⟨c_110, c_111, c_112, c_113, c_114, c_115, c_116, rfl⟩
    · skip
      have d_c_5 := (not_congr zz_eq).mp c_5
      have d_c_6 := zz_eq.mp c_6
      have d_c_82 := zz_eq.mp c_82
      have ez_0 : (0 : Int32).toInt = 0 := by decide
      have ez_1 : (1 : Int32).toInt = 1 := by decide
      exact absurd (show False by omega) id
    · skip
      refine lv_icmp_eq (tgt := 1170) hx hb dL_law_1165 (by decide) (fun _ => ?_) (fun c9 => absurd (by decide) c9)
      refine lv_iinc (v := 6) (lv' := [(4, .int 6), (0, .ref b), (1, .ref zx), (2, .ref zm), (3, .ref zo)]) hx hb dL_law_1170 hl (k := 4) rfl (by decide) (by decide) rfl (fun ls hl => ?_)
      refine lv_goto (tgt := 23) hx hb dL_law_1173 (by decide) ?_
      refine lv_iload hx hb dL_law_23 (lv_at hl 0 rfl) ?_
      refine lv_aload_n hx hb dL_law_25 rfl (lv_at hl 1 rfl) ?_
      refine va_slen hx hb hX hbl hbA hS dL_law_26 ?_
      refine lv_topi (fun x_117 ex_117 => ?_)
      have ex_117 : x_117 = 6 := ex_117.trans (by decide)
      subst ex_117
      refine lv_bipush (v := 6) hx hb dL_law_27 (by decide) ?_
      refine lv_isub hx hb dL_law_29 ?_
      refine lv_topi (fun x_118 ex_118 => ?_)
      have ex_118 : x_118 = 0 := ex_118.trans (by decide)
      subst ex_118
      refine lv_icmp_gt (tgt := 1176) hx hb dL_law_30 (by decide) (fun _ => ?_) (fun c9 => absurd (by decide) c9)
      refine lv_iconst (v := 1) hx hb dL_law_1176 (by decide) ?_
      refine va_forget (fun q hq => hS.2.2 q hq) ?_
      refine W.widen (k := 600002) (n := 7302232) (Nat.le_of_ble_eq_true rfl) (Nat.le_of_ble_eq_true rfl) ?_
      exact lw_ret hx hb hr hlocks dL_law_1177
    · skip
      have d_c_5 := (not_congr zz_eq).mp c_5
      have d_c_6 := zz_eq.mp c_6
      have d_c_85 := (not_congr zz_eq).mp c_85
      have d_c_86 := (not_congr zz_eq).mp c_86
      have d_c_87 := zz_eq.mp c_87
      have ez_0 : (0 : Int32).toInt = 0 := by decide
      have ez_1 : (1 : Int32).toInt = 1 := by decide
      have ez_2 : (2 : Int32).toInt = 2 := by decide
      exact absurd (show False by omega) id
    · skip
      have d_c_5 := (not_congr zz_eq).mp c_5
      have d_c_6 := zz_eq.mp c_6
      have d_c_88 := (not_congr zz_eq).mp c_88
      have d_c_89 := (not_congr zz_eq).mp c_89
      have d_c_90 := (not_congr zz_eq).mp c_90
      have d_c_91 := zz_eq.mp c_91
      have ez_0 : (0 : Int32).toInt = 0 := by decide
      have ez_1 : (1 : Int32).toInt = 1 := by decide
      have ez_2 : (2 : Int32).toInt = 2 := by decide
      have ez_3 : (3 : Int32).toInt = 3 := by decide
      exact absurd (show False by omega) id
    · skip
      have d_c_5 := (not_congr zz_eq).mp c_5
      have d_c_6 := zz_eq.mp c_6
      have d_c_92 := (not_congr zz_eq).mp c_92
      have d_c_93 := (not_congr zz_eq).mp c_93
      have d_c_94 := (not_congr zz_eq).mp c_94
      have d_c_95 := (not_congr zz_eq).mp c_95
      have d_c_96 := zz_eq.mp c_96
      have ez_0 : (0 : Int32).toInt = 0 := by decide
      have ez_1 : (1 : Int32).toInt = 1 := by decide
      have ez_2 : (2 : Int32).toInt = 2 := by decide
      have ez_3 : (3 : Int32).toInt = 3 := by decide
      have ez_4 : (4 : Int32).toInt = 4 := by decide
      exact absurd (show False by omega) id
    · skip
      have d_c_5 := (not_congr zz_eq).mp c_5
      have d_c_6 := zz_eq.mp c_6
      have d_c_97 := (not_congr zz_eq).mp c_97
      have d_c_98 := (not_congr zz_eq).mp c_98
      have d_c_99 := (not_congr zz_eq).mp c_99
      have d_c_100 := (not_congr zz_eq).mp c_100
      have d_c_101 := (not_congr zz_eq).mp c_101
      have d_c_102 := zz_eq.mp c_102
      have ez_0 : (0 : Int32).toInt = 0 := by decide
      have ez_1 : (1 : Int32).toInt = 1 := by decide
      have ez_2 : (2 : Int32).toInt = 2 := by decide
      have ez_3 : (3 : Int32).toInt = 3 := by decide
      have ez_4 : (4 : Int32).toInt = 4 := by decide
      have ez_5 : (5 : Int32).toInt = 5 := by decide
      exact absurd (show False by omega) id
    · skip
      have d_c_5 := (not_congr zz_eq).mp c_5
      have d_c_6 := zz_eq.mp c_6
      have d_c_103 := (not_congr zz_eq).mp c_103
      have d_c_104 := (not_congr zz_eq).mp c_104
      have d_c_105 := (not_congr zz_eq).mp c_105
      have d_c_106 := (not_congr zz_eq).mp c_106
      have d_c_107 := (not_congr zz_eq).mp c_107
      have d_c_108 := (not_congr zz_eq).mp c_108
      have d_c_109 := zz_eq.mp c_109
      have ez_0 : (0 : Int32).toInt = 0 := by decide
      have ez_1 : (1 : Int32).toInt = 1 := by decide
      have ez_2 : (2 : Int32).toInt = 2 := by decide
      have ez_3 : (3 : Int32).toInt = 3 := by decide
      have ez_4 : (4 : Int32).toInt = 4 := by decide
      have ez_5 : (5 : Int32).toInt = 5 := by decide
      have ez_6 : (6 : Int32).toInt = 6 := by decide
      exact absurd (show False by omega) id
    · skip
      have d_c_5 := (not_congr zz_eq).mp c_5
      have d_c_6 := zz_eq.mp c_6
      have d_c_110 := (not_congr zz_eq).mp c_110
      have d_c_111 := (not_congr zz_eq).mp c_111
      have d_c_112 := (not_congr zz_eq).mp c_112
      have d_c_113 := (not_congr zz_eq).mp c_113
      have d_c_114 := (not_congr zz_eq).mp c_114
      have d_c_115 := (not_congr zz_eq).mp c_115
      have d_c_116 := (not_congr zz_eq).mp c_116
      have ez_0 : (0 : Int32).toInt = 0 := by decide
      have ez_1 : (1 : Int32).toInt = 1 := by decide
      have ez_2 : (2 : Int32).toInt = 2 := by decide
      have ez_3 : (3 : Int32).toInt = 3 := by decide
      have ez_4 : (4 : Int32).toInt = 4 := by decide
      have ez_5 : (5 : Int32).toInt = 5 := by decide
      have ez_6 : (6 : Int32).toInt = 6 := by decide
      exact absurd (show False by omega) id
  · skip
    refine lv_aload_n hx hb dL_law_1155 rfl (lv_at hl 2 rfl) ?_
    refine lv_aload_n hx hb dL_law_1156 rfl (lv_at hl 0 rfl) ?_
    refine lv_iload hx hb dL_law_1157 (lv_at hl 4 rfl) ?_
    refine lv_iconst (v := 1) hx hb dL_law_1159 (by decide) ?_
    refine lv_iadd hx hb dL_law_1160 ?_
    refine lv_topi (fun x_119 ex_119 => ?_)
    have ex_119 : x_119 = 1 := ex_119.trans (by decide)
    subst ex_119
    refine va_sld hx hb hX hbl hbA hS (vp_in_iff.mpr ⟨by decide, by decide⟩) dL_law_1161 ?_
    refine lv_topi (fun x_120 ex_120 => ?_)
    have ex_120 : x_2 = x_120 := ex_2.trans ex_120.symm
    subst ex_120
    have hPc := hP.sub (ws' := [(zm, .inr (12, [.int 0, .ref zm_y0, .int 0, .int 0, .int 0, .int 0, .ref zm_y1, .ref zm_y2, .ref zm_y3, .ref zm_y4, .ref zm_y5, .ref zm_y6, .ref zm_y7, .int 0, .int 0, .ref zm_y8, .ref zm_y9, .int 0, .int 0, .int 0, .int 0, .ref zm_y10, .ref zm_y11, .int 0, .int 0, .int 0, .int 0, .int 0, .ref zm_y12, .ref zm_y13, .ref zm_y14, .ref zm_y15, .int 0, .ref zm_y16, .ref zm_y17, .ref zm_y18, .int (-1), .int (-1), .int (-1), .int 0, .int 0, .int 0, .ref zm_y19, .ref zm_y20, .int 0, .ref zm_y21, .ref zm_y22, .ref zm_y23, .ref zm_y24, .ref zm_y25, .int 0, .ref zm_y26, .ref zm_y27, .ref zm_y28, .int 0, .int 0, .int 0, .ref zm_y29, .ref zm_y30, .ref zm_y31, .ref zm_y32, .int 0, .int 0, .long 0, .int 0, .int 0, .int 0, .int 0, .int 0, .int 0]))]) [0] rfl
    have hDc := hD.sub (ws' := [(zm, .inr (12, [.int 0, .ref zm_y0, .int 0, .int 0, .int 0, .int 0, .ref zm_y1, .ref zm_y2, .ref zm_y3, .ref zm_y4, .ref zm_y5, .ref zm_y6, .ref zm_y7, .int 0, .int 0, .ref zm_y8, .ref zm_y9, .int 0, .int 0, .int 0, .int 0, .ref zm_y10, .ref zm_y11, .int 0, .int 0, .int 0, .int 0, .int 0, .ref zm_y12, .ref zm_y13, .ref zm_y14, .ref zm_y15, .int 0, .ref zm_y16, .ref zm_y17, .ref zm_y18, .int (-1), .int (-1), .int (-1), .int 0, .int 0, .int 0, .ref zm_y19, .ref zm_y20, .int 0, .ref zm_y21, .ref zm_y22, .ref zm_y23, .ref zm_y24, .ref zm_y25, .int 0, .ref zm_y26, .ref zm_y27, .ref zm_y28, .int 0, .int 0, .int 0, .ref zm_y29, .ref zm_y30, .ref zm_y31, .ref zm_y32, .int 0, .int 0, .long 0, .int 0, .int 0, .int 0, .int 0, .int 0, .int 0]))]) [0] (by decide) rfl
    have hKc := hK.sub (tys' := []) [] rfl
    have hFc := va_free (wc := [(zm, .inr (12, [.int 0, .ref zm_y0, .int 0, .int 0, .int 0, .int 0, .ref zm_y1, .ref zm_y2, .ref zm_y3, .ref zm_y4, .ref zm_y5, .ref zm_y6, .ref zm_y7, .int 0, .int 0, .ref zm_y8, .ref zm_y9, .int 0, .int 0, .int 0, .int 0, .ref zm_y10, .ref zm_y11, .int 0, .int 0, .int 0, .int 0, .int 0, .ref zm_y12, .ref zm_y13, .ref zm_y14, .ref zm_y15, .int 0, .ref zm_y16, .ref zm_y17, .ref zm_y18, .int (-1), .int (-1), .int (-1), .int 0, .int 0, .int 0, .ref zm_y19, .ref zm_y20, .int 0, .ref zm_y21, .ref zm_y22, .ref zm_y23, .ref zm_y24, .ref zm_y25, .int 0, .ref zm_y26, .ref zm_y27, .ref zm_y28, .int 0, .int 0, .int 0, .ref zm_y29, .ref zm_y30, .ref zm_y31, .ref zm_y32, .int 0, .int 0, .long 0, .int 0, .int 0, .int 0, .int 0, .int 0, .int 0]))]) hD hS hA [0] rfl
    refine va_calli (va_runV (As := [.int x_2]) (rest := [.int 0]) ⟨hx, hb, hml, hown, hts⟩ (zk_X12_count_t l dC dI (zm) (x_2) (zm_y0) (zm_y1) (zm_y2) (zm_y3) (zm_y4) (zm_y5) (zm_y6) (zm_y7) (zm_y8) (zm_y9) (zm_y10) (zm_y11) (zm_y12) (zm_y13) (zm_y14) (zm_y15) (zm_y16) (zm_y17) (zm_y18) (zm_y19) (zm_y20) (zm_y21) (zm_y22) (zm_y23) (zm_y24) (zm_y25) (zm_y26) (zm_y27) (zm_y28) (zm_y29) (zm_y30) (zm_y31) (zm_y32) H.size) (cwV 1 hts gL_law_X12_count rfl rfl rfl (by decide +kernel) ⟨Nat.le_of_ble_eq_true rfl, Nat.le_of_ble_eq_true rfl⟩) ⟨zw_blind, va_recv hK hP (ci := 12) (q0 := 0) rfl rfl, fun U hU hW => ⟨rfl, zw_P.of hPc hKc hDc hN U hU hW⟩⟩ rfl rfl hl.1 rfl (lv_room (Nat.le_of_ble_eq_true rfl)) dL_law_1162 ⟨Nat.le_of_ble_eq_true rfl, Nat.le_of_ble_eq_true rfl⟩) hS (fun q _ h => hFc q h) hFc (fun r_121 u t H1 locs ht hvm hw hB hz1 hk1 hS => ?_)
    obtain ⟨hP1, hK1, hD1⟩ := hB
    rw [ht] at hP1
    obtain ⟨hP, hD⟩ := va_join (wr := []) (w1 := []) hP hD [0] [] rfl rfl (by decide) (by decide) hk1 hFc hP1 hD1
    generalize H1 = H at hP hS ⊢
    have hP : va_P (dC, dI) classes [] H := hP
    have hD : va_D (fun q : Nat => s.heap.size ≤ q) [] := hD
    rcases hw with ⟨c_122, rfl⟩ | ⟨c_123, c_124, rfl⟩ | ⟨c_125, c_126, c_127, rfl⟩ | ⟨c_128, c_129, c_130, c_131, rfl⟩ | ⟨c_132, c_133, c_134, c_135, c_136, rfl⟩ | ⟨c_137, c_138, c_139, c_140, c_141, c_142, rfl⟩ | ⟨c_143, c_144, c_145, c_146, c_147, c_148, c_149, rfl⟩ | ⟨c_150, c_151, c_152, c_153, c_154, c_155, c_156, rfl⟩
    · skip
      have d_c_7 := (not_congr zz_eq).mp c_7
      have d_c_8 := (not_congr zz_eq).mp c_8
      have d_c_9 := zz_eq.mp c_9
      have d_c_122 := zz_eq.mp c_122
      have ez_0 : (0 : Int32).toInt = 0 := by decide
      have ez_1 : (1 : Int32).toInt = 1 := by decide
      have ez_2 : (2 : Int32).toInt = 2 := by decide
      exact absurd (show False by omega) id
    · skip
      have d_c_7 := (not_congr zz_eq).mp c_7
      have d_c_8 := (not_congr zz_eq).mp c_8
      have d_c_9 := zz_eq.mp c_9
      have d_c_123 := (not_congr zz_eq).mp c_123
      have d_c_124 := zz_eq.mp c_124
      have ez_0 : (0 : Int32).toInt = 0 := by decide
      have ez_1 : (1 : Int32).toInt = 1 := by decide
      have ez_2 : (2 : Int32).toInt = 2 := by decide
      exact absurd (show False by omega) id
    · skip
      refine lv_icmp_eq (tgt := 1170) hx hb dL_law_1165 (by decide) (fun _ => ?_) (fun c9 => absurd (by decide) c9)
      refine lv_iinc (v := 6) (lv' := [(4, .int 6), (0, .ref b), (1, .ref zx), (2, .ref zm), (3, .ref zo)]) hx hb dL_law_1170 hl (k := 4) rfl (by decide) (by decide) rfl (fun ls hl => ?_)
      refine lv_goto (tgt := 23) hx hb dL_law_1173 (by decide) ?_
      refine lv_iload hx hb dL_law_23 (lv_at hl 0 rfl) ?_
      refine lv_aload_n hx hb dL_law_25 rfl (lv_at hl 1 rfl) ?_
      refine va_slen hx hb hX hbl hbA hS dL_law_26 ?_
      refine lv_topi (fun x_157 ex_157 => ?_)
      have ex_157 : x_157 = 6 := ex_157.trans (by decide)
      subst ex_157
      refine lv_bipush (v := 6) hx hb dL_law_27 (by decide) ?_
      refine lv_isub hx hb dL_law_29 ?_
      refine lv_topi (fun x_158 ex_158 => ?_)
      have ex_158 : x_158 = 0 := ex_158.trans (by decide)
      subst ex_158
      refine lv_icmp_gt (tgt := 1176) hx hb dL_law_30 (by decide) (fun _ => ?_) (fun c9 => absurd (by decide) c9)
      refine lv_iconst (v := 1) hx hb dL_law_1176 (by decide) ?_
      refine va_forget (fun q hq => hS.2.2 q hq) ?_
      refine W.widen (k := 600002) (n := 7302232) (Nat.le_of_ble_eq_true rfl) (Nat.le_of_ble_eq_true rfl) ?_
      exact lw_ret hx hb hr hlocks dL_law_1177
    · skip
      have d_c_7 := (not_congr zz_eq).mp c_7
      have d_c_8 := (not_congr zz_eq).mp c_8
      have d_c_9 := zz_eq.mp c_9
      have d_c_128 := (not_congr zz_eq).mp c_128
      have d_c_129 := (not_congr zz_eq).mp c_129
      have d_c_130 := (not_congr zz_eq).mp c_130
      have d_c_131 := zz_eq.mp c_131
      have ez_0 : (0 : Int32).toInt = 0 := by decide
      have ez_1 : (1 : Int32).toInt = 1 := by decide
      have ez_2 : (2 : Int32).toInt = 2 := by decide
      have ez_3 : (3 : Int32).toInt = 3 := by decide
      exact absurd (show False by omega) id
    · skip
      have d_c_7 := (not_congr zz_eq).mp c_7
      have d_c_8 := (not_congr zz_eq).mp c_8
      have d_c_9 := zz_eq.mp c_9
      have d_c_132 := (not_congr zz_eq).mp c_132
      have d_c_133 := (not_congr zz_eq).mp c_133
      have d_c_134 := (not_congr zz_eq).mp c_134
      have d_c_135 := (not_congr zz_eq).mp c_135
      have d_c_136 := zz_eq.mp c_136
      have ez_0 : (0 : Int32).toInt = 0 := by decide
      have ez_1 : (1 : Int32).toInt = 1 := by decide
      have ez_2 : (2 : Int32).toInt = 2 := by decide
      have ez_3 : (3 : Int32).toInt = 3 := by decide
      have ez_4 : (4 : Int32).toInt = 4 := by decide
      exact absurd (show False by omega) id
    · skip
      have d_c_7 := (not_congr zz_eq).mp c_7
      have d_c_8 := (not_congr zz_eq).mp c_8
      have d_c_9 := zz_eq.mp c_9
      have d_c_137 := (not_congr zz_eq).mp c_137
      have d_c_138 := (not_congr zz_eq).mp c_138
      have d_c_139 := (not_congr zz_eq).mp c_139
      have d_c_140 := (not_congr zz_eq).mp c_140
      have d_c_141 := (not_congr zz_eq).mp c_141
      have d_c_142 := zz_eq.mp c_142
      have ez_0 : (0 : Int32).toInt = 0 := by decide
      have ez_1 : (1 : Int32).toInt = 1 := by decide
      have ez_2 : (2 : Int32).toInt = 2 := by decide
      have ez_3 : (3 : Int32).toInt = 3 := by decide
      have ez_4 : (4 : Int32).toInt = 4 := by decide
      have ez_5 : (5 : Int32).toInt = 5 := by decide
      exact absurd (show False by omega) id
    · skip
      have d_c_7 := (not_congr zz_eq).mp c_7
      have d_c_8 := (not_congr zz_eq).mp c_8
      have d_c_9 := zz_eq.mp c_9
      have d_c_143 := (not_congr zz_eq).mp c_143
      have d_c_144 := (not_congr zz_eq).mp c_144
      have d_c_145 := (not_congr zz_eq).mp c_145
      have d_c_146 := (not_congr zz_eq).mp c_146
      have d_c_147 := (not_congr zz_eq).mp c_147
      have d_c_148 := (not_congr zz_eq).mp c_148
      have d_c_149 := zz_eq.mp c_149
      have ez_0 : (0 : Int32).toInt = 0 := by decide
      have ez_1 : (1 : Int32).toInt = 1 := by decide
      have ez_2 : (2 : Int32).toInt = 2 := by decide
      have ez_3 : (3 : Int32).toInt = 3 := by decide
      have ez_4 : (4 : Int32).toInt = 4 := by decide
      have ez_5 : (5 : Int32).toInt = 5 := by decide
      have ez_6 : (6 : Int32).toInt = 6 := by decide
      exact absurd (show False by omega) id
    · skip
      have d_c_7 := (not_congr zz_eq).mp c_7
      have d_c_8 := (not_congr zz_eq).mp c_8
      have d_c_9 := zz_eq.mp c_9
      have d_c_150 := (not_congr zz_eq).mp c_150
      have d_c_151 := (not_congr zz_eq).mp c_151
      have d_c_152 := (not_congr zz_eq).mp c_152
      have d_c_153 := (not_congr zz_eq).mp c_153
      have d_c_154 := (not_congr zz_eq).mp c_154
      have d_c_155 := (not_congr zz_eq).mp c_155
      have d_c_156 := (not_congr zz_eq).mp c_156
      have ez_0 : (0 : Int32).toInt = 0 := by decide
      have ez_1 : (1 : Int32).toInt = 1 := by decide
      have ez_2 : (2 : Int32).toInt = 2 := by decide
      have ez_3 : (3 : Int32).toInt = 3 := by decide
      have ez_4 : (4 : Int32).toInt = 4 := by decide
      have ez_5 : (5 : Int32).toInt = 5 := by decide
      have ez_6 : (6 : Int32).toInt = 6 := by decide
      exact absurd (show False by omega) id
  · skip
    refine lv_aload_n hx hb dL_law_1155 rfl (lv_at hl 2 rfl) ?_
    refine lv_aload_n hx hb dL_law_1156 rfl (lv_at hl 0 rfl) ?_
    refine lv_iload hx hb dL_law_1157 (lv_at hl 4 rfl) ?_
    refine lv_iconst (v := 1) hx hb dL_law_1159 (by decide) ?_
    refine lv_iadd hx hb dL_law_1160 ?_
    refine lv_topi (fun x_159 ex_159 => ?_)
    have ex_159 : x_159 = 1 := ex_159.trans (by decide)
    subst ex_159
    refine va_sld hx hb hX hbl hbA hS (vp_in_iff.mpr ⟨by decide, by decide⟩) dL_law_1161 ?_
    refine lv_topi (fun x_160 ex_160 => ?_)
    have ex_160 : x_2 = x_160 := ex_2.trans ex_160.symm
    subst ex_160
    have hPc := hP.sub (ws' := [(zm, .inr (12, [.int 0, .ref zm_y0, .int 0, .int 0, .int 0, .int 0, .ref zm_y1, .ref zm_y2, .ref zm_y3, .ref zm_y4, .ref zm_y5, .ref zm_y6, .ref zm_y7, .int 0, .int 0, .ref zm_y8, .ref zm_y9, .int 0, .int 0, .int 0, .int 0, .ref zm_y10, .ref zm_y11, .int 0, .int 0, .int 0, .int 0, .int 0, .ref zm_y12, .ref zm_y13, .ref zm_y14, .ref zm_y15, .int 0, .ref zm_y16, .ref zm_y17, .ref zm_y18, .int (-1), .int (-1), .int (-1), .int 0, .int 0, .int 0, .ref zm_y19, .ref zm_y20, .int 0, .ref zm_y21, .ref zm_y22, .ref zm_y23, .ref zm_y24, .ref zm_y25, .int 0, .ref zm_y26, .ref zm_y27, .ref zm_y28, .int 0, .int 0, .int 0, .ref zm_y29, .ref zm_y30, .ref zm_y31, .ref zm_y32, .int 0, .int 0, .long 0, .int 0, .int 0, .int 0, .int 0, .int 0, .int 0]))]) [0] rfl
    have hDc := hD.sub (ws' := [(zm, .inr (12, [.int 0, .ref zm_y0, .int 0, .int 0, .int 0, .int 0, .ref zm_y1, .ref zm_y2, .ref zm_y3, .ref zm_y4, .ref zm_y5, .ref zm_y6, .ref zm_y7, .int 0, .int 0, .ref zm_y8, .ref zm_y9, .int 0, .int 0, .int 0, .int 0, .ref zm_y10, .ref zm_y11, .int 0, .int 0, .int 0, .int 0, .int 0, .ref zm_y12, .ref zm_y13, .ref zm_y14, .ref zm_y15, .int 0, .ref zm_y16, .ref zm_y17, .ref zm_y18, .int (-1), .int (-1), .int (-1), .int 0, .int 0, .int 0, .ref zm_y19, .ref zm_y20, .int 0, .ref zm_y21, .ref zm_y22, .ref zm_y23, .ref zm_y24, .ref zm_y25, .int 0, .ref zm_y26, .ref zm_y27, .ref zm_y28, .int 0, .int 0, .int 0, .ref zm_y29, .ref zm_y30, .ref zm_y31, .ref zm_y32, .int 0, .int 0, .long 0, .int 0, .int 0, .int 0, .int 0, .int 0, .int 0]))]) [0] (by decide) rfl
    have hKc := hK.sub (tys' := []) [] rfl
    have hFc := va_free (wc := [(zm, .inr (12, [.int 0, .ref zm_y0, .int 0, .int 0, .int 0, .int 0, .ref zm_y1, .ref zm_y2, .ref zm_y3, .ref zm_y4, .ref zm_y5, .ref zm_y6, .ref zm_y7, .int 0, .int 0, .ref zm_y8, .ref zm_y9, .int 0, .int 0, .int 0, .int 0, .ref zm_y10, .ref zm_y11, .int 0, .int 0, .int 0, .int 0, .int 0, .ref zm_y12, .ref zm_y13, .ref zm_y14, .ref zm_y15, .int 0, .ref zm_y16, .ref zm_y17, .ref zm_y18, .int (-1), .int (-1), .int (-1), .int 0, .int 0, .int 0, .ref zm_y19, .ref zm_y20, .int 0, .ref zm_y21, .ref zm_y22, .ref zm_y23, .ref zm_y24, .ref zm_y25, .int 0, .ref zm_y26, .ref zm_y27, .ref zm_y28, .int 0, .int 0, .int 0, .ref zm_y29, .ref zm_y30, .ref zm_y31, .ref zm_y32, .int 0, .int 0, .long 0, .int 0, .int 0, .int 0, .int 0, .int 0, .int 0]))]) hD hS hA [0] rfl
    refine va_calli (va_runV (As := [.int x_2]) (rest := [.int 0]) ⟨hx, hb, hml, hown, hts⟩ (zk_X12_count_t l dC dI (zm) (x_2) (zm_y0) (zm_y1) (zm_y2) (zm_y3) (zm_y4) (zm_y5) (zm_y6) (zm_y7) (zm_y8) (zm_y9) (zm_y10) (zm_y11) (zm_y12) (zm_y13) (zm_y14) (zm_y15) (zm_y16) (zm_y17) (zm_y18) (zm_y19) (zm_y20) (zm_y21) (zm_y22) (zm_y23) (zm_y24) (zm_y25) (zm_y26) (zm_y27) (zm_y28) (zm_y29) (zm_y30) (zm_y31) (zm_y32) H.size) (cwV 1 hts gL_law_X12_count rfl rfl rfl (by decide +kernel) ⟨Nat.le_of_ble_eq_true rfl, Nat.le_of_ble_eq_true rfl⟩) ⟨zw_blind, va_recv hK hP (ci := 12) (q0 := 0) rfl rfl, fun U hU hW => ⟨rfl, zw_P.of hPc hKc hDc hN U hU hW⟩⟩ rfl rfl hl.1 rfl (lv_room (Nat.le_of_ble_eq_true rfl)) dL_law_1162 ⟨Nat.le_of_ble_eq_true rfl, Nat.le_of_ble_eq_true rfl⟩) hS (fun q _ h => hFc q h) hFc (fun r_161 u t H1 locs ht hvm hw hB hz1 hk1 hS => ?_)
    obtain ⟨hP1, hK1, hD1⟩ := hB
    rw [ht] at hP1
    obtain ⟨hP, hD⟩ := va_join (wr := []) (w1 := []) hP hD [0] [] rfl rfl (by decide) (by decide) hk1 hFc hP1 hD1
    generalize H1 = H at hP hS ⊢
    have hP : va_P (dC, dI) classes [] H := hP
    have hD : va_D (fun q : Nat => s.heap.size ≤ q) [] := hD
    rcases hw with ⟨c_162, rfl⟩ | ⟨c_163, c_164, rfl⟩ | ⟨c_165, c_166, c_167, rfl⟩ | ⟨c_168, c_169, c_170, c_171, rfl⟩ | ⟨c_172, c_173, c_174, c_175, c_176, rfl⟩ | ⟨c_177, c_178, c_179, c_180, c_181, c_182, rfl⟩ | ⟨c_183, c_184, c_185, c_186, c_187, c_188, c_189, rfl⟩ | ⟨c_190, c_191, c_192, c_193, c_194, c_195, c_196, rfl⟩
    · skip
      have d_c_10 := (not_congr zz_eq).mp c_10
      have d_c_11 := (not_congr zz_eq).mp c_11
      have d_c_12 := (not_congr zz_eq).mp c_12
      have d_c_13 := zz_eq.mp c_13
      have d_c_162 := zz_eq.mp c_162
      have ez_0 : (0 : Int32).toInt = 0 := by decide
      have ez_1 : (1 : Int32).toInt = 1 := by decide
      have ez_2 : (2 : Int32).toInt = 2 := by decide
      have ez_3 : (3 : Int32).toInt = 3 := by decide
      exact absurd (show False by omega) id
    · skip
      have d_c_10 := (not_congr zz_eq).mp c_10
      have d_c_11 := (not_congr zz_eq).mp c_11
      have d_c_12 := (not_congr zz_eq).mp c_12
      have d_c_13 := zz_eq.mp c_13
      have d_c_163 := (not_congr zz_eq).mp c_163
      have d_c_164 := zz_eq.mp c_164
      have ez_0 : (0 : Int32).toInt = 0 := by decide
      have ez_1 : (1 : Int32).toInt = 1 := by decide
      have ez_2 : (2 : Int32).toInt = 2 := by decide
      have ez_3 : (3 : Int32).toInt = 3 := by decide
      exact absurd (show False by omega) id
    · skip
      have d_c_10 := (not_congr zz_eq).mp c_10
      have d_c_11 := (not_congr zz_eq).mp c_11
      have d_c_12 := (not_congr zz_eq).mp c_12
      have d_c_13 := zz_eq.mp c_13
      have d_c_165 := (not_congr zz_eq).mp c_165
      have d_c_166 := (not_congr zz_eq).mp c_166
      have d_c_167 := zz_eq.mp c_167
      have ez_0 : (0 : Int32).toInt = 0 := by decide
      have ez_1 : (1 : Int32).toInt = 1 := by decide
      have ez_2 : (2 : Int32).toInt = 2 := by decide
      have ez_3 : (3 : Int32).toInt = 3 := by decide
      exact absurd (show False by omega) id
    · skip
      refine lv_icmp_eq (tgt := 1170) hx hb dL_law_1165 (by decide) (fun _ => ?_) (fun c9 => absurd (by decide) c9)
      refine lv_iinc (v := 6) (lv' := [(4, .int 6), (0, .ref b), (1, .ref zx), (2, .ref zm), (3, .ref zo)]) hx hb dL_law_1170 hl (k := 4) rfl (by decide) (by decide) rfl (fun ls hl => ?_)
      refine lv_goto (tgt := 23) hx hb dL_law_1173 (by decide) ?_
      refine lv_iload hx hb dL_law_23 (lv_at hl 0 rfl) ?_
      refine lv_aload_n hx hb dL_law_25 rfl (lv_at hl 1 rfl) ?_
      refine va_slen hx hb hX hbl hbA hS dL_law_26 ?_
      refine lv_topi (fun x_197 ex_197 => ?_)
      have ex_197 : x_197 = 6 := ex_197.trans (by decide)
      subst ex_197
      refine lv_bipush (v := 6) hx hb dL_law_27 (by decide) ?_
      refine lv_isub hx hb dL_law_29 ?_
      refine lv_topi (fun x_198 ex_198 => ?_)
      have ex_198 : x_198 = 0 := ex_198.trans (by decide)
      subst ex_198
      refine lv_icmp_gt (tgt := 1176) hx hb dL_law_30 (by decide) (fun _ => ?_) (fun c9 => absurd (by decide) c9)
      refine lv_iconst (v := 1) hx hb dL_law_1176 (by decide) ?_
      refine va_forget (fun q hq => hS.2.2 q hq) ?_
      refine W.widen (k := 600002) (n := 7302232) (Nat.le_of_ble_eq_true rfl) (Nat.le_of_ble_eq_true rfl) ?_
      exact lw_ret hx hb hr hlocks dL_law_1177
    · skip
      have d_c_10 := (not_congr zz_eq).mp c_10
      have d_c_11 := (not_congr zz_eq).mp c_11
      have d_c_12 := (not_congr zz_eq).mp c_12
      have d_c_13 := zz_eq.mp c_13
      have d_c_172 := (not_congr zz_eq).mp c_172
      have d_c_173 := (not_congr zz_eq).mp c_173
      have d_c_174 := (not_congr zz_eq).mp c_174
      have d_c_175 := (not_congr zz_eq).mp c_175
      have d_c_176 := zz_eq.mp c_176
      have ez_0 : (0 : Int32).toInt = 0 := by decide
      have ez_1 : (1 : Int32).toInt = 1 := by decide
      have ez_2 : (2 : Int32).toInt = 2 := by decide
      have ez_3 : (3 : Int32).toInt = 3 := by decide
      have ez_4 : (4 : Int32).toInt = 4 := by decide
      exact absurd (show False by omega) id
    · skip
      have d_c_10 := (not_congr zz_eq).mp c_10
      have d_c_11 := (not_congr zz_eq).mp c_11
      have d_c_12 := (not_congr zz_eq).mp c_12
      have d_c_13 := zz_eq.mp c_13
      have d_c_177 := (not_congr zz_eq).mp c_177
      have d_c_178 := (not_congr zz_eq).mp c_178
      have d_c_179 := (not_congr zz_eq).mp c_179
      have d_c_180 := (not_congr zz_eq).mp c_180
      have d_c_181 := (not_congr zz_eq).mp c_181
      have d_c_182 := zz_eq.mp c_182
      have ez_0 : (0 : Int32).toInt = 0 := by decide
      have ez_1 : (1 : Int32).toInt = 1 := by decide
      have ez_2 : (2 : Int32).toInt = 2 := by decide
      have ez_3 : (3 : Int32).toInt = 3 := by decide
      have ez_4 : (4 : Int32).toInt = 4 := by decide
      have ez_5 : (5 : Int32).toInt = 5 := by decide
      exact absurd (show False by omega) id
    · skip
      have d_c_10 := (not_congr zz_eq).mp c_10
      have d_c_11 := (not_congr zz_eq).mp c_11
      have d_c_12 := (not_congr zz_eq).mp c_12
      have d_c_13 := zz_eq.mp c_13
      have d_c_183 := (not_congr zz_eq).mp c_183
      have d_c_184 := (not_congr zz_eq).mp c_184
      have d_c_185 := (not_congr zz_eq).mp c_185
      have d_c_186 := (not_congr zz_eq).mp c_186
      have d_c_187 := (not_congr zz_eq).mp c_187
      have d_c_188 := (not_congr zz_eq).mp c_188
      have d_c_189 := zz_eq.mp c_189
      have ez_0 : (0 : Int32).toInt = 0 := by decide
      have ez_1 : (1 : Int32).toInt = 1 := by decide
      have ez_2 : (2 : Int32).toInt = 2 := by decide
      have ez_3 : (3 : Int32).toInt = 3 := by decide
      have ez_4 : (4 : Int32).toInt = 4 := by decide
      have ez_5 : (5 : Int32).toInt = 5 := by decide
      have ez_6 : (6 : Int32).toInt = 6 := by decide
      exact absurd (show False by omega) id
    · skip
      have d_c_10 := (not_congr zz_eq).mp c_10
      have d_c_11 := (not_congr zz_eq).mp c_11
      have d_c_12 := (not_congr zz_eq).mp c_12
      have d_c_13 := zz_eq.mp c_13
      have d_c_190 := (not_congr zz_eq).mp c_190
      have d_c_191 := (not_congr zz_eq).mp c_191
      have d_c_192 := (not_congr zz_eq).mp c_192
      have d_c_193 := (not_congr zz_eq).mp c_193
      have d_c_194 := (not_congr zz_eq).mp c_194
      have d_c_195 := (not_congr zz_eq).mp c_195
      have d_c_196 := (not_congr zz_eq).mp c_196
      have ez_0 : (0 : Int32).toInt = 0 := by decide
      have ez_1 : (1 : Int32).toInt = 1 := by decide
      have ez_2 : (2 : Int32).toInt = 2 := by decide
      have ez_3 : (3 : Int32).toInt = 3 := by decide
      have ez_4 : (4 : Int32).toInt = 4 := by decide
      have ez_5 : (5 : Int32).toInt = 5 := by decide
      have ez_6 : (6 : Int32).toInt = 6 := by decide
      exact absurd (show False by omega) id
  · skip
    refine lv_aload_n hx hb dL_law_1155 rfl (lv_at hl 2 rfl) ?_
    refine lv_aload_n hx hb dL_law_1156 rfl (lv_at hl 0 rfl) ?_
    refine lv_iload hx hb dL_law_1157 (lv_at hl 4 rfl) ?_
    refine lv_iconst (v := 1) hx hb dL_law_1159 (by decide) ?_
    refine lv_iadd hx hb dL_law_1160 ?_
    refine lv_topi (fun x_199 ex_199 => ?_)
    have ex_199 : x_199 = 1 := ex_199.trans (by decide)
    subst ex_199
    refine va_sld hx hb hX hbl hbA hS (vp_in_iff.mpr ⟨by decide, by decide⟩) dL_law_1161 ?_
    refine lv_topi (fun x_200 ex_200 => ?_)
    have ex_200 : x_2 = x_200 := ex_2.trans ex_200.symm
    subst ex_200
    have hPc := hP.sub (ws' := [(zm, .inr (12, [.int 0, .ref zm_y0, .int 0, .int 0, .int 0, .int 0, .ref zm_y1, .ref zm_y2, .ref zm_y3, .ref zm_y4, .ref zm_y5, .ref zm_y6, .ref zm_y7, .int 0, .int 0, .ref zm_y8, .ref zm_y9, .int 0, .int 0, .int 0, .int 0, .ref zm_y10, .ref zm_y11, .int 0, .int 0, .int 0, .int 0, .int 0, .ref zm_y12, .ref zm_y13, .ref zm_y14, .ref zm_y15, .int 0, .ref zm_y16, .ref zm_y17, .ref zm_y18, .int (-1), .int (-1), .int (-1), .int 0, .int 0, .int 0, .ref zm_y19, .ref zm_y20, .int 0, .ref zm_y21, .ref zm_y22, .ref zm_y23, .ref zm_y24, .ref zm_y25, .int 0, .ref zm_y26, .ref zm_y27, .ref zm_y28, .int 0, .int 0, .int 0, .ref zm_y29, .ref zm_y30, .ref zm_y31, .ref zm_y32, .int 0, .int 0, .long 0, .int 0, .int 0, .int 0, .int 0, .int 0, .int 0]))]) [0] rfl
    have hDc := hD.sub (ws' := [(zm, .inr (12, [.int 0, .ref zm_y0, .int 0, .int 0, .int 0, .int 0, .ref zm_y1, .ref zm_y2, .ref zm_y3, .ref zm_y4, .ref zm_y5, .ref zm_y6, .ref zm_y7, .int 0, .int 0, .ref zm_y8, .ref zm_y9, .int 0, .int 0, .int 0, .int 0, .ref zm_y10, .ref zm_y11, .int 0, .int 0, .int 0, .int 0, .int 0, .ref zm_y12, .ref zm_y13, .ref zm_y14, .ref zm_y15, .int 0, .ref zm_y16, .ref zm_y17, .ref zm_y18, .int (-1), .int (-1), .int (-1), .int 0, .int 0, .int 0, .ref zm_y19, .ref zm_y20, .int 0, .ref zm_y21, .ref zm_y22, .ref zm_y23, .ref zm_y24, .ref zm_y25, .int 0, .ref zm_y26, .ref zm_y27, .ref zm_y28, .int 0, .int 0, .int 0, .ref zm_y29, .ref zm_y30, .ref zm_y31, .ref zm_y32, .int 0, .int 0, .long 0, .int 0, .int 0, .int 0, .int 0, .int 0, .int 0]))]) [0] (by decide) rfl
    have hKc := hK.sub (tys' := []) [] rfl
    have hFc := va_free (wc := [(zm, .inr (12, [.int 0, .ref zm_y0, .int 0, .int 0, .int 0, .int 0, .ref zm_y1, .ref zm_y2, .ref zm_y3, .ref zm_y4, .ref zm_y5, .ref zm_y6, .ref zm_y7, .int 0, .int 0, .ref zm_y8, .ref zm_y9, .int 0, .int 0, .int 0, .int 0, .ref zm_y10, .ref zm_y11, .int 0, .int 0, .int 0, .int 0, .int 0, .ref zm_y12, .ref zm_y13, .ref zm_y14, .ref zm_y15, .int 0, .ref zm_y16, .ref zm_y17, .ref zm_y18, .int (-1), .int (-1), .int (-1), .int 0, .int 0, .int 0, .ref zm_y19, .ref zm_y20, .int 0, .ref zm_y21, .ref zm_y22, .ref zm_y23, .ref zm_y24, .ref zm_y25, .int 0, .ref zm_y26, .ref zm_y27, .ref zm_y28, .int 0, .int 0, .int 0, .ref zm_y29, .ref zm_y30, .ref zm_y31, .ref zm_y32, .int 0, .int 0, .long 0, .int 0, .int 0, .int 0, .int 0, .int 0, .int 0]))]) hD hS hA [0] rfl
    refine va_calli (va_runV (As := [.int x_2]) (rest := [.int (-1)]) ⟨hx, hb, hml, hown, hts⟩ (zk_X12_count_t l dC dI (zm) (x_2) (zm_y0) (zm_y1) (zm_y2) (zm_y3) (zm_y4) (zm_y5) (zm_y6) (zm_y7) (zm_y8) (zm_y9) (zm_y10) (zm_y11) (zm_y12) (zm_y13) (zm_y14) (zm_y15) (zm_y16) (zm_y17) (zm_y18) (zm_y19) (zm_y20) (zm_y21) (zm_y22) (zm_y23) (zm_y24) (zm_y25) (zm_y26) (zm_y27) (zm_y28) (zm_y29) (zm_y30) (zm_y31) (zm_y32) H.size) (cwV 1 hts gL_law_X12_count rfl rfl rfl (by decide +kernel) ⟨Nat.le_of_ble_eq_true rfl, Nat.le_of_ble_eq_true rfl⟩) ⟨zw_blind, va_recv hK hP (ci := 12) (q0 := 0) rfl rfl, fun U hU hW => ⟨rfl, zw_P.of hPc hKc hDc hN U hU hW⟩⟩ rfl rfl hl.1 rfl (lv_room (Nat.le_of_ble_eq_true rfl)) dL_law_1162 ⟨Nat.le_of_ble_eq_true rfl, Nat.le_of_ble_eq_true rfl⟩) hS (fun q _ h => hFc q h) hFc (fun r_201 u t H1 locs ht hvm hw hB hz1 hk1 hS => ?_)
    obtain ⟨hP1, hK1, hD1⟩ := hB
    rw [ht] at hP1
    obtain ⟨hP, hD⟩ := va_join (wr := []) (w1 := []) hP hD [0] [] rfl rfl (by decide) (by decide) hk1 hFc hP1 hD1
    generalize H1 = H at hP hS ⊢
    have hP : va_P (dC, dI) classes [] H := hP
    have hD : va_D (fun q : Nat => s.heap.size ≤ q) [] := hD
    rcases hw with ⟨c_202, rfl⟩ | ⟨c_203, c_204, rfl⟩ | ⟨c_205, c_206, c_207, rfl⟩ | ⟨c_208, c_209, c_210, c_211, rfl⟩ | ⟨c_212, c_213, c_214, c_215, c_216, rfl⟩ | ⟨c_217, c_218, c_219, c_220, c_221, c_222, rfl⟩ | ⟨c_223, c_224, c_225, c_226, c_227, c_228, c_229, rfl⟩ | ⟨c_230, c_231, c_232, c_233, c_234, c_235, c_236, rfl⟩
    · skip
      have d_c_14 := (not_congr zz_eq).mp c_14
      have d_c_15 := (not_congr zz_eq).mp c_15
      have d_c_16 := (not_congr zz_eq).mp c_16
      have d_c_17 := (not_congr zz_eq).mp c_17
      have d_c_18 := zz_eq.mp c_18
      have d_c_202 := zz_eq.mp c_202
      have ez_0 : (0 : Int32).toInt = 0 := by decide
      have ez_1 : (1 : Int32).toInt = 1 := by decide
      have ez_2 : (2 : Int32).toInt = 2 := by decide
      have ez_3 : (3 : Int32).toInt = 3 := by decide
      have ez_4 : (4 : Int32).toInt = 4 := by decide
      exact absurd (show False by omega) id
    · skip
      have d_c_14 := (not_congr zz_eq).mp c_14
      have d_c_15 := (not_congr zz_eq).mp c_15
      have d_c_16 := (not_congr zz_eq).mp c_16
      have d_c_17 := (not_congr zz_eq).mp c_17
      have d_c_18 := zz_eq.mp c_18
      have d_c_203 := (not_congr zz_eq).mp c_203
      have d_c_204 := zz_eq.mp c_204
      have ez_0 : (0 : Int32).toInt = 0 := by decide
      have ez_1 : (1 : Int32).toInt = 1 := by decide
      have ez_2 : (2 : Int32).toInt = 2 := by decide
      have ez_3 : (3 : Int32).toInt = 3 := by decide
      have ez_4 : (4 : Int32).toInt = 4 := by decide
      exact absurd (show False by omega) id
    · skip
      have d_c_14 := (not_congr zz_eq).mp c_14
      have d_c_15 := (not_congr zz_eq).mp c_15
      have d_c_16 := (not_congr zz_eq).mp c_16
      have d_c_17 := (not_congr zz_eq).mp c_17
      have d_c_18 := zz_eq.mp c_18
      have d_c_205 := (not_congr zz_eq).mp c_205
      have d_c_206 := (not_congr zz_eq).mp c_206
      have d_c_207 := zz_eq.mp c_207
      have ez_0 : (0 : Int32).toInt = 0 := by decide
      have ez_1 : (1 : Int32).toInt = 1 := by decide
      have ez_2 : (2 : Int32).toInt = 2 := by decide
      have ez_3 : (3 : Int32).toInt = 3 := by decide
      have ez_4 : (4 : Int32).toInt = 4 := by decide
      exact absurd (show False by omega) id
    · skip
      have d_c_14 := (not_congr zz_eq).mp c_14
      have d_c_15 := (not_congr zz_eq).mp c_15
      have d_c_16 := (not_congr zz_eq).mp c_16
      have d_c_17 := (not_congr zz_eq).mp c_17
      have d_c_18 := zz_eq.mp c_18
      have d_c_208 := (not_congr zz_eq).mp c_208
      have d_c_209 := (not_congr zz_eq).mp c_209
      have d_c_210 := (not_congr zz_eq).mp c_210
      have d_c_211 := zz_eq.mp c_211
      have ez_0 : (0 : Int32).toInt = 0 := by decide
      have ez_1 : (1 : Int32).toInt = 1 := by decide
      have ez_2 : (2 : Int32).toInt = 2 := by decide
      have ez_3 : (3 : Int32).toInt = 3 := by decide
      have ez_4 : (4 : Int32).toInt = 4 := by decide
      exact absurd (show False by omega) id
    · skip
      refine lv_icmp_eq (tgt := 1170) hx hb dL_law_1165 (by decide) (fun _ => ?_) (fun c9 => absurd (by decide) c9)
      refine lv_iinc (v := 6) (lv' := [(4, .int 6), (0, .ref b), (1, .ref zx), (2, .ref zm), (3, .ref zo)]) hx hb dL_law_1170 hl (k := 4) rfl (by decide) (by decide) rfl (fun ls hl => ?_)
      refine lv_goto (tgt := 23) hx hb dL_law_1173 (by decide) ?_
      refine lv_iload hx hb dL_law_23 (lv_at hl 0 rfl) ?_
      refine lv_aload_n hx hb dL_law_25 rfl (lv_at hl 1 rfl) ?_
      refine va_slen hx hb hX hbl hbA hS dL_law_26 ?_
      refine lv_topi (fun x_237 ex_237 => ?_)
      have ex_237 : x_237 = 6 := ex_237.trans (by decide)
      subst ex_237
      refine lv_bipush (v := 6) hx hb dL_law_27 (by decide) ?_
      refine lv_isub hx hb dL_law_29 ?_
      refine lv_topi (fun x_238 ex_238 => ?_)
      have ex_238 : x_238 = 0 := ex_238.trans (by decide)
      subst ex_238
      refine lv_icmp_gt (tgt := 1176) hx hb dL_law_30 (by decide) (fun _ => ?_) (fun c9 => absurd (by decide) c9)
      refine lv_iconst (v := 1) hx hb dL_law_1176 (by decide) ?_
      refine va_forget (fun q hq => hS.2.2 q hq) ?_
      refine W.widen (k := 600002) (n := 7302232) (Nat.le_of_ble_eq_true rfl) (Nat.le_of_ble_eq_true rfl) ?_
      exact lw_ret hx hb hr hlocks dL_law_1177
    · skip
      have d_c_14 := (not_congr zz_eq).mp c_14
      have d_c_15 := (not_congr zz_eq).mp c_15
      have d_c_16 := (not_congr zz_eq).mp c_16
      have d_c_17 := (not_congr zz_eq).mp c_17
      have d_c_18 := zz_eq.mp c_18
      have d_c_217 := (not_congr zz_eq).mp c_217
      have d_c_218 := (not_congr zz_eq).mp c_218
      have d_c_219 := (not_congr zz_eq).mp c_219
      have d_c_220 := (not_congr zz_eq).mp c_220
      have d_c_221 := (not_congr zz_eq).mp c_221
      have d_c_222 := zz_eq.mp c_222
      have ez_0 : (0 : Int32).toInt = 0 := by decide
      have ez_1 : (1 : Int32).toInt = 1 := by decide
      have ez_2 : (2 : Int32).toInt = 2 := by decide
      have ez_3 : (3 : Int32).toInt = 3 := by decide
      have ez_4 : (4 : Int32).toInt = 4 := by decide
      have ez_5 : (5 : Int32).toInt = 5 := by decide
      exact absurd (show False by omega) id
    · skip
      have d_c_14 := (not_congr zz_eq).mp c_14
      have d_c_15 := (not_congr zz_eq).mp c_15
      have d_c_16 := (not_congr zz_eq).mp c_16
      have d_c_17 := (not_congr zz_eq).mp c_17
      have d_c_18 := zz_eq.mp c_18
      have d_c_223 := (not_congr zz_eq).mp c_223
      have d_c_224 := (not_congr zz_eq).mp c_224
      have d_c_225 := (not_congr zz_eq).mp c_225
      have d_c_226 := (not_congr zz_eq).mp c_226
      have d_c_227 := (not_congr zz_eq).mp c_227
      have d_c_228 := (not_congr zz_eq).mp c_228
      have d_c_229 := zz_eq.mp c_229
      have ez_0 : (0 : Int32).toInt = 0 := by decide
      have ez_1 : (1 : Int32).toInt = 1 := by decide
      have ez_2 : (2 : Int32).toInt = 2 := by decide
      have ez_3 : (3 : Int32).toInt = 3 := by decide
      have ez_4 : (4 : Int32).toInt = 4 := by decide
      have ez_5 : (5 : Int32).toInt = 5 := by decide
      have ez_6 : (6 : Int32).toInt = 6 := by decide
      exact absurd (show False by omega) id
    · skip
      have d_c_14 := (not_congr zz_eq).mp c_14
      have d_c_15 := (not_congr zz_eq).mp c_15
      have d_c_16 := (not_congr zz_eq).mp c_16
      have d_c_17 := (not_congr zz_eq).mp c_17
      have d_c_18 := zz_eq.mp c_18
      have d_c_230 := (not_congr zz_eq).mp c_230
      have d_c_231 := (not_congr zz_eq).mp c_231
      have d_c_232 := (not_congr zz_eq).mp c_232
      have d_c_233 := (not_congr zz_eq).mp c_233
      have d_c_234 := (not_congr zz_eq).mp c_234
      have d_c_235 := (not_congr zz_eq).mp c_235
      have d_c_236 := (not_congr zz_eq).mp c_236
      have ez_0 : (0 : Int32).toInt = 0 := by decide
      have ez_1 : (1 : Int32).toInt = 1 := by decide
      have ez_2 : (2 : Int32).toInt = 2 := by decide
      have ez_3 : (3 : Int32).toInt = 3 := by decide
      have ez_4 : (4 : Int32).toInt = 4 := by decide
      have ez_5 : (5 : Int32).toInt = 5 := by decide
      have ez_6 : (6 : Int32).toInt = 6 := by decide
      exact absurd (show False by omega) id
  · skip
    refine lv_aload_n hx hb dL_law_1155 rfl (lv_at hl 2 rfl) ?_
    refine lv_aload_n hx hb dL_law_1156 rfl (lv_at hl 0 rfl) ?_
    refine lv_iload hx hb dL_law_1157 (lv_at hl 4 rfl) ?_
    refine lv_iconst (v := 1) hx hb dL_law_1159 (by decide) ?_
    refine lv_iadd hx hb dL_law_1160 ?_
    refine lv_topi (fun x_239 ex_239 => ?_)
    have ex_239 : x_239 = 1 := ex_239.trans (by decide)
    subst ex_239
    refine va_sld hx hb hX hbl hbA hS (vp_in_iff.mpr ⟨by decide, by decide⟩) dL_law_1161 ?_
    refine lv_topi (fun x_240 ex_240 => ?_)
    have ex_240 : x_2 = x_240 := ex_2.trans ex_240.symm
    subst ex_240
    have hPc := hP.sub (ws' := [(zm, .inr (12, [.int 0, .ref zm_y0, .int 0, .int 0, .int 0, .int 0, .ref zm_y1, .ref zm_y2, .ref zm_y3, .ref zm_y4, .ref zm_y5, .ref zm_y6, .ref zm_y7, .int 0, .int 0, .ref zm_y8, .ref zm_y9, .int 0, .int 0, .int 0, .int 0, .ref zm_y10, .ref zm_y11, .int 0, .int 0, .int 0, .int 0, .int 0, .ref zm_y12, .ref zm_y13, .ref zm_y14, .ref zm_y15, .int 0, .ref zm_y16, .ref zm_y17, .ref zm_y18, .int (-1), .int (-1), .int (-1), .int 0, .int 0, .int 0, .ref zm_y19, .ref zm_y20, .int 0, .ref zm_y21, .ref zm_y22, .ref zm_y23, .ref zm_y24, .ref zm_y25, .int 0, .ref zm_y26, .ref zm_y27, .ref zm_y28, .int 0, .int 0, .int 0, .ref zm_y29, .ref zm_y30, .ref zm_y31, .ref zm_y32, .int 0, .int 0, .long 0, .int 0, .int 0, .int 0, .int 0, .int 0, .int 0]))]) [0] rfl
    have hDc := hD.sub (ws' := [(zm, .inr (12, [.int 0, .ref zm_y0, .int 0, .int 0, .int 0, .int 0, .ref zm_y1, .ref zm_y2, .ref zm_y3, .ref zm_y4, .ref zm_y5, .ref zm_y6, .ref zm_y7, .int 0, .int 0, .ref zm_y8, .ref zm_y9, .int 0, .int 0, .int 0, .int 0, .ref zm_y10, .ref zm_y11, .int 0, .int 0, .int 0, .int 0, .int 0, .ref zm_y12, .ref zm_y13, .ref zm_y14, .ref zm_y15, .int 0, .ref zm_y16, .ref zm_y17, .ref zm_y18, .int (-1), .int (-1), .int (-1), .int 0, .int 0, .int 0, .ref zm_y19, .ref zm_y20, .int 0, .ref zm_y21, .ref zm_y22, .ref zm_y23, .ref zm_y24, .ref zm_y25, .int 0, .ref zm_y26, .ref zm_y27, .ref zm_y28, .int 0, .int 0, .int 0, .ref zm_y29, .ref zm_y30, .ref zm_y31, .ref zm_y32, .int 0, .int 0, .long 0, .int 0, .int 0, .int 0, .int 0, .int 0, .int 0]))]) [0] (by decide) rfl
    have hKc := hK.sub (tys' := []) [] rfl
    have hFc := va_free (wc := [(zm, .inr (12, [.int 0, .ref zm_y0, .int 0, .int 0, .int 0, .int 0, .ref zm_y1, .ref zm_y2, .ref zm_y3, .ref zm_y4, .ref zm_y5, .ref zm_y6, .ref zm_y7, .int 0, .int 0, .ref zm_y8, .ref zm_y9, .int 0, .int 0, .int 0, .int 0, .ref zm_y10, .ref zm_y11, .int 0, .int 0, .int 0, .int 0, .int 0, .ref zm_y12, .ref zm_y13, .ref zm_y14, .ref zm_y15, .int 0, .ref zm_y16, .ref zm_y17, .ref zm_y18, .int (-1), .int (-1), .int (-1), .int 0, .int 0, .int 0, .ref zm_y19, .ref zm_y20, .int 0, .ref zm_y21, .ref zm_y22, .ref zm_y23, .ref zm_y24, .ref zm_y25, .int 0, .ref zm_y26, .ref zm_y27, .ref zm_y28, .int 0, .int 0, .int 0, .ref zm_y29, .ref zm_y30, .ref zm_y31, .ref zm_y32, .int 0, .int 0, .long 0, .int 0, .int 0, .int 0, .int 0, .int 0, .int 0]))]) hD hS hA [0] rfl
    refine va_calli (va_runV (As := [.int x_2]) (rest := [.int (-1)]) ⟨hx, hb, hml, hown, hts⟩ (zk_X12_count_t l dC dI (zm) (x_2) (zm_y0) (zm_y1) (zm_y2) (zm_y3) (zm_y4) (zm_y5) (zm_y6) (zm_y7) (zm_y8) (zm_y9) (zm_y10) (zm_y11) (zm_y12) (zm_y13) (zm_y14) (zm_y15) (zm_y16) (zm_y17) (zm_y18) (zm_y19) (zm_y20) (zm_y21) (zm_y22) (zm_y23) (zm_y24) (zm_y25) (zm_y26) (zm_y27) (zm_y28) (zm_y29) (zm_y30) (zm_y31) (zm_y32) H.size) (cwV 1 hts gL_law_X12_count rfl rfl rfl (by decide +kernel) ⟨Nat.le_of_ble_eq_true rfl, Nat.le_of_ble_eq_true rfl⟩) ⟨zw_blind, va_recv hK hP (ci := 12) (q0 := 0) rfl rfl, fun U hU hW => ⟨rfl, zw_P.of hPc hKc hDc hN U hU hW⟩⟩ rfl rfl hl.1 rfl (lv_room (Nat.le_of_ble_eq_true rfl)) dL_law_1162 ⟨Nat.le_of_ble_eq_true rfl, Nat.le_of_ble_eq_true rfl⟩) hS (fun q _ h => hFc q h) hFc (fun r_241 u t H1 locs ht hvm hw hB hz1 hk1 hS => ?_)
    obtain ⟨hP1, hK1, hD1⟩ := hB
    rw [ht] at hP1
    obtain ⟨hP, hD⟩ := va_join (wr := []) (w1 := []) hP hD [0] [] rfl rfl (by decide) (by decide) hk1 hFc hP1 hD1
    generalize H1 = H at hP hS ⊢
    have hP : va_P (dC, dI) classes [] H := hP
    have hD : va_D (fun q : Nat => s.heap.size ≤ q) [] := hD
    rcases hw with ⟨c_242, rfl⟩ | ⟨c_243, c_244, rfl⟩ | ⟨c_245, c_246, c_247, rfl⟩ | ⟨c_248, c_249, c_250, c_251, rfl⟩ | ⟨c_252, c_253, c_254, c_255, c_256, rfl⟩ | ⟨c_257, c_258, c_259, c_260, c_261, c_262, rfl⟩ | ⟨c_263, c_264, c_265, c_266, c_267, c_268, c_269, rfl⟩ | ⟨c_270, c_271, c_272, c_273, c_274, c_275, c_276, rfl⟩
    · skip
      have d_c_19 := (not_congr zz_eq).mp c_19
      have d_c_20 := (not_congr zz_eq).mp c_20
      have d_c_21 := (not_congr zz_eq).mp c_21
      have d_c_22 := (not_congr zz_eq).mp c_22
      have d_c_23 := (not_congr zz_eq).mp c_23
      have d_c_24 := zz_eq.mp c_24
      have d_c_242 := zz_eq.mp c_242
      have ez_0 : (0 : Int32).toInt = 0 := by decide
      have ez_1 : (1 : Int32).toInt = 1 := by decide
      have ez_2 : (2 : Int32).toInt = 2 := by decide
      have ez_3 : (3 : Int32).toInt = 3 := by decide
      have ez_4 : (4 : Int32).toInt = 4 := by decide
      have ez_5 : (5 : Int32).toInt = 5 := by decide
      exact absurd (show False by omega) id
    · skip
      have d_c_19 := (not_congr zz_eq).mp c_19
      have d_c_20 := (not_congr zz_eq).mp c_20
      have d_c_21 := (not_congr zz_eq).mp c_21
      have d_c_22 := (not_congr zz_eq).mp c_22
      have d_c_23 := (not_congr zz_eq).mp c_23
      have d_c_24 := zz_eq.mp c_24
      have d_c_243 := (not_congr zz_eq).mp c_243
      have d_c_244 := zz_eq.mp c_244
      have ez_0 : (0 : Int32).toInt = 0 := by decide
      have ez_1 : (1 : Int32).toInt = 1 := by decide
      have ez_2 : (2 : Int32).toInt = 2 := by decide
      have ez_3 : (3 : Int32).toInt = 3 := by decide
      have ez_4 : (4 : Int32).toInt = 4 := by decide
      have ez_5 : (5 : Int32).toInt = 5 := by decide
      exact absurd (show False by omega) id
    · skip
      have d_c_19 := (not_congr zz_eq).mp c_19
      have d_c_20 := (not_congr zz_eq).mp c_20
      have d_c_21 := (not_congr zz_eq).mp c_21
      have d_c_22 := (not_congr zz_eq).mp c_22
      have d_c_23 := (not_congr zz_eq).mp c_23
      have d_c_24 := zz_eq.mp c_24
      have d_c_245 := (not_congr zz_eq).mp c_245
      have d_c_246 := (not_congr zz_eq).mp c_246
      have d_c_247 := zz_eq.mp c_247
      have ez_0 : (0 : Int32).toInt = 0 := by decide
      have ez_1 : (1 : Int32).toInt = 1 := by decide
      have ez_2 : (2 : Int32).toInt = 2 := by decide
      have ez_3 : (3 : Int32).toInt = 3 := by decide
      have ez_4 : (4 : Int32).toInt = 4 := by decide
      have ez_5 : (5 : Int32).toInt = 5 := by decide
      exact absurd (show False by omega) id
    · skip
      have d_c_19 := (not_congr zz_eq).mp c_19
      have d_c_20 := (not_congr zz_eq).mp c_20
      have d_c_21 := (not_congr zz_eq).mp c_21
      have d_c_22 := (not_congr zz_eq).mp c_22
      have d_c_23 := (not_congr zz_eq).mp c_23
      have d_c_24 := zz_eq.mp c_24
      have d_c_248 := (not_congr zz_eq).mp c_248
      have d_c_249 := (not_congr zz_eq).mp c_249
      have d_c_250 := (not_congr zz_eq).mp c_250
      have d_c_251 := zz_eq.mp c_251
      have ez_0 : (0 : Int32).toInt = 0 := by decide
      have ez_1 : (1 : Int32).toInt = 1 := by decide
      have ez_2 : (2 : Int32).toInt = 2 := by decide
      have ez_3 : (3 : Int32).toInt = 3 := by decide
      have ez_4 : (4 : Int32).toInt = 4 := by decide
      have ez_5 : (5 : Int32).toInt = 5 := by decide
      exact absurd (show False by omega) id
    · skip
      have d_c_19 := (not_congr zz_eq).mp c_19
      have d_c_20 := (not_congr zz_eq).mp c_20
      have d_c_21 := (not_congr zz_eq).mp c_21
      have d_c_22 := (not_congr zz_eq).mp c_22
      have d_c_23 := (not_congr zz_eq).mp c_23
      have d_c_24 := zz_eq.mp c_24
      have d_c_252 := (not_congr zz_eq).mp c_252
      have d_c_253 := (not_congr zz_eq).mp c_253
      have d_c_254 := (not_congr zz_eq).mp c_254
      have d_c_255 := (not_congr zz_eq).mp c_255
      have d_c_256 := zz_eq.mp c_256
      have ez_0 : (0 : Int32).toInt = 0 := by decide
      have ez_1 : (1 : Int32).toInt = 1 := by decide
      have ez_2 : (2 : Int32).toInt = 2 := by decide
      have ez_3 : (3 : Int32).toInt = 3 := by decide
      have ez_4 : (4 : Int32).toInt = 4 := by decide
      have ez_5 : (5 : Int32).toInt = 5 := by decide
      exact absurd (show False by omega) id
    · skip
      refine lv_icmp_eq (tgt := 1170) hx hb dL_law_1165 (by decide) (fun _ => ?_) (fun c9 => absurd (by decide) c9)
      refine lv_iinc (v := 6) (lv' := [(4, .int 6), (0, .ref b), (1, .ref zx), (2, .ref zm), (3, .ref zo)]) hx hb dL_law_1170 hl (k := 4) rfl (by decide) (by decide) rfl (fun ls hl => ?_)
      refine lv_goto (tgt := 23) hx hb dL_law_1173 (by decide) ?_
      refine lv_iload hx hb dL_law_23 (lv_at hl 0 rfl) ?_
      refine lv_aload_n hx hb dL_law_25 rfl (lv_at hl 1 rfl) ?_
      refine va_slen hx hb hX hbl hbA hS dL_law_26 ?_
      refine lv_topi (fun x_277 ex_277 => ?_)
      have ex_277 : x_277 = 6 := ex_277.trans (by decide)
      subst ex_277
      refine lv_bipush (v := 6) hx hb dL_law_27 (by decide) ?_
      refine lv_isub hx hb dL_law_29 ?_
      refine lv_topi (fun x_278 ex_278 => ?_)
      have ex_278 : x_278 = 0 := ex_278.trans (by decide)
      subst ex_278
      refine lv_icmp_gt (tgt := 1176) hx hb dL_law_30 (by decide) (fun _ => ?_) (fun c9 => absurd (by decide) c9)
      refine lv_iconst (v := 1) hx hb dL_law_1176 (by decide) ?_
      refine va_forget (fun q hq => hS.2.2 q hq) ?_
      refine W.widen (k := 600002) (n := 7302232) (Nat.le_of_ble_eq_true rfl) (Nat.le_of_ble_eq_true rfl) ?_
      exact lw_ret hx hb hr hlocks dL_law_1177
    · skip
      have d_c_19 := (not_congr zz_eq).mp c_19
      have d_c_20 := (not_congr zz_eq).mp c_20
      have d_c_21 := (not_congr zz_eq).mp c_21
      have d_c_22 := (not_congr zz_eq).mp c_22
      have d_c_23 := (not_congr zz_eq).mp c_23
      have d_c_24 := zz_eq.mp c_24
      have d_c_263 := (not_congr zz_eq).mp c_263
      have d_c_264 := (not_congr zz_eq).mp c_264
      have d_c_265 := (not_congr zz_eq).mp c_265
      have d_c_266 := (not_congr zz_eq).mp c_266
      have d_c_267 := (not_congr zz_eq).mp c_267
      have d_c_268 := (not_congr zz_eq).mp c_268
      have d_c_269 := zz_eq.mp c_269
      have ez_0 : (0 : Int32).toInt = 0 := by decide
      have ez_1 : (1 : Int32).toInt = 1 := by decide
      have ez_2 : (2 : Int32).toInt = 2 := by decide
      have ez_3 : (3 : Int32).toInt = 3 := by decide
      have ez_4 : (4 : Int32).toInt = 4 := by decide
      have ez_5 : (5 : Int32).toInt = 5 := by decide
      have ez_6 : (6 : Int32).toInt = 6 := by decide
      exact absurd (show False by omega) id
    · skip
      have d_c_19 := (not_congr zz_eq).mp c_19
      have d_c_20 := (not_congr zz_eq).mp c_20
      have d_c_21 := (not_congr zz_eq).mp c_21
      have d_c_22 := (not_congr zz_eq).mp c_22
      have d_c_23 := (not_congr zz_eq).mp c_23
      have d_c_24 := zz_eq.mp c_24
      have d_c_270 := (not_congr zz_eq).mp c_270
      have d_c_271 := (not_congr zz_eq).mp c_271
      have d_c_272 := (not_congr zz_eq).mp c_272
      have d_c_273 := (not_congr zz_eq).mp c_273
      have d_c_274 := (not_congr zz_eq).mp c_274
      have d_c_275 := (not_congr zz_eq).mp c_275
      have d_c_276 := (not_congr zz_eq).mp c_276
      have ez_0 : (0 : Int32).toInt = 0 := by decide
      have ez_1 : (1 : Int32).toInt = 1 := by decide
      have ez_2 : (2 : Int32).toInt = 2 := by decide
      have ez_3 : (3 : Int32).toInt = 3 := by decide
      have ez_4 : (4 : Int32).toInt = 4 := by decide
      have ez_5 : (5 : Int32).toInt = 5 := by decide
      have ez_6 : (6 : Int32).toInt = 6 := by decide
      exact absurd (show False by omega) id
  · skip
    refine lv_aload_n hx hb dL_law_1155 rfl (lv_at hl 2 rfl) ?_
    refine lv_aload_n hx hb dL_law_1156 rfl (lv_at hl 0 rfl) ?_
    refine lv_iload hx hb dL_law_1157 (lv_at hl 4 rfl) ?_
    refine lv_iconst (v := 1) hx hb dL_law_1159 (by decide) ?_
    refine lv_iadd hx hb dL_law_1160 ?_
    refine lv_topi (fun x_279 ex_279 => ?_)
    have ex_279 : x_279 = 1 := ex_279.trans (by decide)
    subst ex_279
    refine va_sld hx hb hX hbl hbA hS (vp_in_iff.mpr ⟨by decide, by decide⟩) dL_law_1161 ?_
    refine lv_topi (fun x_280 ex_280 => ?_)
    have ex_280 : x_2 = x_280 := ex_2.trans ex_280.symm
    subst ex_280
    have hPc := hP.sub (ws' := [(zm, .inr (12, [.int 0, .ref zm_y0, .int 0, .int 0, .int 0, .int 0, .ref zm_y1, .ref zm_y2, .ref zm_y3, .ref zm_y4, .ref zm_y5, .ref zm_y6, .ref zm_y7, .int 0, .int 0, .ref zm_y8, .ref zm_y9, .int 0, .int 0, .int 0, .int 0, .ref zm_y10, .ref zm_y11, .int 0, .int 0, .int 0, .int 0, .int 0, .ref zm_y12, .ref zm_y13, .ref zm_y14, .ref zm_y15, .int 0, .ref zm_y16, .ref zm_y17, .ref zm_y18, .int (-1), .int (-1), .int (-1), .int 0, .int 0, .int 0, .ref zm_y19, .ref zm_y20, .int 0, .ref zm_y21, .ref zm_y22, .ref zm_y23, .ref zm_y24, .ref zm_y25, .int 0, .ref zm_y26, .ref zm_y27, .ref zm_y28, .int 0, .int 0, .int 0, .ref zm_y29, .ref zm_y30, .ref zm_y31, .ref zm_y32, .int 0, .int 0, .long 0, .int 0, .int 0, .int 0, .int 0, .int 0, .int 0]))]) [0] rfl
    have hDc := hD.sub (ws' := [(zm, .inr (12, [.int 0, .ref zm_y0, .int 0, .int 0, .int 0, .int 0, .ref zm_y1, .ref zm_y2, .ref zm_y3, .ref zm_y4, .ref zm_y5, .ref zm_y6, .ref zm_y7, .int 0, .int 0, .ref zm_y8, .ref zm_y9, .int 0, .int 0, .int 0, .int 0, .ref zm_y10, .ref zm_y11, .int 0, .int 0, .int 0, .int 0, .int 0, .ref zm_y12, .ref zm_y13, .ref zm_y14, .ref zm_y15, .int 0, .ref zm_y16, .ref zm_y17, .ref zm_y18, .int (-1), .int (-1), .int (-1), .int 0, .int 0, .int 0, .ref zm_y19, .ref zm_y20, .int 0, .ref zm_y21, .ref zm_y22, .ref zm_y23, .ref zm_y24, .ref zm_y25, .int 0, .ref zm_y26, .ref zm_y27, .ref zm_y28, .int 0, .int 0, .int 0, .ref zm_y29, .ref zm_y30, .ref zm_y31, .ref zm_y32, .int 0, .int 0, .long 0, .int 0, .int 0, .int 0, .int 0, .int 0, .int 0]))]) [0] (by decide) rfl
    have hKc := hK.sub (tys' := []) [] rfl
    have hFc := va_free (wc := [(zm, .inr (12, [.int 0, .ref zm_y0, .int 0, .int 0, .int 0, .int 0, .ref zm_y1, .ref zm_y2, .ref zm_y3, .ref zm_y4, .ref zm_y5, .ref zm_y6, .ref zm_y7, .int 0, .int 0, .ref zm_y8, .ref zm_y9, .int 0, .int 0, .int 0, .int 0, .ref zm_y10, .ref zm_y11, .int 0, .int 0, .int 0, .int 0, .int 0, .ref zm_y12, .ref zm_y13, .ref zm_y14, .ref zm_y15, .int 0, .ref zm_y16, .ref zm_y17, .ref zm_y18, .int (-1), .int (-1), .int (-1), .int 0, .int 0, .int 0, .ref zm_y19, .ref zm_y20, .int 0, .ref zm_y21, .ref zm_y22, .ref zm_y23, .ref zm_y24, .ref zm_y25, .int 0, .ref zm_y26, .ref zm_y27, .ref zm_y28, .int 0, .int 0, .int 0, .ref zm_y29, .ref zm_y30, .ref zm_y31, .ref zm_y32, .int 0, .int 0, .long 0, .int 0, .int 0, .int 0, .int 0, .int 0, .int 0]))]) hD hS hA [0] rfl
    refine va_calli (va_runV (As := [.int x_2]) (rest := [.int (-1)]) ⟨hx, hb, hml, hown, hts⟩ (zk_X12_count_t l dC dI (zm) (x_2) (zm_y0) (zm_y1) (zm_y2) (zm_y3) (zm_y4) (zm_y5) (zm_y6) (zm_y7) (zm_y8) (zm_y9) (zm_y10) (zm_y11) (zm_y12) (zm_y13) (zm_y14) (zm_y15) (zm_y16) (zm_y17) (zm_y18) (zm_y19) (zm_y20) (zm_y21) (zm_y22) (zm_y23) (zm_y24) (zm_y25) (zm_y26) (zm_y27) (zm_y28) (zm_y29) (zm_y30) (zm_y31) (zm_y32) H.size) (cwV 1 hts gL_law_X12_count rfl rfl rfl (by decide +kernel) ⟨Nat.le_of_ble_eq_true rfl, Nat.le_of_ble_eq_true rfl⟩) ⟨zw_blind, va_recv hK hP (ci := 12) (q0 := 0) rfl rfl, fun U hU hW => ⟨rfl, zw_P.of hPc hKc hDc hN U hU hW⟩⟩ rfl rfl hl.1 rfl (lv_room (Nat.le_of_ble_eq_true rfl)) dL_law_1162 ⟨Nat.le_of_ble_eq_true rfl, Nat.le_of_ble_eq_true rfl⟩) hS (fun q _ h => hFc q h) hFc (fun r_281 u t H1 locs ht hvm hw hB hz1 hk1 hS => ?_)
    obtain ⟨hP1, hK1, hD1⟩ := hB
    rw [ht] at hP1
    obtain ⟨hP, hD⟩ := va_join (wr := []) (w1 := []) hP hD [0] [] rfl rfl (by decide) (by decide) hk1 hFc hP1 hD1
    generalize H1 = H at hP hS ⊢
    have hP : va_P (dC, dI) classes [] H := hP
    have hD : va_D (fun q : Nat => s.heap.size ≤ q) [] := hD
    rcases hw with ⟨c_282, rfl⟩ | ⟨c_283, c_284, rfl⟩ | ⟨c_285, c_286, c_287, rfl⟩ | ⟨c_288, c_289, c_290, c_291, rfl⟩ | ⟨c_292, c_293, c_294, c_295, c_296, rfl⟩ | ⟨c_297, c_298, c_299, c_300, c_301, c_302, rfl⟩ | ⟨c_303, c_304, c_305, c_306, c_307, c_308, c_309, rfl⟩ | ⟨c_310, c_311, c_312, c_313, c_314, c_315, c_316, rfl⟩
    · skip
      have d_c_25 := (not_congr zz_eq).mp c_25
      have d_c_26 := (not_congr zz_eq).mp c_26
      have d_c_27 := (not_congr zz_eq).mp c_27
      have d_c_28 := (not_congr zz_eq).mp c_28
      have d_c_29 := (not_congr zz_eq).mp c_29
      have d_c_30 := (not_congr zz_eq).mp c_30
      have d_c_31 := zz_eq.mp c_31
      have d_c_282 := zz_eq.mp c_282
      have ez_0 : (0 : Int32).toInt = 0 := by decide
      have ez_1 : (1 : Int32).toInt = 1 := by decide
      have ez_2 : (2 : Int32).toInt = 2 := by decide
      have ez_3 : (3 : Int32).toInt = 3 := by decide
      have ez_4 : (4 : Int32).toInt = 4 := by decide
      have ez_5 : (5 : Int32).toInt = 5 := by decide
      have ez_6 : (6 : Int32).toInt = 6 := by decide
      exact absurd (show False by omega) id
    · skip
      have d_c_25 := (not_congr zz_eq).mp c_25
      have d_c_26 := (not_congr zz_eq).mp c_26
      have d_c_27 := (not_congr zz_eq).mp c_27
      have d_c_28 := (not_congr zz_eq).mp c_28
      have d_c_29 := (not_congr zz_eq).mp c_29
      have d_c_30 := (not_congr zz_eq).mp c_30
      have d_c_31 := zz_eq.mp c_31
      have d_c_283 := (not_congr zz_eq).mp c_283
      have d_c_284 := zz_eq.mp c_284
      have ez_0 : (0 : Int32).toInt = 0 := by decide
      have ez_1 : (1 : Int32).toInt = 1 := by decide
      have ez_2 : (2 : Int32).toInt = 2 := by decide
      have ez_3 : (3 : Int32).toInt = 3 := by decide
      have ez_4 : (4 : Int32).toInt = 4 := by decide
      have ez_5 : (5 : Int32).toInt = 5 := by decide
      have ez_6 : (6 : Int32).toInt = 6 := by decide
      exact absurd (show False by omega) id
    · skip
      have d_c_25 := (not_congr zz_eq).mp c_25
      have d_c_26 := (not_congr zz_eq).mp c_26
      have d_c_27 := (not_congr zz_eq).mp c_27
      have d_c_28 := (not_congr zz_eq).mp c_28
      have d_c_29 := (not_congr zz_eq).mp c_29
      have d_c_30 := (not_congr zz_eq).mp c_30
      have d_c_31 := zz_eq.mp c_31
      have d_c_285 := (not_congr zz_eq).mp c_285
      have d_c_286 := (not_congr zz_eq).mp c_286
      have d_c_287 := zz_eq.mp c_287
      have ez_0 : (0 : Int32).toInt = 0 := by decide
      have ez_1 : (1 : Int32).toInt = 1 := by decide
      have ez_2 : (2 : Int32).toInt = 2 := by decide
      have ez_3 : (3 : Int32).toInt = 3 := by decide
      have ez_4 : (4 : Int32).toInt = 4 := by decide
      have ez_5 : (5 : Int32).toInt = 5 := by decide
      have ez_6 : (6 : Int32).toInt = 6 := by decide
      exact absurd (show False by omega) id
    · skip
      have d_c_25 := (not_congr zz_eq).mp c_25
      have d_c_26 := (not_congr zz_eq).mp c_26
      have d_c_27 := (not_congr zz_eq).mp c_27
      have d_c_28 := (not_congr zz_eq).mp c_28
      have d_c_29 := (not_congr zz_eq).mp c_29
      have d_c_30 := (not_congr zz_eq).mp c_30
      have d_c_31 := zz_eq.mp c_31
      have d_c_288 := (not_congr zz_eq).mp c_288
      have d_c_289 := (not_congr zz_eq).mp c_289
      have d_c_290 := (not_congr zz_eq).mp c_290
      have d_c_291 := zz_eq.mp c_291
      have ez_0 : (0 : Int32).toInt = 0 := by decide
      have ez_1 : (1 : Int32).toInt = 1 := by decide
      have ez_2 : (2 : Int32).toInt = 2 := by decide
      have ez_3 : (3 : Int32).toInt = 3 := by decide
      have ez_4 : (4 : Int32).toInt = 4 := by decide
      have ez_5 : (5 : Int32).toInt = 5 := by decide
      have ez_6 : (6 : Int32).toInt = 6 := by decide
      exact absurd (show False by omega) id
    · skip
      have d_c_25 := (not_congr zz_eq).mp c_25
      have d_c_26 := (not_congr zz_eq).mp c_26
      have d_c_27 := (not_congr zz_eq).mp c_27
      have d_c_28 := (not_congr zz_eq).mp c_28
      have d_c_29 := (not_congr zz_eq).mp c_29
      have d_c_30 := (not_congr zz_eq).mp c_30
      have d_c_31 := zz_eq.mp c_31
      have d_c_292 := (not_congr zz_eq).mp c_292
      have d_c_293 := (not_congr zz_eq).mp c_293
      have d_c_294 := (not_congr zz_eq).mp c_294
      have d_c_295 := (not_congr zz_eq).mp c_295
      have d_c_296 := zz_eq.mp c_296
      have ez_0 : (0 : Int32).toInt = 0 := by decide
      have ez_1 : (1 : Int32).toInt = 1 := by decide
      have ez_2 : (2 : Int32).toInt = 2 := by decide
      have ez_3 : (3 : Int32).toInt = 3 := by decide
      have ez_4 : (4 : Int32).toInt = 4 := by decide
      have ez_5 : (5 : Int32).toInt = 5 := by decide
      have ez_6 : (6 : Int32).toInt = 6 := by decide
      exact absurd (show False by omega) id
    · skip
      have d_c_25 := (not_congr zz_eq).mp c_25
      have d_c_26 := (not_congr zz_eq).mp c_26
      have d_c_27 := (not_congr zz_eq).mp c_27
      have d_c_28 := (not_congr zz_eq).mp c_28
      have d_c_29 := (not_congr zz_eq).mp c_29
      have d_c_30 := (not_congr zz_eq).mp c_30
      have d_c_31 := zz_eq.mp c_31
      have d_c_297 := (not_congr zz_eq).mp c_297
      have d_c_298 := (not_congr zz_eq).mp c_298
      have d_c_299 := (not_congr zz_eq).mp c_299
      have d_c_300 := (not_congr zz_eq).mp c_300
      have d_c_301 := (not_congr zz_eq).mp c_301
      have d_c_302 := zz_eq.mp c_302
      have ez_0 : (0 : Int32).toInt = 0 := by decide
      have ez_1 : (1 : Int32).toInt = 1 := by decide
      have ez_2 : (2 : Int32).toInt = 2 := by decide
      have ez_3 : (3 : Int32).toInt = 3 := by decide
      have ez_4 : (4 : Int32).toInt = 4 := by decide
      have ez_5 : (5 : Int32).toInt = 5 := by decide
      have ez_6 : (6 : Int32).toInt = 6 := by decide
      exact absurd (show False by omega) id
    · skip
      refine lv_icmp_eq (tgt := 1170) hx hb dL_law_1165 (by decide) (fun _ => ?_) (fun c9 => absurd (by decide) c9)
      refine lv_iinc (v := 6) (lv' := [(4, .int 6), (0, .ref b), (1, .ref zx), (2, .ref zm), (3, .ref zo)]) hx hb dL_law_1170 hl (k := 4) rfl (by decide) (by decide) rfl (fun ls hl => ?_)
      refine lv_goto (tgt := 23) hx hb dL_law_1173 (by decide) ?_
      refine lv_iload hx hb dL_law_23 (lv_at hl 0 rfl) ?_
      refine lv_aload_n hx hb dL_law_25 rfl (lv_at hl 1 rfl) ?_
      refine va_slen hx hb hX hbl hbA hS dL_law_26 ?_
      refine lv_topi (fun x_317 ex_317 => ?_)
      have ex_317 : x_317 = 6 := ex_317.trans (by decide)
      subst ex_317
      refine lv_bipush (v := 6) hx hb dL_law_27 (by decide) ?_
      refine lv_isub hx hb dL_law_29 ?_
      refine lv_topi (fun x_318 ex_318 => ?_)
      have ex_318 : x_318 = 0 := ex_318.trans (by decide)
      subst ex_318
      refine lv_icmp_gt (tgt := 1176) hx hb dL_law_30 (by decide) (fun _ => ?_) (fun c9 => absurd (by decide) c9)
      refine lv_iconst (v := 1) hx hb dL_law_1176 (by decide) ?_
      refine va_forget (fun q hq => hS.2.2 q hq) ?_
      refine W.widen (k := 600002) (n := 7302232) (Nat.le_of_ble_eq_true rfl) (Nat.le_of_ble_eq_true rfl) ?_
      exact lw_ret hx hb hr hlocks dL_law_1177
    · skip
      have d_c_25 := (not_congr zz_eq).mp c_25
      have d_c_26 := (not_congr zz_eq).mp c_26
      have d_c_27 := (not_congr zz_eq).mp c_27
      have d_c_28 := (not_congr zz_eq).mp c_28
      have d_c_29 := (not_congr zz_eq).mp c_29
      have d_c_30 := (not_congr zz_eq).mp c_30
      have d_c_31 := zz_eq.mp c_31
      have d_c_310 := (not_congr zz_eq).mp c_310
      have d_c_311 := (not_congr zz_eq).mp c_311
      have d_c_312 := (not_congr zz_eq).mp c_312
      have d_c_313 := (not_congr zz_eq).mp c_313
      have d_c_314 := (not_congr zz_eq).mp c_314
      have d_c_315 := (not_congr zz_eq).mp c_315
      have d_c_316 := (not_congr zz_eq).mp c_316
      have ez_0 : (0 : Int32).toInt = 0 := by decide
      have ez_1 : (1 : Int32).toInt = 1 := by decide
      have ez_2 : (2 : Int32).toInt = 2 := by decide
      have ez_3 : (3 : Int32).toInt = 3 := by decide
      have ez_4 : (4 : Int32).toInt = 4 := by decide
      have ez_5 : (5 : Int32).toInt = 5 := by decide
      have ez_6 : (6 : Int32).toInt = 6 := by decide
      exact absurd (show False by omega) id
  · skip
    refine lv_aload_n hx hb dL_law_1155 rfl (lv_at hl 2 rfl) ?_
    refine lv_aload_n hx hb dL_law_1156 rfl (lv_at hl 0 rfl) ?_
    refine lv_iload hx hb dL_law_1157 (lv_at hl 4 rfl) ?_
    refine lv_iconst (v := 1) hx hb dL_law_1159 (by decide) ?_
    refine lv_iadd hx hb dL_law_1160 ?_
    refine lv_topi (fun x_319 ex_319 => ?_)
    have ex_319 : x_319 = 1 := ex_319.trans (by decide)
    subst ex_319
    refine va_sld hx hb hX hbl hbA hS (vp_in_iff.mpr ⟨by decide, by decide⟩) dL_law_1161 ?_
    refine lv_topi (fun x_320 ex_320 => ?_)
    have ex_320 : x_2 = x_320 := ex_2.trans ex_320.symm
    subst ex_320
    have hPc := hP.sub (ws' := [(zm, .inr (12, [.int 0, .ref zm_y0, .int 0, .int 0, .int 0, .int 0, .ref zm_y1, .ref zm_y2, .ref zm_y3, .ref zm_y4, .ref zm_y5, .ref zm_y6, .ref zm_y7, .int 0, .int 0, .ref zm_y8, .ref zm_y9, .int 0, .int 0, .int 0, .int 0, .ref zm_y10, .ref zm_y11, .int 0, .int 0, .int 0, .int 0, .int 0, .ref zm_y12, .ref zm_y13, .ref zm_y14, .ref zm_y15, .int 0, .ref zm_y16, .ref zm_y17, .ref zm_y18, .int (-1), .int (-1), .int (-1), .int 0, .int 0, .int 0, .ref zm_y19, .ref zm_y20, .int 0, .ref zm_y21, .ref zm_y22, .ref zm_y23, .ref zm_y24, .ref zm_y25, .int 0, .ref zm_y26, .ref zm_y27, .ref zm_y28, .int 0, .int 0, .int 0, .ref zm_y29, .ref zm_y30, .ref zm_y31, .ref zm_y32, .int 0, .int 0, .long 0, .int 0, .int 0, .int 0, .int 0, .int 0, .int 0]))]) [0] rfl
    have hDc := hD.sub (ws' := [(zm, .inr (12, [.int 0, .ref zm_y0, .int 0, .int 0, .int 0, .int 0, .ref zm_y1, .ref zm_y2, .ref zm_y3, .ref zm_y4, .ref zm_y5, .ref zm_y6, .ref zm_y7, .int 0, .int 0, .ref zm_y8, .ref zm_y9, .int 0, .int 0, .int 0, .int 0, .ref zm_y10, .ref zm_y11, .int 0, .int 0, .int 0, .int 0, .int 0, .ref zm_y12, .ref zm_y13, .ref zm_y14, .ref zm_y15, .int 0, .ref zm_y16, .ref zm_y17, .ref zm_y18, .int (-1), .int (-1), .int (-1), .int 0, .int 0, .int 0, .ref zm_y19, .ref zm_y20, .int 0, .ref zm_y21, .ref zm_y22, .ref zm_y23, .ref zm_y24, .ref zm_y25, .int 0, .ref zm_y26, .ref zm_y27, .ref zm_y28, .int 0, .int 0, .int 0, .ref zm_y29, .ref zm_y30, .ref zm_y31, .ref zm_y32, .int 0, .int 0, .long 0, .int 0, .int 0, .int 0, .int 0, .int 0, .int 0]))]) [0] (by decide) rfl
    have hKc := hK.sub (tys' := []) [] rfl
    have hFc := va_free (wc := [(zm, .inr (12, [.int 0, .ref zm_y0, .int 0, .int 0, .int 0, .int 0, .ref zm_y1, .ref zm_y2, .ref zm_y3, .ref zm_y4, .ref zm_y5, .ref zm_y6, .ref zm_y7, .int 0, .int 0, .ref zm_y8, .ref zm_y9, .int 0, .int 0, .int 0, .int 0, .ref zm_y10, .ref zm_y11, .int 0, .int 0, .int 0, .int 0, .int 0, .ref zm_y12, .ref zm_y13, .ref zm_y14, .ref zm_y15, .int 0, .ref zm_y16, .ref zm_y17, .ref zm_y18, .int (-1), .int (-1), .int (-1), .int 0, .int 0, .int 0, .ref zm_y19, .ref zm_y20, .int 0, .ref zm_y21, .ref zm_y22, .ref zm_y23, .ref zm_y24, .ref zm_y25, .int 0, .ref zm_y26, .ref zm_y27, .ref zm_y28, .int 0, .int 0, .int 0, .ref zm_y29, .ref zm_y30, .ref zm_y31, .ref zm_y32, .int 0, .int 0, .long 0, .int 0, .int 0, .int 0, .int 0, .int 0, .int 0]))]) hD hS hA [0] rfl
    refine va_calli (va_runV (As := [.int x_2]) (rest := [.int (-1000000)]) ⟨hx, hb, hml, hown, hts⟩ (zk_X12_count_t l dC dI (zm) (x_2) (zm_y0) (zm_y1) (zm_y2) (zm_y3) (zm_y4) (zm_y5) (zm_y6) (zm_y7) (zm_y8) (zm_y9) (zm_y10) (zm_y11) (zm_y12) (zm_y13) (zm_y14) (zm_y15) (zm_y16) (zm_y17) (zm_y18) (zm_y19) (zm_y20) (zm_y21) (zm_y22) (zm_y23) (zm_y24) (zm_y25) (zm_y26) (zm_y27) (zm_y28) (zm_y29) (zm_y30) (zm_y31) (zm_y32) H.size) (cwV 1 hts gL_law_X12_count rfl rfl rfl (by decide +kernel) ⟨Nat.le_of_ble_eq_true rfl, Nat.le_of_ble_eq_true rfl⟩) ⟨zw_blind, va_recv hK hP (ci := 12) (q0 := 0) rfl rfl, fun U hU hW => ⟨rfl, zw_P.of hPc hKc hDc hN U hU hW⟩⟩ rfl rfl hl.1 rfl (lv_room (Nat.le_of_ble_eq_true rfl)) dL_law_1162 ⟨Nat.le_of_ble_eq_true rfl, Nat.le_of_ble_eq_true rfl⟩) hS (fun q _ h => hFc q h) hFc (fun r_321 u t H1 locs ht hvm hw hB hz1 hk1 hS => ?_)
    obtain ⟨hP1, hK1, hD1⟩ := hB
    rw [ht] at hP1
    obtain ⟨hP, hD⟩ := va_join (wr := []) (w1 := []) hP hD [0] [] rfl rfl (by decide) (by decide) hk1 hFc hP1 hD1
    generalize H1 = H at hP hS ⊢
    have hP : va_P (dC, dI) classes [] H := hP
    have hD : va_D (fun q : Nat => s.heap.size ≤ q) [] := hD
    rcases hw with ⟨c_322, rfl⟩ | ⟨c_323, c_324, rfl⟩ | ⟨c_325, c_326, c_327, rfl⟩ | ⟨c_328, c_329, c_330, c_331, rfl⟩ | ⟨c_332, c_333, c_334, c_335, c_336, rfl⟩ | ⟨c_337, c_338, c_339, c_340, c_341, c_342, rfl⟩ | ⟨c_343, c_344, c_345, c_346, c_347, c_348, c_349, rfl⟩ | ⟨c_350, c_351, c_352, c_353, c_354, c_355, c_356, rfl⟩
    · skip
      have d_c_32 := (not_congr zz_eq).mp c_32
      have d_c_33 := (not_congr zz_eq).mp c_33
      have d_c_34 := (not_congr zz_eq).mp c_34
      have d_c_35 := (not_congr zz_eq).mp c_35
      have d_c_36 := (not_congr zz_eq).mp c_36
      have d_c_37 := (not_congr zz_eq).mp c_37
      have d_c_38 := (not_congr zz_eq).mp c_38
      have d_c_322 := zz_eq.mp c_322
      have ez_0 : (0 : Int32).toInt = 0 := by decide
      have ez_1 : (1 : Int32).toInt = 1 := by decide
      have ez_2 : (2 : Int32).toInt = 2 := by decide
      have ez_3 : (3 : Int32).toInt = 3 := by decide
      have ez_4 : (4 : Int32).toInt = 4 := by decide
      have ez_5 : (5 : Int32).toInt = 5 := by decide
      have ez_6 : (6 : Int32).toInt = 6 := by decide
      exact absurd (show False by omega) id
    · skip
      have d_c_32 := (not_congr zz_eq).mp c_32
      have d_c_33 := (not_congr zz_eq).mp c_33
      have d_c_34 := (not_congr zz_eq).mp c_34
      have d_c_35 := (not_congr zz_eq).mp c_35
      have d_c_36 := (not_congr zz_eq).mp c_36
      have d_c_37 := (not_congr zz_eq).mp c_37
      have d_c_38 := (not_congr zz_eq).mp c_38
      have d_c_323 := (not_congr zz_eq).mp c_323
      have d_c_324 := zz_eq.mp c_324
      have ez_0 : (0 : Int32).toInt = 0 := by decide
      have ez_1 : (1 : Int32).toInt = 1 := by decide
      have ez_2 : (2 : Int32).toInt = 2 := by decide
      have ez_3 : (3 : Int32).toInt = 3 := by decide
      have ez_4 : (4 : Int32).toInt = 4 := by decide
      have ez_5 : (5 : Int32).toInt = 5 := by decide
      have ez_6 : (6 : Int32).toInt = 6 := by decide
      exact absurd (show False by omega) id
    · skip
      have d_c_32 := (not_congr zz_eq).mp c_32
      have d_c_33 := (not_congr zz_eq).mp c_33
      have d_c_34 := (not_congr zz_eq).mp c_34
      have d_c_35 := (not_congr zz_eq).mp c_35
      have d_c_36 := (not_congr zz_eq).mp c_36
      have d_c_37 := (not_congr zz_eq).mp c_37
      have d_c_38 := (not_congr zz_eq).mp c_38
      have d_c_325 := (not_congr zz_eq).mp c_325
      have d_c_326 := (not_congr zz_eq).mp c_326
      have d_c_327 := zz_eq.mp c_327
      have ez_0 : (0 : Int32).toInt = 0 := by decide
      have ez_1 : (1 : Int32).toInt = 1 := by decide
      have ez_2 : (2 : Int32).toInt = 2 := by decide
      have ez_3 : (3 : Int32).toInt = 3 := by decide
      have ez_4 : (4 : Int32).toInt = 4 := by decide
      have ez_5 : (5 : Int32).toInt = 5 := by decide
      have ez_6 : (6 : Int32).toInt = 6 := by decide
      exact absurd (show False by omega) id
    · skip
      have d_c_32 := (not_congr zz_eq).mp c_32
      have d_c_33 := (not_congr zz_eq).mp c_33
      have d_c_34 := (not_congr zz_eq).mp c_34
      have d_c_35 := (not_congr zz_eq).mp c_35
      have d_c_36 := (not_congr zz_eq).mp c_36
      have d_c_37 := (not_congr zz_eq).mp c_37
      have d_c_38 := (not_congr zz_eq).mp c_38
      have d_c_328 := (not_congr zz_eq).mp c_328
      have d_c_329 := (not_congr zz_eq).mp c_329
      have d_c_330 := (not_congr zz_eq).mp c_330
      have d_c_331 := zz_eq.mp c_331
      have ez_0 : (0 : Int32).toInt = 0 := by decide
      have ez_1 : (1 : Int32).toInt = 1 := by decide
      have ez_2 : (2 : Int32).toInt = 2 := by decide
      have ez_3 : (3 : Int32).toInt = 3 := by decide
      have ez_4 : (4 : Int32).toInt = 4 := by decide
      have ez_5 : (5 : Int32).toInt = 5 := by decide
      have ez_6 : (6 : Int32).toInt = 6 := by decide
      exact absurd (show False by omega) id
    · skip
      have d_c_32 := (not_congr zz_eq).mp c_32
      have d_c_33 := (not_congr zz_eq).mp c_33
      have d_c_34 := (not_congr zz_eq).mp c_34
      have d_c_35 := (not_congr zz_eq).mp c_35
      have d_c_36 := (not_congr zz_eq).mp c_36
      have d_c_37 := (not_congr zz_eq).mp c_37
      have d_c_38 := (not_congr zz_eq).mp c_38
      have d_c_332 := (not_congr zz_eq).mp c_332
      have d_c_333 := (not_congr zz_eq).mp c_333
      have d_c_334 := (not_congr zz_eq).mp c_334
      have d_c_335 := (not_congr zz_eq).mp c_335
      have d_c_336 := zz_eq.mp c_336
      have ez_0 : (0 : Int32).toInt = 0 := by decide
      have ez_1 : (1 : Int32).toInt = 1 := by decide
      have ez_2 : (2 : Int32).toInt = 2 := by decide
      have ez_3 : (3 : Int32).toInt = 3 := by decide
      have ez_4 : (4 : Int32).toInt = 4 := by decide
      have ez_5 : (5 : Int32).toInt = 5 := by decide
      have ez_6 : (6 : Int32).toInt = 6 := by decide
      exact absurd (show False by omega) id
    · skip
      have d_c_32 := (not_congr zz_eq).mp c_32
      have d_c_33 := (not_congr zz_eq).mp c_33
      have d_c_34 := (not_congr zz_eq).mp c_34
      have d_c_35 := (not_congr zz_eq).mp c_35
      have d_c_36 := (not_congr zz_eq).mp c_36
      have d_c_37 := (not_congr zz_eq).mp c_37
      have d_c_38 := (not_congr zz_eq).mp c_38
      have d_c_337 := (not_congr zz_eq).mp c_337
      have d_c_338 := (not_congr zz_eq).mp c_338
      have d_c_339 := (not_congr zz_eq).mp c_339
      have d_c_340 := (not_congr zz_eq).mp c_340
      have d_c_341 := (not_congr zz_eq).mp c_341
      have d_c_342 := zz_eq.mp c_342
      have ez_0 : (0 : Int32).toInt = 0 := by decide
      have ez_1 : (1 : Int32).toInt = 1 := by decide
      have ez_2 : (2 : Int32).toInt = 2 := by decide
      have ez_3 : (3 : Int32).toInt = 3 := by decide
      have ez_4 : (4 : Int32).toInt = 4 := by decide
      have ez_5 : (5 : Int32).toInt = 5 := by decide
      have ez_6 : (6 : Int32).toInt = 6 := by decide
      exact absurd (show False by omega) id
    · skip
      have d_c_32 := (not_congr zz_eq).mp c_32
      have d_c_33 := (not_congr zz_eq).mp c_33
      have d_c_34 := (not_congr zz_eq).mp c_34
      have d_c_35 := (not_congr zz_eq).mp c_35
      have d_c_36 := (not_congr zz_eq).mp c_36
      have d_c_37 := (not_congr zz_eq).mp c_37
      have d_c_38 := (not_congr zz_eq).mp c_38
      have d_c_343 := (not_congr zz_eq).mp c_343
      have d_c_344 := (not_congr zz_eq).mp c_344
      have d_c_345 := (not_congr zz_eq).mp c_345
      have d_c_346 := (not_congr zz_eq).mp c_346
      have d_c_347 := (not_congr zz_eq).mp c_347
      have d_c_348 := (not_congr zz_eq).mp c_348
      have d_c_349 := zz_eq.mp c_349
      have ez_0 : (0 : Int32).toInt = 0 := by decide
      have ez_1 : (1 : Int32).toInt = 1 := by decide
      have ez_2 : (2 : Int32).toInt = 2 := by decide
      have ez_3 : (3 : Int32).toInt = 3 := by decide
      have ez_4 : (4 : Int32).toInt = 4 := by decide
      have ez_5 : (5 : Int32).toInt = 5 := by decide
      have ez_6 : (6 : Int32).toInt = 6 := by decide
      exact absurd (show False by omega) id
    · skip
      refine lv_icmp_eq (tgt := 1170) hx hb dL_law_1165 (by decide) (fun _ => ?_) (fun c9 => absurd (by decide) c9)
      refine lv_iinc (v := 6) (lv' := [(4, .int 6), (0, .ref b), (1, .ref zx), (2, .ref zm), (3, .ref zo)]) hx hb dL_law_1170 hl (k := 4) rfl (by decide) (by decide) rfl (fun ls hl => ?_)
      refine lv_goto (tgt := 23) hx hb dL_law_1173 (by decide) ?_
      refine lv_iload hx hb dL_law_23 (lv_at hl 0 rfl) ?_
      refine lv_aload_n hx hb dL_law_25 rfl (lv_at hl 1 rfl) ?_
      refine va_slen hx hb hX hbl hbA hS dL_law_26 ?_
      refine lv_topi (fun x_357 ex_357 => ?_)
      have ex_357 : x_357 = 6 := ex_357.trans (by decide)
      subst ex_357
      refine lv_bipush (v := 6) hx hb dL_law_27 (by decide) ?_
      refine lv_isub hx hb dL_law_29 ?_
      refine lv_topi (fun x_358 ex_358 => ?_)
      have ex_358 : x_358 = 0 := ex_358.trans (by decide)
      subst ex_358
      refine lv_icmp_gt (tgt := 1176) hx hb dL_law_30 (by decide) (fun _ => ?_) (fun c9 => absurd (by decide) c9)
      refine lv_iconst (v := 1) hx hb dL_law_1176 (by decide) ?_
      refine va_forget (fun q hq => hS.2.2 q hq) ?_
      refine W.widen (k := 600002) (n := 7302232) (Nat.le_of_ble_eq_true rfl) (Nat.le_of_ble_eq_true rfl) ?_
      exact lw_ret hx hb hr hlocks dL_law_1177
