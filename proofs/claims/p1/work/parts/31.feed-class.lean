theorem zi_X8_add_X8 : ∀ w ∈ wsX80, w ∈ wsX8_add := by decide +kernel
theorem zi_X11_feed_X11 : ∀ w ∈ wsX110, w ∈ wsX11_feed := by decide +kernel
theorem zi_X11_feed_X8 : ∀ w ∈ wsX80, w ∈ wsX11_feed := by decide +kernel
theorem dX8_signsIn_0 : decode cX8_signsIn 0 = .ok (.iconst 0, 1) := by decide +kernel
theorem dX8_signsIn_1 : decode cX8_signsIn 1 = .ok (.istore_n 1, 1) := by decide +kernel
theorem dX8_signsIn_2 : decode cX8_signsIn 2 = .ok (.bipush 24, 2) := by decide +kernel
theorem dX8_signsIn_4 : decode cX8_signsIn 4 = .ok (.istore_n 2, 1) := by decide +kernel
theorem dX8_signsIn_5 : decode cX8_signsIn 5 = .ok (.iload_n 2, 1) := by decide +kernel
theorem dX8_signsIn_6 : decode cX8_signsIn 6 = .ok (.ifCond .lt 22, 3) := by decide +kernel
theorem dX8_signsIn_9 : decode cX8_signsIn 9 = .ok (.iload_n 0, 1) := by decide +kernel
theorem dX8_signsIn_10 : decode cX8_signsIn 10 = .ok (.iload_n 2, 1) := by decide +kernel
theorem dX8_signsIn_11 : decode cX8_signsIn 11 = .ok (.iushr, 1) := by decide +kernel
theorem dX8_signsIn_12 : decode cX8_signsIn 12 = .ok (.sipush 255, 3) := by decide +kernel
theorem dX8_signsIn_15 : decode cX8_signsIn 15 = .ok (.iand, 1) := by decide +kernel
theorem dX8_signsIn_16 : decode cX8_signsIn 16 = .ok (.ifCond .eq 6, 3) := by decide +kernel
theorem dX8_signsIn_19 : decode cX8_signsIn 19 = .ok (.iinc 1 1, 3) := by decide +kernel
theorem dX8_signsIn_22 : decode cX8_signsIn 22 = .ok (.iinc 2 (-8), 3) := by decide +kernel
theorem dX8_signsIn_25 : decode cX8_signsIn 25 = .ok (.goto (-20), 3) := by decide +kernel
theorem dX8_signsIn_28 : decode cX8_signsIn 28 = .ok (.iload_n 1, 1) := by decide +kernel
theorem dX8_signsIn_29 : decode cX8_signsIn 29 = .ok (.ireturn, 1) := by decide +kernel
theorem dX8_add_0 : decode cX8_add 0 = .ok (.bipush 24, 2) := by decide +kernel
theorem dX8_add_2 : decode cX8_add 2 = .ok (.istore_n 2, 1) := by decide +kernel
theorem dX8_add_3 : decode cX8_add 3 = .ok (.iload_n 2, 1) := by decide +kernel
theorem dX8_add_4 : decode cX8_add 4 = .ok (.ifCond .lt 51, 3) := by decide +kernel
theorem dX8_add_7 : decode cX8_add 7 = .ok (.iload_n 1, 1) := by decide +kernel
theorem dX8_add_8 : decode cX8_add 8 = .ok (.iload_n 2, 1) := by decide +kernel
theorem dX8_add_9 : decode cX8_add 9 = .ok (.iushr, 1) := by decide +kernel
theorem dX8_add_10 : decode cX8_add 10 = .ok (.sipush 255, 3) := by decide +kernel
theorem dX8_add_13 : decode cX8_add 13 = .ok (.iand, 1) := by decide +kernel
theorem dX8_add_14 : decode cX8_add 14 = .ok (.istore_n 3, 1) := by decide +kernel
theorem dX8_add_15 : decode cX8_add 15 = .ok (.iload_n 3, 1) := by decide +kernel
theorem dX8_add_16 : decode cX8_add 16 = .ok (.ifCond .eq 33, 3) := by decide +kernel
theorem dX8_add_19 : decode cX8_add 19 = .ok (.aload_n 0, 1) := by decide +kernel
theorem dX8_add_20 : decode cX8_add 20 = .ok (.getfield 15, 3) := by decide +kernel
theorem dX8_add_23 : decode cX8_add 23 = .ok (.sipush 160, 3) := by decide +kernel
theorem dX8_add_26 : decode cX8_add 26 = .ok (.if_icmp .ge 23, 3) := by decide +kernel
theorem dX8_add_29 : decode cX8_add 29 = .ok (.aload_n 0, 1) := by decide +kernel
theorem dX8_add_30 : decode cX8_add 30 = .ok (.getfield 9, 3) := by decide +kernel
theorem dX8_add_33 : decode cX8_add 33 = .ok (.aload_n 0, 1) := by decide +kernel
theorem dX8_add_34 : decode cX8_add 34 = .ok (.getfield 15, 3) := by decide +kernel
theorem dX8_add_37 : decode cX8_add 37 = .ok (.iload_n 3, 1) := by decide +kernel
theorem dX8_add_38 : decode cX8_add 38 = .ok (.iastore, 1) := by decide +kernel
theorem dX8_add_39 : decode cX8_add 39 = .ok (.aload_n 0, 1) := by decide +kernel
theorem dX8_add_40 : decode cX8_add 40 = .ok (.dup, 1) := by decide +kernel
theorem dX8_add_41 : decode cX8_add 41 = .ok (.getfield 15, 3) := by decide +kernel
theorem dX8_add_44 : decode cX8_add 44 = .ok (.iconst 1, 1) := by decide +kernel
theorem dX8_add_45 : decode cX8_add 45 = .ok (.iadd, 1) := by decide +kernel
theorem dX8_add_46 : decode cX8_add 46 = .ok (.putfield 15, 3) := by decide +kernel
theorem dX8_add_49 : decode cX8_add 49 = .ok (.iinc 2 (-8), 3) := by decide +kernel
theorem dX8_add_52 : decode cX8_add 52 = .ok (.goto (-49), 3) := by decide +kernel
theorem dX8_add_55 : decode cX8_add 55 = .ok (.return_, 1) := by decide +kernel
theorem dX11_feed_0 : decode cX11_feed 0 = .ok (.iload_n 1, 1) := by decide +kernel
theorem dX11_feed_1 : decode cX11_feed 1 = .ok (.invokestatic 102, 3) := by decide +kernel
theorem dX11_feed_4 : decode cX11_feed 4 = .ok (.iload_n 2, 1) := by decide +kernel
theorem dX11_feed_5 : decode cX11_feed 5 = .ok (.invokestatic 102, 3) := by decide +kernel
theorem dX11_feed_8 : decode cX11_feed 8 = .ok (.iadd, 1) := by decide +kernel
theorem dX11_feed_9 : decode cX11_feed 9 = .ok (.iload_n 3, 1) := by decide +kernel
theorem dX11_feed_10 : decode cX11_feed 10 = .ok (.invokestatic 102, 3) := by decide +kernel
theorem dX11_feed_13 : decode cX11_feed 13 = .ok (.iadd, 1) := by decide +kernel
theorem dX11_feed_14 : decode cX11_feed 14 = .ok (.iload 4, 2) := by decide +kernel
theorem dX11_feed_16 : decode cX11_feed 16 = .ok (.invokestatic 102, 3) := by decide +kernel
theorem dX11_feed_19 : decode cX11_feed 19 = .ok (.iadd, 1) := by decide +kernel
theorem dX11_feed_20 : decode cX11_feed 20 = .ok (.iload 5, 2) := by decide +kernel
theorem dX11_feed_22 : decode cX11_feed 22 = .ok (.invokestatic 102, 3) := by decide +kernel
theorem dX11_feed_25 : decode cX11_feed 25 = .ok (.iadd, 1) := by decide +kernel
theorem dX11_feed_26 : decode cX11_feed 26 = .ok (.istore 6, 2) := by decide +kernel
theorem dX11_feed_28 : decode cX11_feed 28 = .ok (.aload_n 0, 1) := by decide +kernel
theorem dX11_feed_29 : decode cX11_feed 29 = .ok (.getfield 10, 3) := by decide +kernel
theorem dX11_feed_32 : decode cX11_feed 32 = .ok (.getfield 106, 3) := by decide +kernel
theorem dX11_feed_35 : decode cX11_feed 35 = .ok (.iload 6, 2) := by decide +kernel
theorem dX11_feed_37 : decode cX11_feed 37 = .ok (.iadd, 1) := by decide +kernel
theorem dX11_feed_38 : decode cX11_feed 38 = .ok (.sipush 160, 3) := by decide +kernel
theorem dX11_feed_41 : decode cX11_feed 41 = .ok (.if_icmp .le 5, 3) := by decide +kernel
theorem dX11_feed_44 : decode cX11_feed 44 = .ok (.iconst (-1), 1) := by decide +kernel
theorem dX11_feed_45 : decode cX11_feed 45 = .ok (.ireturn, 1) := by decide +kernel
theorem dX11_feed_46 : decode cX11_feed 46 = .ok (.aload_n 0, 1) := by decide +kernel
theorem dX11_feed_47 : decode cX11_feed 47 = .ok (.getfield 10, 3) := by decide +kernel
theorem dX11_feed_50 : decode cX11_feed 50 = .ok (.iload_n 1, 1) := by decide +kernel
theorem dX11_feed_51 : decode cX11_feed 51 = .ok (.invokevirtual 110, 3) := by decide +kernel
theorem dX11_feed_54 : decode cX11_feed 54 = .ok (.aload_n 0, 1) := by decide +kernel
theorem dX11_feed_55 : decode cX11_feed 55 = .ok (.getfield 10, 3) := by decide +kernel
theorem dX11_feed_58 : decode cX11_feed 58 = .ok (.iload_n 2, 1) := by decide +kernel
theorem dX11_feed_59 : decode cX11_feed 59 = .ok (.invokevirtual 110, 3) := by decide +kernel
theorem dX11_feed_62 : decode cX11_feed 62 = .ok (.aload_n 0, 1) := by decide +kernel
theorem dX11_feed_63 : decode cX11_feed 63 = .ok (.getfield 10, 3) := by decide +kernel
theorem dX11_feed_66 : decode cX11_feed 66 = .ok (.iload_n 3, 1) := by decide +kernel
theorem dX11_feed_67 : decode cX11_feed 67 = .ok (.invokevirtual 110, 3) := by decide +kernel
theorem dX11_feed_70 : decode cX11_feed 70 = .ok (.aload_n 0, 1) := by decide +kernel
theorem dX11_feed_71 : decode cX11_feed 71 = .ok (.getfield 10, 3) := by decide +kernel
theorem dX11_feed_74 : decode cX11_feed 74 = .ok (.iload 4, 2) := by decide +kernel
theorem dX11_feed_76 : decode cX11_feed 76 = .ok (.invokevirtual 110, 3) := by decide +kernel
theorem dX11_feed_79 : decode cX11_feed 79 = .ok (.aload_n 0, 1) := by decide +kernel
theorem dX11_feed_80 : decode cX11_feed 80 = .ok (.getfield 10, 3) := by decide +kernel
theorem dX11_feed_83 : decode cX11_feed 83 = .ok (.iload 5, 2) := by decide +kernel
theorem dX11_feed_85 : decode cX11_feed 85 = .ok (.invokevirtual 110, 3) := by decide +kernel
theorem dX11_feed_88 : decode cX11_feed 88 = .ok (.aload_n 0, 1) := by decide +kernel
theorem dX11_feed_89 : decode cX11_feed 89 = .ok (.getfield 10, 3) := by decide +kernel
theorem dX11_feed_92 : decode cX11_feed 92 = .ok (.getfield 106, 3) := by decide +kernel
theorem dX11_feed_95 : decode cX11_feed 95 = .ok (.ireturn, 1) := by decide +kernel
set_option maxRecDepth 20000 in
theorem ggX11_feed_X8_signsIn : GoodIn wsX11_feed wsX8_signsIn := goodIn_r _ [5] (by decide +kernel) (by decide +kernel)
set_option maxRecDepth 20000 in
theorem gX11_feed_X8_signsIn : GoodIn wsX11_feed (va_wsS RX11 102 yX8_signsIn wsX8_signsIn) := goodIn_app (goodIn_of _ (by decide +kernel)) ggX11_feed_X8_signsIn
set_option maxRecDepth 20000 in
theorem ggX11_feed_X8_add : GoodIn wsX11_feed wsX8_add := goodIn_r _ [9, 10, 11, 28, 29, 30, 31] (by decide +kernel) (by decide +kernel)
set_option maxRecDepth 20000 in
theorem gX11_feed_X8_add : GoodIn wsX11_feed (wsV RX11 110 RX8 yX8_add wsX8_add) := goodIn_app (goodIn_of _ (by decide +kernel)) ggX11_feed_X8_add
set_option maxHeartbeats 8000000 in
set_option maxRecDepth 100000 in
theorem zk_X8_signsIn (l : Launch) (dC : Nat → ClassId) (dI : Nat → Nat → Nat) (v0 : Int32) (sz : Nat) : Met l yX8_signsIn wsX8_signsIn ({ frames := 0, cells := 0, slots := 0, locals := 0 }) (va_Pc [.int v0] (zw_P dC dI sz [] [])) (va_Qi (fun (r : Int32) (_ : Unit) => r = nI (zb_n v0)) (fun (_ : Unit) (t : State) => zw_Q dC dI (va_A [] sz) [] [] t) (va_A [] sz)) 0 0 (va_A [] sz) := by
  refine Met.ofW (cc := cX8_signsIn) (maxL := 3) (ret := (some .int)) (by decide) rfl ?_
  intro p e s m args below meth c s₁ B hml hv
  obtain ⟨rfl, hsz, hP, hK, hD0, hN⟩ := hv
  have hx := B.exec
  have hb := B.bytes
  have hr := B.returns
  have hts := atoms_spec (ws := wsX8_signsIn) B.pre
  have hown : s.vm.findClass RX8 = some m.cls := findClass_of_methodNamed B.named
  have hlocks := B.notSynchronized
  subst hsz
  have hD := hD0.self (sz := s.heap.size)
  generalize hAe : va_A [] s.heap.size = A at hD ⊢
  have hA : ∀ q : Nat, s.heap.size ≤ q → A q := fun q h => by rw [← hAe]; exact Or.inr h
  have hP : va_P (dC, dI) classes [] s.heap := hP
  have hl := lv_entry ([.int v0]) (n := 3) (Nat.le_of_ble_eq_true rfl)
  rw [lg_entry_eq]
  generalize (lg_sl ([.int v0]) ++ List.replicate (3 - (lg_sl ([.int v0])).length) Slot.unset).toArray = ls at hl ⊢
  have hl : lv_has ls 3 [(0, .int v0)] := hl
  refine zw_start (fun H eH => ?_)
  have hP : va_P (dC, dI) classes [] H := by rw [eH]; exact hP
  have hS : va_S A s.heap H [] := by rw [eH]; exact va_S.rf
  refine lv_iconst (v := 0) hx hb dX8_signsIn_0 (by decide) ?_
  refine lv_istore_n (lv' := [(1, .int 0), (0, .int v0)]) hx hb dX8_signsIn_1 rfl hl (by decide) rfl (fun ls hl => ?_)
  refine lv_bipush (v := 24) hx hb dX8_signsIn_2 (by decide) ?_
  refine lv_istore_n (lv' := [(2, .int 24), (1, .int 0), (0, .int v0)]) hx hb dX8_signsIn_4 rfl hl (by decide) rfl (fun ls hl => ?_)
  refine lv_iload_n hx hb dX8_signsIn_5 rfl (lv_at hl 0 rfl) ?_
  refine lv_if_lt (tgt := 28) hx hb dX8_signsIn_6 (by decide) (fun c9 => absurd c9 (by decide)) (fun _ => ?_)
  refine lv_iload_n hx hb dX8_signsIn_9 rfl (lv_at hl 2 rfl) ?_
  refine lv_iload_n hx hb dX8_signsIn_10 rfl (lv_at hl 0 rfl) ?_
  refine lv_iushr hx hb dX8_signsIn_11 rfl ?_
  refine lv_topi (fun x_1 ex_1 => ?_)
  refine lv_sipush (v := 255) hx hb dX8_signsIn_12 (by decide) ?_
  refine lv_iand hx hb dX8_signsIn_15 ?_
  refine lv_topi (fun x_2 ex_2 => ?_)
  refine lv_if_eq (tgt := 22) hx hb dX8_signsIn_16 (by decide) (fun c_3 => ?_) (fun c_3 => ?_)
  · skip
    refine lv_iinc (v := 16) (lv' := [(2, .int 16), (1, .int 0), (0, .int v0)]) hx hb dX8_signsIn_22 hl (k := 0) rfl (by decide) (by decide) rfl (fun ls hl => ?_)
    refine lv_goto (tgt := 5) hx hb dX8_signsIn_25 (by decide) ?_
    refine lv_iload_n hx hb dX8_signsIn_5 rfl (lv_at hl 0 rfl) ?_
    refine lv_if_lt (tgt := 28) hx hb dX8_signsIn_6 (by decide) (fun c9 => absurd c9 (by decide)) (fun _ => ?_)
    refine lv_iload_n hx hb dX8_signsIn_9 rfl (lv_at hl 2 rfl) ?_
    refine lv_iload_n hx hb dX8_signsIn_10 rfl (lv_at hl 0 rfl) ?_
    refine lv_iushr hx hb dX8_signsIn_11 rfl ?_
    refine lv_topi (fun x_4 ex_4 => ?_)
    refine lv_sipush (v := 255) hx hb dX8_signsIn_12 (by decide) ?_
    refine lv_iand hx hb dX8_signsIn_15 ?_
    refine lv_topi (fun x_5 ex_5 => ?_)
    refine lv_if_eq (tgt := 22) hx hb dX8_signsIn_16 (by decide) (fun c_6 => ?_) (fun c_6 => ?_)
    · skip
      refine lv_iinc (v := 8) (lv' := [(2, .int 8), (1, .int 0), (0, .int v0)]) hx hb dX8_signsIn_22 hl (k := 0) rfl (by decide) (by decide) rfl (fun ls hl => ?_)
      refine lv_goto (tgt := 5) hx hb dX8_signsIn_25 (by decide) ?_
      refine lv_iload_n hx hb dX8_signsIn_5 rfl (lv_at hl 0 rfl) ?_
      refine lv_if_lt (tgt := 28) hx hb dX8_signsIn_6 (by decide) (fun c9 => absurd c9 (by decide)) (fun _ => ?_)
      refine lv_iload_n hx hb dX8_signsIn_9 rfl (lv_at hl 2 rfl) ?_
      refine lv_iload_n hx hb dX8_signsIn_10 rfl (lv_at hl 0 rfl) ?_
      refine lv_iushr hx hb dX8_signsIn_11 rfl ?_
      refine lv_topi (fun x_7 ex_7 => ?_)
      refine lv_sipush (v := 255) hx hb dX8_signsIn_12 (by decide) ?_
      refine lv_iand hx hb dX8_signsIn_15 ?_
      refine lv_topi (fun x_8 ex_8 => ?_)
      refine lv_if_eq (tgt := 22) hx hb dX8_signsIn_16 (by decide) (fun c_9 => ?_) (fun c_9 => ?_)
      · skip
        refine lv_iinc (v := 0) (lv' := [(2, .int 0), (1, .int 0), (0, .int v0)]) hx hb dX8_signsIn_22 hl (k := 0) rfl (by decide) (by decide) rfl (fun ls hl => ?_)
        refine lv_goto (tgt := 5) hx hb dX8_signsIn_25 (by decide) ?_
        refine lv_iload_n hx hb dX8_signsIn_5 rfl (lv_at hl 0 rfl) ?_
        refine lv_if_lt (tgt := 28) hx hb dX8_signsIn_6 (by decide) (fun c9 => absurd c9 (by decide)) (fun _ => ?_)
        refine lv_iload_n hx hb dX8_signsIn_9 rfl (lv_at hl 2 rfl) ?_
        refine lv_iload_n hx hb dX8_signsIn_10 rfl (lv_at hl 0 rfl) ?_
        refine lv_iushr hx hb dX8_signsIn_11 rfl ?_
        refine lv_topi (fun x_10 ex_10 => ?_)
        refine lv_sipush (v := 255) hx hb dX8_signsIn_12 (by decide) ?_
        refine lv_iand hx hb dX8_signsIn_15 ?_
        refine lv_topi (fun x_11 ex_11 => ?_)
        refine lv_if_eq (tgt := 22) hx hb dX8_signsIn_16 (by decide) (fun c_12 => ?_) (fun c_12 => ?_)
        · skip
          refine lv_iinc (v := (-8)) (lv' := [(2, .int (-8)), (1, .int 0), (0, .int v0)]) hx hb dX8_signsIn_22 hl (k := 0) rfl (by decide) (by decide) rfl (fun ls hl => ?_)
          refine lv_goto (tgt := 5) hx hb dX8_signsIn_25 (by decide) ?_
          refine lv_iload_n hx hb dX8_signsIn_5 rfl (lv_at hl 0 rfl) ?_
          refine lv_if_lt (tgt := 28) hx hb dX8_signsIn_6 (by decide) (fun _ => ?_) (fun c9 => absurd (by decide) c9)
          refine lv_iload_n hx hb dX8_signsIn_28 rfl (lv_at hl 1 rfl) ?_
          have hP9 := hP.sub (ws' := []) [] rfl
          have hD9 := hD.sub (ws' := []) [] (by decide) rfl
          have hK9 := hK.sub (tys' := []) [] rfl
          refine W.widen (k := 0) (n := 0) (Nat.le_of_ble_eq_true rfl) (Nat.le_of_ble_eq_true rfl) ?_
          have hb24 : zb_i (zb_u v0 24) = 0 := by
            rw [show zb_u v0 24 = x_2 from by rw [ex_2, ex_1]; rfl]
            exact if_pos c_3
          have hb16 : zb_i (zb_u v0 16) = 0 := by
            rw [show zb_u v0 16 = x_5 from by rw [ex_5, ex_4]; rfl]
            exact if_pos c_6
          have hb8 : zb_i (zb_u v0 8) = 0 := by
            rw [show zb_u v0 8 = x_8 from by rw [ex_8, ex_7]; rfl]
            exact if_pos c_9
          have hb0 : zb_i (zb_u v0 0) = 0 := by
            rw [show zb_u v0 0 = x_11 from by rw [ex_11, ex_10]; rfl]
            exact if_pos c_12
          have hz : zb_n v0 = 0 := by unfold zb_n; rw [hb24, hb16, hb8, hb0]
          exact W.iret (v := 0) hx hb hr (fun t ht hW => ⟨⟨0, (), rfl, (by rw [hz]; decide), by rw [ht]; exact hP9, va_K.moved hW.alike hK9, hD9⟩, hS.F ht⟩) hS.2.2 dX8_signsIn_29
        · skip
          refine lv_iinc (v := 1) (lv' := [(1, .int 1), (2, .int 0), (0, .int v0)]) hx hb dX8_signsIn_19 hl (k := 1) rfl (by decide) (by decide) rfl (fun ls hl => ?_)
          refine lv_iinc (v := (-8)) (lv' := [(2, .int (-8)), (1, .int 1), (0, .int v0)]) hx hb dX8_signsIn_22 hl (k := 1) rfl (by decide) (by decide) rfl (fun ls hl => ?_)
          refine lv_goto (tgt := 5) hx hb dX8_signsIn_25 (by decide) ?_
          refine lv_iload_n hx hb dX8_signsIn_5 rfl (lv_at hl 0 rfl) ?_
          refine lv_if_lt (tgt := 28) hx hb dX8_signsIn_6 (by decide) (fun _ => ?_) (fun c9 => absurd (by decide) c9)
          refine lv_iload_n hx hb dX8_signsIn_28 rfl (lv_at hl 1 rfl) ?_
          have hP9 := hP.sub (ws' := []) [] rfl
          have hD9 := hD.sub (ws' := []) [] (by decide) rfl
          have hK9 := hK.sub (tys' := []) [] rfl
          refine W.widen (k := 0) (n := 0) (Nat.le_of_ble_eq_true rfl) (Nat.le_of_ble_eq_true rfl) ?_
          have hb24 : zb_i (zb_u v0 24) = 0 := by
            rw [show zb_u v0 24 = x_2 from by rw [ex_2, ex_1]; rfl]
            exact if_pos c_3
          have hb16 : zb_i (zb_u v0 16) = 0 := by
            rw [show zb_u v0 16 = x_5 from by rw [ex_5, ex_4]; rfl]
            exact if_pos c_6
          have hb8 : zb_i (zb_u v0 8) = 0 := by
            rw [show zb_u v0 8 = x_8 from by rw [ex_8, ex_7]; rfl]
            exact if_pos c_9
          have hb0 : zb_i (zb_u v0 0) = 1 := by
            rw [show zb_u v0 0 = x_11 from by rw [ex_11, ex_10]; rfl]
            exact if_neg c_12
          have hz : zb_n v0 = 1 := by unfold zb_n; rw [hb24, hb16, hb8, hb0]
          exact W.iret (v := 1) hx hb hr (fun t ht hW => ⟨⟨1, (), rfl, (by rw [hz]; decide), by rw [ht]; exact hP9, va_K.moved hW.alike hK9, hD9⟩, hS.F ht⟩) hS.2.2 dX8_signsIn_29
      · skip
        refine lv_iinc (v := 1) (lv' := [(1, .int 1), (2, .int 8), (0, .int v0)]) hx hb dX8_signsIn_19 hl (k := 1) rfl (by decide) (by decide) rfl (fun ls hl => ?_)
        refine lv_iinc (v := 0) (lv' := [(2, .int 0), (1, .int 1), (0, .int v0)]) hx hb dX8_signsIn_22 hl (k := 1) rfl (by decide) (by decide) rfl (fun ls hl => ?_)
        refine lv_goto (tgt := 5) hx hb dX8_signsIn_25 (by decide) ?_
        refine lv_iload_n hx hb dX8_signsIn_5 rfl (lv_at hl 0 rfl) ?_
        refine lv_if_lt (tgt := 28) hx hb dX8_signsIn_6 (by decide) (fun c9 => absurd c9 (by decide)) (fun _ => ?_)
        refine lv_iload_n hx hb dX8_signsIn_9 rfl (lv_at hl 2 rfl) ?_
        refine lv_iload_n hx hb dX8_signsIn_10 rfl (lv_at hl 0 rfl) ?_
        refine lv_iushr hx hb dX8_signsIn_11 rfl ?_
        refine lv_topi (fun x_13 ex_13 => ?_)
        refine lv_sipush (v := 255) hx hb dX8_signsIn_12 (by decide) ?_
        refine lv_iand hx hb dX8_signsIn_15 ?_
        refine lv_topi (fun x_14 ex_14 => ?_)
        refine lv_if_eq (tgt := 22) hx hb dX8_signsIn_16 (by decide) (fun c_15 => ?_) (fun c_15 => ?_)
        · skip
          refine lv_iinc (v := (-8)) (lv' := [(2, .int (-8)), (1, .int 1), (0, .int v0)]) hx hb dX8_signsIn_22 hl (k := 0) rfl (by decide) (by decide) rfl (fun ls hl => ?_)
          refine lv_goto (tgt := 5) hx hb dX8_signsIn_25 (by decide) ?_
          refine lv_iload_n hx hb dX8_signsIn_5 rfl (lv_at hl 0 rfl) ?_
          refine lv_if_lt (tgt := 28) hx hb dX8_signsIn_6 (by decide) (fun _ => ?_) (fun c9 => absurd (by decide) c9)
          refine lv_iload_n hx hb dX8_signsIn_28 rfl (lv_at hl 1 rfl) ?_
          have hP9 := hP.sub (ws' := []) [] rfl
          have hD9 := hD.sub (ws' := []) [] (by decide) rfl
          have hK9 := hK.sub (tys' := []) [] rfl
          refine W.widen (k := 0) (n := 0) (Nat.le_of_ble_eq_true rfl) (Nat.le_of_ble_eq_true rfl) ?_
          have hb24 : zb_i (zb_u v0 24) = 0 := by
            rw [show zb_u v0 24 = x_2 from by rw [ex_2, ex_1]; rfl]
            exact if_pos c_3
          have hb16 : zb_i (zb_u v0 16) = 0 := by
            rw [show zb_u v0 16 = x_5 from by rw [ex_5, ex_4]; rfl]
            exact if_pos c_6
          have hb8 : zb_i (zb_u v0 8) = 1 := by
            rw [show zb_u v0 8 = x_8 from by rw [ex_8, ex_7]; rfl]
            exact if_neg c_9
          have hb0 : zb_i (zb_u v0 0) = 0 := by
            rw [show zb_u v0 0 = x_14 from by rw [ex_14, ex_13]; rfl]
            exact if_pos c_15
          have hz : zb_n v0 = 1 := by unfold zb_n; rw [hb24, hb16, hb8, hb0]
          exact W.iret (v := 1) hx hb hr (fun t ht hW => ⟨⟨1, (), rfl, (by rw [hz]; decide), by rw [ht]; exact hP9, va_K.moved hW.alike hK9, hD9⟩, hS.F ht⟩) hS.2.2 dX8_signsIn_29
        · skip
          refine lv_iinc (v := 2) (lv' := [(1, .int 2), (2, .int 0), (0, .int v0)]) hx hb dX8_signsIn_19 hl (k := 1) rfl (by decide) (by decide) rfl (fun ls hl => ?_)
          refine lv_iinc (v := (-8)) (lv' := [(2, .int (-8)), (1, .int 2), (0, .int v0)]) hx hb dX8_signsIn_22 hl (k := 1) rfl (by decide) (by decide) rfl (fun ls hl => ?_)
          refine lv_goto (tgt := 5) hx hb dX8_signsIn_25 (by decide) ?_
          refine lv_iload_n hx hb dX8_signsIn_5 rfl (lv_at hl 0 rfl) ?_
          refine lv_if_lt (tgt := 28) hx hb dX8_signsIn_6 (by decide) (fun _ => ?_) (fun c9 => absurd (by decide) c9)
          refine lv_iload_n hx hb dX8_signsIn_28 rfl (lv_at hl 1 rfl) ?_
          have hP9 := hP.sub (ws' := []) [] rfl
          have hD9 := hD.sub (ws' := []) [] (by decide) rfl
          have hK9 := hK.sub (tys' := []) [] rfl
          refine W.widen (k := 0) (n := 0) (Nat.le_of_ble_eq_true rfl) (Nat.le_of_ble_eq_true rfl) ?_
          have hb24 : zb_i (zb_u v0 24) = 0 := by
            rw [show zb_u v0 24 = x_2 from by rw [ex_2, ex_1]; rfl]
            exact if_pos c_3
          have hb16 : zb_i (zb_u v0 16) = 0 := by
            rw [show zb_u v0 16 = x_5 from by rw [ex_5, ex_4]; rfl]
            exact if_pos c_6
          have hb8 : zb_i (zb_u v0 8) = 1 := by
            rw [show zb_u v0 8 = x_8 from by rw [ex_8, ex_7]; rfl]
            exact if_neg c_9
          have hb0 : zb_i (zb_u v0 0) = 1 := by
            rw [show zb_u v0 0 = x_14 from by rw [ex_14, ex_13]; rfl]
            exact if_neg c_15
          have hz : zb_n v0 = 2 := by unfold zb_n; rw [hb24, hb16, hb8, hb0]
          exact W.iret (v := 2) hx hb hr (fun t ht hW => ⟨⟨2, (), rfl, (by rw [hz]; decide), by rw [ht]; exact hP9, va_K.moved hW.alike hK9, hD9⟩, hS.F ht⟩) hS.2.2 dX8_signsIn_29
    · skip
      refine lv_iinc (v := 1) (lv' := [(1, .int 1), (2, .int 16), (0, .int v0)]) hx hb dX8_signsIn_19 hl (k := 1) rfl (by decide) (by decide) rfl (fun ls hl => ?_)
      refine lv_iinc (v := 8) (lv' := [(2, .int 8), (1, .int 1), (0, .int v0)]) hx hb dX8_signsIn_22 hl (k := 1) rfl (by decide) (by decide) rfl (fun ls hl => ?_)
      refine lv_goto (tgt := 5) hx hb dX8_signsIn_25 (by decide) ?_
      refine lv_iload_n hx hb dX8_signsIn_5 rfl (lv_at hl 0 rfl) ?_
      refine lv_if_lt (tgt := 28) hx hb dX8_signsIn_6 (by decide) (fun c9 => absurd c9 (by decide)) (fun _ => ?_)
      refine lv_iload_n hx hb dX8_signsIn_9 rfl (lv_at hl 2 rfl) ?_
      refine lv_iload_n hx hb dX8_signsIn_10 rfl (lv_at hl 0 rfl) ?_
      refine lv_iushr hx hb dX8_signsIn_11 rfl ?_
      refine lv_topi (fun x_16 ex_16 => ?_)
      refine lv_sipush (v := 255) hx hb dX8_signsIn_12 (by decide) ?_
      refine lv_iand hx hb dX8_signsIn_15 ?_
      refine lv_topi (fun x_17 ex_17 => ?_)
      refine lv_if_eq (tgt := 22) hx hb dX8_signsIn_16 (by decide) (fun c_18 => ?_) (fun c_18 => ?_)
      · skip
        refine lv_iinc (v := 0) (lv' := [(2, .int 0), (1, .int 1), (0, .int v0)]) hx hb dX8_signsIn_22 hl (k := 0) rfl (by decide) (by decide) rfl (fun ls hl => ?_)
        refine lv_goto (tgt := 5) hx hb dX8_signsIn_25 (by decide) ?_
        refine lv_iload_n hx hb dX8_signsIn_5 rfl (lv_at hl 0 rfl) ?_
        refine lv_if_lt (tgt := 28) hx hb dX8_signsIn_6 (by decide) (fun c9 => absurd c9 (by decide)) (fun _ => ?_)
        refine lv_iload_n hx hb dX8_signsIn_9 rfl (lv_at hl 2 rfl) ?_
        refine lv_iload_n hx hb dX8_signsIn_10 rfl (lv_at hl 0 rfl) ?_
        refine lv_iushr hx hb dX8_signsIn_11 rfl ?_
        refine lv_topi (fun x_19 ex_19 => ?_)
        refine lv_sipush (v := 255) hx hb dX8_signsIn_12 (by decide) ?_
        refine lv_iand hx hb dX8_signsIn_15 ?_
        refine lv_topi (fun x_20 ex_20 => ?_)
        refine lv_if_eq (tgt := 22) hx hb dX8_signsIn_16 (by decide) (fun c_21 => ?_) (fun c_21 => ?_)
        · skip
          refine lv_iinc (v := (-8)) (lv' := [(2, .int (-8)), (1, .int 1), (0, .int v0)]) hx hb dX8_signsIn_22 hl (k := 0) rfl (by decide) (by decide) rfl (fun ls hl => ?_)
          refine lv_goto (tgt := 5) hx hb dX8_signsIn_25 (by decide) ?_
          refine lv_iload_n hx hb dX8_signsIn_5 rfl (lv_at hl 0 rfl) ?_
          refine lv_if_lt (tgt := 28) hx hb dX8_signsIn_6 (by decide) (fun _ => ?_) (fun c9 => absurd (by decide) c9)
          refine lv_iload_n hx hb dX8_signsIn_28 rfl (lv_at hl 1 rfl) ?_
          have hP9 := hP.sub (ws' := []) [] rfl
          have hD9 := hD.sub (ws' := []) [] (by decide) rfl
          have hK9 := hK.sub (tys' := []) [] rfl
          refine W.widen (k := 0) (n := 0) (Nat.le_of_ble_eq_true rfl) (Nat.le_of_ble_eq_true rfl) ?_
          have hb24 : zb_i (zb_u v0 24) = 0 := by
            rw [show zb_u v0 24 = x_2 from by rw [ex_2, ex_1]; rfl]
            exact if_pos c_3
          have hb16 : zb_i (zb_u v0 16) = 1 := by
            rw [show zb_u v0 16 = x_5 from by rw [ex_5, ex_4]; rfl]
            exact if_neg c_6
          have hb8 : zb_i (zb_u v0 8) = 0 := by
            rw [show zb_u v0 8 = x_17 from by rw [ex_17, ex_16]; rfl]
            exact if_pos c_18
          have hb0 : zb_i (zb_u v0 0) = 0 := by
            rw [show zb_u v0 0 = x_20 from by rw [ex_20, ex_19]; rfl]
            exact if_pos c_21
          have hz : zb_n v0 = 1 := by unfold zb_n; rw [hb24, hb16, hb8, hb0]
          exact W.iret (v := 1) hx hb hr (fun t ht hW => ⟨⟨1, (), rfl, (by rw [hz]; decide), by rw [ht]; exact hP9, va_K.moved hW.alike hK9, hD9⟩, hS.F ht⟩) hS.2.2 dX8_signsIn_29
        · skip
          refine lv_iinc (v := 2) (lv' := [(1, .int 2), (2, .int 0), (0, .int v0)]) hx hb dX8_signsIn_19 hl (k := 1) rfl (by decide) (by decide) rfl (fun ls hl => ?_)
          refine lv_iinc (v := (-8)) (lv' := [(2, .int (-8)), (1, .int 2), (0, .int v0)]) hx hb dX8_signsIn_22 hl (k := 1) rfl (by decide) (by decide) rfl (fun ls hl => ?_)
          refine lv_goto (tgt := 5) hx hb dX8_signsIn_25 (by decide) ?_
          refine lv_iload_n hx hb dX8_signsIn_5 rfl (lv_at hl 0 rfl) ?_
          refine lv_if_lt (tgt := 28) hx hb dX8_signsIn_6 (by decide) (fun _ => ?_) (fun c9 => absurd (by decide) c9)
          refine lv_iload_n hx hb dX8_signsIn_28 rfl (lv_at hl 1 rfl) ?_
          have hP9 := hP.sub (ws' := []) [] rfl
          have hD9 := hD.sub (ws' := []) [] (by decide) rfl
          have hK9 := hK.sub (tys' := []) [] rfl
          refine W.widen (k := 0) (n := 0) (Nat.le_of_ble_eq_true rfl) (Nat.le_of_ble_eq_true rfl) ?_
          have hb24 : zb_i (zb_u v0 24) = 0 := by
            rw [show zb_u v0 24 = x_2 from by rw [ex_2, ex_1]; rfl]
            exact if_pos c_3
          have hb16 : zb_i (zb_u v0 16) = 1 := by
            rw [show zb_u v0 16 = x_5 from by rw [ex_5, ex_4]; rfl]
            exact if_neg c_6
          have hb8 : zb_i (zb_u v0 8) = 0 := by
            rw [show zb_u v0 8 = x_17 from by rw [ex_17, ex_16]; rfl]
            exact if_pos c_18
          have hb0 : zb_i (zb_u v0 0) = 1 := by
            rw [show zb_u v0 0 = x_20 from by rw [ex_20, ex_19]; rfl]
            exact if_neg c_21
          have hz : zb_n v0 = 2 := by unfold zb_n; rw [hb24, hb16, hb8, hb0]
          exact W.iret (v := 2) hx hb hr (fun t ht hW => ⟨⟨2, (), rfl, (by rw [hz]; decide), by rw [ht]; exact hP9, va_K.moved hW.alike hK9, hD9⟩, hS.F ht⟩) hS.2.2 dX8_signsIn_29
      · skip
        refine lv_iinc (v := 2) (lv' := [(1, .int 2), (2, .int 8), (0, .int v0)]) hx hb dX8_signsIn_19 hl (k := 1) rfl (by decide) (by decide) rfl (fun ls hl => ?_)
        refine lv_iinc (v := 0) (lv' := [(2, .int 0), (1, .int 2), (0, .int v0)]) hx hb dX8_signsIn_22 hl (k := 1) rfl (by decide) (by decide) rfl (fun ls hl => ?_)
        refine lv_goto (tgt := 5) hx hb dX8_signsIn_25 (by decide) ?_
        refine lv_iload_n hx hb dX8_signsIn_5 rfl (lv_at hl 0 rfl) ?_
        refine lv_if_lt (tgt := 28) hx hb dX8_signsIn_6 (by decide) (fun c9 => absurd c9 (by decide)) (fun _ => ?_)
        refine lv_iload_n hx hb dX8_signsIn_9 rfl (lv_at hl 2 rfl) ?_
        refine lv_iload_n hx hb dX8_signsIn_10 rfl (lv_at hl 0 rfl) ?_
        refine lv_iushr hx hb dX8_signsIn_11 rfl ?_
        refine lv_topi (fun x_22 ex_22 => ?_)
        refine lv_sipush (v := 255) hx hb dX8_signsIn_12 (by decide) ?_
        refine lv_iand hx hb dX8_signsIn_15 ?_
        refine lv_topi (fun x_23 ex_23 => ?_)
        refine lv_if_eq (tgt := 22) hx hb dX8_signsIn_16 (by decide) (fun c_24 => ?_) (fun c_24 => ?_)
        · skip
          refine lv_iinc (v := (-8)) (lv' := [(2, .int (-8)), (1, .int 2), (0, .int v0)]) hx hb dX8_signsIn_22 hl (k := 0) rfl (by decide) (by decide) rfl (fun ls hl => ?_)
          refine lv_goto (tgt := 5) hx hb dX8_signsIn_25 (by decide) ?_
          refine lv_iload_n hx hb dX8_signsIn_5 rfl (lv_at hl 0 rfl) ?_
          refine lv_if_lt (tgt := 28) hx hb dX8_signsIn_6 (by decide) (fun _ => ?_) (fun c9 => absurd (by decide) c9)
          refine lv_iload_n hx hb dX8_signsIn_28 rfl (lv_at hl 1 rfl) ?_
          have hP9 := hP.sub (ws' := []) [] rfl
          have hD9 := hD.sub (ws' := []) [] (by decide) rfl
          have hK9 := hK.sub (tys' := []) [] rfl
          refine W.widen (k := 0) (n := 0) (Nat.le_of_ble_eq_true rfl) (Nat.le_of_ble_eq_true rfl) ?_
          have hb24 : zb_i (zb_u v0 24) = 0 := by
            rw [show zb_u v0 24 = x_2 from by rw [ex_2, ex_1]; rfl]
            exact if_pos c_3
          have hb16 : zb_i (zb_u v0 16) = 1 := by
            rw [show zb_u v0 16 = x_5 from by rw [ex_5, ex_4]; rfl]
            exact if_neg c_6
          have hb8 : zb_i (zb_u v0 8) = 1 := by
            rw [show zb_u v0 8 = x_17 from by rw [ex_17, ex_16]; rfl]
            exact if_neg c_18
          have hb0 : zb_i (zb_u v0 0) = 0 := by
            rw [show zb_u v0 0 = x_23 from by rw [ex_23, ex_22]; rfl]
            exact if_pos c_24
          have hz : zb_n v0 = 2 := by unfold zb_n; rw [hb24, hb16, hb8, hb0]
          exact W.iret (v := 2) hx hb hr (fun t ht hW => ⟨⟨2, (), rfl, (by rw [hz]; decide), by rw [ht]; exact hP9, va_K.moved hW.alike hK9, hD9⟩, hS.F ht⟩) hS.2.2 dX8_signsIn_29
        · skip
          refine lv_iinc (v := 3) (lv' := [(1, .int 3), (2, .int 0), (0, .int v0)]) hx hb dX8_signsIn_19 hl (k := 1) rfl (by decide) (by decide) rfl (fun ls hl => ?_)
          refine lv_iinc (v := (-8)) (lv' := [(2, .int (-8)), (1, .int 3), (0, .int v0)]) hx hb dX8_signsIn_22 hl (k := 1) rfl (by decide) (by decide) rfl (fun ls hl => ?_)
          refine lv_goto (tgt := 5) hx hb dX8_signsIn_25 (by decide) ?_
          refine lv_iload_n hx hb dX8_signsIn_5 rfl (lv_at hl 0 rfl) ?_
          refine lv_if_lt (tgt := 28) hx hb dX8_signsIn_6 (by decide) (fun _ => ?_) (fun c9 => absurd (by decide) c9)
          refine lv_iload_n hx hb dX8_signsIn_28 rfl (lv_at hl 1 rfl) ?_
          have hP9 := hP.sub (ws' := []) [] rfl
          have hD9 := hD.sub (ws' := []) [] (by decide) rfl
          have hK9 := hK.sub (tys' := []) [] rfl
          refine W.widen (k := 0) (n := 0) (Nat.le_of_ble_eq_true rfl) (Nat.le_of_ble_eq_true rfl) ?_
          have hb24 : zb_i (zb_u v0 24) = 0 := by
            rw [show zb_u v0 24 = x_2 from by rw [ex_2, ex_1]; rfl]
            exact if_pos c_3
          have hb16 : zb_i (zb_u v0 16) = 1 := by
            rw [show zb_u v0 16 = x_5 from by rw [ex_5, ex_4]; rfl]
            exact if_neg c_6
          have hb8 : zb_i (zb_u v0 8) = 1 := by
            rw [show zb_u v0 8 = x_17 from by rw [ex_17, ex_16]; rfl]
            exact if_neg c_18
          have hb0 : zb_i (zb_u v0 0) = 1 := by
            rw [show zb_u v0 0 = x_23 from by rw [ex_23, ex_22]; rfl]
            exact if_neg c_24
          have hz : zb_n v0 = 3 := by unfold zb_n; rw [hb24, hb16, hb8, hb0]
          exact W.iret (v := 3) hx hb hr (fun t ht hW => ⟨⟨3, (), rfl, (by rw [hz]; decide), by rw [ht]; exact hP9, va_K.moved hW.alike hK9, hD9⟩, hS.F ht⟩) hS.2.2 dX8_signsIn_29
  · skip
    refine lv_iinc (v := 1) (lv' := [(1, .int 1), (2, .int 24), (0, .int v0)]) hx hb dX8_signsIn_19 hl (k := 1) rfl (by decide) (by decide) rfl (fun ls hl => ?_)
    refine lv_iinc (v := 16) (lv' := [(2, .int 16), (1, .int 1), (0, .int v0)]) hx hb dX8_signsIn_22 hl (k := 1) rfl (by decide) (by decide) rfl (fun ls hl => ?_)
    refine lv_goto (tgt := 5) hx hb dX8_signsIn_25 (by decide) ?_
    refine lv_iload_n hx hb dX8_signsIn_5 rfl (lv_at hl 0 rfl) ?_
    refine lv_if_lt (tgt := 28) hx hb dX8_signsIn_6 (by decide) (fun c9 => absurd c9 (by decide)) (fun _ => ?_)
    refine lv_iload_n hx hb dX8_signsIn_9 rfl (lv_at hl 2 rfl) ?_
    refine lv_iload_n hx hb dX8_signsIn_10 rfl (lv_at hl 0 rfl) ?_
    refine lv_iushr hx hb dX8_signsIn_11 rfl ?_
    refine lv_topi (fun x_25 ex_25 => ?_)
    refine lv_sipush (v := 255) hx hb dX8_signsIn_12 (by decide) ?_
    refine lv_iand hx hb dX8_signsIn_15 ?_
    refine lv_topi (fun x_26 ex_26 => ?_)
    refine lv_if_eq (tgt := 22) hx hb dX8_signsIn_16 (by decide) (fun c_27 => ?_) (fun c_27 => ?_)
    · skip
      refine lv_iinc (v := 8) (lv' := [(2, .int 8), (1, .int 1), (0, .int v0)]) hx hb dX8_signsIn_22 hl (k := 0) rfl (by decide) (by decide) rfl (fun ls hl => ?_)
      refine lv_goto (tgt := 5) hx hb dX8_signsIn_25 (by decide) ?_
      refine lv_iload_n hx hb dX8_signsIn_5 rfl (lv_at hl 0 rfl) ?_
      refine lv_if_lt (tgt := 28) hx hb dX8_signsIn_6 (by decide) (fun c9 => absurd c9 (by decide)) (fun _ => ?_)
      refine lv_iload_n hx hb dX8_signsIn_9 rfl (lv_at hl 2 rfl) ?_
      refine lv_iload_n hx hb dX8_signsIn_10 rfl (lv_at hl 0 rfl) ?_
      refine lv_iushr hx hb dX8_signsIn_11 rfl ?_
      refine lv_topi (fun x_28 ex_28 => ?_)
      refine lv_sipush (v := 255) hx hb dX8_signsIn_12 (by decide) ?_
      refine lv_iand hx hb dX8_signsIn_15 ?_
      refine lv_topi (fun x_29 ex_29 => ?_)
      refine lv_if_eq (tgt := 22) hx hb dX8_signsIn_16 (by decide) (fun c_30 => ?_) (fun c_30 => ?_)
      · skip
        refine lv_iinc (v := 0) (lv' := [(2, .int 0), (1, .int 1), (0, .int v0)]) hx hb dX8_signsIn_22 hl (k := 0) rfl (by decide) (by decide) rfl (fun ls hl => ?_)
        refine lv_goto (tgt := 5) hx hb dX8_signsIn_25 (by decide) ?_
        refine lv_iload_n hx hb dX8_signsIn_5 rfl (lv_at hl 0 rfl) ?_
        refine lv_if_lt (tgt := 28) hx hb dX8_signsIn_6 (by decide) (fun c9 => absurd c9 (by decide)) (fun _ => ?_)
        refine lv_iload_n hx hb dX8_signsIn_9 rfl (lv_at hl 2 rfl) ?_
        refine lv_iload_n hx hb dX8_signsIn_10 rfl (lv_at hl 0 rfl) ?_
        refine lv_iushr hx hb dX8_signsIn_11 rfl ?_
        refine lv_topi (fun x_31 ex_31 => ?_)
        refine lv_sipush (v := 255) hx hb dX8_signsIn_12 (by decide) ?_
        refine lv_iand hx hb dX8_signsIn_15 ?_
        refine lv_topi (fun x_32 ex_32 => ?_)
        refine lv_if_eq (tgt := 22) hx hb dX8_signsIn_16 (by decide) (fun c_33 => ?_) (fun c_33 => ?_)
        · skip
          refine lv_iinc (v := (-8)) (lv' := [(2, .int (-8)), (1, .int 1), (0, .int v0)]) hx hb dX8_signsIn_22 hl (k := 0) rfl (by decide) (by decide) rfl (fun ls hl => ?_)
          refine lv_goto (tgt := 5) hx hb dX8_signsIn_25 (by decide) ?_
          refine lv_iload_n hx hb dX8_signsIn_5 rfl (lv_at hl 0 rfl) ?_
          refine lv_if_lt (tgt := 28) hx hb dX8_signsIn_6 (by decide) (fun _ => ?_) (fun c9 => absurd (by decide) c9)
          refine lv_iload_n hx hb dX8_signsIn_28 rfl (lv_at hl 1 rfl) ?_
          have hP9 := hP.sub (ws' := []) [] rfl
          have hD9 := hD.sub (ws' := []) [] (by decide) rfl
          have hK9 := hK.sub (tys' := []) [] rfl
          refine W.widen (k := 0) (n := 0) (Nat.le_of_ble_eq_true rfl) (Nat.le_of_ble_eq_true rfl) ?_
          have hb24 : zb_i (zb_u v0 24) = 1 := by
            rw [show zb_u v0 24 = x_2 from by rw [ex_2, ex_1]; rfl]
            exact if_neg c_3
          have hb16 : zb_i (zb_u v0 16) = 0 := by
            rw [show zb_u v0 16 = x_26 from by rw [ex_26, ex_25]; rfl]
            exact if_pos c_27
          have hb8 : zb_i (zb_u v0 8) = 0 := by
            rw [show zb_u v0 8 = x_29 from by rw [ex_29, ex_28]; rfl]
            exact if_pos c_30
          have hb0 : zb_i (zb_u v0 0) = 0 := by
            rw [show zb_u v0 0 = x_32 from by rw [ex_32, ex_31]; rfl]
            exact if_pos c_33
          have hz : zb_n v0 = 1 := by unfold zb_n; rw [hb24, hb16, hb8, hb0]
          exact W.iret (v := 1) hx hb hr (fun t ht hW => ⟨⟨1, (), rfl, (by rw [hz]; decide), by rw [ht]; exact hP9, va_K.moved hW.alike hK9, hD9⟩, hS.F ht⟩) hS.2.2 dX8_signsIn_29
        · skip
          refine lv_iinc (v := 2) (lv' := [(1, .int 2), (2, .int 0), (0, .int v0)]) hx hb dX8_signsIn_19 hl (k := 1) rfl (by decide) (by decide) rfl (fun ls hl => ?_)
          refine lv_iinc (v := (-8)) (lv' := [(2, .int (-8)), (1, .int 2), (0, .int v0)]) hx hb dX8_signsIn_22 hl (k := 1) rfl (by decide) (by decide) rfl (fun ls hl => ?_)
          refine lv_goto (tgt := 5) hx hb dX8_signsIn_25 (by decide) ?_
          refine lv_iload_n hx hb dX8_signsIn_5 rfl (lv_at hl 0 rfl) ?_
          refine lv_if_lt (tgt := 28) hx hb dX8_signsIn_6 (by decide) (fun _ => ?_) (fun c9 => absurd (by decide) c9)
          refine lv_iload_n hx hb dX8_signsIn_28 rfl (lv_at hl 1 rfl) ?_
          have hP9 := hP.sub (ws' := []) [] rfl
          have hD9 := hD.sub (ws' := []) [] (by decide) rfl
          have hK9 := hK.sub (tys' := []) [] rfl
          refine W.widen (k := 0) (n := 0) (Nat.le_of_ble_eq_true rfl) (Nat.le_of_ble_eq_true rfl) ?_
          have hb24 : zb_i (zb_u v0 24) = 1 := by
            rw [show zb_u v0 24 = x_2 from by rw [ex_2, ex_1]; rfl]
            exact if_neg c_3
          have hb16 : zb_i (zb_u v0 16) = 0 := by
            rw [show zb_u v0 16 = x_26 from by rw [ex_26, ex_25]; rfl]
            exact if_pos c_27
          have hb8 : zb_i (zb_u v0 8) = 0 := by
            rw [show zb_u v0 8 = x_29 from by rw [ex_29, ex_28]; rfl]
            exact if_pos c_30
          have hb0 : zb_i (zb_u v0 0) = 1 := by
            rw [show zb_u v0 0 = x_32 from by rw [ex_32, ex_31]; rfl]
            exact if_neg c_33
          have hz : zb_n v0 = 2 := by unfold zb_n; rw [hb24, hb16, hb8, hb0]
          exact W.iret (v := 2) hx hb hr (fun t ht hW => ⟨⟨2, (), rfl, (by rw [hz]; decide), by rw [ht]; exact hP9, va_K.moved hW.alike hK9, hD9⟩, hS.F ht⟩) hS.2.2 dX8_signsIn_29
      · skip
        refine lv_iinc (v := 2) (lv' := [(1, .int 2), (2, .int 8), (0, .int v0)]) hx hb dX8_signsIn_19 hl (k := 1) rfl (by decide) (by decide) rfl (fun ls hl => ?_)
        refine lv_iinc (v := 0) (lv' := [(2, .int 0), (1, .int 2), (0, .int v0)]) hx hb dX8_signsIn_22 hl (k := 1) rfl (by decide) (by decide) rfl (fun ls hl => ?_)
        refine lv_goto (tgt := 5) hx hb dX8_signsIn_25 (by decide) ?_
        refine lv_iload_n hx hb dX8_signsIn_5 rfl (lv_at hl 0 rfl) ?_
        refine lv_if_lt (tgt := 28) hx hb dX8_signsIn_6 (by decide) (fun c9 => absurd c9 (by decide)) (fun _ => ?_)
        refine lv_iload_n hx hb dX8_signsIn_9 rfl (lv_at hl 2 rfl) ?_
        refine lv_iload_n hx hb dX8_signsIn_10 rfl (lv_at hl 0 rfl) ?_
        refine lv_iushr hx hb dX8_signsIn_11 rfl ?_
        refine lv_topi (fun x_34 ex_34 => ?_)
        refine lv_sipush (v := 255) hx hb dX8_signsIn_12 (by decide) ?_
        refine lv_iand hx hb dX8_signsIn_15 ?_
        refine lv_topi (fun x_35 ex_35 => ?_)
        refine lv_if_eq (tgt := 22) hx hb dX8_signsIn_16 (by decide) (fun c_36 => ?_) (fun c_36 => ?_)
        · skip
          refine lv_iinc (v := (-8)) (lv' := [(2, .int (-8)), (1, .int 2), (0, .int v0)]) hx hb dX8_signsIn_22 hl (k := 0) rfl (by decide) (by decide) rfl (fun ls hl => ?_)
          refine lv_goto (tgt := 5) hx hb dX8_signsIn_25 (by decide) ?_
          refine lv_iload_n hx hb dX8_signsIn_5 rfl (lv_at hl 0 rfl) ?_
          refine lv_if_lt (tgt := 28) hx hb dX8_signsIn_6 (by decide) (fun _ => ?_) (fun c9 => absurd (by decide) c9)
          refine lv_iload_n hx hb dX8_signsIn_28 rfl (lv_at hl 1 rfl) ?_
          have hP9 := hP.sub (ws' := []) [] rfl
          have hD9 := hD.sub (ws' := []) [] (by decide) rfl
          have hK9 := hK.sub (tys' := []) [] rfl
          refine W.widen (k := 0) (n := 0) (Nat.le_of_ble_eq_true rfl) (Nat.le_of_ble_eq_true rfl) ?_
          have hb24 : zb_i (zb_u v0 24) = 1 := by
            rw [show zb_u v0 24 = x_2 from by rw [ex_2, ex_1]; rfl]
            exact if_neg c_3
          have hb16 : zb_i (zb_u v0 16) = 0 := by
            rw [show zb_u v0 16 = x_26 from by rw [ex_26, ex_25]; rfl]
            exact if_pos c_27
          have hb8 : zb_i (zb_u v0 8) = 1 := by
            rw [show zb_u v0 8 = x_29 from by rw [ex_29, ex_28]; rfl]
            exact if_neg c_30
          have hb0 : zb_i (zb_u v0 0) = 0 := by
            rw [show zb_u v0 0 = x_35 from by rw [ex_35, ex_34]; rfl]
            exact if_pos c_36
          have hz : zb_n v0 = 2 := by unfold zb_n; rw [hb24, hb16, hb8, hb0]
          exact W.iret (v := 2) hx hb hr (fun t ht hW => ⟨⟨2, (), rfl, (by rw [hz]; decide), by rw [ht]; exact hP9, va_K.moved hW.alike hK9, hD9⟩, hS.F ht⟩) hS.2.2 dX8_signsIn_29
        · skip
          refine lv_iinc (v := 3) (lv' := [(1, .int 3), (2, .int 0), (0, .int v0)]) hx hb dX8_signsIn_19 hl (k := 1) rfl (by decide) (by decide) rfl (fun ls hl => ?_)
          refine lv_iinc (v := (-8)) (lv' := [(2, .int (-8)), (1, .int 3), (0, .int v0)]) hx hb dX8_signsIn_22 hl (k := 1) rfl (by decide) (by decide) rfl (fun ls hl => ?_)
          refine lv_goto (tgt := 5) hx hb dX8_signsIn_25 (by decide) ?_
          refine lv_iload_n hx hb dX8_signsIn_5 rfl (lv_at hl 0 rfl) ?_
          refine lv_if_lt (tgt := 28) hx hb dX8_signsIn_6 (by decide) (fun _ => ?_) (fun c9 => absurd (by decide) c9)
          refine lv_iload_n hx hb dX8_signsIn_28 rfl (lv_at hl 1 rfl) ?_
          have hP9 := hP.sub (ws' := []) [] rfl
          have hD9 := hD.sub (ws' := []) [] (by decide) rfl
          have hK9 := hK.sub (tys' := []) [] rfl
          refine W.widen (k := 0) (n := 0) (Nat.le_of_ble_eq_true rfl) (Nat.le_of_ble_eq_true rfl) ?_
          have hb24 : zb_i (zb_u v0 24) = 1 := by
            rw [show zb_u v0 24 = x_2 from by rw [ex_2, ex_1]; rfl]
            exact if_neg c_3
          have hb16 : zb_i (zb_u v0 16) = 0 := by
            rw [show zb_u v0 16 = x_26 from by rw [ex_26, ex_25]; rfl]
            exact if_pos c_27
          have hb8 : zb_i (zb_u v0 8) = 1 := by
            rw [show zb_u v0 8 = x_29 from by rw [ex_29, ex_28]; rfl]
            exact if_neg c_30
          have hb0 : zb_i (zb_u v0 0) = 1 := by
            rw [show zb_u v0 0 = x_35 from by rw [ex_35, ex_34]; rfl]
            exact if_neg c_36
          have hz : zb_n v0 = 3 := by unfold zb_n; rw [hb24, hb16, hb8, hb0]
          exact W.iret (v := 3) hx hb hr (fun t ht hW => ⟨⟨3, (), rfl, (by rw [hz]; decide), by rw [ht]; exact hP9, va_K.moved hW.alike hK9, hD9⟩, hS.F ht⟩) hS.2.2 dX8_signsIn_29
    · skip
      refine lv_iinc (v := 2) (lv' := [(1, .int 2), (2, .int 16), (0, .int v0)]) hx hb dX8_signsIn_19 hl (k := 1) rfl (by decide) (by decide) rfl (fun ls hl => ?_)
      refine lv_iinc (v := 8) (lv' := [(2, .int 8), (1, .int 2), (0, .int v0)]) hx hb dX8_signsIn_22 hl (k := 1) rfl (by decide) (by decide) rfl (fun ls hl => ?_)
      refine lv_goto (tgt := 5) hx hb dX8_signsIn_25 (by decide) ?_
      refine lv_iload_n hx hb dX8_signsIn_5 rfl (lv_at hl 0 rfl) ?_
      refine lv_if_lt (tgt := 28) hx hb dX8_signsIn_6 (by decide) (fun c9 => absurd c9 (by decide)) (fun _ => ?_)
      refine lv_iload_n hx hb dX8_signsIn_9 rfl (lv_at hl 2 rfl) ?_
      refine lv_iload_n hx hb dX8_signsIn_10 rfl (lv_at hl 0 rfl) ?_
      refine lv_iushr hx hb dX8_signsIn_11 rfl ?_
      refine lv_topi (fun x_37 ex_37 => ?_)
      refine lv_sipush (v := 255) hx hb dX8_signsIn_12 (by decide) ?_
      refine lv_iand hx hb dX8_signsIn_15 ?_
      refine lv_topi (fun x_38 ex_38 => ?_)
      refine lv_if_eq (tgt := 22) hx hb dX8_signsIn_16 (by decide) (fun c_39 => ?_) (fun c_39 => ?_)
      · skip
        refine lv_iinc (v := 0) (lv' := [(2, .int 0), (1, .int 2), (0, .int v0)]) hx hb dX8_signsIn_22 hl (k := 0) rfl (by decide) (by decide) rfl (fun ls hl => ?_)
        refine lv_goto (tgt := 5) hx hb dX8_signsIn_25 (by decide) ?_
        refine lv_iload_n hx hb dX8_signsIn_5 rfl (lv_at hl 0 rfl) ?_
        refine lv_if_lt (tgt := 28) hx hb dX8_signsIn_6 (by decide) (fun c9 => absurd c9 (by decide)) (fun _ => ?_)
        refine lv_iload_n hx hb dX8_signsIn_9 rfl (lv_at hl 2 rfl) ?_
        refine lv_iload_n hx hb dX8_signsIn_10 rfl (lv_at hl 0 rfl) ?_
        refine lv_iushr hx hb dX8_signsIn_11 rfl ?_
        refine lv_topi (fun x_40 ex_40 => ?_)
        refine lv_sipush (v := 255) hx hb dX8_signsIn_12 (by decide) ?_
        refine lv_iand hx hb dX8_signsIn_15 ?_
        refine lv_topi (fun x_41 ex_41 => ?_)
        refine lv_if_eq (tgt := 22) hx hb dX8_signsIn_16 (by decide) (fun c_42 => ?_) (fun c_42 => ?_)
        · skip
          refine lv_iinc (v := (-8)) (lv' := [(2, .int (-8)), (1, .int 2), (0, .int v0)]) hx hb dX8_signsIn_22 hl (k := 0) rfl (by decide) (by decide) rfl (fun ls hl => ?_)
          refine lv_goto (tgt := 5) hx hb dX8_signsIn_25 (by decide) ?_
          refine lv_iload_n hx hb dX8_signsIn_5 rfl (lv_at hl 0 rfl) ?_
          refine lv_if_lt (tgt := 28) hx hb dX8_signsIn_6 (by decide) (fun _ => ?_) (fun c9 => absurd (by decide) c9)
          refine lv_iload_n hx hb dX8_signsIn_28 rfl (lv_at hl 1 rfl) ?_
          have hP9 := hP.sub (ws' := []) [] rfl
          have hD9 := hD.sub (ws' := []) [] (by decide) rfl
          have hK9 := hK.sub (tys' := []) [] rfl
          refine W.widen (k := 0) (n := 0) (Nat.le_of_ble_eq_true rfl) (Nat.le_of_ble_eq_true rfl) ?_
          have hb24 : zb_i (zb_u v0 24) = 1 := by
            rw [show zb_u v0 24 = x_2 from by rw [ex_2, ex_1]; rfl]
            exact if_neg c_3
          have hb16 : zb_i (zb_u v0 16) = 1 := by
            rw [show zb_u v0 16 = x_26 from by rw [ex_26, ex_25]; rfl]
            exact if_neg c_27
          have hb8 : zb_i (zb_u v0 8) = 0 := by
            rw [show zb_u v0 8 = x_38 from by rw [ex_38, ex_37]; rfl]
            exact if_pos c_39
          have hb0 : zb_i (zb_u v0 0) = 0 := by
            rw [show zb_u v0 0 = x_41 from by rw [ex_41, ex_40]; rfl]
            exact if_pos c_42
          have hz : zb_n v0 = 2 := by unfold zb_n; rw [hb24, hb16, hb8, hb0]
          exact W.iret (v := 2) hx hb hr (fun t ht hW => ⟨⟨2, (), rfl, (by rw [hz]; decide), by rw [ht]; exact hP9, va_K.moved hW.alike hK9, hD9⟩, hS.F ht⟩) hS.2.2 dX8_signsIn_29
        · skip
          refine lv_iinc (v := 3) (lv' := [(1, .int 3), (2, .int 0), (0, .int v0)]) hx hb dX8_signsIn_19 hl (k := 1) rfl (by decide) (by decide) rfl (fun ls hl => ?_)
          refine lv_iinc (v := (-8)) (lv' := [(2, .int (-8)), (1, .int 3), (0, .int v0)]) hx hb dX8_signsIn_22 hl (k := 1) rfl (by decide) (by decide) rfl (fun ls hl => ?_)
          refine lv_goto (tgt := 5) hx hb dX8_signsIn_25 (by decide) ?_
          refine lv_iload_n hx hb dX8_signsIn_5 rfl (lv_at hl 0 rfl) ?_
          refine lv_if_lt (tgt := 28) hx hb dX8_signsIn_6 (by decide) (fun _ => ?_) (fun c9 => absurd (by decide) c9)
          refine lv_iload_n hx hb dX8_signsIn_28 rfl (lv_at hl 1 rfl) ?_
          have hP9 := hP.sub (ws' := []) [] rfl
          have hD9 := hD.sub (ws' := []) [] (by decide) rfl
          have hK9 := hK.sub (tys' := []) [] rfl
          refine W.widen (k := 0) (n := 0) (Nat.le_of_ble_eq_true rfl) (Nat.le_of_ble_eq_true rfl) ?_
          have hb24 : zb_i (zb_u v0 24) = 1 := by
            rw [show zb_u v0 24 = x_2 from by rw [ex_2, ex_1]; rfl]
            exact if_neg c_3
          have hb16 : zb_i (zb_u v0 16) = 1 := by
            rw [show zb_u v0 16 = x_26 from by rw [ex_26, ex_25]; rfl]
            exact if_neg c_27
          have hb8 : zb_i (zb_u v0 8) = 0 := by
            rw [show zb_u v0 8 = x_38 from by rw [ex_38, ex_37]; rfl]
            exact if_pos c_39
          have hb0 : zb_i (zb_u v0 0) = 1 := by
            rw [show zb_u v0 0 = x_41 from by rw [ex_41, ex_40]; rfl]
            exact if_neg c_42
          have hz : zb_n v0 = 3 := by unfold zb_n; rw [hb24, hb16, hb8, hb0]
          exact W.iret (v := 3) hx hb hr (fun t ht hW => ⟨⟨3, (), rfl, (by rw [hz]; decide), by rw [ht]; exact hP9, va_K.moved hW.alike hK9, hD9⟩, hS.F ht⟩) hS.2.2 dX8_signsIn_29
      · skip
        refine lv_iinc (v := 3) (lv' := [(1, .int 3), (2, .int 8), (0, .int v0)]) hx hb dX8_signsIn_19 hl (k := 1) rfl (by decide) (by decide) rfl (fun ls hl => ?_)
        refine lv_iinc (v := 0) (lv' := [(2, .int 0), (1, .int 3), (0, .int v0)]) hx hb dX8_signsIn_22 hl (k := 1) rfl (by decide) (by decide) rfl (fun ls hl => ?_)
        refine lv_goto (tgt := 5) hx hb dX8_signsIn_25 (by decide) ?_
        refine lv_iload_n hx hb dX8_signsIn_5 rfl (lv_at hl 0 rfl) ?_
        refine lv_if_lt (tgt := 28) hx hb dX8_signsIn_6 (by decide) (fun c9 => absurd c9 (by decide)) (fun _ => ?_)
        refine lv_iload_n hx hb dX8_signsIn_9 rfl (lv_at hl 2 rfl) ?_
        refine lv_iload_n hx hb dX8_signsIn_10 rfl (lv_at hl 0 rfl) ?_
        refine lv_iushr hx hb dX8_signsIn_11 rfl ?_
        refine lv_topi (fun x_43 ex_43 => ?_)
        refine lv_sipush (v := 255) hx hb dX8_signsIn_12 (by decide) ?_
        refine lv_iand hx hb dX8_signsIn_15 ?_
        refine lv_topi (fun x_44 ex_44 => ?_)
        refine lv_if_eq (tgt := 22) hx hb dX8_signsIn_16 (by decide) (fun c_45 => ?_) (fun c_45 => ?_)
        · skip
          refine lv_iinc (v := (-8)) (lv' := [(2, .int (-8)), (1, .int 3), (0, .int v0)]) hx hb dX8_signsIn_22 hl (k := 0) rfl (by decide) (by decide) rfl (fun ls hl => ?_)
          refine lv_goto (tgt := 5) hx hb dX8_signsIn_25 (by decide) ?_
          refine lv_iload_n hx hb dX8_signsIn_5 rfl (lv_at hl 0 rfl) ?_
          refine lv_if_lt (tgt := 28) hx hb dX8_signsIn_6 (by decide) (fun _ => ?_) (fun c9 => absurd (by decide) c9)
          refine lv_iload_n hx hb dX8_signsIn_28 rfl (lv_at hl 1 rfl) ?_
          have hP9 := hP.sub (ws' := []) [] rfl
          have hD9 := hD.sub (ws' := []) [] (by decide) rfl
          have hK9 := hK.sub (tys' := []) [] rfl
          refine W.widen (k := 0) (n := 0) (Nat.le_of_ble_eq_true rfl) (Nat.le_of_ble_eq_true rfl) ?_
          have hb24 : zb_i (zb_u v0 24) = 1 := by
            rw [show zb_u v0 24 = x_2 from by rw [ex_2, ex_1]; rfl]
            exact if_neg c_3
          have hb16 : zb_i (zb_u v0 16) = 1 := by
            rw [show zb_u v0 16 = x_26 from by rw [ex_26, ex_25]; rfl]
            exact if_neg c_27
          have hb8 : zb_i (zb_u v0 8) = 1 := by
            rw [show zb_u v0 8 = x_38 from by rw [ex_38, ex_37]; rfl]
            exact if_neg c_39
          have hb0 : zb_i (zb_u v0 0) = 0 := by
            rw [show zb_u v0 0 = x_44 from by rw [ex_44, ex_43]; rfl]
            exact if_pos c_45
          have hz : zb_n v0 = 3 := by unfold zb_n; rw [hb24, hb16, hb8, hb0]
          exact W.iret (v := 3) hx hb hr (fun t ht hW => ⟨⟨3, (), rfl, (by rw [hz]; decide), by rw [ht]; exact hP9, va_K.moved hW.alike hK9, hD9⟩, hS.F ht⟩) hS.2.2 dX8_signsIn_29
        · skip
          refine lv_iinc (v := 4) (lv' := [(1, .int 4), (2, .int 0), (0, .int v0)]) hx hb dX8_signsIn_19 hl (k := 1) rfl (by decide) (by decide) rfl (fun ls hl => ?_)
          refine lv_iinc (v := (-8)) (lv' := [(2, .int (-8)), (1, .int 4), (0, .int v0)]) hx hb dX8_signsIn_22 hl (k := 1) rfl (by decide) (by decide) rfl (fun ls hl => ?_)
          refine lv_goto (tgt := 5) hx hb dX8_signsIn_25 (by decide) ?_
          refine lv_iload_n hx hb dX8_signsIn_5 rfl (lv_at hl 0 rfl) ?_
          refine lv_if_lt (tgt := 28) hx hb dX8_signsIn_6 (by decide) (fun _ => ?_) (fun c9 => absurd (by decide) c9)
          refine lv_iload_n hx hb dX8_signsIn_28 rfl (lv_at hl 1 rfl) ?_
          have hP9 := hP.sub (ws' := []) [] rfl
          have hD9 := hD.sub (ws' := []) [] (by decide) rfl
          have hK9 := hK.sub (tys' := []) [] rfl
          refine W.widen (k := 0) (n := 0) (Nat.le_of_ble_eq_true rfl) (Nat.le_of_ble_eq_true rfl) ?_
          have hb24 : zb_i (zb_u v0 24) = 1 := by
            rw [show zb_u v0 24 = x_2 from by rw [ex_2, ex_1]; rfl]
            exact if_neg c_3
          have hb16 : zb_i (zb_u v0 16) = 1 := by
            rw [show zb_u v0 16 = x_26 from by rw [ex_26, ex_25]; rfl]
            exact if_neg c_27
          have hb8 : zb_i (zb_u v0 8) = 1 := by
            rw [show zb_u v0 8 = x_38 from by rw [ex_38, ex_37]; rfl]
            exact if_neg c_39
          have hb0 : zb_i (zb_u v0 0) = 1 := by
            rw [show zb_u v0 0 = x_44 from by rw [ex_44, ex_43]; rfl]
            exact if_neg c_45
          have hz : zb_n v0 = 4 := by unfold zb_n; rw [hb24, hb16, hb8, hb0]
          exact W.iret (v := 4) hx hb hr (fun t ht hW => ⟨⟨4, (), rfl, (by rw [hz]; decide), by rw [ht]; exact hP9, va_K.moved hW.alike hK9, hD9⟩, hS.F ht⟩) hS.2.2 dX8_signsIn_29
set_option maxHeartbeats 8000000 in
set_option maxRecDepth 100000 in
theorem zk_X8_add (l : Launch) (dC : Nat → ClassId) (dI : Nat → Nat → Nat) (h0 : Nat) (h1 : Nat) (cA0 : ClassId) (f0 : Nat → Int32) (v0 : Int32) (n : Nat) (hn : n ≤ 156) (sz : Nat) : Met l yX8_add wsX8_add ({ frames := 0, cells := 0, slots := 0, locals := 0 }) (va_Pc [.ref h0, .int v0] (zw_P dC dI sz [(cA0, .int)] [(h0, .inr (8, [.ref h1, .int (nI (n)), .int 0, .int (-1)])), (h1, .inl (cA0, 160, .inl (f0)))])) (va_Qv (fun (_ : Unit) => True) (fun (_ : Unit) (t : State) => ∃ fn0 : Nat → Int32, zw_Q dC dI (va_A [(h0, .inr (8, [.ref h1, .int (nI (n)), .int 0, .int (-1)])), (h1, .inl (cA0, 160, .inl (f0)))] sz) [] [(h0, .inr (8, [.ref h1, .int (nI (n + zb_n v0)), .int 0, .int (-1)])), (h1, .inl (cA0, 160, .inl (fn0)))] t) (va_A [(h0, .inr (8, [.ref h1, .int (nI (n)), .int 0, .int (-1)])), (h1, .inl (cA0, 160, .inl (f0)))] sz)) 0 0 (va_A [(h0, .inr (8, [.ref h1, .int (nI (n)), .int 0, .int (-1)])), (h1, .inl (cA0, 160, .inl (f0)))] sz) := by
  refine Met.ofW (cc := cX8_add) (maxL := 4) (ret := none) (by decide) rfl ?_
  intro p e s m args below meth c s₁ B hml hv
  obtain ⟨rfl, hsz, hP, hK, hD0, hN⟩ := hv
  have hx := B.exec
  have hb := B.bytes
  have hr := B.returns
  have hts := atoms_spec (ws := wsX8_add) B.pre
  have hown : s.vm.findClass RX8 = some m.cls := findClass_of_methodNamed B.named
  have hlocks := B.notSynchronized
  subst hsz
  have hD := hD0.self (sz := s.heap.size)
  generalize hAe : va_A [(h0, .inr (8, [.ref h1, .int (nI (n)), .int 0, .int (-1)])), (h1, .inl (cA0, 160, .inl (f0)))] s.heap.size = A at hD ⊢
  have hA : ∀ q : Nat, s.heap.size ≤ q → A q := fun q h => by rw [← hAe]; exact Or.inr h
  have hP : va_P (dC, dI) classes [(h0, .inr (8, [.ref h1, .int (nI (n)), .int 0, .int (-1)])), (h1, .inl (cA0, 160, .inl (f0)))] s.heap := hP
  have hl := lv_entry ([.ref h0, .int v0]) (n := 4) (Nat.le_of_ble_eq_true rfl)
  rw [lg_entry_eq]
  generalize (lg_sl ([.ref h0, .int v0]) ++ List.replicate (4 - (lg_sl ([.ref h0, .int v0])).length) Slot.unset).toArray = ls at hl ⊢
  have hl : lv_has ls 4 [(0, .ref h0), (1, .int v0)] := hl
  refine zw_start (fun H eH => ?_)
  have hP : va_P (dC, dI) classes [(h0, .inr (8, [.ref h1, .int (nI (n)), .int 0, .int (-1)])), (h1, .inl (cA0, 160, .inl (f0)))] H := by rw [eH]; exact hP
  have hS : va_S A s.heap H [] := by rw [eH]; exact va_S.rf
  refine lv_bipush (v := 24) hx hb dX8_add_0 (by decide) ?_
  refine lv_istore_n (lv' := [(2, .int 24), (0, .ref h0), (1, .int v0)]) hx hb dX8_add_2 rfl hl (by decide) rfl (fun ls hl => ?_)
  refine lv_iload_n hx hb dX8_add_3 rfl (lv_at hl 0 rfl) ?_
  refine lv_if_lt (tgt := 55) hx hb dX8_add_4 (by decide) (fun c9 => absurd c9 (by decide)) (fun _ => ?_)
  refine lv_iload_n hx hb dX8_add_7 rfl (lv_at hl 2 rfl) ?_
  refine lv_iload_n hx hb dX8_add_8 rfl (lv_at hl 0 rfl) ?_
  refine lv_iushr hx hb dX8_add_9 rfl ?_
  refine lv_topi (fun x_1 ex_1 => ?_)
  refine lv_sipush (v := 255) hx hb dX8_add_10 (by decide) ?_
  refine lv_iand hx hb dX8_add_13 ?_
  refine lv_topi (fun x_2 ex_2 => ?_)
  refine lv_istore_n (lv' := [(3, .int x_2), (2, .int 24), (0, .ref h0), (1, .int v0)]) hx hb dX8_add_14 rfl hl (by decide) rfl (fun ls hl => ?_)
  refine lv_iload_n hx hb dX8_add_15 rfl (lv_at hl 0 rfl) ?_
  refine lv_if_eq (tgt := 49) hx hb dX8_add_16 (by decide) (fun c_3 => ?_) (fun c_3 => ?_)
  · skip
    refine lv_iinc (v := 16) (lv' := [(2, .int 16), (3, .int x_2), (0, .ref h0), (1, .int v0)]) hx hb dX8_add_49 hl (k := 1) rfl (by decide) (by decide) rfl (fun ls hl => ?_)
    refine lv_goto (tgt := 3) hx hb dX8_add_52 (by decide) ?_
    refine lv_iload_n hx hb dX8_add_3 rfl (lv_at hl 0 rfl) ?_
    refine lv_if_lt (tgt := 55) hx hb dX8_add_4 (by decide) (fun c9 => absurd c9 (by decide)) (fun _ => ?_)
    refine lv_iload_n hx hb dX8_add_7 rfl (lv_at hl 3 rfl) ?_
    refine lv_iload_n hx hb dX8_add_8 rfl (lv_at hl 0 rfl) ?_
    refine lv_iushr hx hb dX8_add_9 rfl ?_
    refine lv_topi (fun x_4 ex_4 => ?_)
    refine lv_sipush (v := 255) hx hb dX8_add_10 (by decide) ?_
    refine lv_iand hx hb dX8_add_13 ?_
    refine lv_topi (fun x_5 ex_5 => ?_)
    refine lv_istore_n (lv' := [(3, .int x_5), (2, .int 16), (0, .ref h0), (1, .int v0)]) hx hb dX8_add_14 rfl hl (by decide) rfl (fun ls hl => ?_)
    refine lv_iload_n hx hb dX8_add_15 rfl (lv_at hl 0 rfl) ?_
    refine lv_if_eq (tgt := 49) hx hb dX8_add_16 (by decide) (fun c_6 => ?_) (fun c_6 => ?_)
    · skip
      refine lv_iinc (v := 8) (lv' := [(2, .int 8), (3, .int x_5), (0, .ref h0), (1, .int v0)]) hx hb dX8_add_49 hl (k := 1) rfl (by decide) (by decide) rfl (fun ls hl => ?_)
      refine lv_goto (tgt := 3) hx hb dX8_add_52 (by decide) ?_
      refine lv_iload_n hx hb dX8_add_3 rfl (lv_at hl 0 rfl) ?_
      refine lv_if_lt (tgt := 55) hx hb dX8_add_4 (by decide) (fun c9 => absurd c9 (by decide)) (fun _ => ?_)
      refine lv_iload_n hx hb dX8_add_7 rfl (lv_at hl 3 rfl) ?_
      refine lv_iload_n hx hb dX8_add_8 rfl (lv_at hl 0 rfl) ?_
      refine lv_iushr hx hb dX8_add_9 rfl ?_
      refine lv_topi (fun x_7 ex_7 => ?_)
      refine lv_sipush (v := 255) hx hb dX8_add_10 (by decide) ?_
      refine lv_iand hx hb dX8_add_13 ?_
      refine lv_topi (fun x_8 ex_8 => ?_)
      refine lv_istore_n (lv' := [(3, .int x_8), (2, .int 8), (0, .ref h0), (1, .int v0)]) hx hb dX8_add_14 rfl hl (by decide) rfl (fun ls hl => ?_)
      refine lv_iload_n hx hb dX8_add_15 rfl (lv_at hl 0 rfl) ?_
      refine lv_if_eq (tgt := 49) hx hb dX8_add_16 (by decide) (fun c_9 => ?_) (fun c_9 => ?_)
      · skip
        refine lv_iinc (v := 0) (lv' := [(2, .int 0), (3, .int x_8), (0, .ref h0), (1, .int v0)]) hx hb dX8_add_49 hl (k := 1) rfl (by decide) (by decide) rfl (fun ls hl => ?_)
        refine lv_goto (tgt := 3) hx hb dX8_add_52 (by decide) ?_
        refine lv_iload_n hx hb dX8_add_3 rfl (lv_at hl 0 rfl) ?_
        refine lv_if_lt (tgt := 55) hx hb dX8_add_4 (by decide) (fun c9 => absurd c9 (by decide)) (fun _ => ?_)
        refine lv_iload_n hx hb dX8_add_7 rfl (lv_at hl 3 rfl) ?_
        refine lv_iload_n hx hb dX8_add_8 rfl (lv_at hl 0 rfl) ?_
        refine lv_iushr hx hb dX8_add_9 rfl ?_
        refine lv_topi (fun x_10 ex_10 => ?_)
        refine lv_sipush (v := 255) hx hb dX8_add_10 (by decide) ?_
        refine lv_iand hx hb dX8_add_13 ?_
        refine lv_topi (fun x_11 ex_11 => ?_)
        refine lv_istore_n (lv' := [(3, .int x_11), (2, .int 0), (0, .ref h0), (1, .int v0)]) hx hb dX8_add_14 rfl hl (by decide) rfl (fun ls hl => ?_)
        refine lv_iload_n hx hb dX8_add_15 rfl (lv_at hl 0 rfl) ?_
        refine lv_if_eq (tgt := 49) hx hb dX8_add_16 (by decide) (fun c_12 => ?_) (fun c_12 => ?_)
        · skip
          refine lv_iinc (v := (-8)) (lv' := [(2, .int (-8)), (3, .int x_11), (0, .ref h0), (1, .int v0)]) hx hb dX8_add_49 hl (k := 1) rfl (by decide) (by decide) rfl (fun ls hl => ?_)
          refine lv_goto (tgt := 3) hx hb dX8_add_52 (by decide) ?_
          refine lv_iload_n hx hb dX8_add_3 rfl (lv_at hl 0 rfl) ?_
          refine lv_if_lt (tgt := 55) hx hb dX8_add_4 (by decide) (fun _ => ?_) (fun c9 => absurd (by decide) c9)
          have hP9 := hP.sub (ws' := [(h0, .inr (8, [.ref h1, .int (nI (n)), .int 0, .int (-1)])), (h1, .inl (cA0, 160, .inl (f0)))]) [0, 1] rfl
          have hD9 := hD.sub (ws' := [(h0, .inr (8, [.ref h1, .int (nI (n)), .int 0, .int (-1)])), (h1, .inl (cA0, 160, .inl (f0)))]) [0, 1] (by decide) rfl
          have hK9 := hK.sub (tys' := []) [] rfl
          refine W.widen (k := 0) (n := 0) (Nat.le_of_ble_eq_true rfl) (Nat.le_of_ble_eq_true rfl) ?_
          have hb24 : zb_i (zb_u v0 24) = 0 := by
            rw [show zb_u v0 24 = x_2 from by rw [ex_2, ex_1]; rfl]
            exact if_pos c_3
          have hb16 : zb_i (zb_u v0 16) = 0 := by
            rw [show zb_u v0 16 = x_5 from by rw [ex_5, ex_4]; rfl]
            exact if_pos c_6
          have hb8 : zb_i (zb_u v0 8) = 0 := by
            rw [show zb_u v0 8 = x_8 from by rw [ex_8, ex_7]; rfl]
            exact if_pos c_9
          have hb0 : zb_i (zb_u v0 0) = 0 := by
            rw [show zb_u v0 0 = x_11 from by rw [ex_11, ex_10]; rfl]
            exact if_pos c_12
          have hz : zb_n v0 = 0 := by unfold zb_n; rw [hb24, hb16, hb8, hb0]
          have en : nI (n) = nI (n + zb_n v0) := by rw [hz, Nat.add_zero]
          rw [en] at hP9 hD9
          exact W.vret hx hb hr (fun t ht hW => ⟨⟨(), rfl, trivial, f0, by rw [ht]; exact hP9, va_K.moved hW.alike hK9, hD9⟩, hS.F ht⟩) hS.2.2 dX8_add_55
        · skip
          refine lv_aload_n hx hb dX8_add_19 rfl (lv_at hl 2 rfl) ?_
          refine va_get (D := (dC, dI)) (ci := 8) (v := .int (nI (n))) (C := RX8) (T := TX8) (N := 4) hx hb hts zi_X8_add_X8 hown hK hP 0 rfl rfl 1 (by decide) (hts (.fieldLink RX8 15 "HoldTwo$Tape" "length" "I") (by decide +kernel)) (fun _ h9 => h9) rfl dX8_add_20 ?_
          refine lv_sipush (v := 160) hx hb dX8_add_23 (by decide) ?_
          refine lv_icmp_ge (tgt := 49) hx hb dX8_add_26 (by decide) (fun c9 => absurd c9 ((fun h9 => absurd ((nI_leI (a := 160) (b := n) (by omega) (by omega)).mp h9) (by omega)))) (fun _ => ?_)
          refine lv_aload_n hx hb dX8_add_29 rfl (lv_at hl 2 rfl) ?_
          refine va_get (D := (dC, dI)) (ci := 8) (v := .ref h1) (C := RX8) (T := TX8) (N := 4) hx hb hts zi_X8_add_X8 hown hK hP 0 rfl rfl 0 (by decide) (hts (.fieldLink RX8 9 "HoldTwo$Tape" "signs" "[I") (by decide +kernel)) (fun _ h9 => h9) rfl dX8_add_30 ?_
          refine lv_aload_n hx hb dX8_add_33 rfl (lv_at hl 2 rfl) ?_
          refine va_get (D := (dC, dI)) (ci := 8) (v := .int (nI (n))) (C := RX8) (T := TX8) (N := 4) hx hb hts zi_X8_add_X8 hown hK hP 0 rfl rfl 1 (by decide) (hts (.fieldLink RX8 15 "HoldTwo$Tape" "length" "I") (by decide +kernel)) (fun _ h9 => h9) rfl dX8_add_34 ?_
          refine lv_iload_n hx hb dX8_add_37 rfl (lv_at hl 0 rfl) ?_
          refine va_iast hx hb hK hP hD hS 1 0 rfl rfl (vp_in_nI (n := n) (by omega) (by omega)) dX8_add_38 (fun H locs hP hD hS => ?_)
          obtain ⟨f_13, ef_13⟩ : ∃ f9 : Nat → Int32, f9 = upd (f0) ((nI (n)) : Int32).toNatClampNeg x_11 := ⟨_, rfl⟩
          rw [← ef_13] at hP hD
          have hP : va_P (dC, dI) classes [(h0, .inr (8, [.ref h1, .int (nI (n)), .int 0, .int (-1)])), (h1, .inl (cA0, 160, .inl (f_13)))] H := hP
          have hD : va_D A [(h0, .inr (8, [.ref h1, .int (nI (n)), .int 0, .int (-1)])), (h1, .inl (cA0, 160, .inl (f_13)))] := hD
          refine lv_aload_n hx hb dX8_add_39 rfl (lv_at hl 2 rfl) ?_
          refine lv_dup hx hb dX8_add_40 rfl ?_
          refine va_get (D := (dC, dI)) (ci := 8) (v := .int (nI (n))) (C := RX8) (T := TX8) (N := 4) hx hb hts zi_X8_add_X8 hown hK hP 0 rfl rfl 1 (by decide) (hts (.fieldLink RX8 15 "HoldTwo$Tape" "length" "I") (by decide +kernel)) (fun _ h9 => h9) rfl dX8_add_41 ?_
          refine lv_iconst (v := 1) hx hb dX8_add_44 (by decide) ?_
          refine lv_iadd hx hb dX8_add_45 ?_
          refine lv_topi (fun x_14 ex_14 => ?_)
          have ex_14 : x_14 = nI (n + 1) := ex_14.trans (nI_add _ _)
          subst ex_14
          refine va_put (D := (dC, dI)) (ci := 8) (v := .int (nI (n + 1))) (ty := .int) (C := RX8) (T := TX8) (N := 4) hx hb hts zi_X8_add_X8 tyX8 tyX8_ok nmX8 hown hK hP hD hS 0 rfl rfl 1 (by decide) (hts (.fieldLink RX8 15 "HoldTwo$Tape" "length" "I") (by decide +kernel)) (fun _ h9 => h9) rfl (by decide +kernel) rfl rfl (Nat.le_of_ble_eq_true rfl) dX8_add_46 (fun H locs hP hD hS => ?_)
          have hP : va_P (dC, dI) classes [(h0, .inr (8, [.ref h1, .int (nI (n + 1)), .int 0, .int (-1)])), (h1, .inl (cA0, 160, .inl (f_13)))] H := hP
          have hD : va_D A [(h0, .inr (8, [.ref h1, .int (nI (n + 1)), .int 0, .int (-1)])), (h1, .inl (cA0, 160, .inl (f_13)))] := hD
          refine lv_iinc (v := (-8)) (lv' := [(2, .int (-8)), (3, .int x_11), (0, .ref h0), (1, .int v0)]) hx hb dX8_add_49 hl (k := 1) rfl (by decide) (by decide) rfl (fun ls hl => ?_)
          refine lv_goto (tgt := 3) hx hb dX8_add_52 (by decide) ?_
          refine lv_iload_n hx hb dX8_add_3 rfl (lv_at hl 0 rfl) ?_
          refine lv_if_lt (tgt := 55) hx hb dX8_add_4 (by decide) (fun _ => ?_) (fun c9 => absurd (by decide) c9)
          have hP9 := hP.sub (ws' := [(h0, .inr (8, [.ref h1, .int (nI (n + 1)), .int 0, .int (-1)])), (h1, .inl (cA0, 160, .inl (f_13)))]) [0, 1] rfl
          have hD9 := hD.sub (ws' := [(h0, .inr (8, [.ref h1, .int (nI (n + 1)), .int 0, .int (-1)])), (h1, .inl (cA0, 160, .inl (f_13)))]) [0, 1] (by decide) rfl
          have hK9 := hK.sub (tys' := []) [] rfl
          refine W.widen (k := 0) (n := 0) (Nat.le_of_ble_eq_true rfl) (Nat.le_of_ble_eq_true rfl) ?_
          have hb24 : zb_i (zb_u v0 24) = 0 := by
            rw [show zb_u v0 24 = x_2 from by rw [ex_2, ex_1]; rfl]
            exact if_pos c_3
          have hb16 : zb_i (zb_u v0 16) = 0 := by
            rw [show zb_u v0 16 = x_5 from by rw [ex_5, ex_4]; rfl]
            exact if_pos c_6
          have hb8 : zb_i (zb_u v0 8) = 0 := by
            rw [show zb_u v0 8 = x_8 from by rw [ex_8, ex_7]; rfl]
            exact if_pos c_9
          have hb0 : zb_i (zb_u v0 0) = 1 := by
            rw [show zb_u v0 0 = x_11 from by rw [ex_11, ex_10]; rfl]
            exact if_neg c_12
          have hz : zb_n v0 = 1 := by unfold zb_n; rw [hb24, hb16, hb8, hb0]
          have en : nI (n + 1) = nI (n + zb_n v0) := by rw [hz]
          rw [en] at hP9 hD9
          exact W.vret hx hb hr (fun t ht hW => ⟨⟨(), rfl, trivial, f_13, by rw [ht]; exact hP9, va_K.moved hW.alike hK9, hD9⟩, hS.F ht⟩) hS.2.2 dX8_add_55
      · skip
        refine lv_aload_n hx hb dX8_add_19 rfl (lv_at hl 2 rfl) ?_
        refine va_get (D := (dC, dI)) (ci := 8) (v := .int (nI (n))) (C := RX8) (T := TX8) (N := 4) hx hb hts zi_X8_add_X8 hown hK hP 0 rfl rfl 1 (by decide) (hts (.fieldLink RX8 15 "HoldTwo$Tape" "length" "I") (by decide +kernel)) (fun _ h9 => h9) rfl dX8_add_20 ?_
        refine lv_sipush (v := 160) hx hb dX8_add_23 (by decide) ?_
        refine lv_icmp_ge (tgt := 49) hx hb dX8_add_26 (by decide) (fun c9 => absurd c9 ((fun h9 => absurd ((nI_leI (a := 160) (b := n) (by omega) (by omega)).mp h9) (by omega)))) (fun _ => ?_)
        refine lv_aload_n hx hb dX8_add_29 rfl (lv_at hl 2 rfl) ?_
        refine va_get (D := (dC, dI)) (ci := 8) (v := .ref h1) (C := RX8) (T := TX8) (N := 4) hx hb hts zi_X8_add_X8 hown hK hP 0 rfl rfl 0 (by decide) (hts (.fieldLink RX8 9 "HoldTwo$Tape" "signs" "[I") (by decide +kernel)) (fun _ h9 => h9) rfl dX8_add_30 ?_
        refine lv_aload_n hx hb dX8_add_33 rfl (lv_at hl 2 rfl) ?_
        refine va_get (D := (dC, dI)) (ci := 8) (v := .int (nI (n))) (C := RX8) (T := TX8) (N := 4) hx hb hts zi_X8_add_X8 hown hK hP 0 rfl rfl 1 (by decide) (hts (.fieldLink RX8 15 "HoldTwo$Tape" "length" "I") (by decide +kernel)) (fun _ h9 => h9) rfl dX8_add_34 ?_
        refine lv_iload_n hx hb dX8_add_37 rfl (lv_at hl 0 rfl) ?_
        refine va_iast hx hb hK hP hD hS 1 0 rfl rfl (vp_in_nI (n := n) (by omega) (by omega)) dX8_add_38 (fun H locs hP hD hS => ?_)
        obtain ⟨f_15, ef_15⟩ : ∃ f9 : Nat → Int32, f9 = upd (f0) ((nI (n)) : Int32).toNatClampNeg x_8 := ⟨_, rfl⟩
        rw [← ef_15] at hP hD
        have hP : va_P (dC, dI) classes [(h0, .inr (8, [.ref h1, .int (nI (n)), .int 0, .int (-1)])), (h1, .inl (cA0, 160, .inl (f_15)))] H := hP
        have hD : va_D A [(h0, .inr (8, [.ref h1, .int (nI (n)), .int 0, .int (-1)])), (h1, .inl (cA0, 160, .inl (f_15)))] := hD
        refine lv_aload_n hx hb dX8_add_39 rfl (lv_at hl 2 rfl) ?_
        refine lv_dup hx hb dX8_add_40 rfl ?_
        refine va_get (D := (dC, dI)) (ci := 8) (v := .int (nI (n))) (C := RX8) (T := TX8) (N := 4) hx hb hts zi_X8_add_X8 hown hK hP 0 rfl rfl 1 (by decide) (hts (.fieldLink RX8 15 "HoldTwo$Tape" "length" "I") (by decide +kernel)) (fun _ h9 => h9) rfl dX8_add_41 ?_
        refine lv_iconst (v := 1) hx hb dX8_add_44 (by decide) ?_
        refine lv_iadd hx hb dX8_add_45 ?_
        refine lv_topi (fun x_16 ex_16 => ?_)
        have ex_16 : x_16 = nI (n + 1) := ex_16.trans (nI_add _ _)
        subst ex_16
        refine va_put (D := (dC, dI)) (ci := 8) (v := .int (nI (n + 1))) (ty := .int) (C := RX8) (T := TX8) (N := 4) hx hb hts zi_X8_add_X8 tyX8 tyX8_ok nmX8 hown hK hP hD hS 0 rfl rfl 1 (by decide) (hts (.fieldLink RX8 15 "HoldTwo$Tape" "length" "I") (by decide +kernel)) (fun _ h9 => h9) rfl (by decide +kernel) rfl rfl (Nat.le_of_ble_eq_true rfl) dX8_add_46 (fun H locs hP hD hS => ?_)
        have hP : va_P (dC, dI) classes [(h0, .inr (8, [.ref h1, .int (nI (n + 1)), .int 0, .int (-1)])), (h1, .inl (cA0, 160, .inl (f_15)))] H := hP
        have hD : va_D A [(h0, .inr (8, [.ref h1, .int (nI (n + 1)), .int 0, .int (-1)])), (h1, .inl (cA0, 160, .inl (f_15)))] := hD
        refine lv_iinc (v := 0) (lv' := [(2, .int 0), (3, .int x_8), (0, .ref h0), (1, .int v0)]) hx hb dX8_add_49 hl (k := 1) rfl (by decide) (by decide) rfl (fun ls hl => ?_)
        refine lv_goto (tgt := 3) hx hb dX8_add_52 (by decide) ?_
        refine lv_iload_n hx hb dX8_add_3 rfl (lv_at hl 0 rfl) ?_
        refine lv_if_lt (tgt := 55) hx hb dX8_add_4 (by decide) (fun c9 => absurd c9 (by decide)) (fun _ => ?_)
        refine lv_iload_n hx hb dX8_add_7 rfl (lv_at hl 3 rfl) ?_
        refine lv_iload_n hx hb dX8_add_8 rfl (lv_at hl 0 rfl) ?_
        refine lv_iushr hx hb dX8_add_9 rfl ?_
        refine lv_topi (fun x_17 ex_17 => ?_)
        refine lv_sipush (v := 255) hx hb dX8_add_10 (by decide) ?_
        refine lv_iand hx hb dX8_add_13 ?_
        refine lv_topi (fun x_18 ex_18 => ?_)
        refine lv_istore_n (lv' := [(3, .int x_18), (2, .int 0), (0, .ref h0), (1, .int v0)]) hx hb dX8_add_14 rfl hl (by decide) rfl (fun ls hl => ?_)
        refine lv_iload_n hx hb dX8_add_15 rfl (lv_at hl 0 rfl) ?_
        refine lv_if_eq (tgt := 49) hx hb dX8_add_16 (by decide) (fun c_19 => ?_) (fun c_19 => ?_)
        · skip
          refine lv_iinc (v := (-8)) (lv' := [(2, .int (-8)), (3, .int x_18), (0, .ref h0), (1, .int v0)]) hx hb dX8_add_49 hl (k := 1) rfl (by decide) (by decide) rfl (fun ls hl => ?_)
          refine lv_goto (tgt := 3) hx hb dX8_add_52 (by decide) ?_
          refine lv_iload_n hx hb dX8_add_3 rfl (lv_at hl 0 rfl) ?_
          refine lv_if_lt (tgt := 55) hx hb dX8_add_4 (by decide) (fun _ => ?_) (fun c9 => absurd (by decide) c9)
          have hP9 := hP.sub (ws' := [(h0, .inr (8, [.ref h1, .int (nI (n + 1)), .int 0, .int (-1)])), (h1, .inl (cA0, 160, .inl (f_15)))]) [0, 1] rfl
          have hD9 := hD.sub (ws' := [(h0, .inr (8, [.ref h1, .int (nI (n + 1)), .int 0, .int (-1)])), (h1, .inl (cA0, 160, .inl (f_15)))]) [0, 1] (by decide) rfl
          have hK9 := hK.sub (tys' := []) [] rfl
          refine W.widen (k := 0) (n := 0) (Nat.le_of_ble_eq_true rfl) (Nat.le_of_ble_eq_true rfl) ?_
          have hb24 : zb_i (zb_u v0 24) = 0 := by
            rw [show zb_u v0 24 = x_2 from by rw [ex_2, ex_1]; rfl]
            exact if_pos c_3
          have hb16 : zb_i (zb_u v0 16) = 0 := by
            rw [show zb_u v0 16 = x_5 from by rw [ex_5, ex_4]; rfl]
            exact if_pos c_6
          have hb8 : zb_i (zb_u v0 8) = 1 := by
            rw [show zb_u v0 8 = x_8 from by rw [ex_8, ex_7]; rfl]
            exact if_neg c_9
          have hb0 : zb_i (zb_u v0 0) = 0 := by
            rw [show zb_u v0 0 = x_18 from by rw [ex_18, ex_17]; rfl]
            exact if_pos c_19
          have hz : zb_n v0 = 1 := by unfold zb_n; rw [hb24, hb16, hb8, hb0]
          have en : nI (n + 1) = nI (n + zb_n v0) := by rw [hz]
          rw [en] at hP9 hD9
          exact W.vret hx hb hr (fun t ht hW => ⟨⟨(), rfl, trivial, f_15, by rw [ht]; exact hP9, va_K.moved hW.alike hK9, hD9⟩, hS.F ht⟩) hS.2.2 dX8_add_55
        · skip
          refine lv_aload_n hx hb dX8_add_19 rfl (lv_at hl 2 rfl) ?_
          refine va_get (D := (dC, dI)) (ci := 8) (v := .int (nI (n + 1))) (C := RX8) (T := TX8) (N := 4) hx hb hts zi_X8_add_X8 hown hK hP 0 rfl rfl 1 (by decide) (hts (.fieldLink RX8 15 "HoldTwo$Tape" "length" "I") (by decide +kernel)) (fun _ h9 => h9) rfl dX8_add_20 ?_
          refine lv_sipush (v := 160) hx hb dX8_add_23 (by decide) ?_
          refine lv_icmp_ge (tgt := 49) hx hb dX8_add_26 (by decide) (fun c9 => absurd c9 ((fun h9 => absurd ((nI_leI (a := 160) (b := n + 1) (by omega) (by omega)).mp h9) (by omega)))) (fun _ => ?_)
          refine lv_aload_n hx hb dX8_add_29 rfl (lv_at hl 2 rfl) ?_
          refine va_get (D := (dC, dI)) (ci := 8) (v := .ref h1) (C := RX8) (T := TX8) (N := 4) hx hb hts zi_X8_add_X8 hown hK hP 0 rfl rfl 0 (by decide) (hts (.fieldLink RX8 9 "HoldTwo$Tape" "signs" "[I") (by decide +kernel)) (fun _ h9 => h9) rfl dX8_add_30 ?_
          refine lv_aload_n hx hb dX8_add_33 rfl (lv_at hl 2 rfl) ?_
          refine va_get (D := (dC, dI)) (ci := 8) (v := .int (nI (n + 1))) (C := RX8) (T := TX8) (N := 4) hx hb hts zi_X8_add_X8 hown hK hP 0 rfl rfl 1 (by decide) (hts (.fieldLink RX8 15 "HoldTwo$Tape" "length" "I") (by decide +kernel)) (fun _ h9 => h9) rfl dX8_add_34 ?_
          refine lv_iload_n hx hb dX8_add_37 rfl (lv_at hl 0 rfl) ?_
          refine va_iast hx hb hK hP hD hS 1 0 rfl rfl (vp_in_nI (n := n + 1) (by omega) (by omega)) dX8_add_38 (fun H locs hP hD hS => ?_)
          obtain ⟨f_20, ef_20⟩ : ∃ f9 : Nat → Int32, f9 = upd (f_15) ((nI (n + 1)) : Int32).toNatClampNeg x_18 := ⟨_, rfl⟩
          rw [← ef_20] at hP hD
          have hP : va_P (dC, dI) classes [(h0, .inr (8, [.ref h1, .int (nI (n + 1)), .int 0, .int (-1)])), (h1, .inl (cA0, 160, .inl (f_20)))] H := hP
          have hD : va_D A [(h0, .inr (8, [.ref h1, .int (nI (n + 1)), .int 0, .int (-1)])), (h1, .inl (cA0, 160, .inl (f_20)))] := hD
          refine lv_aload_n hx hb dX8_add_39 rfl (lv_at hl 2 rfl) ?_
          refine lv_dup hx hb dX8_add_40 rfl ?_
          refine va_get (D := (dC, dI)) (ci := 8) (v := .int (nI (n + 1))) (C := RX8) (T := TX8) (N := 4) hx hb hts zi_X8_add_X8 hown hK hP 0 rfl rfl 1 (by decide) (hts (.fieldLink RX8 15 "HoldTwo$Tape" "length" "I") (by decide +kernel)) (fun _ h9 => h9) rfl dX8_add_41 ?_
          refine lv_iconst (v := 1) hx hb dX8_add_44 (by decide) ?_
          refine lv_iadd hx hb dX8_add_45 ?_
          refine lv_topi (fun x_21 ex_21 => ?_)
          have ex_21 : x_21 = nI (n + 1 + 1) := ex_21.trans (nI_add _ _)
          subst ex_21
          refine va_put (D := (dC, dI)) (ci := 8) (v := .int (nI (n + 1 + 1))) (ty := .int) (C := RX8) (T := TX8) (N := 4) hx hb hts zi_X8_add_X8 tyX8 tyX8_ok nmX8 hown hK hP hD hS 0 rfl rfl 1 (by decide) (hts (.fieldLink RX8 15 "HoldTwo$Tape" "length" "I") (by decide +kernel)) (fun _ h9 => h9) rfl (by decide +kernel) rfl rfl (Nat.le_of_ble_eq_true rfl) dX8_add_46 (fun H locs hP hD hS => ?_)
          have hP : va_P (dC, dI) classes [(h0, .inr (8, [.ref h1, .int (nI (n + 1 + 1)), .int 0, .int (-1)])), (h1, .inl (cA0, 160, .inl (f_20)))] H := hP
          have hD : va_D A [(h0, .inr (8, [.ref h1, .int (nI (n + 1 + 1)), .int 0, .int (-1)])), (h1, .inl (cA0, 160, .inl (f_20)))] := hD
          refine lv_iinc (v := (-8)) (lv' := [(2, .int (-8)), (3, .int x_18), (0, .ref h0), (1, .int v0)]) hx hb dX8_add_49 hl (k := 1) rfl (by decide) (by decide) rfl (fun ls hl => ?_)
          refine lv_goto (tgt := 3) hx hb dX8_add_52 (by decide) ?_
          refine lv_iload_n hx hb dX8_add_3 rfl (lv_at hl 0 rfl) ?_
          refine lv_if_lt (tgt := 55) hx hb dX8_add_4 (by decide) (fun _ => ?_) (fun c9 => absurd (by decide) c9)
          have hP9 := hP.sub (ws' := [(h0, .inr (8, [.ref h1, .int (nI (n + 1 + 1)), .int 0, .int (-1)])), (h1, .inl (cA0, 160, .inl (f_20)))]) [0, 1] rfl
          have hD9 := hD.sub (ws' := [(h0, .inr (8, [.ref h1, .int (nI (n + 1 + 1)), .int 0, .int (-1)])), (h1, .inl (cA0, 160, .inl (f_20)))]) [0, 1] (by decide) rfl
          have hK9 := hK.sub (tys' := []) [] rfl
          refine W.widen (k := 0) (n := 0) (Nat.le_of_ble_eq_true rfl) (Nat.le_of_ble_eq_true rfl) ?_
          have hb24 : zb_i (zb_u v0 24) = 0 := by
            rw [show zb_u v0 24 = x_2 from by rw [ex_2, ex_1]; rfl]
            exact if_pos c_3
          have hb16 : zb_i (zb_u v0 16) = 0 := by
            rw [show zb_u v0 16 = x_5 from by rw [ex_5, ex_4]; rfl]
            exact if_pos c_6
          have hb8 : zb_i (zb_u v0 8) = 1 := by
            rw [show zb_u v0 8 = x_8 from by rw [ex_8, ex_7]; rfl]
            exact if_neg c_9
          have hb0 : zb_i (zb_u v0 0) = 1 := by
            rw [show zb_u v0 0 = x_18 from by rw [ex_18, ex_17]; rfl]
            exact if_neg c_19
          have hz : zb_n v0 = 2 := by unfold zb_n; rw [hb24, hb16, hb8, hb0]
          have en : nI (n + 1 + 1) = nI (n + zb_n v0) := by rw [hz]
          rw [en] at hP9 hD9
          exact W.vret hx hb hr (fun t ht hW => ⟨⟨(), rfl, trivial, f_20, by rw [ht]; exact hP9, va_K.moved hW.alike hK9, hD9⟩, hS.F ht⟩) hS.2.2 dX8_add_55
    · skip
      refine lv_aload_n hx hb dX8_add_19 rfl (lv_at hl 2 rfl) ?_
      refine va_get (D := (dC, dI)) (ci := 8) (v := .int (nI (n))) (C := RX8) (T := TX8) (N := 4) hx hb hts zi_X8_add_X8 hown hK hP 0 rfl rfl 1 (by decide) (hts (.fieldLink RX8 15 "HoldTwo$Tape" "length" "I") (by decide +kernel)) (fun _ h9 => h9) rfl dX8_add_20 ?_
      refine lv_sipush (v := 160) hx hb dX8_add_23 (by decide) ?_
      refine lv_icmp_ge (tgt := 49) hx hb dX8_add_26 (by decide) (fun c9 => absurd c9 ((fun h9 => absurd ((nI_leI (a := 160) (b := n) (by omega) (by omega)).mp h9) (by omega)))) (fun _ => ?_)
      refine lv_aload_n hx hb dX8_add_29 rfl (lv_at hl 2 rfl) ?_
      refine va_get (D := (dC, dI)) (ci := 8) (v := .ref h1) (C := RX8) (T := TX8) (N := 4) hx hb hts zi_X8_add_X8 hown hK hP 0 rfl rfl 0 (by decide) (hts (.fieldLink RX8 9 "HoldTwo$Tape" "signs" "[I") (by decide +kernel)) (fun _ h9 => h9) rfl dX8_add_30 ?_
      refine lv_aload_n hx hb dX8_add_33 rfl (lv_at hl 2 rfl) ?_
      refine va_get (D := (dC, dI)) (ci := 8) (v := .int (nI (n))) (C := RX8) (T := TX8) (N := 4) hx hb hts zi_X8_add_X8 hown hK hP 0 rfl rfl 1 (by decide) (hts (.fieldLink RX8 15 "HoldTwo$Tape" "length" "I") (by decide +kernel)) (fun _ h9 => h9) rfl dX8_add_34 ?_
      refine lv_iload_n hx hb dX8_add_37 rfl (lv_at hl 0 rfl) ?_
      refine va_iast hx hb hK hP hD hS 1 0 rfl rfl (vp_in_nI (n := n) (by omega) (by omega)) dX8_add_38 (fun H locs hP hD hS => ?_)
      obtain ⟨f_22, ef_22⟩ : ∃ f9 : Nat → Int32, f9 = upd (f0) ((nI (n)) : Int32).toNatClampNeg x_5 := ⟨_, rfl⟩
      rw [← ef_22] at hP hD
      have hP : va_P (dC, dI) classes [(h0, .inr (8, [.ref h1, .int (nI (n)), .int 0, .int (-1)])), (h1, .inl (cA0, 160, .inl (f_22)))] H := hP
      have hD : va_D A [(h0, .inr (8, [.ref h1, .int (nI (n)), .int 0, .int (-1)])), (h1, .inl (cA0, 160, .inl (f_22)))] := hD
      refine lv_aload_n hx hb dX8_add_39 rfl (lv_at hl 2 rfl) ?_
      refine lv_dup hx hb dX8_add_40 rfl ?_
      refine va_get (D := (dC, dI)) (ci := 8) (v := .int (nI (n))) (C := RX8) (T := TX8) (N := 4) hx hb hts zi_X8_add_X8 hown hK hP 0 rfl rfl 1 (by decide) (hts (.fieldLink RX8 15 "HoldTwo$Tape" "length" "I") (by decide +kernel)) (fun _ h9 => h9) rfl dX8_add_41 ?_
      refine lv_iconst (v := 1) hx hb dX8_add_44 (by decide) ?_
      refine lv_iadd hx hb dX8_add_45 ?_
      refine lv_topi (fun x_23 ex_23 => ?_)
      have ex_23 : x_23 = nI (n + 1) := ex_23.trans (nI_add _ _)
      subst ex_23
      refine va_put (D := (dC, dI)) (ci := 8) (v := .int (nI (n + 1))) (ty := .int) (C := RX8) (T := TX8) (N := 4) hx hb hts zi_X8_add_X8 tyX8 tyX8_ok nmX8 hown hK hP hD hS 0 rfl rfl 1 (by decide) (hts (.fieldLink RX8 15 "HoldTwo$Tape" "length" "I") (by decide +kernel)) (fun _ h9 => h9) rfl (by decide +kernel) rfl rfl (Nat.le_of_ble_eq_true rfl) dX8_add_46 (fun H locs hP hD hS => ?_)
      have hP : va_P (dC, dI) classes [(h0, .inr (8, [.ref h1, .int (nI (n + 1)), .int 0, .int (-1)])), (h1, .inl (cA0, 160, .inl (f_22)))] H := hP
      have hD : va_D A [(h0, .inr (8, [.ref h1, .int (nI (n + 1)), .int 0, .int (-1)])), (h1, .inl (cA0, 160, .inl (f_22)))] := hD
      refine lv_iinc (v := 8) (lv' := [(2, .int 8), (3, .int x_5), (0, .ref h0), (1, .int v0)]) hx hb dX8_add_49 hl (k := 1) rfl (by decide) (by decide) rfl (fun ls hl => ?_)
      refine lv_goto (tgt := 3) hx hb dX8_add_52 (by decide) ?_
      refine lv_iload_n hx hb dX8_add_3 rfl (lv_at hl 0 rfl) ?_
      refine lv_if_lt (tgt := 55) hx hb dX8_add_4 (by decide) (fun c9 => absurd c9 (by decide)) (fun _ => ?_)
      refine lv_iload_n hx hb dX8_add_7 rfl (lv_at hl 3 rfl) ?_
      refine lv_iload_n hx hb dX8_add_8 rfl (lv_at hl 0 rfl) ?_
      refine lv_iushr hx hb dX8_add_9 rfl ?_
      refine lv_topi (fun x_24 ex_24 => ?_)
      refine lv_sipush (v := 255) hx hb dX8_add_10 (by decide) ?_
      refine lv_iand hx hb dX8_add_13 ?_
      refine lv_topi (fun x_25 ex_25 => ?_)
      refine lv_istore_n (lv' := [(3, .int x_25), (2, .int 8), (0, .ref h0), (1, .int v0)]) hx hb dX8_add_14 rfl hl (by decide) rfl (fun ls hl => ?_)
      refine lv_iload_n hx hb dX8_add_15 rfl (lv_at hl 0 rfl) ?_
      refine lv_if_eq (tgt := 49) hx hb dX8_add_16 (by decide) (fun c_26 => ?_) (fun c_26 => ?_)
      · skip
        refine lv_iinc (v := 0) (lv' := [(2, .int 0), (3, .int x_25), (0, .ref h0), (1, .int v0)]) hx hb dX8_add_49 hl (k := 1) rfl (by decide) (by decide) rfl (fun ls hl => ?_)
        refine lv_goto (tgt := 3) hx hb dX8_add_52 (by decide) ?_
        refine lv_iload_n hx hb dX8_add_3 rfl (lv_at hl 0 rfl) ?_
        refine lv_if_lt (tgt := 55) hx hb dX8_add_4 (by decide) (fun c9 => absurd c9 (by decide)) (fun _ => ?_)
        refine lv_iload_n hx hb dX8_add_7 rfl (lv_at hl 3 rfl) ?_
        refine lv_iload_n hx hb dX8_add_8 rfl (lv_at hl 0 rfl) ?_
        refine lv_iushr hx hb dX8_add_9 rfl ?_
        refine lv_topi (fun x_27 ex_27 => ?_)
        refine lv_sipush (v := 255) hx hb dX8_add_10 (by decide) ?_
        refine lv_iand hx hb dX8_add_13 ?_
        refine lv_topi (fun x_28 ex_28 => ?_)
        refine lv_istore_n (lv' := [(3, .int x_28), (2, .int 0), (0, .ref h0), (1, .int v0)]) hx hb dX8_add_14 rfl hl (by decide) rfl (fun ls hl => ?_)
        refine lv_iload_n hx hb dX8_add_15 rfl (lv_at hl 0 rfl) ?_
        refine lv_if_eq (tgt := 49) hx hb dX8_add_16 (by decide) (fun c_29 => ?_) (fun c_29 => ?_)
        · skip
          refine lv_iinc (v := (-8)) (lv' := [(2, .int (-8)), (3, .int x_28), (0, .ref h0), (1, .int v0)]) hx hb dX8_add_49 hl (k := 1) rfl (by decide) (by decide) rfl (fun ls hl => ?_)
          refine lv_goto (tgt := 3) hx hb dX8_add_52 (by decide) ?_
          refine lv_iload_n hx hb dX8_add_3 rfl (lv_at hl 0 rfl) ?_
          refine lv_if_lt (tgt := 55) hx hb dX8_add_4 (by decide) (fun _ => ?_) (fun c9 => absurd (by decide) c9)
          have hP9 := hP.sub (ws' := [(h0, .inr (8, [.ref h1, .int (nI (n + 1)), .int 0, .int (-1)])), (h1, .inl (cA0, 160, .inl (f_22)))]) [0, 1] rfl
          have hD9 := hD.sub (ws' := [(h0, .inr (8, [.ref h1, .int (nI (n + 1)), .int 0, .int (-1)])), (h1, .inl (cA0, 160, .inl (f_22)))]) [0, 1] (by decide) rfl
          have hK9 := hK.sub (tys' := []) [] rfl
          refine W.widen (k := 0) (n := 0) (Nat.le_of_ble_eq_true rfl) (Nat.le_of_ble_eq_true rfl) ?_
          have hb24 : zb_i (zb_u v0 24) = 0 := by
            rw [show zb_u v0 24 = x_2 from by rw [ex_2, ex_1]; rfl]
            exact if_pos c_3
          have hb16 : zb_i (zb_u v0 16) = 1 := by
            rw [show zb_u v0 16 = x_5 from by rw [ex_5, ex_4]; rfl]
            exact if_neg c_6
          have hb8 : zb_i (zb_u v0 8) = 0 := by
            rw [show zb_u v0 8 = x_25 from by rw [ex_25, ex_24]; rfl]
            exact if_pos c_26
          have hb0 : zb_i (zb_u v0 0) = 0 := by
            rw [show zb_u v0 0 = x_28 from by rw [ex_28, ex_27]; rfl]
            exact if_pos c_29
          have hz : zb_n v0 = 1 := by unfold zb_n; rw [hb24, hb16, hb8, hb0]
          have en : nI (n + 1) = nI (n + zb_n v0) := by rw [hz]
          rw [en] at hP9 hD9
          exact W.vret hx hb hr (fun t ht hW => ⟨⟨(), rfl, trivial, f_22, by rw [ht]; exact hP9, va_K.moved hW.alike hK9, hD9⟩, hS.F ht⟩) hS.2.2 dX8_add_55
        · skip
          refine lv_aload_n hx hb dX8_add_19 rfl (lv_at hl 2 rfl) ?_
          refine va_get (D := (dC, dI)) (ci := 8) (v := .int (nI (n + 1))) (C := RX8) (T := TX8) (N := 4) hx hb hts zi_X8_add_X8 hown hK hP 0 rfl rfl 1 (by decide) (hts (.fieldLink RX8 15 "HoldTwo$Tape" "length" "I") (by decide +kernel)) (fun _ h9 => h9) rfl dX8_add_20 ?_
          refine lv_sipush (v := 160) hx hb dX8_add_23 (by decide) ?_
          refine lv_icmp_ge (tgt := 49) hx hb dX8_add_26 (by decide) (fun c9 => absurd c9 ((fun h9 => absurd ((nI_leI (a := 160) (b := n + 1) (by omega) (by omega)).mp h9) (by omega)))) (fun _ => ?_)
          refine lv_aload_n hx hb dX8_add_29 rfl (lv_at hl 2 rfl) ?_
          refine va_get (D := (dC, dI)) (ci := 8) (v := .ref h1) (C := RX8) (T := TX8) (N := 4) hx hb hts zi_X8_add_X8 hown hK hP 0 rfl rfl 0 (by decide) (hts (.fieldLink RX8 9 "HoldTwo$Tape" "signs" "[I") (by decide +kernel)) (fun _ h9 => h9) rfl dX8_add_30 ?_
          refine lv_aload_n hx hb dX8_add_33 rfl (lv_at hl 2 rfl) ?_
          refine va_get (D := (dC, dI)) (ci := 8) (v := .int (nI (n + 1))) (C := RX8) (T := TX8) (N := 4) hx hb hts zi_X8_add_X8 hown hK hP 0 rfl rfl 1 (by decide) (hts (.fieldLink RX8 15 "HoldTwo$Tape" "length" "I") (by decide +kernel)) (fun _ h9 => h9) rfl dX8_add_34 ?_
          refine lv_iload_n hx hb dX8_add_37 rfl (lv_at hl 0 rfl) ?_
          refine va_iast hx hb hK hP hD hS 1 0 rfl rfl (vp_in_nI (n := n + 1) (by omega) (by omega)) dX8_add_38 (fun H locs hP hD hS => ?_)
          obtain ⟨f_30, ef_30⟩ : ∃ f9 : Nat → Int32, f9 = upd (f_22) ((nI (n + 1)) : Int32).toNatClampNeg x_28 := ⟨_, rfl⟩
          rw [← ef_30] at hP hD
          have hP : va_P (dC, dI) classes [(h0, .inr (8, [.ref h1, .int (nI (n + 1)), .int 0, .int (-1)])), (h1, .inl (cA0, 160, .inl (f_30)))] H := hP
          have hD : va_D A [(h0, .inr (8, [.ref h1, .int (nI (n + 1)), .int 0, .int (-1)])), (h1, .inl (cA0, 160, .inl (f_30)))] := hD
          refine lv_aload_n hx hb dX8_add_39 rfl (lv_at hl 2 rfl) ?_
          refine lv_dup hx hb dX8_add_40 rfl ?_
          refine va_get (D := (dC, dI)) (ci := 8) (v := .int (nI (n + 1))) (C := RX8) (T := TX8) (N := 4) hx hb hts zi_X8_add_X8 hown hK hP 0 rfl rfl 1 (by decide) (hts (.fieldLink RX8 15 "HoldTwo$Tape" "length" "I") (by decide +kernel)) (fun _ h9 => h9) rfl dX8_add_41 ?_
          refine lv_iconst (v := 1) hx hb dX8_add_44 (by decide) ?_
          refine lv_iadd hx hb dX8_add_45 ?_
          refine lv_topi (fun x_31 ex_31 => ?_)
          have ex_31 : x_31 = nI (n + 1 + 1) := ex_31.trans (nI_add _ _)
          subst ex_31
          refine va_put (D := (dC, dI)) (ci := 8) (v := .int (nI (n + 1 + 1))) (ty := .int) (C := RX8) (T := TX8) (N := 4) hx hb hts zi_X8_add_X8 tyX8 tyX8_ok nmX8 hown hK hP hD hS 0 rfl rfl 1 (by decide) (hts (.fieldLink RX8 15 "HoldTwo$Tape" "length" "I") (by decide +kernel)) (fun _ h9 => h9) rfl (by decide +kernel) rfl rfl (Nat.le_of_ble_eq_true rfl) dX8_add_46 (fun H locs hP hD hS => ?_)
          have hP : va_P (dC, dI) classes [(h0, .inr (8, [.ref h1, .int (nI (n + 1 + 1)), .int 0, .int (-1)])), (h1, .inl (cA0, 160, .inl (f_30)))] H := hP
          have hD : va_D A [(h0, .inr (8, [.ref h1, .int (nI (n + 1 + 1)), .int 0, .int (-1)])), (h1, .inl (cA0, 160, .inl (f_30)))] := hD
          refine lv_iinc (v := (-8)) (lv' := [(2, .int (-8)), (3, .int x_28), (0, .ref h0), (1, .int v0)]) hx hb dX8_add_49 hl (k := 1) rfl (by decide) (by decide) rfl (fun ls hl => ?_)
          refine lv_goto (tgt := 3) hx hb dX8_add_52 (by decide) ?_
          refine lv_iload_n hx hb dX8_add_3 rfl (lv_at hl 0 rfl) ?_
          refine lv_if_lt (tgt := 55) hx hb dX8_add_4 (by decide) (fun _ => ?_) (fun c9 => absurd (by decide) c9)
          have hP9 := hP.sub (ws' := [(h0, .inr (8, [.ref h1, .int (nI (n + 1 + 1)), .int 0, .int (-1)])), (h1, .inl (cA0, 160, .inl (f_30)))]) [0, 1] rfl
          have hD9 := hD.sub (ws' := [(h0, .inr (8, [.ref h1, .int (nI (n + 1 + 1)), .int 0, .int (-1)])), (h1, .inl (cA0, 160, .inl (f_30)))]) [0, 1] (by decide) rfl
          have hK9 := hK.sub (tys' := []) [] rfl
          refine W.widen (k := 0) (n := 0) (Nat.le_of_ble_eq_true rfl) (Nat.le_of_ble_eq_true rfl) ?_
          have hb24 : zb_i (zb_u v0 24) = 0 := by
            rw [show zb_u v0 24 = x_2 from by rw [ex_2, ex_1]; rfl]
            exact if_pos c_3
          have hb16 : zb_i (zb_u v0 16) = 1 := by
            rw [show zb_u v0 16 = x_5 from by rw [ex_5, ex_4]; rfl]
            exact if_neg c_6
          have hb8 : zb_i (zb_u v0 8) = 0 := by
            rw [show zb_u v0 8 = x_25 from by rw [ex_25, ex_24]; rfl]
            exact if_pos c_26
          have hb0 : zb_i (zb_u v0 0) = 1 := by
            rw [show zb_u v0 0 = x_28 from by rw [ex_28, ex_27]; rfl]
            exact if_neg c_29
          have hz : zb_n v0 = 2 := by unfold zb_n; rw [hb24, hb16, hb8, hb0]
          have en : nI (n + 1 + 1) = nI (n + zb_n v0) := by rw [hz]
          rw [en] at hP9 hD9
          exact W.vret hx hb hr (fun t ht hW => ⟨⟨(), rfl, trivial, f_30, by rw [ht]; exact hP9, va_K.moved hW.alike hK9, hD9⟩, hS.F ht⟩) hS.2.2 dX8_add_55
      · skip
        refine lv_aload_n hx hb dX8_add_19 rfl (lv_at hl 2 rfl) ?_
        refine va_get (D := (dC, dI)) (ci := 8) (v := .int (nI (n + 1))) (C := RX8) (T := TX8) (N := 4) hx hb hts zi_X8_add_X8 hown hK hP 0 rfl rfl 1 (by decide) (hts (.fieldLink RX8 15 "HoldTwo$Tape" "length" "I") (by decide +kernel)) (fun _ h9 => h9) rfl dX8_add_20 ?_
        refine lv_sipush (v := 160) hx hb dX8_add_23 (by decide) ?_
        refine lv_icmp_ge (tgt := 49) hx hb dX8_add_26 (by decide) (fun c9 => absurd c9 ((fun h9 => absurd ((nI_leI (a := 160) (b := n + 1) (by omega) (by omega)).mp h9) (by omega)))) (fun _ => ?_)
        refine lv_aload_n hx hb dX8_add_29 rfl (lv_at hl 2 rfl) ?_
        refine va_get (D := (dC, dI)) (ci := 8) (v := .ref h1) (C := RX8) (T := TX8) (N := 4) hx hb hts zi_X8_add_X8 hown hK hP 0 rfl rfl 0 (by decide) (hts (.fieldLink RX8 9 "HoldTwo$Tape" "signs" "[I") (by decide +kernel)) (fun _ h9 => h9) rfl dX8_add_30 ?_
        refine lv_aload_n hx hb dX8_add_33 rfl (lv_at hl 2 rfl) ?_
        refine va_get (D := (dC, dI)) (ci := 8) (v := .int (nI (n + 1))) (C := RX8) (T := TX8) (N := 4) hx hb hts zi_X8_add_X8 hown hK hP 0 rfl rfl 1 (by decide) (hts (.fieldLink RX8 15 "HoldTwo$Tape" "length" "I") (by decide +kernel)) (fun _ h9 => h9) rfl dX8_add_34 ?_
        refine lv_iload_n hx hb dX8_add_37 rfl (lv_at hl 0 rfl) ?_
        refine va_iast hx hb hK hP hD hS 1 0 rfl rfl (vp_in_nI (n := n + 1) (by omega) (by omega)) dX8_add_38 (fun H locs hP hD hS => ?_)
        obtain ⟨f_32, ef_32⟩ : ∃ f9 : Nat → Int32, f9 = upd (f_22) ((nI (n + 1)) : Int32).toNatClampNeg x_25 := ⟨_, rfl⟩
        rw [← ef_32] at hP hD
        have hP : va_P (dC, dI) classes [(h0, .inr (8, [.ref h1, .int (nI (n + 1)), .int 0, .int (-1)])), (h1, .inl (cA0, 160, .inl (f_32)))] H := hP
        have hD : va_D A [(h0, .inr (8, [.ref h1, .int (nI (n + 1)), .int 0, .int (-1)])), (h1, .inl (cA0, 160, .inl (f_32)))] := hD
        refine lv_aload_n hx hb dX8_add_39 rfl (lv_at hl 2 rfl) ?_
        refine lv_dup hx hb dX8_add_40 rfl ?_
        refine va_get (D := (dC, dI)) (ci := 8) (v := .int (nI (n + 1))) (C := RX8) (T := TX8) (N := 4) hx hb hts zi_X8_add_X8 hown hK hP 0 rfl rfl 1 (by decide) (hts (.fieldLink RX8 15 "HoldTwo$Tape" "length" "I") (by decide +kernel)) (fun _ h9 => h9) rfl dX8_add_41 ?_
        refine lv_iconst (v := 1) hx hb dX8_add_44 (by decide) ?_
        refine lv_iadd hx hb dX8_add_45 ?_
        refine lv_topi (fun x_33 ex_33 => ?_)
        have ex_33 : x_33 = nI (n + 1 + 1) := ex_33.trans (nI_add _ _)
        subst ex_33
        refine va_put (D := (dC, dI)) (ci := 8) (v := .int (nI (n + 1 + 1))) (ty := .int) (C := RX8) (T := TX8) (N := 4) hx hb hts zi_X8_add_X8 tyX8 tyX8_ok nmX8 hown hK hP hD hS 0 rfl rfl 1 (by decide) (hts (.fieldLink RX8 15 "HoldTwo$Tape" "length" "I") (by decide +kernel)) (fun _ h9 => h9) rfl (by decide +kernel) rfl rfl (Nat.le_of_ble_eq_true rfl) dX8_add_46 (fun H locs hP hD hS => ?_)
        have hP : va_P (dC, dI) classes [(h0, .inr (8, [.ref h1, .int (nI (n + 1 + 1)), .int 0, .int (-1)])), (h1, .inl (cA0, 160, .inl (f_32)))] H := hP
        have hD : va_D A [(h0, .inr (8, [.ref h1, .int (nI (n + 1 + 1)), .int 0, .int (-1)])), (h1, .inl (cA0, 160, .inl (f_32)))] := hD
        refine lv_iinc (v := 0) (lv' := [(2, .int 0), (3, .int x_25), (0, .ref h0), (1, .int v0)]) hx hb dX8_add_49 hl (k := 1) rfl (by decide) (by decide) rfl (fun ls hl => ?_)
        refine lv_goto (tgt := 3) hx hb dX8_add_52 (by decide) ?_
        refine lv_iload_n hx hb dX8_add_3 rfl (lv_at hl 0 rfl) ?_
        refine lv_if_lt (tgt := 55) hx hb dX8_add_4 (by decide) (fun c9 => absurd c9 (by decide)) (fun _ => ?_)
        refine lv_iload_n hx hb dX8_add_7 rfl (lv_at hl 3 rfl) ?_
        refine lv_iload_n hx hb dX8_add_8 rfl (lv_at hl 0 rfl) ?_
        refine lv_iushr hx hb dX8_add_9 rfl ?_
        refine lv_topi (fun x_34 ex_34 => ?_)
        refine lv_sipush (v := 255) hx hb dX8_add_10 (by decide) ?_
        refine lv_iand hx hb dX8_add_13 ?_
        refine lv_topi (fun x_35 ex_35 => ?_)
        refine lv_istore_n (lv' := [(3, .int x_35), (2, .int 0), (0, .ref h0), (1, .int v0)]) hx hb dX8_add_14 rfl hl (by decide) rfl (fun ls hl => ?_)
        refine lv_iload_n hx hb dX8_add_15 rfl (lv_at hl 0 rfl) ?_
        refine lv_if_eq (tgt := 49) hx hb dX8_add_16 (by decide) (fun c_36 => ?_) (fun c_36 => ?_)
        · skip
          refine lv_iinc (v := (-8)) (lv' := [(2, .int (-8)), (3, .int x_35), (0, .ref h0), (1, .int v0)]) hx hb dX8_add_49 hl (k := 1) rfl (by decide) (by decide) rfl (fun ls hl => ?_)
          refine lv_goto (tgt := 3) hx hb dX8_add_52 (by decide) ?_
          refine lv_iload_n hx hb dX8_add_3 rfl (lv_at hl 0 rfl) ?_
          refine lv_if_lt (tgt := 55) hx hb dX8_add_4 (by decide) (fun _ => ?_) (fun c9 => absurd (by decide) c9)
          have hP9 := hP.sub (ws' := [(h0, .inr (8, [.ref h1, .int (nI (n + 1 + 1)), .int 0, .int (-1)])), (h1, .inl (cA0, 160, .inl (f_32)))]) [0, 1] rfl
          have hD9 := hD.sub (ws' := [(h0, .inr (8, [.ref h1, .int (nI (n + 1 + 1)), .int 0, .int (-1)])), (h1, .inl (cA0, 160, .inl (f_32)))]) [0, 1] (by decide) rfl
          have hK9 := hK.sub (tys' := []) [] rfl
          refine W.widen (k := 0) (n := 0) (Nat.le_of_ble_eq_true rfl) (Nat.le_of_ble_eq_true rfl) ?_
          have hb24 : zb_i (zb_u v0 24) = 0 := by
            rw [show zb_u v0 24 = x_2 from by rw [ex_2, ex_1]; rfl]
            exact if_pos c_3
          have hb16 : zb_i (zb_u v0 16) = 1 := by
            rw [show zb_u v0 16 = x_5 from by rw [ex_5, ex_4]; rfl]
            exact if_neg c_6
          have hb8 : zb_i (zb_u v0 8) = 1 := by
            rw [show zb_u v0 8 = x_25 from by rw [ex_25, ex_24]; rfl]
            exact if_neg c_26
          have hb0 : zb_i (zb_u v0 0) = 0 := by
            rw [show zb_u v0 0 = x_35 from by rw [ex_35, ex_34]; rfl]
            exact if_pos c_36
          have hz : zb_n v0 = 2 := by unfold zb_n; rw [hb24, hb16, hb8, hb0]
          have en : nI (n + 1 + 1) = nI (n + zb_n v0) := by rw [hz]
          rw [en] at hP9 hD9
          exact W.vret hx hb hr (fun t ht hW => ⟨⟨(), rfl, trivial, f_32, by rw [ht]; exact hP9, va_K.moved hW.alike hK9, hD9⟩, hS.F ht⟩) hS.2.2 dX8_add_55
        · skip
          refine lv_aload_n hx hb dX8_add_19 rfl (lv_at hl 2 rfl) ?_
          refine va_get (D := (dC, dI)) (ci := 8) (v := .int (nI (n + 1 + 1))) (C := RX8) (T := TX8) (N := 4) hx hb hts zi_X8_add_X8 hown hK hP 0 rfl rfl 1 (by decide) (hts (.fieldLink RX8 15 "HoldTwo$Tape" "length" "I") (by decide +kernel)) (fun _ h9 => h9) rfl dX8_add_20 ?_
          refine lv_sipush (v := 160) hx hb dX8_add_23 (by decide) ?_
          refine lv_icmp_ge (tgt := 49) hx hb dX8_add_26 (by decide) (fun c9 => absurd c9 ((fun h9 => absurd ((nI_leI (a := 160) (b := n + 1 + 1) (by omega) (by omega)).mp h9) (by omega)))) (fun _ => ?_)
          refine lv_aload_n hx hb dX8_add_29 rfl (lv_at hl 2 rfl) ?_
          refine va_get (D := (dC, dI)) (ci := 8) (v := .ref h1) (C := RX8) (T := TX8) (N := 4) hx hb hts zi_X8_add_X8 hown hK hP 0 rfl rfl 0 (by decide) (hts (.fieldLink RX8 9 "HoldTwo$Tape" "signs" "[I") (by decide +kernel)) (fun _ h9 => h9) rfl dX8_add_30 ?_
          refine lv_aload_n hx hb dX8_add_33 rfl (lv_at hl 2 rfl) ?_
          refine va_get (D := (dC, dI)) (ci := 8) (v := .int (nI (n + 1 + 1))) (C := RX8) (T := TX8) (N := 4) hx hb hts zi_X8_add_X8 hown hK hP 0 rfl rfl 1 (by decide) (hts (.fieldLink RX8 15 "HoldTwo$Tape" "length" "I") (by decide +kernel)) (fun _ h9 => h9) rfl dX8_add_34 ?_
          refine lv_iload_n hx hb dX8_add_37 rfl (lv_at hl 0 rfl) ?_
          refine va_iast hx hb hK hP hD hS 1 0 rfl rfl (vp_in_nI (n := n + 1 + 1) (by omega) (by omega)) dX8_add_38 (fun H locs hP hD hS => ?_)
          obtain ⟨f_37, ef_37⟩ : ∃ f9 : Nat → Int32, f9 = upd (f_32) ((nI (n + 1 + 1)) : Int32).toNatClampNeg x_35 := ⟨_, rfl⟩
          rw [← ef_37] at hP hD
          have hP : va_P (dC, dI) classes [(h0, .inr (8, [.ref h1, .int (nI (n + 1 + 1)), .int 0, .int (-1)])), (h1, .inl (cA0, 160, .inl (f_37)))] H := hP
          have hD : va_D A [(h0, .inr (8, [.ref h1, .int (nI (n + 1 + 1)), .int 0, .int (-1)])), (h1, .inl (cA0, 160, .inl (f_37)))] := hD
          refine lv_aload_n hx hb dX8_add_39 rfl (lv_at hl 2 rfl) ?_
          refine lv_dup hx hb dX8_add_40 rfl ?_
          refine va_get (D := (dC, dI)) (ci := 8) (v := .int (nI (n + 1 + 1))) (C := RX8) (T := TX8) (N := 4) hx hb hts zi_X8_add_X8 hown hK hP 0 rfl rfl 1 (by decide) (hts (.fieldLink RX8 15 "HoldTwo$Tape" "length" "I") (by decide +kernel)) (fun _ h9 => h9) rfl dX8_add_41 ?_
          refine lv_iconst (v := 1) hx hb dX8_add_44 (by decide) ?_
          refine lv_iadd hx hb dX8_add_45 ?_
          refine lv_topi (fun x_38 ex_38 => ?_)
          have ex_38 : x_38 = nI (n + 1 + 1 + 1) := ex_38.trans (nI_add _ _)
          subst ex_38
          refine va_put (D := (dC, dI)) (ci := 8) (v := .int (nI (n + 1 + 1 + 1))) (ty := .int) (C := RX8) (T := TX8) (N := 4) hx hb hts zi_X8_add_X8 tyX8 tyX8_ok nmX8 hown hK hP hD hS 0 rfl rfl 1 (by decide) (hts (.fieldLink RX8 15 "HoldTwo$Tape" "length" "I") (by decide +kernel)) (fun _ h9 => h9) rfl (by decide +kernel) rfl rfl (Nat.le_of_ble_eq_true rfl) dX8_add_46 (fun H locs hP hD hS => ?_)
          have hP : va_P (dC, dI) classes [(h0, .inr (8, [.ref h1, .int (nI (n + 1 + 1 + 1)), .int 0, .int (-1)])), (h1, .inl (cA0, 160, .inl (f_37)))] H := hP
          have hD : va_D A [(h0, .inr (8, [.ref h1, .int (nI (n + 1 + 1 + 1)), .int 0, .int (-1)])), (h1, .inl (cA0, 160, .inl (f_37)))] := hD
          refine lv_iinc (v := (-8)) (lv' := [(2, .int (-8)), (3, .int x_35), (0, .ref h0), (1, .int v0)]) hx hb dX8_add_49 hl (k := 1) rfl (by decide) (by decide) rfl (fun ls hl => ?_)
          refine lv_goto (tgt := 3) hx hb dX8_add_52 (by decide) ?_
          refine lv_iload_n hx hb dX8_add_3 rfl (lv_at hl 0 rfl) ?_
          refine lv_if_lt (tgt := 55) hx hb dX8_add_4 (by decide) (fun _ => ?_) (fun c9 => absurd (by decide) c9)
          have hP9 := hP.sub (ws' := [(h0, .inr (8, [.ref h1, .int (nI (n + 1 + 1 + 1)), .int 0, .int (-1)])), (h1, .inl (cA0, 160, .inl (f_37)))]) [0, 1] rfl
          have hD9 := hD.sub (ws' := [(h0, .inr (8, [.ref h1, .int (nI (n + 1 + 1 + 1)), .int 0, .int (-1)])), (h1, .inl (cA0, 160, .inl (f_37)))]) [0, 1] (by decide) rfl
          have hK9 := hK.sub (tys' := []) [] rfl
          refine W.widen (k := 0) (n := 0) (Nat.le_of_ble_eq_true rfl) (Nat.le_of_ble_eq_true rfl) ?_
          have hb24 : zb_i (zb_u v0 24) = 0 := by
            rw [show zb_u v0 24 = x_2 from by rw [ex_2, ex_1]; rfl]
            exact if_pos c_3
          have hb16 : zb_i (zb_u v0 16) = 1 := by
            rw [show zb_u v0 16 = x_5 from by rw [ex_5, ex_4]; rfl]
            exact if_neg c_6
          have hb8 : zb_i (zb_u v0 8) = 1 := by
            rw [show zb_u v0 8 = x_25 from by rw [ex_25, ex_24]; rfl]
            exact if_neg c_26
          have hb0 : zb_i (zb_u v0 0) = 1 := by
            rw [show zb_u v0 0 = x_35 from by rw [ex_35, ex_34]; rfl]
            exact if_neg c_36
          have hz : zb_n v0 = 3 := by unfold zb_n; rw [hb24, hb16, hb8, hb0]
          have en : nI (n + 1 + 1 + 1) = nI (n + zb_n v0) := by rw [hz]
          rw [en] at hP9 hD9
          exact W.vret hx hb hr (fun t ht hW => ⟨⟨(), rfl, trivial, f_37, by rw [ht]; exact hP9, va_K.moved hW.alike hK9, hD9⟩, hS.F ht⟩) hS.2.2 dX8_add_55
  · skip
    refine lv_aload_n hx hb dX8_add_19 rfl (lv_at hl 2 rfl) ?_
    refine va_get (D := (dC, dI)) (ci := 8) (v := .int (nI (n))) (C := RX8) (T := TX8) (N := 4) hx hb hts zi_X8_add_X8 hown hK hP 0 rfl rfl 1 (by decide) (hts (.fieldLink RX8 15 "HoldTwo$Tape" "length" "I") (by decide +kernel)) (fun _ h9 => h9) rfl dX8_add_20 ?_
    refine lv_sipush (v := 160) hx hb dX8_add_23 (by decide) ?_
    refine lv_icmp_ge (tgt := 49) hx hb dX8_add_26 (by decide) (fun c9 => absurd c9 ((fun h9 => absurd ((nI_leI (a := 160) (b := n) (by omega) (by omega)).mp h9) (by omega)))) (fun _ => ?_)
    refine lv_aload_n hx hb dX8_add_29 rfl (lv_at hl 2 rfl) ?_
    refine va_get (D := (dC, dI)) (ci := 8) (v := .ref h1) (C := RX8) (T := TX8) (N := 4) hx hb hts zi_X8_add_X8 hown hK hP 0 rfl rfl 0 (by decide) (hts (.fieldLink RX8 9 "HoldTwo$Tape" "signs" "[I") (by decide +kernel)) (fun _ h9 => h9) rfl dX8_add_30 ?_
    refine lv_aload_n hx hb dX8_add_33 rfl (lv_at hl 2 rfl) ?_
    refine va_get (D := (dC, dI)) (ci := 8) (v := .int (nI (n))) (C := RX8) (T := TX8) (N := 4) hx hb hts zi_X8_add_X8 hown hK hP 0 rfl rfl 1 (by decide) (hts (.fieldLink RX8 15 "HoldTwo$Tape" "length" "I") (by decide +kernel)) (fun _ h9 => h9) rfl dX8_add_34 ?_
    refine lv_iload_n hx hb dX8_add_37 rfl (lv_at hl 0 rfl) ?_
    refine va_iast hx hb hK hP hD hS 1 0 rfl rfl (vp_in_nI (n := n) (by omega) (by omega)) dX8_add_38 (fun H locs hP hD hS => ?_)
    obtain ⟨f_39, ef_39⟩ : ∃ f9 : Nat → Int32, f9 = upd (f0) ((nI (n)) : Int32).toNatClampNeg x_2 := ⟨_, rfl⟩
    rw [← ef_39] at hP hD
    have hP : va_P (dC, dI) classes [(h0, .inr (8, [.ref h1, .int (nI (n)), .int 0, .int (-1)])), (h1, .inl (cA0, 160, .inl (f_39)))] H := hP
    have hD : va_D A [(h0, .inr (8, [.ref h1, .int (nI (n)), .int 0, .int (-1)])), (h1, .inl (cA0, 160, .inl (f_39)))] := hD
    refine lv_aload_n hx hb dX8_add_39 rfl (lv_at hl 2 rfl) ?_
    refine lv_dup hx hb dX8_add_40 rfl ?_
    refine va_get (D := (dC, dI)) (ci := 8) (v := .int (nI (n))) (C := RX8) (T := TX8) (N := 4) hx hb hts zi_X8_add_X8 hown hK hP 0 rfl rfl 1 (by decide) (hts (.fieldLink RX8 15 "HoldTwo$Tape" "length" "I") (by decide +kernel)) (fun _ h9 => h9) rfl dX8_add_41 ?_
    refine lv_iconst (v := 1) hx hb dX8_add_44 (by decide) ?_
    refine lv_iadd hx hb dX8_add_45 ?_
    refine lv_topi (fun x_40 ex_40 => ?_)
    have ex_40 : x_40 = nI (n + 1) := ex_40.trans (nI_add _ _)
    subst ex_40
    refine va_put (D := (dC, dI)) (ci := 8) (v := .int (nI (n + 1))) (ty := .int) (C := RX8) (T := TX8) (N := 4) hx hb hts zi_X8_add_X8 tyX8 tyX8_ok nmX8 hown hK hP hD hS 0 rfl rfl 1 (by decide) (hts (.fieldLink RX8 15 "HoldTwo$Tape" "length" "I") (by decide +kernel)) (fun _ h9 => h9) rfl (by decide +kernel) rfl rfl (Nat.le_of_ble_eq_true rfl) dX8_add_46 (fun H locs hP hD hS => ?_)
    have hP : va_P (dC, dI) classes [(h0, .inr (8, [.ref h1, .int (nI (n + 1)), .int 0, .int (-1)])), (h1, .inl (cA0, 160, .inl (f_39)))] H := hP
    have hD : va_D A [(h0, .inr (8, [.ref h1, .int (nI (n + 1)), .int 0, .int (-1)])), (h1, .inl (cA0, 160, .inl (f_39)))] := hD
    refine lv_iinc (v := 16) (lv' := [(2, .int 16), (3, .int x_2), (0, .ref h0), (1, .int v0)]) hx hb dX8_add_49 hl (k := 1) rfl (by decide) (by decide) rfl (fun ls hl => ?_)
    refine lv_goto (tgt := 3) hx hb dX8_add_52 (by decide) ?_
    refine lv_iload_n hx hb dX8_add_3 rfl (lv_at hl 0 rfl) ?_
    refine lv_if_lt (tgt := 55) hx hb dX8_add_4 (by decide) (fun c9 => absurd c9 (by decide)) (fun _ => ?_)
    refine lv_iload_n hx hb dX8_add_7 rfl (lv_at hl 3 rfl) ?_
    refine lv_iload_n hx hb dX8_add_8 rfl (lv_at hl 0 rfl) ?_
    refine lv_iushr hx hb dX8_add_9 rfl ?_
    refine lv_topi (fun x_41 ex_41 => ?_)
    refine lv_sipush (v := 255) hx hb dX8_add_10 (by decide) ?_
    refine lv_iand hx hb dX8_add_13 ?_
    refine lv_topi (fun x_42 ex_42 => ?_)
    refine lv_istore_n (lv' := [(3, .int x_42), (2, .int 16), (0, .ref h0), (1, .int v0)]) hx hb dX8_add_14 rfl hl (by decide) rfl (fun ls hl => ?_)
    refine lv_iload_n hx hb dX8_add_15 rfl (lv_at hl 0 rfl) ?_
    refine lv_if_eq (tgt := 49) hx hb dX8_add_16 (by decide) (fun c_43 => ?_) (fun c_43 => ?_)
    · skip
      refine lv_iinc (v := 8) (lv' := [(2, .int 8), (3, .int x_42), (0, .ref h0), (1, .int v0)]) hx hb dX8_add_49 hl (k := 1) rfl (by decide) (by decide) rfl (fun ls hl => ?_)
      refine lv_goto (tgt := 3) hx hb dX8_add_52 (by decide) ?_
      refine lv_iload_n hx hb dX8_add_3 rfl (lv_at hl 0 rfl) ?_
      refine lv_if_lt (tgt := 55) hx hb dX8_add_4 (by decide) (fun c9 => absurd c9 (by decide)) (fun _ => ?_)
      refine lv_iload_n hx hb dX8_add_7 rfl (lv_at hl 3 rfl) ?_
      refine lv_iload_n hx hb dX8_add_8 rfl (lv_at hl 0 rfl) ?_
      refine lv_iushr hx hb dX8_add_9 rfl ?_
      refine lv_topi (fun x_44 ex_44 => ?_)
      refine lv_sipush (v := 255) hx hb dX8_add_10 (by decide) ?_
      refine lv_iand hx hb dX8_add_13 ?_
      refine lv_topi (fun x_45 ex_45 => ?_)
      refine lv_istore_n (lv' := [(3, .int x_45), (2, .int 8), (0, .ref h0), (1, .int v0)]) hx hb dX8_add_14 rfl hl (by decide) rfl (fun ls hl => ?_)
      refine lv_iload_n hx hb dX8_add_15 rfl (lv_at hl 0 rfl) ?_
      refine lv_if_eq (tgt := 49) hx hb dX8_add_16 (by decide) (fun c_46 => ?_) (fun c_46 => ?_)
      · skip
        refine lv_iinc (v := 0) (lv' := [(2, .int 0), (3, .int x_45), (0, .ref h0), (1, .int v0)]) hx hb dX8_add_49 hl (k := 1) rfl (by decide) (by decide) rfl (fun ls hl => ?_)
        refine lv_goto (tgt := 3) hx hb dX8_add_52 (by decide) ?_
        refine lv_iload_n hx hb dX8_add_3 rfl (lv_at hl 0 rfl) ?_
        refine lv_if_lt (tgt := 55) hx hb dX8_add_4 (by decide) (fun c9 => absurd c9 (by decide)) (fun _ => ?_)
        refine lv_iload_n hx hb dX8_add_7 rfl (lv_at hl 3 rfl) ?_
        refine lv_iload_n hx hb dX8_add_8 rfl (lv_at hl 0 rfl) ?_
        refine lv_iushr hx hb dX8_add_9 rfl ?_
        refine lv_topi (fun x_47 ex_47 => ?_)
        refine lv_sipush (v := 255) hx hb dX8_add_10 (by decide) ?_
        refine lv_iand hx hb dX8_add_13 ?_
        refine lv_topi (fun x_48 ex_48 => ?_)
        refine lv_istore_n (lv' := [(3, .int x_48), (2, .int 0), (0, .ref h0), (1, .int v0)]) hx hb dX8_add_14 rfl hl (by decide) rfl (fun ls hl => ?_)
        refine lv_iload_n hx hb dX8_add_15 rfl (lv_at hl 0 rfl) ?_
        refine lv_if_eq (tgt := 49) hx hb dX8_add_16 (by decide) (fun c_49 => ?_) (fun c_49 => ?_)
        · skip
          refine lv_iinc (v := (-8)) (lv' := [(2, .int (-8)), (3, .int x_48), (0, .ref h0), (1, .int v0)]) hx hb dX8_add_49 hl (k := 1) rfl (by decide) (by decide) rfl (fun ls hl => ?_)
          refine lv_goto (tgt := 3) hx hb dX8_add_52 (by decide) ?_
          refine lv_iload_n hx hb dX8_add_3 rfl (lv_at hl 0 rfl) ?_
          refine lv_if_lt (tgt := 55) hx hb dX8_add_4 (by decide) (fun _ => ?_) (fun c9 => absurd (by decide) c9)
          have hP9 := hP.sub (ws' := [(h0, .inr (8, [.ref h1, .int (nI (n + 1)), .int 0, .int (-1)])), (h1, .inl (cA0, 160, .inl (f_39)))]) [0, 1] rfl
          have hD9 := hD.sub (ws' := [(h0, .inr (8, [.ref h1, .int (nI (n + 1)), .int 0, .int (-1)])), (h1, .inl (cA0, 160, .inl (f_39)))]) [0, 1] (by decide) rfl
          have hK9 := hK.sub (tys' := []) [] rfl
          refine W.widen (k := 0) (n := 0) (Nat.le_of_ble_eq_true rfl) (Nat.le_of_ble_eq_true rfl) ?_
          have hb24 : zb_i (zb_u v0 24) = 1 := by
            rw [show zb_u v0 24 = x_2 from by rw [ex_2, ex_1]; rfl]
            exact if_neg c_3
          have hb16 : zb_i (zb_u v0 16) = 0 := by
            rw [show zb_u v0 16 = x_42 from by rw [ex_42, ex_41]; rfl]
            exact if_pos c_43
          have hb8 : zb_i (zb_u v0 8) = 0 := by
            rw [show zb_u v0 8 = x_45 from by rw [ex_45, ex_44]; rfl]
            exact if_pos c_46
          have hb0 : zb_i (zb_u v0 0) = 0 := by
            rw [show zb_u v0 0 = x_48 from by rw [ex_48, ex_47]; rfl]
            exact if_pos c_49
          have hz : zb_n v0 = 1 := by unfold zb_n; rw [hb24, hb16, hb8, hb0]
          have en : nI (n + 1) = nI (n + zb_n v0) := by rw [hz]
          rw [en] at hP9 hD9
          exact W.vret hx hb hr (fun t ht hW => ⟨⟨(), rfl, trivial, f_39, by rw [ht]; exact hP9, va_K.moved hW.alike hK9, hD9⟩, hS.F ht⟩) hS.2.2 dX8_add_55
        · skip
          refine lv_aload_n hx hb dX8_add_19 rfl (lv_at hl 2 rfl) ?_
          refine va_get (D := (dC, dI)) (ci := 8) (v := .int (nI (n + 1))) (C := RX8) (T := TX8) (N := 4) hx hb hts zi_X8_add_X8 hown hK hP 0 rfl rfl 1 (by decide) (hts (.fieldLink RX8 15 "HoldTwo$Tape" "length" "I") (by decide +kernel)) (fun _ h9 => h9) rfl dX8_add_20 ?_
          refine lv_sipush (v := 160) hx hb dX8_add_23 (by decide) ?_
          refine lv_icmp_ge (tgt := 49) hx hb dX8_add_26 (by decide) (fun c9 => absurd c9 ((fun h9 => absurd ((nI_leI (a := 160) (b := n + 1) (by omega) (by omega)).mp h9) (by omega)))) (fun _ => ?_)
          refine lv_aload_n hx hb dX8_add_29 rfl (lv_at hl 2 rfl) ?_
          refine va_get (D := (dC, dI)) (ci := 8) (v := .ref h1) (C := RX8) (T := TX8) (N := 4) hx hb hts zi_X8_add_X8 hown hK hP 0 rfl rfl 0 (by decide) (hts (.fieldLink RX8 9 "HoldTwo$Tape" "signs" "[I") (by decide +kernel)) (fun _ h9 => h9) rfl dX8_add_30 ?_
          refine lv_aload_n hx hb dX8_add_33 rfl (lv_at hl 2 rfl) ?_
          refine va_get (D := (dC, dI)) (ci := 8) (v := .int (nI (n + 1))) (C := RX8) (T := TX8) (N := 4) hx hb hts zi_X8_add_X8 hown hK hP 0 rfl rfl 1 (by decide) (hts (.fieldLink RX8 15 "HoldTwo$Tape" "length" "I") (by decide +kernel)) (fun _ h9 => h9) rfl dX8_add_34 ?_
          refine lv_iload_n hx hb dX8_add_37 rfl (lv_at hl 0 rfl) ?_
          refine va_iast hx hb hK hP hD hS 1 0 rfl rfl (vp_in_nI (n := n + 1) (by omega) (by omega)) dX8_add_38 (fun H locs hP hD hS => ?_)
          obtain ⟨f_50, ef_50⟩ : ∃ f9 : Nat → Int32, f9 = upd (f_39) ((nI (n + 1)) : Int32).toNatClampNeg x_48 := ⟨_, rfl⟩
          rw [← ef_50] at hP hD
          have hP : va_P (dC, dI) classes [(h0, .inr (8, [.ref h1, .int (nI (n + 1)), .int 0, .int (-1)])), (h1, .inl (cA0, 160, .inl (f_50)))] H := hP
          have hD : va_D A [(h0, .inr (8, [.ref h1, .int (nI (n + 1)), .int 0, .int (-1)])), (h1, .inl (cA0, 160, .inl (f_50)))] := hD
          refine lv_aload_n hx hb dX8_add_39 rfl (lv_at hl 2 rfl) ?_
          refine lv_dup hx hb dX8_add_40 rfl ?_
          refine va_get (D := (dC, dI)) (ci := 8) (v := .int (nI (n + 1))) (C := RX8) (T := TX8) (N := 4) hx hb hts zi_X8_add_X8 hown hK hP 0 rfl rfl 1 (by decide) (hts (.fieldLink RX8 15 "HoldTwo$Tape" "length" "I") (by decide +kernel)) (fun _ h9 => h9) rfl dX8_add_41 ?_
          refine lv_iconst (v := 1) hx hb dX8_add_44 (by decide) ?_
          refine lv_iadd hx hb dX8_add_45 ?_
          refine lv_topi (fun x_51 ex_51 => ?_)
          have ex_51 : x_51 = nI (n + 1 + 1) := ex_51.trans (nI_add _ _)
          subst ex_51
          refine va_put (D := (dC, dI)) (ci := 8) (v := .int (nI (n + 1 + 1))) (ty := .int) (C := RX8) (T := TX8) (N := 4) hx hb hts zi_X8_add_X8 tyX8 tyX8_ok nmX8 hown hK hP hD hS 0 rfl rfl 1 (by decide) (hts (.fieldLink RX8 15 "HoldTwo$Tape" "length" "I") (by decide +kernel)) (fun _ h9 => h9) rfl (by decide +kernel) rfl rfl (Nat.le_of_ble_eq_true rfl) dX8_add_46 (fun H locs hP hD hS => ?_)
          have hP : va_P (dC, dI) classes [(h0, .inr (8, [.ref h1, .int (nI (n + 1 + 1)), .int 0, .int (-1)])), (h1, .inl (cA0, 160, .inl (f_50)))] H := hP
          have hD : va_D A [(h0, .inr (8, [.ref h1, .int (nI (n + 1 + 1)), .int 0, .int (-1)])), (h1, .inl (cA0, 160, .inl (f_50)))] := hD
          refine lv_iinc (v := (-8)) (lv' := [(2, .int (-8)), (3, .int x_48), (0, .ref h0), (1, .int v0)]) hx hb dX8_add_49 hl (k := 1) rfl (by decide) (by decide) rfl (fun ls hl => ?_)
          refine lv_goto (tgt := 3) hx hb dX8_add_52 (by decide) ?_
          refine lv_iload_n hx hb dX8_add_3 rfl (lv_at hl 0 rfl) ?_
          refine lv_if_lt (tgt := 55) hx hb dX8_add_4 (by decide) (fun _ => ?_) (fun c9 => absurd (by decide) c9)
          have hP9 := hP.sub (ws' := [(h0, .inr (8, [.ref h1, .int (nI (n + 1 + 1)), .int 0, .int (-1)])), (h1, .inl (cA0, 160, .inl (f_50)))]) [0, 1] rfl
          have hD9 := hD.sub (ws' := [(h0, .inr (8, [.ref h1, .int (nI (n + 1 + 1)), .int 0, .int (-1)])), (h1, .inl (cA0, 160, .inl (f_50)))]) [0, 1] (by decide) rfl
          have hK9 := hK.sub (tys' := []) [] rfl
          refine W.widen (k := 0) (n := 0) (Nat.le_of_ble_eq_true rfl) (Nat.le_of_ble_eq_true rfl) ?_
          have hb24 : zb_i (zb_u v0 24) = 1 := by
            rw [show zb_u v0 24 = x_2 from by rw [ex_2, ex_1]; rfl]
            exact if_neg c_3
          have hb16 : zb_i (zb_u v0 16) = 0 := by
            rw [show zb_u v0 16 = x_42 from by rw [ex_42, ex_41]; rfl]
            exact if_pos c_43
          have hb8 : zb_i (zb_u v0 8) = 0 := by
            rw [show zb_u v0 8 = x_45 from by rw [ex_45, ex_44]; rfl]
            exact if_pos c_46
          have hb0 : zb_i (zb_u v0 0) = 1 := by
            rw [show zb_u v0 0 = x_48 from by rw [ex_48, ex_47]; rfl]
            exact if_neg c_49
          have hz : zb_n v0 = 2 := by unfold zb_n; rw [hb24, hb16, hb8, hb0]
          have en : nI (n + 1 + 1) = nI (n + zb_n v0) := by rw [hz]
          rw [en] at hP9 hD9
          exact W.vret hx hb hr (fun t ht hW => ⟨⟨(), rfl, trivial, f_50, by rw [ht]; exact hP9, va_K.moved hW.alike hK9, hD9⟩, hS.F ht⟩) hS.2.2 dX8_add_55
      · skip
        refine lv_aload_n hx hb dX8_add_19 rfl (lv_at hl 2 rfl) ?_
        refine va_get (D := (dC, dI)) (ci := 8) (v := .int (nI (n + 1))) (C := RX8) (T := TX8) (N := 4) hx hb hts zi_X8_add_X8 hown hK hP 0 rfl rfl 1 (by decide) (hts (.fieldLink RX8 15 "HoldTwo$Tape" "length" "I") (by decide +kernel)) (fun _ h9 => h9) rfl dX8_add_20 ?_
        refine lv_sipush (v := 160) hx hb dX8_add_23 (by decide) ?_
        refine lv_icmp_ge (tgt := 49) hx hb dX8_add_26 (by decide) (fun c9 => absurd c9 ((fun h9 => absurd ((nI_leI (a := 160) (b := n + 1) (by omega) (by omega)).mp h9) (by omega)))) (fun _ => ?_)
        refine lv_aload_n hx hb dX8_add_29 rfl (lv_at hl 2 rfl) ?_
        refine va_get (D := (dC, dI)) (ci := 8) (v := .ref h1) (C := RX8) (T := TX8) (N := 4) hx hb hts zi_X8_add_X8 hown hK hP 0 rfl rfl 0 (by decide) (hts (.fieldLink RX8 9 "HoldTwo$Tape" "signs" "[I") (by decide +kernel)) (fun _ h9 => h9) rfl dX8_add_30 ?_
        refine lv_aload_n hx hb dX8_add_33 rfl (lv_at hl 2 rfl) ?_
        refine va_get (D := (dC, dI)) (ci := 8) (v := .int (nI (n + 1))) (C := RX8) (T := TX8) (N := 4) hx hb hts zi_X8_add_X8 hown hK hP 0 rfl rfl 1 (by decide) (hts (.fieldLink RX8 15 "HoldTwo$Tape" "length" "I") (by decide +kernel)) (fun _ h9 => h9) rfl dX8_add_34 ?_
        refine lv_iload_n hx hb dX8_add_37 rfl (lv_at hl 0 rfl) ?_
        refine va_iast hx hb hK hP hD hS 1 0 rfl rfl (vp_in_nI (n := n + 1) (by omega) (by omega)) dX8_add_38 (fun H locs hP hD hS => ?_)
        obtain ⟨f_52, ef_52⟩ : ∃ f9 : Nat → Int32, f9 = upd (f_39) ((nI (n + 1)) : Int32).toNatClampNeg x_45 := ⟨_, rfl⟩
        rw [← ef_52] at hP hD
        have hP : va_P (dC, dI) classes [(h0, .inr (8, [.ref h1, .int (nI (n + 1)), .int 0, .int (-1)])), (h1, .inl (cA0, 160, .inl (f_52)))] H := hP
        have hD : va_D A [(h0, .inr (8, [.ref h1, .int (nI (n + 1)), .int 0, .int (-1)])), (h1, .inl (cA0, 160, .inl (f_52)))] := hD
        refine lv_aload_n hx hb dX8_add_39 rfl (lv_at hl 2 rfl) ?_
        refine lv_dup hx hb dX8_add_40 rfl ?_
        refine va_get (D := (dC, dI)) (ci := 8) (v := .int (nI (n + 1))) (C := RX8) (T := TX8) (N := 4) hx hb hts zi_X8_add_X8 hown hK hP 0 rfl rfl 1 (by decide) (hts (.fieldLink RX8 15 "HoldTwo$Tape" "length" "I") (by decide +kernel)) (fun _ h9 => h9) rfl dX8_add_41 ?_
        refine lv_iconst (v := 1) hx hb dX8_add_44 (by decide) ?_
        refine lv_iadd hx hb dX8_add_45 ?_
        refine lv_topi (fun x_53 ex_53 => ?_)
        have ex_53 : x_53 = nI (n + 1 + 1) := ex_53.trans (nI_add _ _)
        subst ex_53
        refine va_put (D := (dC, dI)) (ci := 8) (v := .int (nI (n + 1 + 1))) (ty := .int) (C := RX8) (T := TX8) (N := 4) hx hb hts zi_X8_add_X8 tyX8 tyX8_ok nmX8 hown hK hP hD hS 0 rfl rfl 1 (by decide) (hts (.fieldLink RX8 15 "HoldTwo$Tape" "length" "I") (by decide +kernel)) (fun _ h9 => h9) rfl (by decide +kernel) rfl rfl (Nat.le_of_ble_eq_true rfl) dX8_add_46 (fun H locs hP hD hS => ?_)
        have hP : va_P (dC, dI) classes [(h0, .inr (8, [.ref h1, .int (nI (n + 1 + 1)), .int 0, .int (-1)])), (h1, .inl (cA0, 160, .inl (f_52)))] H := hP
        have hD : va_D A [(h0, .inr (8, [.ref h1, .int (nI (n + 1 + 1)), .int 0, .int (-1)])), (h1, .inl (cA0, 160, .inl (f_52)))] := hD
        refine lv_iinc (v := 0) (lv' := [(2, .int 0), (3, .int x_45), (0, .ref h0), (1, .int v0)]) hx hb dX8_add_49 hl (k := 1) rfl (by decide) (by decide) rfl (fun ls hl => ?_)
        refine lv_goto (tgt := 3) hx hb dX8_add_52 (by decide) ?_
        refine lv_iload_n hx hb dX8_add_3 rfl (lv_at hl 0 rfl) ?_
        refine lv_if_lt (tgt := 55) hx hb dX8_add_4 (by decide) (fun c9 => absurd c9 (by decide)) (fun _ => ?_)
        refine lv_iload_n hx hb dX8_add_7 rfl (lv_at hl 3 rfl) ?_
        refine lv_iload_n hx hb dX8_add_8 rfl (lv_at hl 0 rfl) ?_
        refine lv_iushr hx hb dX8_add_9 rfl ?_
        refine lv_topi (fun x_54 ex_54 => ?_)
        refine lv_sipush (v := 255) hx hb dX8_add_10 (by decide) ?_
        refine lv_iand hx hb dX8_add_13 ?_
        refine lv_topi (fun x_55 ex_55 => ?_)
        refine lv_istore_n (lv' := [(3, .int x_55), (2, .int 0), (0, .ref h0), (1, .int v0)]) hx hb dX8_add_14 rfl hl (by decide) rfl (fun ls hl => ?_)
        refine lv_iload_n hx hb dX8_add_15 rfl (lv_at hl 0 rfl) ?_
        refine lv_if_eq (tgt := 49) hx hb dX8_add_16 (by decide) (fun c_56 => ?_) (fun c_56 => ?_)
        · skip
          refine lv_iinc (v := (-8)) (lv' := [(2, .int (-8)), (3, .int x_55), (0, .ref h0), (1, .int v0)]) hx hb dX8_add_49 hl (k := 1) rfl (by decide) (by decide) rfl (fun ls hl => ?_)
          refine lv_goto (tgt := 3) hx hb dX8_add_52 (by decide) ?_
          refine lv_iload_n hx hb dX8_add_3 rfl (lv_at hl 0 rfl) ?_
          refine lv_if_lt (tgt := 55) hx hb dX8_add_4 (by decide) (fun _ => ?_) (fun c9 => absurd (by decide) c9)
          have hP9 := hP.sub (ws' := [(h0, .inr (8, [.ref h1, .int (nI (n + 1 + 1)), .int 0, .int (-1)])), (h1, .inl (cA0, 160, .inl (f_52)))]) [0, 1] rfl
          have hD9 := hD.sub (ws' := [(h0, .inr (8, [.ref h1, .int (nI (n + 1 + 1)), .int 0, .int (-1)])), (h1, .inl (cA0, 160, .inl (f_52)))]) [0, 1] (by decide) rfl
          have hK9 := hK.sub (tys' := []) [] rfl
          refine W.widen (k := 0) (n := 0) (Nat.le_of_ble_eq_true rfl) (Nat.le_of_ble_eq_true rfl) ?_
          have hb24 : zb_i (zb_u v0 24) = 1 := by
            rw [show zb_u v0 24 = x_2 from by rw [ex_2, ex_1]; rfl]
            exact if_neg c_3
          have hb16 : zb_i (zb_u v0 16) = 0 := by
            rw [show zb_u v0 16 = x_42 from by rw [ex_42, ex_41]; rfl]
            exact if_pos c_43
          have hb8 : zb_i (zb_u v0 8) = 1 := by
            rw [show zb_u v0 8 = x_45 from by rw [ex_45, ex_44]; rfl]
            exact if_neg c_46
          have hb0 : zb_i (zb_u v0 0) = 0 := by
            rw [show zb_u v0 0 = x_55 from by rw [ex_55, ex_54]; rfl]
            exact if_pos c_56
          have hz : zb_n v0 = 2 := by unfold zb_n; rw [hb24, hb16, hb8, hb0]
          have en : nI (n + 1 + 1) = nI (n + zb_n v0) := by rw [hz]
          rw [en] at hP9 hD9
          exact W.vret hx hb hr (fun t ht hW => ⟨⟨(), rfl, trivial, f_52, by rw [ht]; exact hP9, va_K.moved hW.alike hK9, hD9⟩, hS.F ht⟩) hS.2.2 dX8_add_55
        · skip
          refine lv_aload_n hx hb dX8_add_19 rfl (lv_at hl 2 rfl) ?_
          refine va_get (D := (dC, dI)) (ci := 8) (v := .int (nI (n + 1 + 1))) (C := RX8) (T := TX8) (N := 4) hx hb hts zi_X8_add_X8 hown hK hP 0 rfl rfl 1 (by decide) (hts (.fieldLink RX8 15 "HoldTwo$Tape" "length" "I") (by decide +kernel)) (fun _ h9 => h9) rfl dX8_add_20 ?_
          refine lv_sipush (v := 160) hx hb dX8_add_23 (by decide) ?_
          refine lv_icmp_ge (tgt := 49) hx hb dX8_add_26 (by decide) (fun c9 => absurd c9 ((fun h9 => absurd ((nI_leI (a := 160) (b := n + 1 + 1) (by omega) (by omega)).mp h9) (by omega)))) (fun _ => ?_)
          refine lv_aload_n hx hb dX8_add_29 rfl (lv_at hl 2 rfl) ?_
          refine va_get (D := (dC, dI)) (ci := 8) (v := .ref h1) (C := RX8) (T := TX8) (N := 4) hx hb hts zi_X8_add_X8 hown hK hP 0 rfl rfl 0 (by decide) (hts (.fieldLink RX8 9 "HoldTwo$Tape" "signs" "[I") (by decide +kernel)) (fun _ h9 => h9) rfl dX8_add_30 ?_
          refine lv_aload_n hx hb dX8_add_33 rfl (lv_at hl 2 rfl) ?_
          refine va_get (D := (dC, dI)) (ci := 8) (v := .int (nI (n + 1 + 1))) (C := RX8) (T := TX8) (N := 4) hx hb hts zi_X8_add_X8 hown hK hP 0 rfl rfl 1 (by decide) (hts (.fieldLink RX8 15 "HoldTwo$Tape" "length" "I") (by decide +kernel)) (fun _ h9 => h9) rfl dX8_add_34 ?_
          refine lv_iload_n hx hb dX8_add_37 rfl (lv_at hl 0 rfl) ?_
          refine va_iast hx hb hK hP hD hS 1 0 rfl rfl (vp_in_nI (n := n + 1 + 1) (by omega) (by omega)) dX8_add_38 (fun H locs hP hD hS => ?_)
          obtain ⟨f_57, ef_57⟩ : ∃ f9 : Nat → Int32, f9 = upd (f_52) ((nI (n + 1 + 1)) : Int32).toNatClampNeg x_55 := ⟨_, rfl⟩
          rw [← ef_57] at hP hD
          have hP : va_P (dC, dI) classes [(h0, .inr (8, [.ref h1, .int (nI (n + 1 + 1)), .int 0, .int (-1)])), (h1, .inl (cA0, 160, .inl (f_57)))] H := hP
          have hD : va_D A [(h0, .inr (8, [.ref h1, .int (nI (n + 1 + 1)), .int 0, .int (-1)])), (h1, .inl (cA0, 160, .inl (f_57)))] := hD
          refine lv_aload_n hx hb dX8_add_39 rfl (lv_at hl 2 rfl) ?_
          refine lv_dup hx hb dX8_add_40 rfl ?_
          refine va_get (D := (dC, dI)) (ci := 8) (v := .int (nI (n + 1 + 1))) (C := RX8) (T := TX8) (N := 4) hx hb hts zi_X8_add_X8 hown hK hP 0 rfl rfl 1 (by decide) (hts (.fieldLink RX8 15 "HoldTwo$Tape" "length" "I") (by decide +kernel)) (fun _ h9 => h9) rfl dX8_add_41 ?_
          refine lv_iconst (v := 1) hx hb dX8_add_44 (by decide) ?_
          refine lv_iadd hx hb dX8_add_45 ?_
          refine lv_topi (fun x_58 ex_58 => ?_)
          have ex_58 : x_58 = nI (n + 1 + 1 + 1) := ex_58.trans (nI_add _ _)
          subst ex_58
          refine va_put (D := (dC, dI)) (ci := 8) (v := .int (nI (n + 1 + 1 + 1))) (ty := .int) (C := RX8) (T := TX8) (N := 4) hx hb hts zi_X8_add_X8 tyX8 tyX8_ok nmX8 hown hK hP hD hS 0 rfl rfl 1 (by decide) (hts (.fieldLink RX8 15 "HoldTwo$Tape" "length" "I") (by decide +kernel)) (fun _ h9 => h9) rfl (by decide +kernel) rfl rfl (Nat.le_of_ble_eq_true rfl) dX8_add_46 (fun H locs hP hD hS => ?_)
          have hP : va_P (dC, dI) classes [(h0, .inr (8, [.ref h1, .int (nI (n + 1 + 1 + 1)), .int 0, .int (-1)])), (h1, .inl (cA0, 160, .inl (f_57)))] H := hP
          have hD : va_D A [(h0, .inr (8, [.ref h1, .int (nI (n + 1 + 1 + 1)), .int 0, .int (-1)])), (h1, .inl (cA0, 160, .inl (f_57)))] := hD
          refine lv_iinc (v := (-8)) (lv' := [(2, .int (-8)), (3, .int x_55), (0, .ref h0), (1, .int v0)]) hx hb dX8_add_49 hl (k := 1) rfl (by decide) (by decide) rfl (fun ls hl => ?_)
          refine lv_goto (tgt := 3) hx hb dX8_add_52 (by decide) ?_
          refine lv_iload_n hx hb dX8_add_3 rfl (lv_at hl 0 rfl) ?_
          refine lv_if_lt (tgt := 55) hx hb dX8_add_4 (by decide) (fun _ => ?_) (fun c9 => absurd (by decide) c9)
          have hP9 := hP.sub (ws' := [(h0, .inr (8, [.ref h1, .int (nI (n + 1 + 1 + 1)), .int 0, .int (-1)])), (h1, .inl (cA0, 160, .inl (f_57)))]) [0, 1] rfl
          have hD9 := hD.sub (ws' := [(h0, .inr (8, [.ref h1, .int (nI (n + 1 + 1 + 1)), .int 0, .int (-1)])), (h1, .inl (cA0, 160, .inl (f_57)))]) [0, 1] (by decide) rfl
          have hK9 := hK.sub (tys' := []) [] rfl
          refine W.widen (k := 0) (n := 0) (Nat.le_of_ble_eq_true rfl) (Nat.le_of_ble_eq_true rfl) ?_
          have hb24 : zb_i (zb_u v0 24) = 1 := by
            rw [show zb_u v0 24 = x_2 from by rw [ex_2, ex_1]; rfl]
            exact if_neg c_3
          have hb16 : zb_i (zb_u v0 16) = 0 := by
            rw [show zb_u v0 16 = x_42 from by rw [ex_42, ex_41]; rfl]
            exact if_pos c_43
          have hb8 : zb_i (zb_u v0 8) = 1 := by
            rw [show zb_u v0 8 = x_45 from by rw [ex_45, ex_44]; rfl]
            exact if_neg c_46
          have hb0 : zb_i (zb_u v0 0) = 1 := by
            rw [show zb_u v0 0 = x_55 from by rw [ex_55, ex_54]; rfl]
            exact if_neg c_56
          have hz : zb_n v0 = 3 := by unfold zb_n; rw [hb24, hb16, hb8, hb0]
          have en : nI (n + 1 + 1 + 1) = nI (n + zb_n v0) := by rw [hz]
          rw [en] at hP9 hD9
          exact W.vret hx hb hr (fun t ht hW => ⟨⟨(), rfl, trivial, f_57, by rw [ht]; exact hP9, va_K.moved hW.alike hK9, hD9⟩, hS.F ht⟩) hS.2.2 dX8_add_55
    · skip
      refine lv_aload_n hx hb dX8_add_19 rfl (lv_at hl 2 rfl) ?_
      refine va_get (D := (dC, dI)) (ci := 8) (v := .int (nI (n + 1))) (C := RX8) (T := TX8) (N := 4) hx hb hts zi_X8_add_X8 hown hK hP 0 rfl rfl 1 (by decide) (hts (.fieldLink RX8 15 "HoldTwo$Tape" "length" "I") (by decide +kernel)) (fun _ h9 => h9) rfl dX8_add_20 ?_
      refine lv_sipush (v := 160) hx hb dX8_add_23 (by decide) ?_
      refine lv_icmp_ge (tgt := 49) hx hb dX8_add_26 (by decide) (fun c9 => absurd c9 ((fun h9 => absurd ((nI_leI (a := 160) (b := n + 1) (by omega) (by omega)).mp h9) (by omega)))) (fun _ => ?_)
      refine lv_aload_n hx hb dX8_add_29 rfl (lv_at hl 2 rfl) ?_
      refine va_get (D := (dC, dI)) (ci := 8) (v := .ref h1) (C := RX8) (T := TX8) (N := 4) hx hb hts zi_X8_add_X8 hown hK hP 0 rfl rfl 0 (by decide) (hts (.fieldLink RX8 9 "HoldTwo$Tape" "signs" "[I") (by decide +kernel)) (fun _ h9 => h9) rfl dX8_add_30 ?_
      refine lv_aload_n hx hb dX8_add_33 rfl (lv_at hl 2 rfl) ?_
      refine va_get (D := (dC, dI)) (ci := 8) (v := .int (nI (n + 1))) (C := RX8) (T := TX8) (N := 4) hx hb hts zi_X8_add_X8 hown hK hP 0 rfl rfl 1 (by decide) (hts (.fieldLink RX8 15 "HoldTwo$Tape" "length" "I") (by decide +kernel)) (fun _ h9 => h9) rfl dX8_add_34 ?_
      refine lv_iload_n hx hb dX8_add_37 rfl (lv_at hl 0 rfl) ?_
      refine va_iast hx hb hK hP hD hS 1 0 rfl rfl (vp_in_nI (n := n + 1) (by omega) (by omega)) dX8_add_38 (fun H locs hP hD hS => ?_)
      obtain ⟨f_59, ef_59⟩ : ∃ f9 : Nat → Int32, f9 = upd (f_39) ((nI (n + 1)) : Int32).toNatClampNeg x_42 := ⟨_, rfl⟩
      rw [← ef_59] at hP hD
      have hP : va_P (dC, dI) classes [(h0, .inr (8, [.ref h1, .int (nI (n + 1)), .int 0, .int (-1)])), (h1, .inl (cA0, 160, .inl (f_59)))] H := hP
      have hD : va_D A [(h0, .inr (8, [.ref h1, .int (nI (n + 1)), .int 0, .int (-1)])), (h1, .inl (cA0, 160, .inl (f_59)))] := hD
      refine lv_aload_n hx hb dX8_add_39 rfl (lv_at hl 2 rfl) ?_
      refine lv_dup hx hb dX8_add_40 rfl ?_
      refine va_get (D := (dC, dI)) (ci := 8) (v := .int (nI (n + 1))) (C := RX8) (T := TX8) (N := 4) hx hb hts zi_X8_add_X8 hown hK hP 0 rfl rfl 1 (by decide) (hts (.fieldLink RX8 15 "HoldTwo$Tape" "length" "I") (by decide +kernel)) (fun _ h9 => h9) rfl dX8_add_41 ?_
      refine lv_iconst (v := 1) hx hb dX8_add_44 (by decide) ?_
      refine lv_iadd hx hb dX8_add_45 ?_
      refine lv_topi (fun x_60 ex_60 => ?_)
      have ex_60 : x_60 = nI (n + 1 + 1) := ex_60.trans (nI_add _ _)
      subst ex_60
      refine va_put (D := (dC, dI)) (ci := 8) (v := .int (nI (n + 1 + 1))) (ty := .int) (C := RX8) (T := TX8) (N := 4) hx hb hts zi_X8_add_X8 tyX8 tyX8_ok nmX8 hown hK hP hD hS 0 rfl rfl 1 (by decide) (hts (.fieldLink RX8 15 "HoldTwo$Tape" "length" "I") (by decide +kernel)) (fun _ h9 => h9) rfl (by decide +kernel) rfl rfl (Nat.le_of_ble_eq_true rfl) dX8_add_46 (fun H locs hP hD hS => ?_)
      have hP : va_P (dC, dI) classes [(h0, .inr (8, [.ref h1, .int (nI (n + 1 + 1)), .int 0, .int (-1)])), (h1, .inl (cA0, 160, .inl (f_59)))] H := hP
      have hD : va_D A [(h0, .inr (8, [.ref h1, .int (nI (n + 1 + 1)), .int 0, .int (-1)])), (h1, .inl (cA0, 160, .inl (f_59)))] := hD
      refine lv_iinc (v := 8) (lv' := [(2, .int 8), (3, .int x_42), (0, .ref h0), (1, .int v0)]) hx hb dX8_add_49 hl (k := 1) rfl (by decide) (by decide) rfl (fun ls hl => ?_)
      refine lv_goto (tgt := 3) hx hb dX8_add_52 (by decide) ?_
      refine lv_iload_n hx hb dX8_add_3 rfl (lv_at hl 0 rfl) ?_
      refine lv_if_lt (tgt := 55) hx hb dX8_add_4 (by decide) (fun c9 => absurd c9 (by decide)) (fun _ => ?_)
      refine lv_iload_n hx hb dX8_add_7 rfl (lv_at hl 3 rfl) ?_
      refine lv_iload_n hx hb dX8_add_8 rfl (lv_at hl 0 rfl) ?_
      refine lv_iushr hx hb dX8_add_9 rfl ?_
      refine lv_topi (fun x_61 ex_61 => ?_)
      refine lv_sipush (v := 255) hx hb dX8_add_10 (by decide) ?_
      refine lv_iand hx hb dX8_add_13 ?_
      refine lv_topi (fun x_62 ex_62 => ?_)
      refine lv_istore_n (lv' := [(3, .int x_62), (2, .int 8), (0, .ref h0), (1, .int v0)]) hx hb dX8_add_14 rfl hl (by decide) rfl (fun ls hl => ?_)
      refine lv_iload_n hx hb dX8_add_15 rfl (lv_at hl 0 rfl) ?_
      refine lv_if_eq (tgt := 49) hx hb dX8_add_16 (by decide) (fun c_63 => ?_) (fun c_63 => ?_)
      · skip
        refine lv_iinc (v := 0) (lv' := [(2, .int 0), (3, .int x_62), (0, .ref h0), (1, .int v0)]) hx hb dX8_add_49 hl (k := 1) rfl (by decide) (by decide) rfl (fun ls hl => ?_)
        refine lv_goto (tgt := 3) hx hb dX8_add_52 (by decide) ?_
        refine lv_iload_n hx hb dX8_add_3 rfl (lv_at hl 0 rfl) ?_
        refine lv_if_lt (tgt := 55) hx hb dX8_add_4 (by decide) (fun c9 => absurd c9 (by decide)) (fun _ => ?_)
        refine lv_iload_n hx hb dX8_add_7 rfl (lv_at hl 3 rfl) ?_
        refine lv_iload_n hx hb dX8_add_8 rfl (lv_at hl 0 rfl) ?_
        refine lv_iushr hx hb dX8_add_9 rfl ?_
        refine lv_topi (fun x_64 ex_64 => ?_)
        refine lv_sipush (v := 255) hx hb dX8_add_10 (by decide) ?_
        refine lv_iand hx hb dX8_add_13 ?_
        refine lv_topi (fun x_65 ex_65 => ?_)
        refine lv_istore_n (lv' := [(3, .int x_65), (2, .int 0), (0, .ref h0), (1, .int v0)]) hx hb dX8_add_14 rfl hl (by decide) rfl (fun ls hl => ?_)
        refine lv_iload_n hx hb dX8_add_15 rfl (lv_at hl 0 rfl) ?_
        refine lv_if_eq (tgt := 49) hx hb dX8_add_16 (by decide) (fun c_66 => ?_) (fun c_66 => ?_)
        · skip
          refine lv_iinc (v := (-8)) (lv' := [(2, .int (-8)), (3, .int x_65), (0, .ref h0), (1, .int v0)]) hx hb dX8_add_49 hl (k := 1) rfl (by decide) (by decide) rfl (fun ls hl => ?_)
          refine lv_goto (tgt := 3) hx hb dX8_add_52 (by decide) ?_
          refine lv_iload_n hx hb dX8_add_3 rfl (lv_at hl 0 rfl) ?_
          refine lv_if_lt (tgt := 55) hx hb dX8_add_4 (by decide) (fun _ => ?_) (fun c9 => absurd (by decide) c9)
          have hP9 := hP.sub (ws' := [(h0, .inr (8, [.ref h1, .int (nI (n + 1 + 1)), .int 0, .int (-1)])), (h1, .inl (cA0, 160, .inl (f_59)))]) [0, 1] rfl
          have hD9 := hD.sub (ws' := [(h0, .inr (8, [.ref h1, .int (nI (n + 1 + 1)), .int 0, .int (-1)])), (h1, .inl (cA0, 160, .inl (f_59)))]) [0, 1] (by decide) rfl
          have hK9 := hK.sub (tys' := []) [] rfl
          refine W.widen (k := 0) (n := 0) (Nat.le_of_ble_eq_true rfl) (Nat.le_of_ble_eq_true rfl) ?_
          have hb24 : zb_i (zb_u v0 24) = 1 := by
            rw [show zb_u v0 24 = x_2 from by rw [ex_2, ex_1]; rfl]
            exact if_neg c_3
          have hb16 : zb_i (zb_u v0 16) = 1 := by
            rw [show zb_u v0 16 = x_42 from by rw [ex_42, ex_41]; rfl]
            exact if_neg c_43
          have hb8 : zb_i (zb_u v0 8) = 0 := by
            rw [show zb_u v0 8 = x_62 from by rw [ex_62, ex_61]; rfl]
            exact if_pos c_63
          have hb0 : zb_i (zb_u v0 0) = 0 := by
            rw [show zb_u v0 0 = x_65 from by rw [ex_65, ex_64]; rfl]
            exact if_pos c_66
          have hz : zb_n v0 = 2 := by unfold zb_n; rw [hb24, hb16, hb8, hb0]
          have en : nI (n + 1 + 1) = nI (n + zb_n v0) := by rw [hz]
          rw [en] at hP9 hD9
          exact W.vret hx hb hr (fun t ht hW => ⟨⟨(), rfl, trivial, f_59, by rw [ht]; exact hP9, va_K.moved hW.alike hK9, hD9⟩, hS.F ht⟩) hS.2.2 dX8_add_55
        · skip
          refine lv_aload_n hx hb dX8_add_19 rfl (lv_at hl 2 rfl) ?_
          refine va_get (D := (dC, dI)) (ci := 8) (v := .int (nI (n + 1 + 1))) (C := RX8) (T := TX8) (N := 4) hx hb hts zi_X8_add_X8 hown hK hP 0 rfl rfl 1 (by decide) (hts (.fieldLink RX8 15 "HoldTwo$Tape" "length" "I") (by decide +kernel)) (fun _ h9 => h9) rfl dX8_add_20 ?_
          refine lv_sipush (v := 160) hx hb dX8_add_23 (by decide) ?_
          refine lv_icmp_ge (tgt := 49) hx hb dX8_add_26 (by decide) (fun c9 => absurd c9 ((fun h9 => absurd ((nI_leI (a := 160) (b := n + 1 + 1) (by omega) (by omega)).mp h9) (by omega)))) (fun _ => ?_)
          refine lv_aload_n hx hb dX8_add_29 rfl (lv_at hl 2 rfl) ?_
          refine va_get (D := (dC, dI)) (ci := 8) (v := .ref h1) (C := RX8) (T := TX8) (N := 4) hx hb hts zi_X8_add_X8 hown hK hP 0 rfl rfl 0 (by decide) (hts (.fieldLink RX8 9 "HoldTwo$Tape" "signs" "[I") (by decide +kernel)) (fun _ h9 => h9) rfl dX8_add_30 ?_
          refine lv_aload_n hx hb dX8_add_33 rfl (lv_at hl 2 rfl) ?_
          refine va_get (D := (dC, dI)) (ci := 8) (v := .int (nI (n + 1 + 1))) (C := RX8) (T := TX8) (N := 4) hx hb hts zi_X8_add_X8 hown hK hP 0 rfl rfl 1 (by decide) (hts (.fieldLink RX8 15 "HoldTwo$Tape" "length" "I") (by decide +kernel)) (fun _ h9 => h9) rfl dX8_add_34 ?_
          refine lv_iload_n hx hb dX8_add_37 rfl (lv_at hl 0 rfl) ?_
          refine va_iast hx hb hK hP hD hS 1 0 rfl rfl (vp_in_nI (n := n + 1 + 1) (by omega) (by omega)) dX8_add_38 (fun H locs hP hD hS => ?_)
          obtain ⟨f_67, ef_67⟩ : ∃ f9 : Nat → Int32, f9 = upd (f_59) ((nI (n + 1 + 1)) : Int32).toNatClampNeg x_65 := ⟨_, rfl⟩
          rw [← ef_67] at hP hD
          have hP : va_P (dC, dI) classes [(h0, .inr (8, [.ref h1, .int (nI (n + 1 + 1)), .int 0, .int (-1)])), (h1, .inl (cA0, 160, .inl (f_67)))] H := hP
          have hD : va_D A [(h0, .inr (8, [.ref h1, .int (nI (n + 1 + 1)), .int 0, .int (-1)])), (h1, .inl (cA0, 160, .inl (f_67)))] := hD
          refine lv_aload_n hx hb dX8_add_39 rfl (lv_at hl 2 rfl) ?_
          refine lv_dup hx hb dX8_add_40 rfl ?_
          refine va_get (D := (dC, dI)) (ci := 8) (v := .int (nI (n + 1 + 1))) (C := RX8) (T := TX8) (N := 4) hx hb hts zi_X8_add_X8 hown hK hP 0 rfl rfl 1 (by decide) (hts (.fieldLink RX8 15 "HoldTwo$Tape" "length" "I") (by decide +kernel)) (fun _ h9 => h9) rfl dX8_add_41 ?_
          refine lv_iconst (v := 1) hx hb dX8_add_44 (by decide) ?_
          refine lv_iadd hx hb dX8_add_45 ?_
          refine lv_topi (fun x_68 ex_68 => ?_)
          have ex_68 : x_68 = nI (n + 1 + 1 + 1) := ex_68.trans (nI_add _ _)
          subst ex_68
          refine va_put (D := (dC, dI)) (ci := 8) (v := .int (nI (n + 1 + 1 + 1))) (ty := .int) (C := RX8) (T := TX8) (N := 4) hx hb hts zi_X8_add_X8 tyX8 tyX8_ok nmX8 hown hK hP hD hS 0 rfl rfl 1 (by decide) (hts (.fieldLink RX8 15 "HoldTwo$Tape" "length" "I") (by decide +kernel)) (fun _ h9 => h9) rfl (by decide +kernel) rfl rfl (Nat.le_of_ble_eq_true rfl) dX8_add_46 (fun H locs hP hD hS => ?_)
          have hP : va_P (dC, dI) classes [(h0, .inr (8, [.ref h1, .int (nI (n + 1 + 1 + 1)), .int 0, .int (-1)])), (h1, .inl (cA0, 160, .inl (f_67)))] H := hP
          have hD : va_D A [(h0, .inr (8, [.ref h1, .int (nI (n + 1 + 1 + 1)), .int 0, .int (-1)])), (h1, .inl (cA0, 160, .inl (f_67)))] := hD
          refine lv_iinc (v := (-8)) (lv' := [(2, .int (-8)), (3, .int x_65), (0, .ref h0), (1, .int v0)]) hx hb dX8_add_49 hl (k := 1) rfl (by decide) (by decide) rfl (fun ls hl => ?_)
          refine lv_goto (tgt := 3) hx hb dX8_add_52 (by decide) ?_
          refine lv_iload_n hx hb dX8_add_3 rfl (lv_at hl 0 rfl) ?_
          refine lv_if_lt (tgt := 55) hx hb dX8_add_4 (by decide) (fun _ => ?_) (fun c9 => absurd (by decide) c9)
          have hP9 := hP.sub (ws' := [(h0, .inr (8, [.ref h1, .int (nI (n + 1 + 1 + 1)), .int 0, .int (-1)])), (h1, .inl (cA0, 160, .inl (f_67)))]) [0, 1] rfl
          have hD9 := hD.sub (ws' := [(h0, .inr (8, [.ref h1, .int (nI (n + 1 + 1 + 1)), .int 0, .int (-1)])), (h1, .inl (cA0, 160, .inl (f_67)))]) [0, 1] (by decide) rfl
          have hK9 := hK.sub (tys' := []) [] rfl
          refine W.widen (k := 0) (n := 0) (Nat.le_of_ble_eq_true rfl) (Nat.le_of_ble_eq_true rfl) ?_
          have hb24 : zb_i (zb_u v0 24) = 1 := by
            rw [show zb_u v0 24 = x_2 from by rw [ex_2, ex_1]; rfl]
            exact if_neg c_3
          have hb16 : zb_i (zb_u v0 16) = 1 := by
            rw [show zb_u v0 16 = x_42 from by rw [ex_42, ex_41]; rfl]
            exact if_neg c_43
          have hb8 : zb_i (zb_u v0 8) = 0 := by
            rw [show zb_u v0 8 = x_62 from by rw [ex_62, ex_61]; rfl]
            exact if_pos c_63
          have hb0 : zb_i (zb_u v0 0) = 1 := by
            rw [show zb_u v0 0 = x_65 from by rw [ex_65, ex_64]; rfl]
            exact if_neg c_66
          have hz : zb_n v0 = 3 := by unfold zb_n; rw [hb24, hb16, hb8, hb0]
          have en : nI (n + 1 + 1 + 1) = nI (n + zb_n v0) := by rw [hz]
          rw [en] at hP9 hD9
          exact W.vret hx hb hr (fun t ht hW => ⟨⟨(), rfl, trivial, f_67, by rw [ht]; exact hP9, va_K.moved hW.alike hK9, hD9⟩, hS.F ht⟩) hS.2.2 dX8_add_55
      · skip
        refine lv_aload_n hx hb dX8_add_19 rfl (lv_at hl 2 rfl) ?_
        refine va_get (D := (dC, dI)) (ci := 8) (v := .int (nI (n + 1 + 1))) (C := RX8) (T := TX8) (N := 4) hx hb hts zi_X8_add_X8 hown hK hP 0 rfl rfl 1 (by decide) (hts (.fieldLink RX8 15 "HoldTwo$Tape" "length" "I") (by decide +kernel)) (fun _ h9 => h9) rfl dX8_add_20 ?_
        refine lv_sipush (v := 160) hx hb dX8_add_23 (by decide) ?_
        refine lv_icmp_ge (tgt := 49) hx hb dX8_add_26 (by decide) (fun c9 => absurd c9 ((fun h9 => absurd ((nI_leI (a := 160) (b := n + 1 + 1) (by omega) (by omega)).mp h9) (by omega)))) (fun _ => ?_)
        refine lv_aload_n hx hb dX8_add_29 rfl (lv_at hl 2 rfl) ?_
        refine va_get (D := (dC, dI)) (ci := 8) (v := .ref h1) (C := RX8) (T := TX8) (N := 4) hx hb hts zi_X8_add_X8 hown hK hP 0 rfl rfl 0 (by decide) (hts (.fieldLink RX8 9 "HoldTwo$Tape" "signs" "[I") (by decide +kernel)) (fun _ h9 => h9) rfl dX8_add_30 ?_
        refine lv_aload_n hx hb dX8_add_33 rfl (lv_at hl 2 rfl) ?_
        refine va_get (D := (dC, dI)) (ci := 8) (v := .int (nI (n + 1 + 1))) (C := RX8) (T := TX8) (N := 4) hx hb hts zi_X8_add_X8 hown hK hP 0 rfl rfl 1 (by decide) (hts (.fieldLink RX8 15 "HoldTwo$Tape" "length" "I") (by decide +kernel)) (fun _ h9 => h9) rfl dX8_add_34 ?_
        refine lv_iload_n hx hb dX8_add_37 rfl (lv_at hl 0 rfl) ?_
        refine va_iast hx hb hK hP hD hS 1 0 rfl rfl (vp_in_nI (n := n + 1 + 1) (by omega) (by omega)) dX8_add_38 (fun H locs hP hD hS => ?_)
        obtain ⟨f_69, ef_69⟩ : ∃ f9 : Nat → Int32, f9 = upd (f_59) ((nI (n + 1 + 1)) : Int32).toNatClampNeg x_62 := ⟨_, rfl⟩
        rw [← ef_69] at hP hD
        have hP : va_P (dC, dI) classes [(h0, .inr (8, [.ref h1, .int (nI (n + 1 + 1)), .int 0, .int (-1)])), (h1, .inl (cA0, 160, .inl (f_69)))] H := hP
        have hD : va_D A [(h0, .inr (8, [.ref h1, .int (nI (n + 1 + 1)), .int 0, .int (-1)])), (h1, .inl (cA0, 160, .inl (f_69)))] := hD
        refine lv_aload_n hx hb dX8_add_39 rfl (lv_at hl 2 rfl) ?_
        refine lv_dup hx hb dX8_add_40 rfl ?_
        refine va_get (D := (dC, dI)) (ci := 8) (v := .int (nI (n + 1 + 1))) (C := RX8) (T := TX8) (N := 4) hx hb hts zi_X8_add_X8 hown hK hP 0 rfl rfl 1 (by decide) (hts (.fieldLink RX8 15 "HoldTwo$Tape" "length" "I") (by decide +kernel)) (fun _ h9 => h9) rfl dX8_add_41 ?_
        refine lv_iconst (v := 1) hx hb dX8_add_44 (by decide) ?_
        refine lv_iadd hx hb dX8_add_45 ?_
        refine lv_topi (fun x_70 ex_70 => ?_)
        have ex_70 : x_70 = nI (n + 1 + 1 + 1) := ex_70.trans (nI_add _ _)
        subst ex_70
        refine va_put (D := (dC, dI)) (ci := 8) (v := .int (nI (n + 1 + 1 + 1))) (ty := .int) (C := RX8) (T := TX8) (N := 4) hx hb hts zi_X8_add_X8 tyX8 tyX8_ok nmX8 hown hK hP hD hS 0 rfl rfl 1 (by decide) (hts (.fieldLink RX8 15 "HoldTwo$Tape" "length" "I") (by decide +kernel)) (fun _ h9 => h9) rfl (by decide +kernel) rfl rfl (Nat.le_of_ble_eq_true rfl) dX8_add_46 (fun H locs hP hD hS => ?_)
        have hP : va_P (dC, dI) classes [(h0, .inr (8, [.ref h1, .int (nI (n + 1 + 1 + 1)), .int 0, .int (-1)])), (h1, .inl (cA0, 160, .inl (f_69)))] H := hP
        have hD : va_D A [(h0, .inr (8, [.ref h1, .int (nI (n + 1 + 1 + 1)), .int 0, .int (-1)])), (h1, .inl (cA0, 160, .inl (f_69)))] := hD
        refine lv_iinc (v := 0) (lv' := [(2, .int 0), (3, .int x_62), (0, .ref h0), (1, .int v0)]) hx hb dX8_add_49 hl (k := 1) rfl (by decide) (by decide) rfl (fun ls hl => ?_)
        refine lv_goto (tgt := 3) hx hb dX8_add_52 (by decide) ?_
        refine lv_iload_n hx hb dX8_add_3 rfl (lv_at hl 0 rfl) ?_
        refine lv_if_lt (tgt := 55) hx hb dX8_add_4 (by decide) (fun c9 => absurd c9 (by decide)) (fun _ => ?_)
        refine lv_iload_n hx hb dX8_add_7 rfl (lv_at hl 3 rfl) ?_
        refine lv_iload_n hx hb dX8_add_8 rfl (lv_at hl 0 rfl) ?_
        refine lv_iushr hx hb dX8_add_9 rfl ?_
        refine lv_topi (fun x_71 ex_71 => ?_)
        refine lv_sipush (v := 255) hx hb dX8_add_10 (by decide) ?_
        refine lv_iand hx hb dX8_add_13 ?_
        refine lv_topi (fun x_72 ex_72 => ?_)
        refine lv_istore_n (lv' := [(3, .int x_72), (2, .int 0), (0, .ref h0), (1, .int v0)]) hx hb dX8_add_14 rfl hl (by decide) rfl (fun ls hl => ?_)
        refine lv_iload_n hx hb dX8_add_15 rfl (lv_at hl 0 rfl) ?_
        refine lv_if_eq (tgt := 49) hx hb dX8_add_16 (by decide) (fun c_73 => ?_) (fun c_73 => ?_)
        · skip
          refine lv_iinc (v := (-8)) (lv' := [(2, .int (-8)), (3, .int x_72), (0, .ref h0), (1, .int v0)]) hx hb dX8_add_49 hl (k := 1) rfl (by decide) (by decide) rfl (fun ls hl => ?_)
          refine lv_goto (tgt := 3) hx hb dX8_add_52 (by decide) ?_
          refine lv_iload_n hx hb dX8_add_3 rfl (lv_at hl 0 rfl) ?_
          refine lv_if_lt (tgt := 55) hx hb dX8_add_4 (by decide) (fun _ => ?_) (fun c9 => absurd (by decide) c9)
          have hP9 := hP.sub (ws' := [(h0, .inr (8, [.ref h1, .int (nI (n + 1 + 1 + 1)), .int 0, .int (-1)])), (h1, .inl (cA0, 160, .inl (f_69)))]) [0, 1] rfl
          have hD9 := hD.sub (ws' := [(h0, .inr (8, [.ref h1, .int (nI (n + 1 + 1 + 1)), .int 0, .int (-1)])), (h1, .inl (cA0, 160, .inl (f_69)))]) [0, 1] (by decide) rfl
          have hK9 := hK.sub (tys' := []) [] rfl
          refine W.widen (k := 0) (n := 0) (Nat.le_of_ble_eq_true rfl) (Nat.le_of_ble_eq_true rfl) ?_
          have hb24 : zb_i (zb_u v0 24) = 1 := by
            rw [show zb_u v0 24 = x_2 from by rw [ex_2, ex_1]; rfl]
            exact if_neg c_3
          have hb16 : zb_i (zb_u v0 16) = 1 := by
            rw [show zb_u v0 16 = x_42 from by rw [ex_42, ex_41]; rfl]
            exact if_neg c_43
          have hb8 : zb_i (zb_u v0 8) = 1 := by
            rw [show zb_u v0 8 = x_62 from by rw [ex_62, ex_61]; rfl]
            exact if_neg c_63
          have hb0 : zb_i (zb_u v0 0) = 0 := by
            rw [show zb_u v0 0 = x_72 from by rw [ex_72, ex_71]; rfl]
            exact if_pos c_73
          have hz : zb_n v0 = 3 := by unfold zb_n; rw [hb24, hb16, hb8, hb0]
          have en : nI (n + 1 + 1 + 1) = nI (n + zb_n v0) := by rw [hz]
          rw [en] at hP9 hD9
          exact W.vret hx hb hr (fun t ht hW => ⟨⟨(), rfl, trivial, f_69, by rw [ht]; exact hP9, va_K.moved hW.alike hK9, hD9⟩, hS.F ht⟩) hS.2.2 dX8_add_55
        · skip
          refine lv_aload_n hx hb dX8_add_19 rfl (lv_at hl 2 rfl) ?_
          refine va_get (D := (dC, dI)) (ci := 8) (v := .int (nI (n + 1 + 1 + 1))) (C := RX8) (T := TX8) (N := 4) hx hb hts zi_X8_add_X8 hown hK hP 0 rfl rfl 1 (by decide) (hts (.fieldLink RX8 15 "HoldTwo$Tape" "length" "I") (by decide +kernel)) (fun _ h9 => h9) rfl dX8_add_20 ?_
          refine lv_sipush (v := 160) hx hb dX8_add_23 (by decide) ?_
          refine lv_icmp_ge (tgt := 49) hx hb dX8_add_26 (by decide) (fun c9 => absurd c9 ((fun h9 => absurd ((nI_leI (a := 160) (b := n + 1 + 1 + 1) (by omega) (by omega)).mp h9) (by omega)))) (fun _ => ?_)
          refine lv_aload_n hx hb dX8_add_29 rfl (lv_at hl 2 rfl) ?_
          refine va_get (D := (dC, dI)) (ci := 8) (v := .ref h1) (C := RX8) (T := TX8) (N := 4) hx hb hts zi_X8_add_X8 hown hK hP 0 rfl rfl 0 (by decide) (hts (.fieldLink RX8 9 "HoldTwo$Tape" "signs" "[I") (by decide +kernel)) (fun _ h9 => h9) rfl dX8_add_30 ?_
          refine lv_aload_n hx hb dX8_add_33 rfl (lv_at hl 2 rfl) ?_
          refine va_get (D := (dC, dI)) (ci := 8) (v := .int (nI (n + 1 + 1 + 1))) (C := RX8) (T := TX8) (N := 4) hx hb hts zi_X8_add_X8 hown hK hP 0 rfl rfl 1 (by decide) (hts (.fieldLink RX8 15 "HoldTwo$Tape" "length" "I") (by decide +kernel)) (fun _ h9 => h9) rfl dX8_add_34 ?_
          refine lv_iload_n hx hb dX8_add_37 rfl (lv_at hl 0 rfl) ?_
          refine va_iast hx hb hK hP hD hS 1 0 rfl rfl (vp_in_nI (n := n + 1 + 1 + 1) (by omega) (by omega)) dX8_add_38 (fun H locs hP hD hS => ?_)
          obtain ⟨f_74, ef_74⟩ : ∃ f9 : Nat → Int32, f9 = upd (f_69) ((nI (n + 1 + 1 + 1)) : Int32).toNatClampNeg x_72 := ⟨_, rfl⟩
          rw [← ef_74] at hP hD
          have hP : va_P (dC, dI) classes [(h0, .inr (8, [.ref h1, .int (nI (n + 1 + 1 + 1)), .int 0, .int (-1)])), (h1, .inl (cA0, 160, .inl (f_74)))] H := hP
          have hD : va_D A [(h0, .inr (8, [.ref h1, .int (nI (n + 1 + 1 + 1)), .int 0, .int (-1)])), (h1, .inl (cA0, 160, .inl (f_74)))] := hD
          refine lv_aload_n hx hb dX8_add_39 rfl (lv_at hl 2 rfl) ?_
          refine lv_dup hx hb dX8_add_40 rfl ?_
          refine va_get (D := (dC, dI)) (ci := 8) (v := .int (nI (n + 1 + 1 + 1))) (C := RX8) (T := TX8) (N := 4) hx hb hts zi_X8_add_X8 hown hK hP 0 rfl rfl 1 (by decide) (hts (.fieldLink RX8 15 "HoldTwo$Tape" "length" "I") (by decide +kernel)) (fun _ h9 => h9) rfl dX8_add_41 ?_
          refine lv_iconst (v := 1) hx hb dX8_add_44 (by decide) ?_
          refine lv_iadd hx hb dX8_add_45 ?_
          refine lv_topi (fun x_75 ex_75 => ?_)
          have ex_75 : x_75 = nI (n + 1 + 1 + 1 + 1) := ex_75.trans (nI_add _ _)
          subst ex_75
          refine va_put (D := (dC, dI)) (ci := 8) (v := .int (nI (n + 1 + 1 + 1 + 1))) (ty := .int) (C := RX8) (T := TX8) (N := 4) hx hb hts zi_X8_add_X8 tyX8 tyX8_ok nmX8 hown hK hP hD hS 0 rfl rfl 1 (by decide) (hts (.fieldLink RX8 15 "HoldTwo$Tape" "length" "I") (by decide +kernel)) (fun _ h9 => h9) rfl (by decide +kernel) rfl rfl (Nat.le_of_ble_eq_true rfl) dX8_add_46 (fun H locs hP hD hS => ?_)
          have hP : va_P (dC, dI) classes [(h0, .inr (8, [.ref h1, .int (nI (n + 1 + 1 + 1 + 1)), .int 0, .int (-1)])), (h1, .inl (cA0, 160, .inl (f_74)))] H := hP
          have hD : va_D A [(h0, .inr (8, [.ref h1, .int (nI (n + 1 + 1 + 1 + 1)), .int 0, .int (-1)])), (h1, .inl (cA0, 160, .inl (f_74)))] := hD
          refine lv_iinc (v := (-8)) (lv' := [(2, .int (-8)), (3, .int x_72), (0, .ref h0), (1, .int v0)]) hx hb dX8_add_49 hl (k := 1) rfl (by decide) (by decide) rfl (fun ls hl => ?_)
          refine lv_goto (tgt := 3) hx hb dX8_add_52 (by decide) ?_
          refine lv_iload_n hx hb dX8_add_3 rfl (lv_at hl 0 rfl) ?_
          refine lv_if_lt (tgt := 55) hx hb dX8_add_4 (by decide) (fun _ => ?_) (fun c9 => absurd (by decide) c9)
          have hP9 := hP.sub (ws' := [(h0, .inr (8, [.ref h1, .int (nI (n + 1 + 1 + 1 + 1)), .int 0, .int (-1)])), (h1, .inl (cA0, 160, .inl (f_74)))]) [0, 1] rfl
          have hD9 := hD.sub (ws' := [(h0, .inr (8, [.ref h1, .int (nI (n + 1 + 1 + 1 + 1)), .int 0, .int (-1)])), (h1, .inl (cA0, 160, .inl (f_74)))]) [0, 1] (by decide) rfl
          have hK9 := hK.sub (tys' := []) [] rfl
          refine W.widen (k := 0) (n := 0) (Nat.le_of_ble_eq_true rfl) (Nat.le_of_ble_eq_true rfl) ?_
          have hb24 : zb_i (zb_u v0 24) = 1 := by
            rw [show zb_u v0 24 = x_2 from by rw [ex_2, ex_1]; rfl]
            exact if_neg c_3
          have hb16 : zb_i (zb_u v0 16) = 1 := by
            rw [show zb_u v0 16 = x_42 from by rw [ex_42, ex_41]; rfl]
            exact if_neg c_43
          have hb8 : zb_i (zb_u v0 8) = 1 := by
            rw [show zb_u v0 8 = x_62 from by rw [ex_62, ex_61]; rfl]
            exact if_neg c_63
          have hb0 : zb_i (zb_u v0 0) = 1 := by
            rw [show zb_u v0 0 = x_72 from by rw [ex_72, ex_71]; rfl]
            exact if_neg c_73
          have hz : zb_n v0 = 4 := by unfold zb_n; rw [hb24, hb16, hb8, hb0]
          have en : nI (n + 1 + 1 + 1 + 1) = nI (n + zb_n v0) := by rw [hz]
          rw [en] at hP9 hD9
          exact W.vret hx hb hr (fun t ht hW => ⟨⟨(), rfl, trivial, f_74, by rw [ht]; exact hP9, va_K.moved hW.alike hK9, hD9⟩, hS.F ht⟩) hS.2.2 dX8_add_55
set_option maxHeartbeats 8000000 in
set_option maxRecDepth 100000 in
theorem zk_X11_feed_t (l : Launch) (dC : Nat → ClassId) (dI : Nat → Nat → Nat) (h0 : Nat) (v0 : Int32) (v1 : Int32) (v2 : Int32) (v3 : Int32) (v4 : Int32) (h1 : Nat) (h2 : Nat) (h3 : Nat) (h4 : Nat) (h5 : Nat) (h6 : Nat) (h7 : Nat) (h8 : Nat) (h9 : Nat) (h10 : Nat) (h11 : Nat) (h12 : Nat) (h13 : Nat) (h14 : Nat) (h15 : Nat) (cA0 : ClassId) (f0 : Nat → Int32) (sz : Nat) : Met l yX11_feed wsX11_feed ({ frames := 1, cells := 0, slots := 0, locals := 23 }) (va_Pc [.ref h0, .int v0, .int v1, .int v2, .int v3, .int v4] (zw_P dC dI sz [(cA0, .int)] [(h0, .inr (11, [.ref h1, .ref h2, .ref h3, .ref h4, .ref h5, .ref h6, .ref h7, .ref h8, .ref h9, .ref h10, .ref h11, .ref h12, .ref h13, .ref h14, .int 0, .int 0])), (h1, .inr (8, [.ref h15, .int 0, .int 0, .int (-1)])), (h15, .inl (cA0, 160, .inl (f0)))])) (va_Qi (fun (r : Int32) (_ : Unit) => r = nI (0 + zb_n v0 + zb_n v1 + zb_n v2 + zb_n v3 + zb_n v4)) (fun (_ : Unit) (t : State) => zw_Q dC dI (va_A [(h0, .inr (11, [.ref h1, .ref h2, .ref h3, .ref h4, .ref h5, .ref h6, .ref h7, .ref h8, .ref h9, .ref h10, .ref h11, .ref h12, .ref h13, .ref h14, .int 0, .int 0])), (h1, .inr (8, [.ref h15, .int 0, .int 0, .int (-1)])), (h15, .inl (cA0, 160, .inl (f0)))] sz) [] [] t) (va_A [(h0, .inr (11, [.ref h1, .ref h2, .ref h3, .ref h4, .ref h5, .ref h6, .ref h7, .ref h8, .ref h9, .ref h10, .ref h11, .ref h12, .ref h13, .ref h14, .int 0, .int 0])), (h1, .inr (8, [.ref h15, .int 0, .int 0, .int (-1)])), (h15, .inl (cA0, 160, .inl (f0)))] sz)) 0 0 (va_A [(h0, .inr (11, [.ref h1, .ref h2, .ref h3, .ref h4, .ref h5, .ref h6, .ref h7, .ref h8, .ref h9, .ref h10, .ref h11, .ref h12, .ref h13, .ref h14, .int 0, .int 0])), (h1, .inr (8, [.ref h15, .int 0, .int 0, .int (-1)])), (h15, .inl (cA0, 160, .inl (f0)))] sz) := by
  refine Met.ofW (cc := cX11_feed) (maxL := 7) (ret := (some .int)) (by decide) rfl ?_
  intro p e s m args below meth c s₁ B hml hv
  obtain ⟨rfl, hsz, hP, hK, hD0, hN⟩ := hv
  have hx := B.exec
  have hb := B.bytes
  have hr := B.returns
  have hts := atoms_spec (ws := wsX11_feed) B.pre
  have hown : s.vm.findClass RX11 = some m.cls := findClass_of_methodNamed B.named
  have hlocks := B.notSynchronized
  subst hsz
  have hD := hD0.self (sz := s.heap.size)
  generalize hAe : va_A [(h0, .inr (11, [.ref h1, .ref h2, .ref h3, .ref h4, .ref h5, .ref h6, .ref h7, .ref h8, .ref h9, .ref h10, .ref h11, .ref h12, .ref h13, .ref h14, .int 0, .int 0])), (h1, .inr (8, [.ref h15, .int 0, .int 0, .int (-1)])), (h15, .inl (cA0, 160, .inl (f0)))] s.heap.size = A at hD ⊢
  have hA : ∀ q : Nat, s.heap.size ≤ q → A q := fun q h => by rw [← hAe]; exact Or.inr h
  have hP : va_P (dC, dI) classes [(h0, .inr (11, [.ref h1, .ref h2, .ref h3, .ref h4, .ref h5, .ref h6, .ref h7, .ref h8, .ref h9, .ref h10, .ref h11, .ref h12, .ref h13, .ref h14, .int 0, .int 0])), (h1, .inr (8, [.ref h15, .int 0, .int 0, .int (-1)])), (h15, .inl (cA0, 160, .inl (f0)))] s.heap := hP
  have hl := lv_entry ([.ref h0, .int v0, .int v1, .int v2, .int v3, .int v4]) (n := 7) (Nat.le_of_ble_eq_true rfl)
  rw [lg_entry_eq]
  generalize (lg_sl ([.ref h0, .int v0, .int v1, .int v2, .int v3, .int v4]) ++ List.replicate (7 - (lg_sl ([.ref h0, .int v0, .int v1, .int v2, .int v3, .int v4])).length) Slot.unset).toArray = ls at hl ⊢
  have hl : lv_has ls 7 [(0, .ref h0), (1, .int v0), (2, .int v1), (3, .int v2), (4, .int v3), (5, .int v4)] := hl
  refine zw_start (fun H eH => ?_)
  have hP : va_P (dC, dI) classes [(h0, .inr (11, [.ref h1, .ref h2, .ref h3, .ref h4, .ref h5, .ref h6, .ref h7, .ref h8, .ref h9, .ref h10, .ref h11, .ref h12, .ref h13, .ref h14, .int 0, .int 0])), (h1, .inr (8, [.ref h15, .int 0, .int 0, .int (-1)])), (h15, .inl (cA0, 160, .inl (f0)))] H := by rw [eH]; exact hP
  have hS : va_S A s.heap H [] := by rw [eH]; exact va_S.rf
  have hz0 := zb_n_le v0
  have hz1 := zb_n_le v1
  have hz2 := zb_n_le v2
  have hz3 := zb_n_le v3
  have hz4 := zb_n_le v4
  refine lv_iload_n hx hb dX11_feed_0 rfl (lv_at hl 1 rfl) ?_
  have hPc := hP.sub (ws' := []) [] rfl
  have hDc := hD.sub (ws' := []) [] (by decide) rfl
  have hKc := hK.sub (tys' := []) [] rfl
  have hFc := va_free (wc := []) hD hS hA [] rfl
  refine va_calli (va_runS (As := [.int v0]) (rest := []) ⟨hx, hb, hml, hown, hts⟩ (zk_X8_signsIn l dC dI (v0) H.size) (va_cwS 1 hts gX11_feed_X8_signsIn rfl rfl rfl (by decide +kernel) ⟨Nat.le_of_ble_eq_true rfl, Nat.le_of_ble_eq_true rfl⟩) ⟨zw_blind, fun U hU hW => ⟨rfl, zw_P.of hPc hKc hDc hN U hU hW⟩⟩ rfl rfl hl.1 rfl (lv_room (Nat.le_of_ble_eq_true rfl)) dX11_feed_1 ⟨Nat.le_of_ble_eq_true rfl, Nat.le_of_ble_eq_true rfl⟩) hS (fun q _ h => hFc q h) hFc (fun r_1 u t H1 locs ht hvm hw hB hz1 hk1 hS => ?_)
  obtain ⟨hP1, hK1, hD1⟩ := hB
  rw [ht] at hP1
  obtain ⟨hP, hD⟩ := va_join (wr := [(h0, .inr (11, [.ref h1, .ref h2, .ref h3, .ref h4, .ref h5, .ref h6, .ref h7, .ref h8, .ref h9, .ref h10, .ref h11, .ref h12, .ref h13, .ref h14, .int 0, .int 0])), (h1, .inr (8, [.ref h15, .int 0, .int 0, .int (-1)])), (h15, .inl (cA0, 160, .inl (f0)))]) (w1 := []) hP hD [] [0, 1, 2] rfl rfl (by decide) (by decide) hk1 hFc hP1 hD1
  generalize H1 = H at hP hS ⊢
  have hP : va_P (dC, dI) classes [(h0, .inr (11, [.ref h1, .ref h2, .ref h3, .ref h4, .ref h5, .ref h6, .ref h7, .ref h8, .ref h9, .ref h10, .ref h11, .ref h12, .ref h13, .ref h14, .int 0, .int 0])), (h1, .inr (8, [.ref h15, .int 0, .int 0, .int (-1)])), (h15, .inl (cA0, 160, .inl (f0)))] H := hP
  have hD : va_D A [(h0, .inr (11, [.ref h1, .ref h2, .ref h3, .ref h4, .ref h5, .ref h6, .ref h7, .ref h8, .ref h9, .ref h10, .ref h11, .ref h12, .ref h13, .ref h14, .int 0, .int 0])), (h1, .inr (8, [.ref h15, .int 0, .int 0, .int (-1)])), (h15, .inl (cA0, 160, .inl (f0)))] := hD
  obtain rfl : r_1 = (nI (zb_n v0)) := hw
  refine lv_iload_n hx hb dX11_feed_4 rfl (lv_at hl 2 rfl) ?_
  have hPc := hP.sub (ws' := []) [] rfl
  have hDc := hD.sub (ws' := []) [] (by decide) rfl
  have hKc := hK.sub (tys' := []) [] rfl
  have hFc := va_free (wc := []) hD hS hA [] rfl
  refine va_calli (va_runS (As := [.int v1]) (rest := [.int (nI (zb_n v0))]) ⟨hx, hb, hml, hown, hts⟩ (zk_X8_signsIn l dC dI (v1) H.size) (va_cwS 1 hts gX11_feed_X8_signsIn rfl rfl rfl (by decide +kernel) ⟨Nat.le_of_ble_eq_true rfl, Nat.le_of_ble_eq_true rfl⟩) ⟨zw_blind, fun U hU hW => ⟨rfl, zw_P.of hPc hKc hDc hN U hU hW⟩⟩ rfl rfl hl.1 rfl (lv_room (Nat.le_of_ble_eq_true rfl)) dX11_feed_5 ⟨Nat.le_of_ble_eq_true rfl, Nat.le_of_ble_eq_true rfl⟩) hS (fun q _ h => hFc q h) hFc (fun r_2 u t H1 locs ht hvm hw hB hz1 hk1 hS => ?_)
  obtain ⟨hP1, hK1, hD1⟩ := hB
  rw [ht] at hP1
  obtain ⟨hP, hD⟩ := va_join (wr := [(h0, .inr (11, [.ref h1, .ref h2, .ref h3, .ref h4, .ref h5, .ref h6, .ref h7, .ref h8, .ref h9, .ref h10, .ref h11, .ref h12, .ref h13, .ref h14, .int 0, .int 0])), (h1, .inr (8, [.ref h15, .int 0, .int 0, .int (-1)])), (h15, .inl (cA0, 160, .inl (f0)))]) (w1 := []) hP hD [] [0, 1, 2] rfl rfl (by decide) (by decide) hk1 hFc hP1 hD1
  generalize H1 = H at hP hS ⊢
  have hP : va_P (dC, dI) classes [(h0, .inr (11, [.ref h1, .ref h2, .ref h3, .ref h4, .ref h5, .ref h6, .ref h7, .ref h8, .ref h9, .ref h10, .ref h11, .ref h12, .ref h13, .ref h14, .int 0, .int 0])), (h1, .inr (8, [.ref h15, .int 0, .int 0, .int (-1)])), (h15, .inl (cA0, 160, .inl (f0)))] H := hP
  have hD : va_D A [(h0, .inr (11, [.ref h1, .ref h2, .ref h3, .ref h4, .ref h5, .ref h6, .ref h7, .ref h8, .ref h9, .ref h10, .ref h11, .ref h12, .ref h13, .ref h14, .int 0, .int 0])), (h1, .inr (8, [.ref h15, .int 0, .int 0, .int (-1)])), (h15, .inl (cA0, 160, .inl (f0)))] := hD
  obtain rfl : r_2 = (nI (zb_n v1)) := hw
  refine lv_iadd hx hb dX11_feed_8 ?_
  refine lv_topi (fun x_3 ex_3 => ?_)
  have ex_3 : x_3 = nI (zb_n v0 + zb_n v1) := ex_3.trans (nI_add _ _)
  subst ex_3
  refine lv_iload_n hx hb dX11_feed_9 rfl (lv_at hl 3 rfl) ?_
  have hPc := hP.sub (ws' := []) [] rfl
  have hDc := hD.sub (ws' := []) [] (by decide) rfl
  have hKc := hK.sub (tys' := []) [] rfl
  have hFc := va_free (wc := []) hD hS hA [] rfl
  refine va_calli (va_runS (As := [.int v2]) (rest := [.int (nI (zb_n v0 + zb_n v1))]) ⟨hx, hb, hml, hown, hts⟩ (zk_X8_signsIn l dC dI (v2) H.size) (va_cwS 1 hts gX11_feed_X8_signsIn rfl rfl rfl (by decide +kernel) ⟨Nat.le_of_ble_eq_true rfl, Nat.le_of_ble_eq_true rfl⟩) ⟨zw_blind, fun U hU hW => ⟨rfl, zw_P.of hPc hKc hDc hN U hU hW⟩⟩ rfl rfl hl.1 rfl (lv_room (Nat.le_of_ble_eq_true rfl)) dX11_feed_10 ⟨Nat.le_of_ble_eq_true rfl, Nat.le_of_ble_eq_true rfl⟩) hS (fun q _ h => hFc q h) hFc (fun r_4 u t H1 locs ht hvm hw hB hz1 hk1 hS => ?_)
  obtain ⟨hP1, hK1, hD1⟩ := hB
  rw [ht] at hP1
  obtain ⟨hP, hD⟩ := va_join (wr := [(h0, .inr (11, [.ref h1, .ref h2, .ref h3, .ref h4, .ref h5, .ref h6, .ref h7, .ref h8, .ref h9, .ref h10, .ref h11, .ref h12, .ref h13, .ref h14, .int 0, .int 0])), (h1, .inr (8, [.ref h15, .int 0, .int 0, .int (-1)])), (h15, .inl (cA0, 160, .inl (f0)))]) (w1 := []) hP hD [] [0, 1, 2] rfl rfl (by decide) (by decide) hk1 hFc hP1 hD1
  generalize H1 = H at hP hS ⊢
  have hP : va_P (dC, dI) classes [(h0, .inr (11, [.ref h1, .ref h2, .ref h3, .ref h4, .ref h5, .ref h6, .ref h7, .ref h8, .ref h9, .ref h10, .ref h11, .ref h12, .ref h13, .ref h14, .int 0, .int 0])), (h1, .inr (8, [.ref h15, .int 0, .int 0, .int (-1)])), (h15, .inl (cA0, 160, .inl (f0)))] H := hP
  have hD : va_D A [(h0, .inr (11, [.ref h1, .ref h2, .ref h3, .ref h4, .ref h5, .ref h6, .ref h7, .ref h8, .ref h9, .ref h10, .ref h11, .ref h12, .ref h13, .ref h14, .int 0, .int 0])), (h1, .inr (8, [.ref h15, .int 0, .int 0, .int (-1)])), (h15, .inl (cA0, 160, .inl (f0)))] := hD
  obtain rfl : r_4 = (nI (zb_n v2)) := hw
  refine lv_iadd hx hb dX11_feed_13 ?_
  refine lv_topi (fun x_5 ex_5 => ?_)
  have ex_5 : x_5 = nI (zb_n v0 + zb_n v1 + zb_n v2) := ex_5.trans (nI_add _ _)
  subst ex_5
  refine lv_iload hx hb dX11_feed_14 (lv_at hl 4 rfl) ?_
  have hPc := hP.sub (ws' := []) [] rfl
  have hDc := hD.sub (ws' := []) [] (by decide) rfl
  have hKc := hK.sub (tys' := []) [] rfl
  have hFc := va_free (wc := []) hD hS hA [] rfl
  refine va_calli (va_runS (As := [.int v3]) (rest := [.int (nI (zb_n v0 + zb_n v1 + zb_n v2))]) ⟨hx, hb, hml, hown, hts⟩ (zk_X8_signsIn l dC dI (v3) H.size) (va_cwS 1 hts gX11_feed_X8_signsIn rfl rfl rfl (by decide +kernel) ⟨Nat.le_of_ble_eq_true rfl, Nat.le_of_ble_eq_true rfl⟩) ⟨zw_blind, fun U hU hW => ⟨rfl, zw_P.of hPc hKc hDc hN U hU hW⟩⟩ rfl rfl hl.1 rfl (lv_room (Nat.le_of_ble_eq_true rfl)) dX11_feed_16 ⟨Nat.le_of_ble_eq_true rfl, Nat.le_of_ble_eq_true rfl⟩) hS (fun q _ h => hFc q h) hFc (fun r_6 u t H1 locs ht hvm hw hB hz1 hk1 hS => ?_)
  obtain ⟨hP1, hK1, hD1⟩ := hB
  rw [ht] at hP1
  obtain ⟨hP, hD⟩ := va_join (wr := [(h0, .inr (11, [.ref h1, .ref h2, .ref h3, .ref h4, .ref h5, .ref h6, .ref h7, .ref h8, .ref h9, .ref h10, .ref h11, .ref h12, .ref h13, .ref h14, .int 0, .int 0])), (h1, .inr (8, [.ref h15, .int 0, .int 0, .int (-1)])), (h15, .inl (cA0, 160, .inl (f0)))]) (w1 := []) hP hD [] [0, 1, 2] rfl rfl (by decide) (by decide) hk1 hFc hP1 hD1
  generalize H1 = H at hP hS ⊢
  have hP : va_P (dC, dI) classes [(h0, .inr (11, [.ref h1, .ref h2, .ref h3, .ref h4, .ref h5, .ref h6, .ref h7, .ref h8, .ref h9, .ref h10, .ref h11, .ref h12, .ref h13, .ref h14, .int 0, .int 0])), (h1, .inr (8, [.ref h15, .int 0, .int 0, .int (-1)])), (h15, .inl (cA0, 160, .inl (f0)))] H := hP
  have hD : va_D A [(h0, .inr (11, [.ref h1, .ref h2, .ref h3, .ref h4, .ref h5, .ref h6, .ref h7, .ref h8, .ref h9, .ref h10, .ref h11, .ref h12, .ref h13, .ref h14, .int 0, .int 0])), (h1, .inr (8, [.ref h15, .int 0, .int 0, .int (-1)])), (h15, .inl (cA0, 160, .inl (f0)))] := hD
  obtain rfl : r_6 = (nI (zb_n v3)) := hw
  refine lv_iadd hx hb dX11_feed_19 ?_
  refine lv_topi (fun x_7 ex_7 => ?_)
  have ex_7 : x_7 = nI (zb_n v0 + zb_n v1 + zb_n v2 + zb_n v3) := ex_7.trans (nI_add _ _)
  subst ex_7
  refine lv_iload hx hb dX11_feed_20 (lv_at hl 5 rfl) ?_
  have hPc := hP.sub (ws' := []) [] rfl
  have hDc := hD.sub (ws' := []) [] (by decide) rfl
  have hKc := hK.sub (tys' := []) [] rfl
  have hFc := va_free (wc := []) hD hS hA [] rfl
  refine va_calli (va_runS (As := [.int v4]) (rest := [.int (nI (zb_n v0 + zb_n v1 + zb_n v2 + zb_n v3))]) ⟨hx, hb, hml, hown, hts⟩ (zk_X8_signsIn l dC dI (v4) H.size) (va_cwS 1 hts gX11_feed_X8_signsIn rfl rfl rfl (by decide +kernel) ⟨Nat.le_of_ble_eq_true rfl, Nat.le_of_ble_eq_true rfl⟩) ⟨zw_blind, fun U hU hW => ⟨rfl, zw_P.of hPc hKc hDc hN U hU hW⟩⟩ rfl rfl hl.1 rfl (lv_room (Nat.le_of_ble_eq_true rfl)) dX11_feed_22 ⟨Nat.le_of_ble_eq_true rfl, Nat.le_of_ble_eq_true rfl⟩) hS (fun q _ h => hFc q h) hFc (fun r_8 u t H1 locs ht hvm hw hB hz1 hk1 hS => ?_)
  obtain ⟨hP1, hK1, hD1⟩ := hB
  rw [ht] at hP1
  obtain ⟨hP, hD⟩ := va_join (wr := [(h0, .inr (11, [.ref h1, .ref h2, .ref h3, .ref h4, .ref h5, .ref h6, .ref h7, .ref h8, .ref h9, .ref h10, .ref h11, .ref h12, .ref h13, .ref h14, .int 0, .int 0])), (h1, .inr (8, [.ref h15, .int 0, .int 0, .int (-1)])), (h15, .inl (cA0, 160, .inl (f0)))]) (w1 := []) hP hD [] [0, 1, 2] rfl rfl (by decide) (by decide) hk1 hFc hP1 hD1
  generalize H1 = H at hP hS ⊢
  have hP : va_P (dC, dI) classes [(h0, .inr (11, [.ref h1, .ref h2, .ref h3, .ref h4, .ref h5, .ref h6, .ref h7, .ref h8, .ref h9, .ref h10, .ref h11, .ref h12, .ref h13, .ref h14, .int 0, .int 0])), (h1, .inr (8, [.ref h15, .int 0, .int 0, .int (-1)])), (h15, .inl (cA0, 160, .inl (f0)))] H := hP
  have hD : va_D A [(h0, .inr (11, [.ref h1, .ref h2, .ref h3, .ref h4, .ref h5, .ref h6, .ref h7, .ref h8, .ref h9, .ref h10, .ref h11, .ref h12, .ref h13, .ref h14, .int 0, .int 0])), (h1, .inr (8, [.ref h15, .int 0, .int 0, .int (-1)])), (h15, .inl (cA0, 160, .inl (f0)))] := hD
  obtain rfl : r_8 = (nI (zb_n v4)) := hw
  refine lv_iadd hx hb dX11_feed_25 ?_
  refine lv_topi (fun x_9 ex_9 => ?_)
  have ex_9 : x_9 = nI (zb_n v0 + zb_n v1 + zb_n v2 + zb_n v3 + zb_n v4) := ex_9.trans (nI_add _ _)
  subst ex_9
  refine lv_istore (lv' := [(6, .int (nI (zb_n v0 + zb_n v1 + zb_n v2 + zb_n v3 + zb_n v4))), (0, .ref h0), (1, .int v0), (2, .int v1), (3, .int v2), (4, .int v3), (5, .int v4)]) hx hb dX11_feed_26 hl (by decide) rfl (fun ls hl => ?_)
  refine lv_aload_n hx hb dX11_feed_28 rfl (lv_at hl 1 rfl) ?_
  refine va_get (D := (dC, dI)) (ci := 11) (v := .ref h1) (C := RX11) (T := TX11) (N := 16) hx hb hts zi_X11_feed_X11 hown hK hP 0 rfl rfl 0 (by decide) (hts (.fieldLink RX11 10 "HoldTwo" "tape" "LHoldTwo$Tape;") (by decide +kernel)) (fun _ h9 => h9) rfl dX11_feed_29 ?_
  refine va_getN (D := (dC, dI)) (ci := 8) (v := .int 0) (C := RX8) (T := TX8) (N := 4) hx hb hts zi_X11_feed_X8 hown hK hP 1 rfl rfl 1 (by decide) (va_Nw.use rfl (hN.1 _ (List.mem_of_getElem? (i := 0) rfl))) (fun _ h9 => h9) rfl dX11_feed_32 ?_
  refine lv_iload hx hb dX11_feed_35 (lv_at hl 0 rfl) ?_
  refine lv_iadd hx hb dX11_feed_37 ?_
  refine lv_topi (fun x_10 ex_10 => ?_)
  have ex_10 : x_10 = nI (zb_n v0 + zb_n v1 + zb_n v2 + zb_n v3 + zb_n v4) := ex_10.trans (by rw [show (0 : Int32) + nI (zb_n v0 + zb_n v1 + zb_n v2 + zb_n v3 + zb_n v4) = nI (0 + (zb_n v0 + zb_n v1 + zb_n v2 + zb_n v3 + zb_n v4)) from nI_add 0 _, Nat.zero_add])
  subst ex_10
  refine lv_sipush (v := 160) hx hb dX11_feed_38 (by decide) ?_
  refine lv_icmp_le (tgt := 46) hx hb dX11_feed_41 (by decide) (fun _ => ?_) (fun c9 => absurd ((nI_leI (a := zb_n v0 + zb_n v1 + zb_n v2 + zb_n v3 + zb_n v4) (b := 160) (by omega) (by omega)).mpr (by omega)) c9)
  refine lv_aload_n hx hb dX11_feed_46 rfl (lv_at hl 1 rfl) ?_
  refine va_get (D := (dC, dI)) (ci := 11) (v := .ref h1) (C := RX11) (T := TX11) (N := 16) hx hb hts zi_X11_feed_X11 hown hK hP 0 rfl rfl 0 (by decide) (hts (.fieldLink RX11 10 "HoldTwo" "tape" "LHoldTwo$Tape;") (by decide +kernel)) (fun _ h9 => h9) rfl dX11_feed_47 ?_
  refine lv_iload_n hx hb dX11_feed_50 rfl (lv_at hl 2 rfl) ?_
  have hPc := hP.sub (ws' := [(h1, .inr (8, [.ref h15, .int 0, .int 0, .int (-1)])), (h15, .inl (cA0, 160, .inl (f0)))]) [1, 2] rfl
  have hDc := hD.sub (ws' := [(h1, .inr (8, [.ref h15, .int 0, .int 0, .int (-1)])), (h15, .inl (cA0, 160, .inl (f0)))]) [1, 2] (by decide) rfl
  have hKc := hK.sub (tys' := [(cA0, .int)]) [0] rfl
  have hFc := va_free (wc := [(h1, .inr (8, [.ref h15, .int 0, .int 0, .int (-1)])), (h15, .inl (cA0, 160, .inl (f0)))]) hD hS hA [1, 2] rfl
  refine va_callv (va_runV (As := [.int v0]) (rest := []) ⟨hx, hb, hml, hown, hts⟩ (zk_X8_add l dC dI (h1) (h15) (cA0) (f0) (v0) (0) (by omega) H.size) (cwV 1 hts gX11_feed_X8_add rfl rfl rfl (by decide +kernel) ⟨Nat.le_of_ble_eq_true rfl, Nat.le_of_ble_eq_true rfl⟩) ⟨zw_blind, va_recv hK hP (ci := 8) (q0 := 1) rfl rfl, fun U hU hW => ⟨rfl, zw_P.of hPc hKc hDc hN U hU hW⟩⟩ rfl rfl hl.1 rfl (lv_room (Nat.le_of_ble_eq_true rfl)) dX11_feed_51 ⟨Nat.le_of_ble_eq_true rfl, Nat.le_of_ble_eq_true rfl⟩) hS (fun q _ h => hFc q h) hFc (fun u t H1 locs ht hvm hw hB hz1 hk1 hS => ?_)
  obtain ⟨f_12, hP1, hK1, hD1⟩ := hB
  rw [ht] at hP1
  obtain ⟨hP, hD⟩ := va_join (wr := [(h0, .inr (11, [.ref h1, .ref h2, .ref h3, .ref h4, .ref h5, .ref h6, .ref h7, .ref h8, .ref h9, .ref h10, .ref h11, .ref h12, .ref h13, .ref h14, .int 0, .int 0]))]) (w1 := [(h1, .inr (8, [.ref h15, .int (nI (0 + zb_n v0)), .int 0, .int (-1)])), (h15, .inl (cA0, 160, .inl (f_12)))]) hP hD [1, 2] [0] rfl rfl (by decide) (by decide) hk1 hFc hP1 hD1
  generalize H1 = H at hP hS ⊢
  have hP : va_P (dC, dI) classes [(h0, .inr (11, [.ref h1, .ref h2, .ref h3, .ref h4, .ref h5, .ref h6, .ref h7, .ref h8, .ref h9, .ref h10, .ref h11, .ref h12, .ref h13, .ref h14, .int 0, .int 0])), (h1, .inr (8, [.ref h15, .int (nI (0 + zb_n v0)), .int 0, .int (-1)])), (h15, .inl (cA0, 160, .inl (f_12)))] H := hP
  have hD : va_D A [(h0, .inr (11, [.ref h1, .ref h2, .ref h3, .ref h4, .ref h5, .ref h6, .ref h7, .ref h8, .ref h9, .ref h10, .ref h11, .ref h12, .ref h13, .ref h14, .int 0, .int 0])), (h1, .inr (8, [.ref h15, .int (nI (0 + zb_n v0)), .int 0, .int (-1)])), (h15, .inl (cA0, 160, .inl (f_12)))] := hD
  refine lv_aload_n hx hb dX11_feed_54 rfl (lv_at hl 1 rfl) ?_
  refine va_get (D := (dC, dI)) (ci := 11) (v := .ref h1) (C := RX11) (T := TX11) (N := 16) hx hb hts zi_X11_feed_X11 hown hK hP 0 rfl rfl 0 (by decide) (hts (.fieldLink RX11 10 "HoldTwo" "tape" "LHoldTwo$Tape;") (by decide +kernel)) (fun _ h9 => h9) rfl dX11_feed_55 ?_
  refine lv_iload_n hx hb dX11_feed_58 rfl (lv_at hl 3 rfl) ?_
  have hPc := hP.sub (ws' := [(h1, .inr (8, [.ref h15, .int (nI (0 + zb_n v0)), .int 0, .int (-1)])), (h15, .inl (cA0, 160, .inl (f_12)))]) [1, 2] rfl
  have hDc := hD.sub (ws' := [(h1, .inr (8, [.ref h15, .int (nI (0 + zb_n v0)), .int 0, .int (-1)])), (h15, .inl (cA0, 160, .inl (f_12)))]) [1, 2] (by decide) rfl
  have hKc := hK.sub (tys' := [(cA0, .int)]) [0] rfl
  have hFc := va_free (wc := [(h1, .inr (8, [.ref h15, .int (nI (0 + zb_n v0)), .int 0, .int (-1)])), (h15, .inl (cA0, 160, .inl (f_12)))]) hD hS hA [1, 2] rfl
  refine va_callv (va_runV (As := [.int v1]) (rest := []) ⟨hx, hb, hml, hown, hts⟩ (zk_X8_add l dC dI (h1) (h15) (cA0) (f_12) (v1) (0 + zb_n v0) (by omega) H.size) (cwV 1 hts gX11_feed_X8_add rfl rfl rfl (by decide +kernel) ⟨Nat.le_of_ble_eq_true rfl, Nat.le_of_ble_eq_true rfl⟩) ⟨zw_blind, va_recv hK hP (ci := 8) (q0 := 1) rfl rfl, fun U hU hW => ⟨rfl, zw_P.of hPc hKc hDc hN U hU hW⟩⟩ rfl rfl hl.1 rfl (lv_room (Nat.le_of_ble_eq_true rfl)) dX11_feed_59 ⟨Nat.le_of_ble_eq_true rfl, Nat.le_of_ble_eq_true rfl⟩) hS (fun q _ h => hFc q h) hFc (fun u t H1 locs ht hvm hw hB hz1 hk1 hS => ?_)
  obtain ⟨f_14, hP1, hK1, hD1⟩ := hB
  rw [ht] at hP1
  obtain ⟨hP, hD⟩ := va_join (wr := [(h0, .inr (11, [.ref h1, .ref h2, .ref h3, .ref h4, .ref h5, .ref h6, .ref h7, .ref h8, .ref h9, .ref h10, .ref h11, .ref h12, .ref h13, .ref h14, .int 0, .int 0]))]) (w1 := [(h1, .inr (8, [.ref h15, .int (nI (0 + zb_n v0 + zb_n v1)), .int 0, .int (-1)])), (h15, .inl (cA0, 160, .inl (f_14)))]) hP hD [1, 2] [0] rfl rfl (by decide) (by decide) hk1 hFc hP1 hD1
  generalize H1 = H at hP hS ⊢
  have hP : va_P (dC, dI) classes [(h0, .inr (11, [.ref h1, .ref h2, .ref h3, .ref h4, .ref h5, .ref h6, .ref h7, .ref h8, .ref h9, .ref h10, .ref h11, .ref h12, .ref h13, .ref h14, .int 0, .int 0])), (h1, .inr (8, [.ref h15, .int (nI (0 + zb_n v0 + zb_n v1)), .int 0, .int (-1)])), (h15, .inl (cA0, 160, .inl (f_14)))] H := hP
  have hD : va_D A [(h0, .inr (11, [.ref h1, .ref h2, .ref h3, .ref h4, .ref h5, .ref h6, .ref h7, .ref h8, .ref h9, .ref h10, .ref h11, .ref h12, .ref h13, .ref h14, .int 0, .int 0])), (h1, .inr (8, [.ref h15, .int (nI (0 + zb_n v0 + zb_n v1)), .int 0, .int (-1)])), (h15, .inl (cA0, 160, .inl (f_14)))] := hD
  refine lv_aload_n hx hb dX11_feed_62 rfl (lv_at hl 1 rfl) ?_
  refine va_get (D := (dC, dI)) (ci := 11) (v := .ref h1) (C := RX11) (T := TX11) (N := 16) hx hb hts zi_X11_feed_X11 hown hK hP 0 rfl rfl 0 (by decide) (hts (.fieldLink RX11 10 "HoldTwo" "tape" "LHoldTwo$Tape;") (by decide +kernel)) (fun _ h9 => h9) rfl dX11_feed_63 ?_
  refine lv_iload_n hx hb dX11_feed_66 rfl (lv_at hl 4 rfl) ?_
  have hPc := hP.sub (ws' := [(h1, .inr (8, [.ref h15, .int (nI (0 + zb_n v0 + zb_n v1)), .int 0, .int (-1)])), (h15, .inl (cA0, 160, .inl (f_14)))]) [1, 2] rfl
  have hDc := hD.sub (ws' := [(h1, .inr (8, [.ref h15, .int (nI (0 + zb_n v0 + zb_n v1)), .int 0, .int (-1)])), (h15, .inl (cA0, 160, .inl (f_14)))]) [1, 2] (by decide) rfl
  have hKc := hK.sub (tys' := [(cA0, .int)]) [0] rfl
  have hFc := va_free (wc := [(h1, .inr (8, [.ref h15, .int (nI (0 + zb_n v0 + zb_n v1)), .int 0, .int (-1)])), (h15, .inl (cA0, 160, .inl (f_14)))]) hD hS hA [1, 2] rfl
  refine va_callv (va_runV (As := [.int v2]) (rest := []) ⟨hx, hb, hml, hown, hts⟩ (zk_X8_add l dC dI (h1) (h15) (cA0) (f_14) (v2) (0 + zb_n v0 + zb_n v1) (by omega) H.size) (cwV 1 hts gX11_feed_X8_add rfl rfl rfl (by decide +kernel) ⟨Nat.le_of_ble_eq_true rfl, Nat.le_of_ble_eq_true rfl⟩) ⟨zw_blind, va_recv hK hP (ci := 8) (q0 := 1) rfl rfl, fun U hU hW => ⟨rfl, zw_P.of hPc hKc hDc hN U hU hW⟩⟩ rfl rfl hl.1 rfl (lv_room (Nat.le_of_ble_eq_true rfl)) dX11_feed_67 ⟨Nat.le_of_ble_eq_true rfl, Nat.le_of_ble_eq_true rfl⟩) hS (fun q _ h => hFc q h) hFc (fun u t H1 locs ht hvm hw hB hz1 hk1 hS => ?_)
  obtain ⟨f_16, hP1, hK1, hD1⟩ := hB
  rw [ht] at hP1
  obtain ⟨hP, hD⟩ := va_join (wr := [(h0, .inr (11, [.ref h1, .ref h2, .ref h3, .ref h4, .ref h5, .ref h6, .ref h7, .ref h8, .ref h9, .ref h10, .ref h11, .ref h12, .ref h13, .ref h14, .int 0, .int 0]))]) (w1 := [(h1, .inr (8, [.ref h15, .int (nI (0 + zb_n v0 + zb_n v1 + zb_n v2)), .int 0, .int (-1)])), (h15, .inl (cA0, 160, .inl (f_16)))]) hP hD [1, 2] [0] rfl rfl (by decide) (by decide) hk1 hFc hP1 hD1
  generalize H1 = H at hP hS ⊢
  have hP : va_P (dC, dI) classes [(h0, .inr (11, [.ref h1, .ref h2, .ref h3, .ref h4, .ref h5, .ref h6, .ref h7, .ref h8, .ref h9, .ref h10, .ref h11, .ref h12, .ref h13, .ref h14, .int 0, .int 0])), (h1, .inr (8, [.ref h15, .int (nI (0 + zb_n v0 + zb_n v1 + zb_n v2)), .int 0, .int (-1)])), (h15, .inl (cA0, 160, .inl (f_16)))] H := hP
  have hD : va_D A [(h0, .inr (11, [.ref h1, .ref h2, .ref h3, .ref h4, .ref h5, .ref h6, .ref h7, .ref h8, .ref h9, .ref h10, .ref h11, .ref h12, .ref h13, .ref h14, .int 0, .int 0])), (h1, .inr (8, [.ref h15, .int (nI (0 + zb_n v0 + zb_n v1 + zb_n v2)), .int 0, .int (-1)])), (h15, .inl (cA0, 160, .inl (f_16)))] := hD
  refine lv_aload_n hx hb dX11_feed_70 rfl (lv_at hl 1 rfl) ?_
  refine va_get (D := (dC, dI)) (ci := 11) (v := .ref h1) (C := RX11) (T := TX11) (N := 16) hx hb hts zi_X11_feed_X11 hown hK hP 0 rfl rfl 0 (by decide) (hts (.fieldLink RX11 10 "HoldTwo" "tape" "LHoldTwo$Tape;") (by decide +kernel)) (fun _ h9 => h9) rfl dX11_feed_71 ?_
  refine lv_iload hx hb dX11_feed_74 (lv_at hl 5 rfl) ?_
  have hPc := hP.sub (ws' := [(h1, .inr (8, [.ref h15, .int (nI (0 + zb_n v0 + zb_n v1 + zb_n v2)), .int 0, .int (-1)])), (h15, .inl (cA0, 160, .inl (f_16)))]) [1, 2] rfl
  have hDc := hD.sub (ws' := [(h1, .inr (8, [.ref h15, .int (nI (0 + zb_n v0 + zb_n v1 + zb_n v2)), .int 0, .int (-1)])), (h15, .inl (cA0, 160, .inl (f_16)))]) [1, 2] (by decide) rfl
  have hKc := hK.sub (tys' := [(cA0, .int)]) [0] rfl
  have hFc := va_free (wc := [(h1, .inr (8, [.ref h15, .int (nI (0 + zb_n v0 + zb_n v1 + zb_n v2)), .int 0, .int (-1)])), (h15, .inl (cA0, 160, .inl (f_16)))]) hD hS hA [1, 2] rfl
  refine va_callv (va_runV (As := [.int v3]) (rest := []) ⟨hx, hb, hml, hown, hts⟩ (zk_X8_add l dC dI (h1) (h15) (cA0) (f_16) (v3) (0 + zb_n v0 + zb_n v1 + zb_n v2) (by omega) H.size) (cwV 1 hts gX11_feed_X8_add rfl rfl rfl (by decide +kernel) ⟨Nat.le_of_ble_eq_true rfl, Nat.le_of_ble_eq_true rfl⟩) ⟨zw_blind, va_recv hK hP (ci := 8) (q0 := 1) rfl rfl, fun U hU hW => ⟨rfl, zw_P.of hPc hKc hDc hN U hU hW⟩⟩ rfl rfl hl.1 rfl (lv_room (Nat.le_of_ble_eq_true rfl)) dX11_feed_76 ⟨Nat.le_of_ble_eq_true rfl, Nat.le_of_ble_eq_true rfl⟩) hS (fun q _ h => hFc q h) hFc (fun u t H1 locs ht hvm hw hB hz1 hk1 hS => ?_)
  obtain ⟨f_18, hP1, hK1, hD1⟩ := hB
  rw [ht] at hP1
  obtain ⟨hP, hD⟩ := va_join (wr := [(h0, .inr (11, [.ref h1, .ref h2, .ref h3, .ref h4, .ref h5, .ref h6, .ref h7, .ref h8, .ref h9, .ref h10, .ref h11, .ref h12, .ref h13, .ref h14, .int 0, .int 0]))]) (w1 := [(h1, .inr (8, [.ref h15, .int (nI (0 + zb_n v0 + zb_n v1 + zb_n v2 + zb_n v3)), .int 0, .int (-1)])), (h15, .inl (cA0, 160, .inl (f_18)))]) hP hD [1, 2] [0] rfl rfl (by decide) (by decide) hk1 hFc hP1 hD1
  generalize H1 = H at hP hS ⊢
  have hP : va_P (dC, dI) classes [(h0, .inr (11, [.ref h1, .ref h2, .ref h3, .ref h4, .ref h5, .ref h6, .ref h7, .ref h8, .ref h9, .ref h10, .ref h11, .ref h12, .ref h13, .ref h14, .int 0, .int 0])), (h1, .inr (8, [.ref h15, .int (nI (0 + zb_n v0 + zb_n v1 + zb_n v2 + zb_n v3)), .int 0, .int (-1)])), (h15, .inl (cA0, 160, .inl (f_18)))] H := hP
  have hD : va_D A [(h0, .inr (11, [.ref h1, .ref h2, .ref h3, .ref h4, .ref h5, .ref h6, .ref h7, .ref h8, .ref h9, .ref h10, .ref h11, .ref h12, .ref h13, .ref h14, .int 0, .int 0])), (h1, .inr (8, [.ref h15, .int (nI (0 + zb_n v0 + zb_n v1 + zb_n v2 + zb_n v3)), .int 0, .int (-1)])), (h15, .inl (cA0, 160, .inl (f_18)))] := hD
  refine lv_aload_n hx hb dX11_feed_79 rfl (lv_at hl 1 rfl) ?_
  refine va_get (D := (dC, dI)) (ci := 11) (v := .ref h1) (C := RX11) (T := TX11) (N := 16) hx hb hts zi_X11_feed_X11 hown hK hP 0 rfl rfl 0 (by decide) (hts (.fieldLink RX11 10 "HoldTwo" "tape" "LHoldTwo$Tape;") (by decide +kernel)) (fun _ h9 => h9) rfl dX11_feed_80 ?_
  refine lv_iload hx hb dX11_feed_83 (lv_at hl 6 rfl) ?_
  have hPc := hP.sub (ws' := [(h1, .inr (8, [.ref h15, .int (nI (0 + zb_n v0 + zb_n v1 + zb_n v2 + zb_n v3)), .int 0, .int (-1)])), (h15, .inl (cA0, 160, .inl (f_18)))]) [1, 2] rfl
  have hDc := hD.sub (ws' := [(h1, .inr (8, [.ref h15, .int (nI (0 + zb_n v0 + zb_n v1 + zb_n v2 + zb_n v3)), .int 0, .int (-1)])), (h15, .inl (cA0, 160, .inl (f_18)))]) [1, 2] (by decide) rfl
  have hKc := hK.sub (tys' := [(cA0, .int)]) [0] rfl
  have hFc := va_free (wc := [(h1, .inr (8, [.ref h15, .int (nI (0 + zb_n v0 + zb_n v1 + zb_n v2 + zb_n v3)), .int 0, .int (-1)])), (h15, .inl (cA0, 160, .inl (f_18)))]) hD hS hA [1, 2] rfl
  refine va_callv (va_runV (As := [.int v4]) (rest := []) ⟨hx, hb, hml, hown, hts⟩ (zk_X8_add l dC dI (h1) (h15) (cA0) (f_18) (v4) (0 + zb_n v0 + zb_n v1 + zb_n v2 + zb_n v3) (by omega) H.size) (cwV 1 hts gX11_feed_X8_add rfl rfl rfl (by decide +kernel) ⟨Nat.le_of_ble_eq_true rfl, Nat.le_of_ble_eq_true rfl⟩) ⟨zw_blind, va_recv hK hP (ci := 8) (q0 := 1) rfl rfl, fun U hU hW => ⟨rfl, zw_P.of hPc hKc hDc hN U hU hW⟩⟩ rfl rfl hl.1 rfl (lv_room (Nat.le_of_ble_eq_true rfl)) dX11_feed_85 ⟨Nat.le_of_ble_eq_true rfl, Nat.le_of_ble_eq_true rfl⟩) hS (fun q _ h => hFc q h) hFc (fun u t H1 locs ht hvm hw hB hz1 hk1 hS => ?_)
  obtain ⟨f_20, hP1, hK1, hD1⟩ := hB
  rw [ht] at hP1
  obtain ⟨hP, hD⟩ := va_join (wr := [(h0, .inr (11, [.ref h1, .ref h2, .ref h3, .ref h4, .ref h5, .ref h6, .ref h7, .ref h8, .ref h9, .ref h10, .ref h11, .ref h12, .ref h13, .ref h14, .int 0, .int 0]))]) (w1 := [(h1, .inr (8, [.ref h15, .int (nI (0 + zb_n v0 + zb_n v1 + zb_n v2 + zb_n v3 + zb_n v4)), .int 0, .int (-1)])), (h15, .inl (cA0, 160, .inl (f_20)))]) hP hD [1, 2] [0] rfl rfl (by decide) (by decide) hk1 hFc hP1 hD1
  generalize H1 = H at hP hS ⊢
  have hP : va_P (dC, dI) classes [(h0, .inr (11, [.ref h1, .ref h2, .ref h3, .ref h4, .ref h5, .ref h6, .ref h7, .ref h8, .ref h9, .ref h10, .ref h11, .ref h12, .ref h13, .ref h14, .int 0, .int 0])), (h1, .inr (8, [.ref h15, .int (nI (0 + zb_n v0 + zb_n v1 + zb_n v2 + zb_n v3 + zb_n v4)), .int 0, .int (-1)])), (h15, .inl (cA0, 160, .inl (f_20)))] H := hP
  have hD : va_D A [(h0, .inr (11, [.ref h1, .ref h2, .ref h3, .ref h4, .ref h5, .ref h6, .ref h7, .ref h8, .ref h9, .ref h10, .ref h11, .ref h12, .ref h13, .ref h14, .int 0, .int 0])), (h1, .inr (8, [.ref h15, .int (nI (0 + zb_n v0 + zb_n v1 + zb_n v2 + zb_n v3 + zb_n v4)), .int 0, .int (-1)])), (h15, .inl (cA0, 160, .inl (f_20)))] := hD
  refine lv_aload_n hx hb dX11_feed_88 rfl (lv_at hl 1 rfl) ?_
  refine va_get (D := (dC, dI)) (ci := 11) (v := .ref h1) (C := RX11) (T := TX11) (N := 16) hx hb hts zi_X11_feed_X11 hown hK hP 0 rfl rfl 0 (by decide) (hts (.fieldLink RX11 10 "HoldTwo" "tape" "LHoldTwo$Tape;") (by decide +kernel)) (fun _ h9 => h9) rfl dX11_feed_89 ?_
  refine va_getN (D := (dC, dI)) (ci := 8) (v := .int (nI (0 + zb_n v0 + zb_n v1 + zb_n v2 + zb_n v3 + zb_n v4))) (C := RX8) (T := TX8) (N := 4) hx hb hts zi_X11_feed_X8 hown hK hP 1 rfl rfl 1 (by decide) (va_Nw.use rfl (hN.1 _ (List.mem_of_getElem? (i := 0) rfl))) (fun _ h9 => h9) rfl dX11_feed_92 ?_
  have hP9 := hP.sub (ws' := []) [] rfl
  have hD9 := hD.sub (ws' := []) [] (by decide) rfl
  have hK9 := hK.sub (tys' := []) [] rfl
  refine W.widen (k := 0) (n := 0) (Nat.le_of_ble_eq_true rfl) (Nat.le_of_ble_eq_true rfl) ?_
  exact W.iret (v := (nI (0 + zb_n v0 + zb_n v1 + zb_n v2 + zb_n v3 + zb_n v4))) hx hb hr (fun t ht hW => ⟨⟨(nI (0 + zb_n v0 + zb_n v1 + zb_n v2 + zb_n v3 + zb_n v4)), (), rfl, rfl, by rw [ht]; exact hP9, va_K.moved hW.alike hK9, hD9⟩, hS.F ht⟩) hS.2.2 dX11_feed_95
