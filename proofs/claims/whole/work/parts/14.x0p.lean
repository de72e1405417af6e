def wX0_turn (post : Int32 → XS → Prop) (thr : Nat → Prop) (u : XS) (v1 : Int64) (v3 : Int64) : Prop := (wX0_isWithin (fun r1 => ((r1 = 0 → (thr 0)) ∧ (¬ r1 = 0 → (wX0_isLevel (fun r3 => ((r3 = 0 → (thr 0)) ∧ (¬ r3 = 0 → (((xNT u) ≤ 0 → (((xNT u) < 40 → (wX0_alternates (fun r7 => ((r7 = 0 → (post 0 u)) ∧ (¬ r7 = 0 → (vp_in (xNT u) 40 ∧ (vp_in (xNT u) 40 ∧ (post 1 ((vp_updL (xTT u) ((xNT u)).toNatClampNeg v1), (vp_updL (xTH u) ((xNT u)).toNatClampNeg v3), ((xNT u) + 1), (xOT u), (xOD u), (xNO u), (xPW u), (xPB u), (xNP u)))))))) u v3)) ∧ (¬ (xNT u) < 40 → (thr 1)))) ∧ (¬ (xNT u) ≤ 0 → (vp_in ((xNT u) - 1) 40 ∧ ((((xTT u) (((xNT u) - 1)).toNatClampNeg) < v1 → (((xNT u) < 40 → (wX0_alternates (fun r14 => ((r14 = 0 → (post 0 u)) ∧ (¬ r14 = 0 → (vp_in (xNT u) 40 ∧ (vp_in (xNT u) 40 ∧ (post 1 ((vp_updL (xTT u) ((xNT u)).toNatClampNeg v1), (vp_updL (xTH u) ((xNT u)).toNatClampNeg v3), ((xNT u) + 1), (xOT u), (xOD u), (xNO u), (xPW u), (xPB u), (xNP u)))))))) u v3)) ∧ (¬ (xNT u) < 40 → (thr 1)))) ∧ (¬ ((xTT u) (((xNT u) - 1)).toNatClampNeg) < v1 → (thr 0))))))))) v3)))) v1 0 20000)

set_option maxHeartbeats 4000000 in
set_option maxRecDepth 100000 in
theorem mX0_turn (l : Launch) (hst : l.stackTraces = false) (D : va_G) (cJ : ClassId) (h0 a1 a2 a3 a4 a5 a6 tC tS sz : Nat) (u : XS) (v1 : Int64) (v3 : Int64) (post : Int32 → XS → Prop) (thr : Nat → Prop) : vx_Met l yX0_turn wsX0_turn ({ frames := 6, cells := 1, slots := 6, locals := 90 } : Room) (va_Pc [.ref h0, .long v1, .long v3] (fun U => XE D cJ h0 a1 a2 a3 a4 a5 a6 tC tS sz u U ∧ wX0_turn post thr u v1 v3)) (va_Qi post (fun u9 t9 => XT D cJ h0 a1 a2 a3 a4 a5 a6 (va_A (x0W cJ h0 a1 a2 a3 a4 a5 a6 u) sz) u9 t9) (va_A (x0W cJ h0 a1 a2 a3 a4 a5 a6 u) sz)) (vx_X thr (fun E9 k9 t9 => E9 = exN k9 ∧ XT D cJ h0 a1 a2 a3 a4 a5 a6 (va_A (x0W cJ h0 a1 a2 a3 a4 a5 a6 u) sz) u t9) (va_A (x0W cJ h0 a1 a2 a3 a4 a5 a6 u) sz)) 1 6 (va_A (x0W cJ h0 a1 a2 a3 a4 a5 a6 u) sz) := by
  refine vx_ofW (cc := cX0_turn) (maxL := 5) (ret := (some .int)) (by decide +kernel) rfl ?_
  intro p e s m args below meth c s₁ B hml hout hv
  obtain ⟨rfl, ⟨hsz, hP, hK, hD0, hZ, hT⟩, hw⟩ := hv
  have hx := B.exec
  have hb := B.bytes
  have hr := B.returns
  have hts := atoms_spec (ws := wsX0_turn) B.pre
  have hown : s.vm.findClass RX0 = some m.cls := findClass_of_methodNamed B.named
  have hlocks := B.notSynchronized
  have hin : ∀ w ∈ u_ws RX0 TX0 9, w ∈ wsX0_turn := by decide +kernel
  subst hsz
  have hD := hD0.self (sz := s.heap.size)
  generalize hAe : va_A (x0W cJ h0 a1 a2 a3 a4 a5 a6 u) s.heap.size = A at hD hZ hT ⊢
  have hS : va_S A s.heap s.heap [] := va_S.rf
  have hW : XW D cJ h0 a1 a2 a3 a4 a5 a6 tC tS u s s.heap := ⟨hP, hK, hZ.narrow (fun _ h => h.elim)⟩
  have hl := lv_entry ([.ref h0, .long v1, .long v3]) (n := 5) (Nat.le_of_ble_eq_true rfl)
  rw [lg_entry_eq]
  generalize (lg_sl ([.ref h0, .long v1, .long v3]) ++ List.replicate (5 - (lg_sl ([.ref h0, .long v1, .long v3])).length) Slot.unset).toArray = ls at hl ⊢
  have hl : lv_has ls 5 [(0, .ref h0), (1, .long v1), (3, .long v3)] := hl
  unfold wX0_turn at hw
  refine lv_lload_n hx hb dX0_turn_0 rfl (lv_at hl 1 rfl) ?_
  refine lv_lconst (v := 0) hx hb dX0_turn_1 (by decide) ?_
  refine lv_ldc2 (v := 20000) hx hb hown (hts (.constantLong RX0 38 (20000)) (by decide +kernel)) dX0_turn_2 ?_
  refine pc_Si (As := [.long v1, .long 0, .long 20000]) (rest := []) ⟨hx, hb, hml, hown, hts⟩ (mX0_isWithin l v1 0 20000 _) (va_cwS 3 hts gX0_turn_X0_isWithin rfl rfl rfl (by decide +kernel) ⟨Nat.le_of_ble_eq_true rfl, Nat.le_of_ble_eq_true rfl⟩) wK_bl (fun _ _ _ => hw) rfl hl.1 rfl (Nat.le_of_ble_eq_true rfl) dX0_turn_5 ⟨Nat.le_of_ble_eq_true rfl, Nat.le_of_ble_eq_true rfl⟩ (fun r1 hw => ?_)
  obtain ⟨z_r1, hw⟩ := hw
  refine lv_if_eq (tgt := 18) hx hb dX0_turn_8 (by decide) (fun c2 => ?_) (fun c2 => ?_)
  · have hw := hw.1 c2
    exact x0_throw (k := 0) (names := ["java/lang/RuntimeException", "java/lang/Exception"]) (text := "no such time or height") hx hb hst hown (by decide +kernel) (by decide +kernel) (hts (.classLink RX0 48 "java/lang/IllegalArgumentException") (by decide +kernel)) (hts (.initialized "java/lang/IllegalArgumentException") (by decide +kernel)) (by decide +kernel) hT (fun w h => hts w (by unfold wsX0_turn; exact List.mem_cons_of_mem _ (List.mem_append_left _ (List.mem_append_right _ h)))) (by decide +kernel) (by decide +kernel) (hl.1.trans hml.symm) dX0_turn_18 dX0_turn_21 dX0_turn_22 dX0_turn_24 dX0_turn_27 hout (Nat.le_of_ble_eq_true rfl) (Nat.le_of_ble_eq_true rfl) (Nat.le_of_ble_eq_true rfl) (Nat.le_of_ble_eq_true rfl) hlocks hP hK hD rfl hw
  · have hw := hw.2 c2
    refine lv_lload_n hx hb dX0_turn_11 rfl (lv_at hl 2 rfl) ?_
    refine pc_Si (As := [.long v3]) (rest := []) ⟨hx, hb, hml, hown, hts⟩ (mX0_isLevel l v3 _) (va_cwS 1 hts gX0_turn_X0_isLevel rfl rfl rfl (by decide +kernel) ⟨Nat.le_of_ble_eq_true rfl, Nat.le_of_ble_eq_true rfl⟩) wK_bl (fun _ _ _ => hw) rfl hl.1 rfl (Nat.le_of_ble_eq_true rfl) dX0_turn_12 ⟨Nat.le_of_ble_eq_true rfl, Nat.le_of_ble_eq_true rfl⟩ (fun r3 hw => ?_)
    obtain ⟨z_r3, hw⟩ := hw
    refine lv_if_ne (tgt := 28) hx hb dX0_turn_15 (by decide) (fun c4 => ?_) (fun c4 => ?_)
    · have hw := hw.2 c4
      refine lv_aload_n hx hb dX0_turn_28 rfl (lv_at hl 0 rfl) ?_
      refine va_get (D := D) (ci := 0) (v := .int (xNT u)) (C := RX0) (T := TX0) (N := 9) hx hb hts hin hown hK hP 0 rfl rfl 2 (by decide) (hts (.fieldLink RX0 16 "TideDepths" "turns" "I") (by decide +kernel)) (fun _ h9 => h9) rfl dX0_turn_29 ?_
      refine lv_if_le (tgt := 61) hx hb dX0_turn_32 (by decide) (fun c5 => ?_) (fun c5 => ?_)
      · have hw := hw.1 c5
        refine lv_aload_n hx hb dX0_turn_61 rfl (lv_at hl 0 rfl) ?_
        refine va_get (D := D) (ci := 0) (v := .int (xNT u)) (C := RX0) (T := TX0) (N := 9) hx hb hts hin hown hK hP 0 rfl rfl 2 (by decide) (hts (.fieldLink RX0 16 "TideDepths" "turns" "I") (by decide +kernel)) (fun _ h9 => h9) rfl dX0_turn_62 ?_
        refine lv_bipush (v := 40) hx hb dX0_turn_65 (by decide) ?_
        refine lv_icmp_lt (tgt := 80) hx hb dX0_turn_67 (by decide) (fun c6 => ?_) (fun c6 => ?_)
        · have hw := hw.1 c6
          refine lv_aload_n hx hb dX0_turn_80 rfl (lv_at hl 0 rfl) ?_
          refine lv_lload_n hx hb dX0_turn_81 rfl (lv_at hl 2 rfl) ?_
          refine pc_Vi (As := [.long v3]) (rest := []) ⟨hx, hb, hml, hown, hts⟩ (mX0_alternates l D cJ h0 a1 a2 a3 a4 a5 a6 tC tS u v3 _) (cwV 1 hts gX0_turn_X0_alternates rfl rfl rfl (by decide +kernel) ⟨Nat.le_of_ble_eq_true rfl, Nat.le_of_ble_eq_true rfl⟩) (wX_rc hW) wX_bl (wX_in hW hw) rfl hl.1 rfl (Nat.le_of_ble_eq_true rfl) dX0_turn_82 ⟨Nat.le_of_ble_eq_true rfl, Nat.le_of_ble_eq_true rfl⟩ (fun r7 hw => ?_)
          obtain ⟨z_r7, hw⟩ := hw
          refine lv_if_ne (tgt := 90) hx hb dX0_turn_85 (by decide) (fun c8 => ?_) (fun c8 => ?_)
          · have hw := hw.2 c8
            refine lv_aload_n hx hb dX0_turn_90 rfl (lv_at hl 0 rfl) ?_
            refine va_get (D := D) (ci := 0) (v := .ref a1) (C := RX0) (T := TX0) (N := 9) hx hb hts hin hown hK hP 0 rfl rfl 0 (by decide) (hts (.fieldLink RX0 9 "TideDepths" "turnTimes" "[J") (by decide +kernel)) (fun _ h9 => h9) rfl dX0_turn_91 ?_
            refine lv_aload_n hx hb dX0_turn_94 rfl (lv_at hl 0 rfl) ?_
            refine va_get (D := D) (ci := 0) (v := .int (xNT u)) (C := RX0) (T := TX0) (N := 9) hx hb hts hin hown hK hP 0 rfl rfl 2 (by decide) (hts (.fieldLink RX0 16 "TideDepths" "turns" "I") (by decide +kernel)) (fun _ h9 => h9) rfl dX0_turn_95 ?_
            refine lv_lload_n hx hb dX0_turn_98 rfl (lv_at hl 1 rfl) ?_
            obtain ⟨h9, hw⟩ := hw
            refine va_last hx hb hK hP hD hS 1 0 rfl rfl h9 dX0_turn_99 (fun H locs hP hD hS => ?_)
            have hP : va_P D cls2 (x0W cJ h0 a1 a2 a3 a4 a5 a6 ((vp_updL (xTT u) ((xNT u)).toNatClampNeg v1), (xTH u), (xNT u), (xOT u), (xOD u), (xNO u), (xPW u), (xPB u), (xNP u))) H := hP
            have hD : va_D A (x0W cJ h0 a1 a2 a3 a4 a5 a6 ((vp_updL (xTT u) ((xNT u)).toNatClampNeg v1), (xTH u), (xNT u), (xOT u), (xOD u), (xNO u), (xPW u), (xPB u), (xNP u))) := hD
            have hW : XW D cJ h0 a1 a2 a3 a4 a5 a6 tC tS ((vp_updL (xTT u) ((xNT u)).toNatClampNeg v1), (xTH u), (xNT u), (xOT u), (xOD u), (xNO u), (xPW u), (xPB u), (xNP u)) s H := ⟨hP, hK, (SW.kept hZ hS.2.1).narrow (fun _ h => h.elim)⟩
            refine lv_aload_n hx hb dX0_turn_100 rfl (lv_at hl 0 rfl) ?_
            refine va_get (D := D) (ci := 0) (v := .ref a2) (C := RX0) (T := TX0) (N := 9) hx hb hts hin hown hK hP 0 rfl rfl 1 (by decide) (hts (.fieldLink RX0 13 "TideDepths" "turnHeights" "[J") (by decide +kernel)) (fun _ h9 => h9) rfl dX0_turn_101 ?_
            refine lv_aload_n hx hb dX0_turn_104 rfl (lv_at hl 0 rfl) ?_
            refine va_get (D := D) (ci := 0) (v := .int (xNT u)) (C := RX0) (T := TX0) (N := 9) hx hb hts hin hown hK hP 0 rfl rfl 2 (by decide) (hts (.fieldLink RX0 16 "TideDepths" "turns" "I") (by decide +kernel)) (fun _ h9 => h9) rfl dX0_turn_105 ?_
            refine lv_lload_n hx hb dX0_turn_108 rfl (lv_at hl 2 rfl) ?_
            obtain ⟨h10, hw⟩ := hw
            refine va_last hx hb hK hP hD hS 2 0 rfl rfl h10 dX0_turn_109 (fun H locs hP hD hS => ?_)
            have hP : va_P D cls2 (x0W cJ h0 a1 a2 a3 a4 a5 a6 ((vp_updL (xTT u) ((xNT u)).toNatClampNeg v1), (vp_updL (xTH u) ((xNT u)).toNatClampNeg v3), (xNT u), (xOT u), (xOD u), (xNO u), (xPW u), (xPB u), (xNP u))) H := hP
            have hD : va_D A (x0W cJ h0 a1 a2 a3 a4 a5 a6 ((vp_updL (xTT u) ((xNT u)).toNatClampNeg v1), (vp_updL (xTH u) ((xNT u)).toNatClampNeg v3), (xNT u), (xOT u), (xOD u), (xNO u), (xPW u), (xPB u), (xNP u))) := hD
            have hW : XW D cJ h0 a1 a2 a3 a4 a5 a6 tC tS ((vp_updL (xTT u) ((xNT u)).toNatClampNeg v1), (vp_updL (xTH u) ((xNT u)).toNatClampNeg v3), (xNT u), (xOT u), (xOD u), (xNO u), (xPW u), (xPB u), (xNP u)) s H := ⟨hP, hK, (SW.kept hZ hS.2.1).narrow (fun _ h => h.elim)⟩
            refine lv_aload_n hx hb dX0_turn_110 rfl (lv_at hl 0 rfl) ?_
            refine lv_dup hx hb dX0_turn_111 rfl ?_
            refine va_get (D := D) (ci := 0) (v := .int (xNT u)) (C := RX0) (T := TX0) (N := 9) hx hb hts hin hown hK hP 0 rfl rfl 2 (by decide) (hts (.fieldLink RX0 16 "TideDepths" "turns" "I") (by decide +kernel)) (fun _ h9 => h9) rfl dX0_turn_112 ?_
            refine lv_iconst (v := 1) hx hb dX0_turn_115 (by decide) ?_
            refine lv_iadd hx hb dX0_turn_116 ?_
            refine va_put (D := D) (ci := 0) (v := .int ((xNT u) + 1)) (ty := .int) (C := RX0) (T := TX0) (N := 9) hx hb hts hin tyX0 tyX0_ok nmX0 hown hK hP hD hS 0 rfl rfl 2 (by decide) (hts (.fieldLink RX0 16 "TideDepths" "turns" "I") (by decide +kernel)) (fun _ h9 => h9) rfl (by decide +kernel) rfl rfl (Nat.le_of_ble_eq_true rfl) dX0_turn_117 (fun H locs hP hD hS => ?_)
            have hP : va_P D cls2 (x0W cJ h0 a1 a2 a3 a4 a5 a6 ((vp_updL (xTT u) ((xNT u)).toNatClampNeg v1), (vp_updL (xTH u) ((xNT u)).toNatClampNeg v3), ((xNT u) + 1), (xOT u), (xOD u), (xNO u), (xPW u), (xPB u), (xNP u))) H := hP
            have hD : va_D A (x0W cJ h0 a1 a2 a3 a4 a5 a6 ((vp_updL (xTT u) ((xNT u)).toNatClampNeg v1), (vp_updL (xTH u) ((xNT u)).toNatClampNeg v3), ((xNT u) + 1), (xOT u), (xOD u), (xNO u), (xPW u), (xPB u), (xNP u))) := hD
            have hW : XW D cJ h0 a1 a2 a3 a4 a5 a6 tC tS ((vp_updL (xTT u) ((xNT u)).toNatClampNeg v1), (vp_updL (xTH u) ((xNT u)).toNatClampNeg v3), ((xNT u) + 1), (xOT u), (xOD u), (xNO u), (xPW u), (xPB u), (xNP u)) s H := ⟨hP, hK, (SW.kept hZ hS.2.1).narrow (fun _ h => h.elim)⟩
            refine lv_iconst (v := 1) hx hb dX0_turn_120 (by decide) ?_
            refine W.widen (k := 1) (n := 6) (Nat.le_of_ble_eq_true rfl) (Nat.le_of_ble_eq_true rfl) ?_
            exact vx_ret (W.iret (v := 1) hx hb hr (fun t ht hWm => ⟨⟨1, ((vp_updL (xTT u) ((xNT u)).toNatClampNeg v1), (vp_updL (xTH u) ((xNT u)).toNatClampNeg v3), ((xNT u) + 1), (xOT u), (xOD u), (xNO u), (xPW u), (xPB u), (xNP u)), rfl, hw, by rw [ht]; exact hP, va_K.moved hWm.alike hK, hD⟩, hS.F ht⟩) hS.2.2 dX0_turn_121)
          · have hw := hw.1 c8
            refine lv_iconst (v := 0) hx hb dX0_turn_88 (by decide) ?_
            refine W.widen (k := 1) (n := 6) (Nat.le_of_ble_eq_true rfl) (Nat.le_of_ble_eq_true rfl) ?_
            exact vx_ret (W.iret (v := 0) hx hb hr (fun t ht hWm => ⟨⟨0, u, rfl, hw, by rw [ht]; exact hP, va_K.moved hWm.alike hK, hD⟩, hS.F ht⟩) hS.2.2 dX0_turn_89)
        · have hw := hw.2 c6
          exact x0_throw (k := 1) (names := ["java/lang/RuntimeException", "java/lang/Exception"]) (text := "no room for a turn") hx hb hst hown (by decide +kernel) (by decide +kernel) (hts (.classLink RX0 57 "java/lang/IllegalStateException") (by decide +kernel)) (hts (.initialized "java/lang/IllegalStateException") (by decide +kernel)) (by decide +kernel) hT (fun w h => hts w (by unfold wsX0_turn; exact List.mem_cons_of_mem _ (List.mem_append_right _ h))) (by decide +kernel) (by decide +kernel) (hl.1.trans hml.symm) dX0_turn_70 dX0_turn_73 dX0_turn_74 dX0_turn_76 dX0_turn_79 hout (Nat.le_of_ble_eq_true rfl) (Nat.le_of_ble_eq_true rfl) (Nat.le_of_ble_eq_true rfl) (Nat.le_of_ble_eq_true rfl) hlocks hP hK hD rfl hw
      · have hw := hw.2 c5
        refine lv_lload_n hx hb dX0_turn_35 rfl (lv_at hl 1 rfl) ?_
        refine lv_aload_n hx hb dX0_turn_36 rfl (lv_at hl 0 rfl) ?_
        refine va_get (D := D) (ci := 0) (v := .ref a1) (C := RX0) (T := TX0) (N := 9) hx hb hts hin hown hK hP 0 rfl rfl 0 (by decide) (hts (.fieldLink RX0 9 "TideDepths" "turnTimes" "[J") (by decide +kernel)) (fun _ h9 => h9) rfl dX0_turn_37 ?_
        refine lv_aload_n hx hb dX0_turn_40 rfl (lv_at hl 0 rfl) ?_
        refine va_get (D := D) (ci := 0) (v := .int (xNT u)) (C := RX0) (T := TX0) (N := 9) hx hb hts hin hown hK hP 0 rfl rfl 2 (by decide) (hts (.fieldLink RX0 16 "TideDepths" "turns" "I") (by decide +kernel)) (fun _ h9 => h9) rfl dX0_turn_41 ?_
        refine lv_iconst (v := 1) hx hb dX0_turn_44 (by decide) ?_
        refine lv_isub hx hb dX0_turn_45 ?_
        obtain ⟨h11, hw⟩ := hw
        refine va_lald hx hb hK hP 1 0 rfl rfl h11 dX0_turn_46 ?_
        refine bl_gt (tgt := 61) hx hb dX0_turn_47 dX0_turn_48 (by decide) (fun c12 => ?_) (fun c12 => ?_)
        · have hw := hw.1 c12
          refine lv_aload_n hx hb dX0_turn_61 rfl (lv_at hl 0 rfl) ?_
          refine va_get (D := D) (ci := 0) (v := .int (xNT u)) (C := RX0) (T := TX0) (N := 9) hx hb hts hin hown hK hP 0 rfl rfl 2 (by decide) (hts (.fieldLink RX0 16 "TideDepths" "turns" "I") (by decide +kernel)) (fun _ h9 => h9) rfl dX0_turn_62 ?_
          refine lv_bipush (v := 40) hx hb dX0_turn_65 (by decide) ?_
          refine lv_icmp_lt (tgt := 80) hx hb dX0_turn_67 (by decide) (fun c13 => ?_) (fun c13 => ?_)
          · have hw := hw.1 c13
            refine lv_aload_n hx hb dX0_turn_80 rfl (lv_at hl 0 rfl) ?_
            refine lv_lload_n hx hb dX0_turn_81 rfl (lv_at hl 2 rfl) ?_
            refine pc_Vi (As := [.long v3]) (rest := []) ⟨hx, hb, hml, hown, hts⟩ (mX0_alternates l D cJ h0 a1 a2 a3 a4 a5 a6 tC tS u v3 _) (cwV 1 hts gX0_turn_X0_alternates rfl rfl rfl (by decide +kernel) ⟨Nat.le_of_ble_eq_true rfl, Nat.le_of_ble_eq_true rfl⟩) (wX_rc hW) wX_bl (wX_in hW hw) rfl hl.1 rfl (Nat.le_of_ble_eq_true rfl) dX0_turn_82 ⟨Nat.le_of_ble_eq_true rfl, Nat.le_of_ble_eq_true rfl⟩ (fun r14 hw => ?_)
            obtain ⟨z_r14, hw⟩ := hw
            refine lv_if_ne (tgt := 90) hx hb dX0_turn_85 (by decide) (fun c15 => ?_) (fun c15 => ?_)
            · have hw := hw.2 c15
              refine lv_aload_n hx hb dX0_turn_90 rfl (lv_at hl 0 rfl) ?_
              refine va_get (D := D) (ci := 0) (v := .ref a1) (C := RX0) (T := TX0) (N := 9) hx hb hts hin hown hK hP 0 rfl rfl 0 (by decide) (hts (.fieldLink RX0 9 "TideDepths" "turnTimes" "[J") (by decide +kernel)) (fun _ h9 => h9) rfl dX0_turn_91 ?_
              refine lv_aload_n hx hb dX0_turn_94 rfl (lv_at hl 0 rfl) ?_
              refine va_get (D := D) (ci := 0) (v := .int (xNT u)) (C := RX0) (T := TX0) (N := 9) hx hb hts hin hown hK hP 0 rfl rfl 2 (by decide) (hts (.fieldLink RX0 16 "TideDepths" "turns" "I") (by decide +kernel)) (fun _ h9 => h9) rfl dX0_turn_95 ?_
              refine lv_lload_n hx hb dX0_turn_98 rfl (lv_at hl 1 rfl) ?_
              obtain ⟨h16, hw⟩ := hw
              refine va_last hx hb hK hP hD hS 1 0 rfl rfl h16 dX0_turn_99 (fun H locs hP hD hS => ?_)
              have hP : va_P D cls2 (x0W cJ h0 a1 a2 a3 a4 a5 a6 ((vp_updL (xTT u) ((xNT u)).toNatClampNeg v1), (xTH u), (xNT u), (xOT u), (xOD u), (xNO u), (xPW u), (xPB u), (xNP u))) H := hP
              have hD : va_D A (x0W cJ h0 a1 a2 a3 a4 a5 a6 ((vp_updL (xTT u) ((xNT u)).toNatClampNeg v1), (xTH u), (xNT u), (xOT u), (xOD u), (xNO u), (xPW u), (xPB u), (xNP u))) := hD
              have hW : XW D cJ h0 a1 a2 a3 a4 a5 a6 tC tS ((vp_updL (xTT u) ((xNT u)).toNatClampNeg v1), (xTH u), (xNT u), (xOT u), (xOD u), (xNO u), (xPW u), (xPB u), (xNP u)) s H := ⟨hP, hK, (SW.kept hZ hS.2.1).narrow (fun _ h => h.elim)⟩
              refine lv_aload_n hx hb dX0_turn_100 rfl (lv_at hl 0 rfl) ?_
              refine va_get (D := D) (ci := 0) (v := .ref a2) (C := RX0) (T := TX0) (N := 9) hx hb hts hin hown hK hP 0 rfl rfl 1 (by decide) (hts (.fieldLink RX0 13 "TideDepths" "turnHeights" "[J") (by decide +kernel)) (fun _ h9 => h9) rfl dX0_turn_101 ?_
              refine lv_aload_n hx hb dX0_turn_104 rfl (lv_at hl 0 rfl) ?_
              refine va_get (D := D) (ci := 0) (v := .int (xNT u)) (C := RX0) (T := TX0) (N := 9) hx hb hts hin hown hK hP 0 rfl rfl 2 (by decide) (hts (.fieldLink RX0 16 "TideDepths" "turns" "I") (by decide +kernel)) (fun _ h9 => h9) rfl dX0_turn_105 ?_
              refine lv_lload_n hx hb dX0_turn_108 rfl (lv_at hl 2 rfl) ?_
              obtain ⟨h17, hw⟩ := hw
              refine va_last hx hb hK hP hD hS 2 0 rfl rfl h17 dX0_turn_109 (fun H locs hP hD hS => ?_)
              have hP : va_P D cls2 (x0W cJ h0 a1 a2 a3 a4 a5 a6 ((vp_updL (xTT u) ((xNT u)).toNatClampNeg v1), (vp_updL (xTH u) ((xNT u)).toNatClampNeg v3), (xNT u), (xOT u), (xOD u), (xNO u), (xPW u), (xPB u), (xNP u))) H := hP
              have hD : va_D A (x0W cJ h0 a1 a2 a3 a4 a5 a6 ((vp_updL (xTT u) ((xNT u)).toNatClampNeg v1), (vp_updL (xTH u) ((xNT u)).toNatClampNeg v3), (xNT u), (xOT u), (xOD u), (xNO u), (xPW u), (xPB u), (xNP u))) := hD
              have hW : XW D cJ h0 a1 a2 a3 a4 a5 a6 tC tS ((vp_updL (xTT u) ((xNT u)).toNatClampNeg v1), (vp_updL (xTH u) ((xNT u)).toNatClampNeg v3), (xNT u), (xOT u), (xOD u), (xNO u), (xPW u), (xPB u), (xNP u)) s H := ⟨hP, hK, (SW.kept hZ hS.2.1).narrow (fun _ h => h.elim)⟩
              refine lv_aload_n hx hb dX0_turn_110 rfl (lv_at hl 0 rfl) ?_
              refine lv_dup hx hb dX0_turn_111 rfl ?_
              refine va_get (D := D) (ci := 0) (v := .int (xNT u)) (C := RX0) (T := TX0) (N := 9) hx hb hts hin hown hK hP 0 rfl rfl 2 (by decide) (hts (.fieldLink RX0 16 "TideDepths" "turns" "I") (by decide +kernel)) (fun _ h9 => h9) rfl dX0_turn_112 ?_
              refine lv_iconst (v := 1) hx hb dX0_turn_115 (by decide) ?_
              refine lv_iadd hx hb dX0_turn_116 ?_
              refine va_put (D := D) (ci := 0) (v := .int ((xNT u) + 1)) (ty := .int) (C := RX0) (T := TX0) (N := 9) hx hb hts hin tyX0 tyX0_ok nmX0 hown hK hP hD hS 0 rfl rfl 2 (by decide) (hts (.fieldLink RX0 16 "TideDepths" "turns" "I") (by decide +kernel)) (fun _ h9 => h9) rfl (by decide +kernel) rfl rfl (Nat.le_of_ble_eq_true rfl) dX0_turn_117 (fun H locs hP hD hS => ?_)
              have hP : va_P D cls2 (x0W cJ h0 a1 a2 a3 a4 a5 a6 ((vp_updL (xTT u) ((xNT u)).toNatClampNeg v1), (vp_updL (xTH u) ((xNT u)).toNatClampNeg v3), ((xNT u) + 1), (xOT u), (xOD u), (xNO u), (xPW u), (xPB u), (xNP u))) H := hP
              have hD : va_D A (x0W cJ h0 a1 a2 a3 a4 a5 a6 ((vp_updL (xTT u) ((xNT u)).toNatClampNeg v1), (vp_updL (xTH u) ((xNT u)).toNatClampNeg v3), ((xNT u) + 1), (xOT u), (xOD u), (xNO u), (xPW u), (xPB u), (xNP u))) := hD
              have hW : XW D cJ h0 a1 a2 a3 a4 a5 a6 tC tS ((vp_updL (xTT u) ((xNT u)).toNatClampNeg v1), (vp_updL (xTH u) ((xNT u)).toNatClampNeg v3), ((xNT u) + 1), (xOT u), (xOD u), (xNO u), (xPW u), (xPB u), (xNP u)) s H := ⟨hP, hK, (SW.kept hZ hS.2.1).narrow (fun _ h => h.elim)⟩
              refine lv_iconst (v := 1) hx hb dX0_turn_120 (by decide) ?_
              refine W.widen (k := 1) (n := 6) (Nat.le_of_ble_eq_true rfl) (Nat.le_of_ble_eq_true rfl) ?_
              exact vx_ret (W.iret (v := 1) hx hb hr (fun t ht hWm => ⟨⟨1, ((vp_updL (xTT u) ((xNT u)).toNatClampNeg v1), (vp_updL (xTH u) ((xNT u)).toNatClampNeg v3), ((xNT u) + 1), (xOT u), (xOD u), (xNO u), (xPW u), (xPB u), (xNP u)), rfl, hw, by rw [ht]; exact hP, va_K.moved hWm.alike hK, hD⟩, hS.F ht⟩) hS.2.2 dX0_turn_121)
            · have hw := hw.1 c15
              refine lv_iconst (v := 0) hx hb dX0_turn_88 (by decide) ?_
              refine W.widen (k := 1) (n := 6) (Nat.le_of_ble_eq_true rfl) (Nat.le_of_ble_eq_true rfl) ?_
              exact vx_ret (W.iret (v := 0) hx hb hr (fun t ht hWm => ⟨⟨0, u, rfl, hw, by rw [ht]; exact hP, va_K.moved hWm.alike hK, hD⟩, hS.F ht⟩) hS.2.2 dX0_turn_89)
          · have hw := hw.2 c13
            exact x0_throw (k := 1) (names := ["java/lang/RuntimeException", "java/lang/Exception"]) (text := "no room for a turn") hx hb hst hown (by decide +kernel) (by decide +kernel) (hts (.classLink RX0 57 "java/lang/IllegalStateException") (by decide +kernel)) (hts (.initialized "java/lang/IllegalStateException") (by decide +kernel)) (by decide +kernel) hT (fun w h => hts w (by unfold wsX0_turn; exact List.mem_cons_of_mem _ (List.mem_append_right _ h))) (by decide +kernel) (by decide +kernel) (hl.1.trans hml.symm) dX0_turn_70 dX0_turn_73 dX0_turn_74 dX0_turn_76 dX0_turn_79 hout (Nat.le_of_ble_eq_true rfl) (Nat.le_of_ble_eq_true rfl) (Nat.le_of_ble_eq_true rfl) (Nat.le_of_ble_eq_true rfl) hlocks hP hK hD rfl hw
        · have hw := hw.2 c12
          exact x0_throw (k := 0) (names := ["java/lang/RuntimeException", "java/lang/Exception"]) (text := "not behind the last turn") hx hb hst hown (by decide +kernel) (by decide +kernel) (hts (.classLink RX0 48 "java/lang/IllegalArgumentException") (by decide +kernel)) (hts (.initialized "java/lang/IllegalArgumentException") (by decide +kernel)) (by decide +kernel) hT (fun w h => hts w (by unfold wsX0_turn; exact List.mem_cons_of_mem _ (List.mem_append_left _ (List.mem_append_right _ h)))) (by decide +kernel) (by decide +kernel) (hl.1.trans hml.symm) dX0_turn_51 dX0_turn_54 dX0_turn_55 dX0_turn_57 dX0_turn_60 hout (Nat.le_of_ble_eq_true rfl) (Nat.le_of_ble_eq_true rfl) (Nat.le_of_ble_eq_true rfl) (Nat.le_of_ble_eq_true rfl) hlocks hP hK hD rfl hw
    · have hw := hw.1 c4
      exact x0_throw (k := 0) (names := ["java/lang/RuntimeException", "java/lang/Exception"]) (text := "no such time or height") hx hb hst hown (by decide +kernel) (by decide +kernel) (hts (.classLink RX0 48 "java/lang/IllegalArgumentException") (by decide +kernel)) (hts (.initialized "java/lang/IllegalArgumentException") (by decide +kernel)) (by decide +kernel) hT (fun w h => hts w (by unfold wsX0_turn; exact List.mem_cons_of_mem _ (List.mem_append_left _ (List.mem_append_right _ h)))) (by decide +kernel) (by decide +kernel) (hl.1.trans hml.symm) dX0_turn_18 dX0_turn_21 dX0_turn_22 dX0_turn_24 dX0_turn_27 hout (Nat.le_of_ble_eq_true rfl) (Nat.le_of_ble_eq_true rfl) (Nat.le_of_ble_eq_true rfl) (Nat.le_of_ble_eq_true rfl) hlocks hP hK hD rfl hw

def wX0_height (post : Int64 → XS → Prop) (thr : Nat → Prop) (u : XS) (v1 : Int64) : Prop := (wX0_isInTable (fun r1 => ((r1 = 0 → (thr 0)) ∧ (¬ r1 = 0 → (wX0_heightAt (fun r3 => (post r3 u)) u v1)))) u v1)

set_option maxHeartbeats 4000000 in
set_option maxRecDepth 100000 in
theorem mX0_height (l : Launch) (hst : l.stackTraces = false) (D : va_G) (cJ : ClassId) (h0 a1 a2 a3 a4 a5 a6 tC tS sz : Nat) (u : XS) (v1 : Int64) (post : Int64 → XS → Prop) (thr : Nat → Prop) : vx_Met l yX0_height wsX0_height ({ frames := 6, cells := 1, slots := 6, locals := 90 } : Room) (va_Pc [.ref h0, .long v1] (fun U => XE D cJ h0 a1 a2 a3 a4 a5 a6 tC tS sz u U ∧ wX0_height post thr u v1)) (va_Ql post (fun u9 t9 => XT D cJ h0 a1 a2 a3 a4 a5 a6 (va_A (x0W cJ h0 a1 a2 a3 a4 a5 a6 u) sz) u9 t9) (va_A (x0W cJ h0 a1 a2 a3 a4 a5 a6 u) sz)) (vx_X thr (fun E9 k9 t9 => E9 = exN k9 ∧ XT D cJ h0 a1 a2 a3 a4 a5 a6 (va_A (x0W cJ h0 a1 a2 a3 a4 a5 a6 u) sz) u t9) (va_A (x0W cJ h0 a1 a2 a3 a4 a5 a6 u) sz)) 1 6 (va_A (x0W cJ h0 a1 a2 a3 a4 a5 a6 u) sz) := by
  refine vx_ofW (cc := cX0_height) (maxL := 3) (ret := (some .long)) (by decide +kernel) rfl ?_
  intro p e s m args below meth c s₁ B hml hout hv
  obtain ⟨rfl, ⟨hsz, hP, hK, hD0, hZ, hT⟩, hw⟩ := hv
  have hx := B.exec
  have hb := B.bytes
  have hr := B.returns
  have hts := atoms_spec (ws := wsX0_height) B.pre
  have hown : s.vm.findClass RX0 = some m.cls := findClass_of_methodNamed B.named
  have hlocks := B.notSynchronized
  have hin := ()
  subst hsz
  have hD := hD0.self (sz := s.heap.size)
  generalize hAe : va_A (x0W cJ h0 a1 a2 a3 a4 a5 a6 u) s.heap.size = A at hD hZ hT ⊢
  have hS : va_S A s.heap s.heap [] := va_S.rf
  have hW : XW D cJ h0 a1 a2 a3 a4 a5 a6 tC tS u s s.heap := ⟨hP, hK, hZ.narrow (fun _ h => h.elim)⟩
  have hl := lv_entry ([.ref h0, .long v1]) (n := 3) (Nat.le_of_ble_eq_true rfl)
  rw [lg_entry_eq]
  generalize (lg_sl ([.ref h0, .long v1]) ++ List.replicate (3 - (lg_sl ([.ref h0, .long v1])).length) Slot.unset).toArray = ls at hl ⊢
  have hl : lv_has ls 3 [(0, .ref h0), (1, .long v1)] := hl
  unfold wX0_height at hw
  refine lv_aload_n hx hb dX0_height_0 rfl (lv_at hl 0 rfl) ?_
  refine lv_lload_n hx hb dX0_height_1 rfl (lv_at hl 1 rfl) ?_
  refine pc_Vi (As := [.long v1]) (rest := []) ⟨hx, hb, hml, hown, hts⟩ (mX0_isInTable l D cJ h0 a1 a2 a3 a4 a5 a6 tC tS u v1 _) (cwV 1 hts gX0_height_X0_isInTable rfl rfl rfl (by decide +kernel) ⟨Nat.le_of_ble_eq_true rfl, Nat.le_of_ble_eq_true rfl⟩) (wX_rc hW) wX_bl (wX_in hW hw) rfl hl.1 rfl (Nat.le_of_ble_eq_true rfl) dX0_height_2 ⟨Nat.le_of_ble_eq_true rfl, Nat.le_of_ble_eq_true rfl⟩ (fun r1 hw => ?_)
  obtain ⟨z_r1, hw⟩ := hw
  refine lv_if_ne (tgt := 18) hx hb dX0_height_5 (by decide) (fun c2 => ?_) (fun c2 => ?_)
  · have hw := hw.2 c2
    refine lv_aload_n hx hb dX0_height_18 rfl (lv_at hl 0 rfl) ?_
    refine lv_lload_n hx hb dX0_height_19 rfl (lv_at hl 1 rfl) ?_
    refine pc_Vl (As := [.long v1]) (rest := []) ⟨hx, hb, hml, hown, hts⟩ (mX0_heightAt l D cJ h0 a1 a2 a3 a4 a5 a6 tC tS u v1 _) (cwV 1 hts gX0_height_X0_heightAt rfl rfl rfl (by decide +kernel) ⟨Nat.le_of_ble_eq_true rfl, Nat.le_of_ble_eq_true rfl⟩) (wX_rc hW) wX_bl (wX_in hW hw) rfl hl.1 rfl (Nat.le_of_ble_eq_true rfl) dX0_height_20 ⟨Nat.le_of_ble_eq_true rfl, Nat.le_of_ble_eq_true rfl⟩ (fun r3 hw => ?_)
    refine W.widen (k := 1) (n := 6) (Nat.le_of_ble_eq_true rfl) (Nat.le_of_ble_eq_true rfl) ?_
    exact vx_ret (W.lret (v := r3) hx hb hr (fun t ht hWm => ⟨⟨r3, u, rfl, hw, by rw [ht]; exact hP, va_K.moved hWm.alike hK, hD⟩, hS.F ht⟩) hS.2.2 dX0_height_23)
  · have hw := hw.1 c2
    exact x0_throw (k := 0) (names := ["java/lang/RuntimeException", "java/lang/Exception"]) (text := "outside the table") hx hb hst hown (by decide +kernel) (by decide +kernel) (hts (.classLink RX0 48 "java/lang/IllegalArgumentException") (by decide +kernel)) (hts (.initialized "java/lang/IllegalArgumentException") (by decide +kernel)) (by decide +kernel) hT (fun w h => hts w (by unfold wsX0_height; exact List.mem_cons_of_mem _ (List.mem_append_right _ h))) (by decide +kernel) (by decide +kernel) (hl.1.trans hml.symm) dX0_height_8 dX0_height_11 dX0_height_12 dX0_height_14 dX0_height_17 hout (Nat.le_of_ble_eq_true rfl) (Nat.le_of_ble_eq_true rfl) (Nat.le_of_ble_eq_true rfl) (Nat.le_of_ble_eq_true rfl) hlocks hP hK hD rfl hw

def wX0_observe (post : Int32 → XS → Prop) (thr : Nat → Prop) (u : XS) (v1 : Int64) (v3 : Int64) : Prop := (wX0_isInTable (fun r1 => ((r1 = 0 → (thr 0)) ∧ (¬ r1 = 0 → (wX0_isLevel (fun r3 => ((r3 = 0 → (thr 0)) ∧ (¬ r3 = 0 → (((xNO u) ≤ 0 → (((xNO u) < 16 → (vp_in (xNO u) 16 ∧ (wX0_tableHeight (fun r8 => (vp_in (xNO u) 16 ∧ (post ((xNO u) + 1) ((xTT u), (xTH u), (xNT u), (vp_updL (xOT u) ((xNO u)).toNatClampNeg v1), (vp_updL (xOD u) ((xNO u)).toNatClampNeg (v3 - r8)), ((xNO u) + 1), (xPW u), (xPB u), (xNP u))))) ((xTT u), (xTH u), (xNT u), (vp_updL (xOT u) ((xNO u)).toNatClampNeg v1), (xOD u), (xNO u), (xPW u), (xPB u), (xNP u)) v1))) ∧ (¬ (xNO u) < 16 → (thr 1)))) ∧ (¬ (xNO u) ≤ 0 → (vp_in ((xNO u) - 1) 16 ∧ ((((xOT u) (((xNO u) - 1)).toNatClampNeg) ≤ v1 → (((xNO u) < 16 → (vp_in (xNO u) 16 ∧ (wX0_tableHeight (fun r14 => (vp_in (xNO u) 16 ∧ (post ((xNO u) + 1) ((xTT u), (xTH u), (xNT u), (vp_updL (xOT u) ((xNO u)).toNatClampNeg v1), (vp_updL (xOD u) ((xNO u)).toNatClampNeg (v3 - r14)), ((xNO u) + 1), (xPW u), (xPB u), (xNP u))))) ((xTT u), (xTH u), (xNT u), (vp_updL (xOT u) ((xNO u)).toNatClampNeg v1), (xOD u), (xNO u), (xPW u), (xPB u), (xNP u)) v1))) ∧ (¬ (xNO u) < 16 → (thr 1)))) ∧ (¬ ((xOT u) (((xNO u) - 1)).toNatClampNeg) ≤ v1 → (thr 0))))))))) v3)))) u v1)

set_option maxHeartbeats 4000000 in
set_option maxRecDepth 100000 in
theorem mX0_observe (l : Launch) (hst : l.stackTraces = false) (D : va_G) (cJ : ClassId) (h0 a1 a2 a3 a4 a5 a6 tC tS sz : Nat) (u : XS) (v1 : Int64) (v3 : Int64) (post : Int32 → XS → Prop) (thr : Nat → Prop) : vx_Met l yX0_observe wsX0_observe ({ frames := 6, cells := 1, slots := 6, locals := 90 } : Room) (va_Pc [.ref h0, .long v1, .long v3] (fun U => XE D cJ h0 a1 a2 a3 a4 a5 a6 tC tS sz u U ∧ wX0_observe post thr u v1 v3)) (va_Qi post (fun u9 t9 => XT D cJ h0 a1 a2 a3 a4 a5 a6 (va_A (x0W cJ h0 a1 a2 a3 a4 a5 a6 u) sz) u9 t9) (va_A (x0W cJ h0 a1 a2 a3 a4 a5 a6 u) sz)) (vx_X thr (fun E9 k9 t9 => E9 = exN k9 ∧ XT D cJ h0 a1 a2 a3 a4 a5 a6 (va_A (x0W cJ h0 a1 a2 a3 a4 a5 a6 u) sz) u t9) (va_A (x0W cJ h0 a1 a2 a3 a4 a5 a6 u) sz)) 1 6 (va_A (x0W cJ h0 a1 a2 a3 a4 a5 a6 u) sz) := by
  refine vx_ofW (cc := cX0_observe) (maxL := 5) (ret := (some .int)) (by decide +kernel) rfl ?_
  intro p e s m args below meth c s₁ B hml hout hv
  obtain ⟨rfl, ⟨hsz, hP, hK, hD0, hZ, hT⟩, hw⟩ := hv
  have hx := B.exec
  have hb := B.bytes
  have hr := B.returns
  have hts := atoms_spec (ws := wsX0_observe) B.pre
  have hown : s.vm.findClass RX0 = some m.cls := findClass_of_methodNamed B.named
  have hlocks := B.notSynchronized
  have hin : ∀ w ∈ u_ws RX0 TX0 9, w ∈ wsX0_observe := by decide +kernel
  subst hsz
  have hD := hD0.self (sz := s.heap.size)
  generalize hAe : va_A (x0W cJ h0 a1 a2 a3 a4 a5 a6 u) s.heap.size = A at hD hZ hT ⊢
  have hS : va_S A s.heap s.heap [] := va_S.rf
  have hW : XW D cJ h0 a1 a2 a3 a4 a5 a6 tC tS u s s.heap := ⟨hP, hK, hZ.narrow (fun _ h => h.elim)⟩
  have hl := lv_entry ([.ref h0, .long v1, .long v3]) (n := 5) (Nat.le_of_ble_eq_true rfl)
  rw [lg_entry_eq]
  generalize (lg_sl ([.ref h0, .long v1, .long v3]) ++ List.replicate (5 - (lg_sl ([.ref h0, .long v1, .long v3])).length) Slot.unset).toArray = ls at hl ⊢
  have hl : lv_has ls 5 [(0, .ref h0), (1, .long v1), (3, .long v3)] := hl
  unfold wX0_observe at hw
  refine lv_aload_n hx hb dX0_observe_0 rfl (lv_at hl 0 rfl) ?_
  refine lv_lload_n hx hb dX0_observe_1 rfl (lv_at hl 1 rfl) ?_
  refine pc_Vi (As := [.long v1]) (rest := []) ⟨hx, hb, hml, hown, hts⟩ (mX0_isInTable l D cJ h0 a1 a2 a3 a4 a5 a6 tC tS u v1 _) (cwV 1 hts gX0_observe_X0_isInTable rfl rfl rfl (by decide +kernel) ⟨Nat.le_of_ble_eq_true rfl, Nat.le_of_ble_eq_true rfl⟩) (wX_rc hW) wX_bl (wX_in hW hw) rfl hl.1 rfl (Nat.le_of_ble_eq_true rfl) dX0_observe_2 ⟨Nat.le_of_ble_eq_true rfl, Nat.le_of_ble_eq_true rfl⟩ (fun r1 hw => ?_)
  obtain ⟨z_r1, hw⟩ := hw
  refine lv_if_eq (tgt := 15) hx hb dX0_observe_5 (by decide) (fun c2 => ?_) (fun c2 => ?_)
  · have hw := hw.1 c2
    exact x0_throw (k := 0) (names := ["java/lang/RuntimeException", "java/lang/Exception"]) (text := "outside the table, or no such height") hx hb hst hown (by decide +kernel) (by decide +kernel) (hts (.classLink RX0 48 "java/lang/IllegalArgumentException") (by decide +kernel)) (hts (.initialized "java/lang/IllegalArgumentException") (by decide +kernel)) (by decide +kernel) hT (fun w h => hts w (by unfold wsX0_observe; exact List.mem_cons_of_mem _ (List.mem_append_left _ (List.mem_append_right _ h)))) (by decide +kernel) (by decide +kernel) (hl.1.trans hml.symm) dX0_observe_15 dX0_observe_18 dX0_observe_19 dX0_observe_21 dX0_observe_24 hout (Nat.le_of_ble_eq_true rfl) (Nat.le_of_ble_eq_true rfl) (Nat.le_of_ble_eq_true rfl) (Nat.le_of_ble_eq_true rfl) hlocks hP hK hD rfl hw
  · have hw := hw.2 c2
    refine lv_lload_n hx hb dX0_observe_8 rfl (lv_at hl 2 rfl) ?_
    refine pc_Si (As := [.long v3]) (rest := []) ⟨hx, hb, hml, hown, hts⟩ (mX0_isLevel l v3 _) (va_cwS 1 hts gX0_observe_X0_isLevel rfl rfl rfl (by decide +kernel) ⟨Nat.le_of_ble_eq_true rfl, Nat.le_of_ble_eq_true rfl⟩) wK_bl (fun _ _ _ => hw) rfl hl.1 rfl (Nat.le_of_ble_eq_true rfl) dX0_observe_9 ⟨Nat.le_of_ble_eq_true rfl, Nat.le_of_ble_eq_true rfl⟩ (fun r3 hw => ?_)
    obtain ⟨z_r3, hw⟩ := hw
    refine lv_if_ne (tgt := 25) hx hb dX0_observe_12 (by decide) (fun c4 => ?_) (fun c4 => ?_)
    · have hw := hw.2 c4
      refine lv_aload_n hx hb dX0_observe_25 rfl (lv_at hl 0 rfl) ?_
      refine va_get (D := D) (ci := 0) (v := .int (xNO u)) (C := RX0) (T := TX0) (N := 9) hx hb hts hin hown hK hP 0 rfl rfl 5 (by decide) (hts (.fieldLink RX0 26 "TideDepths" "observations" "I") (by decide +kernel)) (fun _ h9 => h9) rfl dX0_observe_26 ?_
      refine lv_if_le (tgt := 58) hx hb dX0_observe_29 (by decide) (fun c5 => ?_) (fun c5 => ?_)
      · have hw := hw.1 c5
        refine lv_aload_n hx hb dX0_observe_58 rfl (lv_at hl 0 rfl) ?_
        refine va_get (D := D) (ci := 0) (v := .int (xNO u)) (C := RX0) (T := TX0) (N := 9) hx hb hts hin hown hK hP 0 rfl rfl 5 (by decide) (hts (.fieldLink RX0 26 "TideDepths" "observations" "I") (by decide +kernel)) (fun _ h9 => h9) rfl dX0_observe_59 ?_
        refine lv_bipush (v := 16) hx hb dX0_observe_62 (by decide) ?_
        refine lv_icmp_lt (tgt := 77) hx hb dX0_observe_64 (by decide) (fun c6 => ?_) (fun c6 => ?_)
        · have hw := hw.1 c6
          refine lv_aload_n hx hb dX0_observe_77 rfl (lv_at hl 0 rfl) ?_
          refine va_get (D := D) (ci := 0) (v := .ref a3) (C := RX0) (T := TX0) (N := 9) hx hb hts hin hown hK hP 0 rfl rfl 3 (by decide) (hts (.fieldLink RX0 20 "TideDepths" "observedTimes" "[J") (by decide +kernel)) (fun _ h9 => h9) rfl dX0_observe_78 ?_
          refine lv_aload_n hx hb dX0_observe_81 rfl (lv_at hl 0 rfl) ?_
          refine va_get (D := D) (ci := 0) (v := .int (xNO u)) (C := RX0) (T := TX0) (N := 9) hx hb hts hin hown hK hP 0 rfl rfl 5 (by decide) (hts (.fieldLink RX0 26 "TideDepths" "observations" "I") (by decide +kernel)) (fun _ h9 => h9) rfl dX0_observe_82 ?_
          refine lv_lload_n hx hb dX0_observe_85 rfl (lv_at hl 1 rfl) ?_
          obtain ⟨h7, hw⟩ := hw
          refine va_last hx hb hK hP hD hS 3 0 rfl rfl h7 dX0_observe_86 (fun H locs hP hD hS => ?_)
          have hP : va_P D cls2 (x0W cJ h0 a1 a2 a3 a4 a5 a6 ((xTT u), (xTH u), (xNT u), (vp_updL (xOT u) ((xNO u)).toNatClampNeg v1), (xOD u), (xNO u), (xPW u), (xPB u), (xNP u))) H := hP
          have hD : va_D A (x0W cJ h0 a1 a2 a3 a4 a5 a6 ((xTT u), (xTH u), (xNT u), (vp_updL (xOT u) ((xNO u)).toNatClampNeg v1), (xOD u), (xNO u), (xPW u), (xPB u), (xNP u))) := hD
          have hW : XW D cJ h0 a1 a2 a3 a4 a5 a6 tC tS ((xTT u), (xTH u), (xNT u), (vp_updL (xOT u) ((xNO u)).toNatClampNeg v1), (xOD u), (xNO u), (xPW u), (xPB u), (xNP u)) s H := ⟨hP, hK, (SW.kept hZ hS.2.1).narrow (fun _ h => h.elim)⟩
          refine lv_aload_n hx hb dX0_observe_87 rfl (lv_at hl 0 rfl) ?_
          refine va_get (D := D) (ci := 0) (v := .ref a4) (C := RX0) (T := TX0) (N := 9) hx hb hts hin hown hK hP 0 rfl rfl 4 (by decide) (hts (.fieldLink RX0 23 "TideDepths" "differences" "[J") (by decide +kernel)) (fun _ h9 => h9) rfl dX0_observe_88 ?_
          refine lv_aload_n hx hb dX0_observe_91 rfl (lv_at hl 0 rfl) ?_
          refine va_get (D := D) (ci := 0) (v := .int (xNO u)) (C := RX0) (T := TX0) (N := 9) hx hb hts hin hown hK hP 0 rfl rfl 5 (by decide) (hts (.fieldLink RX0 26 "TideDepths" "observations" "I") (by decide +kernel)) (fun _ h9 => h9) rfl dX0_observe_92 ?_
          refine lv_lload_n hx hb dX0_observe_95 rfl (lv_at hl 2 rfl) ?_
          refine lv_aload_n hx hb dX0_observe_96 rfl (lv_at hl 0 rfl) ?_
          refine lv_lload_n hx hb dX0_observe_97 rfl (lv_at hl 1 rfl) ?_
          refine pc_Vl (As := [.long v1]) (rest := [.long v3, .int (xNO u), .ref a4]) ⟨hx, hb, hml, hown, hts⟩ (mX0_tableHeight l D cJ h0 a1 a2 a3 a4 a5 a6 tC tS ((xTT u), (xTH u), (xNT u), (vp_updL (xOT u) ((xNO u)).toNatClampNeg v1), (xOD u), (xNO u), (xPW u), (xPB u), (xNP u)) v1 _) (cwV 1 hts gX0_observe_X0_tableHeight rfl rfl rfl (by decide +kernel) ⟨Nat.le_of_ble_eq_true rfl, Nat.le_of_ble_eq_true rfl⟩) (wX_rc hW) wX_bl (wX_in hW hw) rfl hl.1 rfl (Nat.le_of_ble_eq_true rfl) dX0_observe_98 ⟨Nat.le_of_ble_eq_true rfl, Nat.le_of_ble_eq_true rfl⟩ (fun r8 hw => ?_)
          refine lv_lsub hx hb dX0_observe_101 ?_
          obtain ⟨h9, hw⟩ := hw
          refine va_last hx hb hK hP hD hS 4 0 rfl rfl h9 dX0_observe_102 (fun H locs hP hD hS => ?_)
          have hP : va_P D cls2 (x0W cJ h0 a1 a2 a3 a4 a5 a6 ((xTT u), (xTH u), (xNT u), (vp_updL (xOT u) ((xNO u)).toNatClampNeg v1), (vp_updL (xOD u) ((xNO u)).toNatClampNeg (v3 - r8)), (xNO u), (xPW u), (xPB u), (xNP u))) H := hP
          have hD : va_D A (x0W cJ h0 a1 a2 a3 a4 a5 a6 ((xTT u), (xTH u), (xNT u), (vp_updL (xOT u) ((xNO u)).toNatClampNeg v1), (vp_updL (xOD u) ((xNO u)).toNatClampNeg (v3 - r8)), (xNO u), (xPW u), (xPB u), (xNP u))) := hD
          have hW : XW D cJ h0 a1 a2 a3 a4 a5 a6 tC tS ((xTT u), (xTH u), (xNT u), (vp_updL (xOT u) ((xNO u)).toNatClampNeg v1), (vp_updL (xOD u) ((xNO u)).toNatClampNeg (v3 - r8)), (xNO u), (xPW u), (xPB u), (xNP u)) s H := ⟨hP, hK, (SW.kept hZ hS.2.1).narrow (fun _ h => h.elim)⟩
          refine lv_aload_n hx hb dX0_observe_103 rfl (lv_at hl 0 rfl) ?_
          refine lv_dup hx hb dX0_observe_104 rfl ?_
          refine va_get (D := D) (ci := 0) (v := .int (xNO u)) (C := RX0) (T := TX0) (N := 9) hx hb hts hin hown hK hP 0 rfl rfl 5 (by decide) (hts (.fieldLink RX0 26 "TideDepths" "observations" "I") (by decide +kernel)) (fun _ h9 => h9) rfl dX0_observe_105 ?_
          refine lv_iconst (v := 1) hx hb dX0_observe_108 (by decide) ?_
          refine lv_iadd hx hb dX0_observe_109 ?_
          refine va_put (D := D) (ci := 0) (v := .int ((xNO u) + 1)) (ty := .int) (C := RX0) (T := TX0) (N := 9) hx hb hts hin tyX0 tyX0_ok nmX0 hown hK hP hD hS 0 rfl rfl 5 (by decide) (hts (.fieldLink RX0 26 "TideDepths" "observations" "I") (by decide +kernel)) (fun _ h9 => h9) rfl (by decide +kernel) rfl rfl (Nat.le_of_ble_eq_true rfl) dX0_observe_110 (fun H locs hP hD hS => ?_)
          have hP : va_P D cls2 (x0W cJ h0 a1 a2 a3 a4 a5 a6 ((xTT u), (xTH u), (xNT u), (vp_updL (xOT u) ((xNO u)).toNatClampNeg v1), (vp_updL (xOD u) ((xNO u)).toNatClampNeg (v3 - r8)), ((xNO u) + 1), (xPW u), (xPB u), (xNP u))) H := hP
          have hD : va_D A (x0W cJ h0 a1 a2 a3 a4 a5 a6 ((xTT u), (xTH u), (xNT u), (vp_updL (xOT u) ((xNO u)).toNatClampNeg v1), (vp_updL (xOD u) ((xNO u)).toNatClampNeg (v3 - r8)), ((xNO u) + 1), (xPW u), (xPB u), (xNP u))) := hD
          have hW : XW D cJ h0 a1 a2 a3 a4 a5 a6 tC tS ((xTT u), (xTH u), (xNT u), (vp_updL (xOT u) ((xNO u)).toNatClampNeg v1), (vp_updL (xOD u) ((xNO u)).toNatClampNeg (v3 - r8)), ((xNO u) + 1), (xPW u), (xPB u), (xNP u)) s H := ⟨hP, hK, (SW.kept hZ hS.2.1).narrow (fun _ h => h.elim)⟩
          refine lv_aload_n hx hb dX0_observe_113 rfl (lv_at hl 0 rfl) ?_
          refine va_get (D := D) (ci := 0) (v := .int ((xNO u) + 1)) (C := RX0) (T := TX0) (N := 9) hx hb hts hin hown hK hP 0 rfl rfl 5 (by decide) (hts (.fieldLink RX0 26 "TideDepths" "observations" "I") (by decide +kernel)) (fun _ h9 => h9) rfl dX0_observe_114 ?_
          refine W.widen (k := 1) (n := 6) (Nat.le_of_ble_eq_true rfl) (Nat.le_of_ble_eq_true rfl) ?_
          exact vx_ret (W.iret (v := ((xNO u) + 1)) hx hb hr (fun t ht hWm => ⟨⟨((xNO u) + 1), ((xTT u), (xTH u), (xNT u), (vp_updL (xOT u) ((xNO u)).toNatClampNeg v1), (vp_updL (xOD u) ((xNO u)).toNatClampNeg (v3 - r8)), ((xNO u) + 1), (xPW u), (xPB u), (xNP u)), rfl, hw, by rw [ht]; exact hP, va_K.moved hWm.alike hK, hD⟩, hS.F ht⟩) hS.2.2 dX0_observe_117)
        · have hw := hw.2 c6
          exact x0_throw (k := 1) (names := ["java/lang/RuntimeException", "java/lang/Exception"]) (text := "no room for an observation") hx hb hst hown (by decide +kernel) (by decide +kernel) (hts (.classLink RX0 57 "java/lang/IllegalStateException") (by decide +kernel)) (hts (.initialized "java/lang/IllegalStateException") (by decide +kernel)) (by decide +kernel) hT (fun w h => hts w (by unfold wsX0_observe; exact List.mem_cons_of_mem _ (List.mem_append_right _ h))) (by decide +kernel) (by decide +kernel) (hl.1.trans hml.symm) dX0_observe_67 dX0_observe_70 dX0_observe_71 dX0_observe_73 dX0_observe_76 hout (Nat.le_of_ble_eq_true rfl) (Nat.le_of_ble_eq_true rfl) (Nat.le_of_ble_eq_true rfl) (Nat.le_of_ble_eq_true rfl) hlocks hP hK hD rfl hw
      · have hw := hw.2 c5
        refine lv_lload_n hx hb dX0_observe_32 rfl (lv_at hl 1 rfl) ?_
        refine lv_aload_n hx hb dX0_observe_33 rfl (lv_at hl 0 rfl) ?_
        refine va_get (D := D) (ci := 0) (v := .ref a3) (C := RX0) (T := TX0) (N := 9) hx hb hts hin hown hK hP 0 rfl rfl 3 (by decide) (hts (.fieldLink RX0 20 "TideDepths" "observedTimes" "[J") (by decide +kernel)) (fun _ h9 => h9) rfl dX0_observe_34 ?_
        refine lv_aload_n hx hb dX0_observe_37 rfl (lv_at hl 0 rfl) ?_
        refine va_get (D := D) (ci := 0) (v := .int (xNO u)) (C := RX0) (T := TX0) (N := 9) hx hb hts hin hown hK hP 0 rfl rfl 5 (by decide) (hts (.fieldLink RX0 26 "TideDepths" "observations" "I") (by decide +kernel)) (fun _ h9 => h9) rfl dX0_observe_38 ?_
        refine lv_iconst (v := 1) hx hb dX0_observe_41 (by decide) ?_
        refine lv_isub hx hb dX0_observe_42 ?_
        obtain ⟨h10, hw⟩ := hw
        refine va_lald hx hb hK hP 3 0 rfl rfl h10 dX0_observe_43 ?_
        refine bl_ge (tgt := 58) hx hb dX0_observe_44 dX0_observe_45 (by decide) (fun c11 => ?_) (fun c11 => ?_)
        · have hw := hw.1 c11
          refine lv_aload_n hx hb dX0_observe_58 rfl (lv_at hl 0 rfl) ?_
          refine va_get (D := D) (ci := 0) (v := .int (xNO u)) (C := RX0) (T := TX0) (N := 9) hx hb hts hin hown hK hP 0 rfl rfl 5 (by decide) (hts (.fieldLink RX0 26 "TideDepths" "observations" "I") (by decide +kernel)) (fun _ h9 => h9) rfl dX0_observe_59 ?_
          refine lv_bipush (v := 16) hx hb dX0_observe_62 (by decide) ?_
          refine lv_icmp_lt (tgt := 77) hx hb dX0_observe_64 (by decide) (fun c12 => ?_) (fun c12 => ?_)
          · have hw := hw.1 c12
            refine lv_aload_n hx hb dX0_observe_77 rfl (lv_at hl 0 rfl) ?_
            refine va_get (D := D) (ci := 0) (v := .ref a3) (C := RX0) (T := TX0) (N := 9) hx hb hts hin hown hK hP 0 rfl rfl 3 (by decide) (hts (.fieldLink RX0 20 "TideDepths" "observedTimes" "[J") (by decide +kernel)) (fun _ h9 => h9) rfl dX0_observe_78 ?_
            refine lv_aload_n hx hb dX0_observe_81 rfl (lv_at hl 0 rfl) ?_
            refine va_get (D := D) (ci := 0) (v := .int (xNO u)) (C := RX0) (T := TX0) (N := 9) hx hb hts hin hown hK hP 0 rfl rfl 5 (by decide) (hts (.fieldLink RX0 26 "TideDepths" "observations" "I") (by decide +kernel)) (fun _ h9 => h9) rfl dX0_observe_82 ?_
            refine lv_lload_n hx hb dX0_observe_85 rfl (lv_at hl 1 rfl) ?_
            obtain ⟨h13, hw⟩ := hw
            refine va_last hx hb hK hP hD hS 3 0 rfl rfl h13 dX0_observe_86 (fun H locs hP hD hS => ?_)
            have hP : va_P D cls2 (x0W cJ h0 a1 a2 a3 a4 a5 a6 ((xTT u), (xTH u), (xNT u), (vp_updL (xOT u) ((xNO u)).toNatClampNeg v1), (xOD u), (xNO u), (xPW u), (xPB u), (xNP u))) H := hP
            have hD : va_D A (x0W cJ h0 a1 a2 a3 a4 a5 a6 ((xTT u), (xTH u), (xNT u), (vp_updL (xOT u) ((xNO u)).toNatClampNeg v1), (xOD u), (xNO u), (xPW u), (xPB u), (xNP u))) := hD
            have hW : XW D cJ h0 a1 a2 a3 a4 a5 a6 tC tS ((xTT u), (xTH u), (xNT u), (vp_updL (xOT u) ((xNO u)).toNatClampNeg v1), (xOD u), (xNO u), (xPW u), (xPB u), (xNP u)) s H := ⟨hP, hK, (SW.kept hZ hS.2.1).narrow (fun _ h => h.elim)⟩
            refine lv_aload_n hx hb dX0_observe_87 rfl (lv_at hl 0 rfl) ?_
            refine va_get (D := D) (ci := 0) (v := .ref a4) (C := RX0) (T := TX0) (N := 9) hx hb hts hin hown hK hP 0 rfl rfl 4 (by decide) (hts (.fieldLink RX0 23 "TideDepths" "differences" "[J") (by decide +kernel)) (fun _ h9 => h9) rfl dX0_observe_88 ?_
            refine lv_aload_n hx hb dX0_observe_91 rfl (lv_at hl 0 rfl) ?_
            refine va_get (D := D) (ci := 0) (v := .int (xNO u)) (C := RX0) (T := TX0) (N := 9) hx hb hts hin hown hK hP 0 rfl rfl 5 (by decide) (hts (.fieldLink RX0 26 "TideDepths" "observations" "I") (by decide +kernel)) (fun _ h9 => h9) rfl dX0_observe_92 ?_
            refine lv_lload_n hx hb dX0_observe_95 rfl (lv_at hl 2 rfl) ?_
            refine lv_aload_n hx hb dX0_observe_96 rfl (lv_at hl 0 rfl) ?_
            refine lv_lload_n hx hb dX0_observe_97 rfl (lv_at hl 1 rfl) ?_
            refine pc_Vl (As := [.long v1]) (rest := [.long v3, .int (xNO u), .ref a4]) ⟨hx, hb, hml, hown, hts⟩ (mX0_tableHeight l D cJ h0 a1 a2 a3 a4 a5 a6 tC tS ((xTT u), (xTH u), (xNT u), (vp_updL (xOT u) ((xNO u)).toNatClampNeg v1), (xOD u), (xNO u), (xPW u), (xPB u), (xNP u)) v1 _) (cwV 1 hts gX0_observe_X0_tableHeight rfl rfl rfl (by decide +kernel) ⟨Nat.le_of_ble_eq_true rfl, Nat.le_of_ble_eq_true rfl⟩) (wX_rc hW) wX_bl (wX_in hW hw) rfl hl.1 rfl (Nat.le_of_ble_eq_true rfl) dX0_observe_98 ⟨Nat.le_of_ble_eq_true rfl, Nat.le_of_ble_eq_true rfl⟩ (fun r14 hw => ?_)
            refine lv_lsub hx hb dX0_observe_101 ?_
            obtain ⟨h15, hw⟩ := hw
            refine va_last hx hb hK hP hD hS 4 0 rfl rfl h15 dX0_observe_102 (fun H locs hP hD hS => ?_)
            have hP : va_P D cls2 (x0W cJ h0 a1 a2 a3 a4 a5 a6 ((xTT u), (xTH u), (xNT u), (vp_updL (xOT u) ((xNO u)).toNatClampNeg v1), (vp_updL (xOD u) ((xNO u)).toNatClampNeg (v3 - r14)), (xNO u), (xPW u), (xPB u), (xNP u))) H := hP
            have hD : va_D A (x0W cJ h0 a1 a2 a3 a4 a5 a6 ((xTT u), (xTH u), (xNT u), (vp_updL (xOT u) ((xNO u)).toNatClampNeg v1), (vp_updL (xOD u) ((xNO u)).toNatClampNeg (v3 - r14)), (xNO u), (xPW u), (xPB u), (xNP u))) := hD
            have hW : XW D cJ h0 a1 a2 a3 a4 a5 a6 tC tS ((xTT u), (xTH u), (xNT u), (vp_updL (xOT u) ((xNO u)).toNatClampNeg v1), (vp_updL (xOD u) ((xNO u)).toNatClampNeg (v3 - r14)), (xNO u), (xPW u), (xPB u), (xNP u)) s H := ⟨hP, hK, (SW.kept hZ hS.2.1).narrow (fun _ h => h.elim)⟩
            refine lv_aload_n hx hb dX0_observe_103 rfl (lv_at hl 0 rfl) ?_
            refine lv_dup hx hb dX0_observe_104 rfl ?_
            refine va_get (D := D) (ci := 0) (v := .int (xNO u)) (C := RX0) (T := TX0) (N := 9) hx hb hts hin hown hK hP 0 rfl rfl 5 (by decide) (hts (.fieldLink RX0 26 "TideDepths" "observations" "I") (by decide +kernel)) (fun _ h9 => h9) rfl dX0_observe_105 ?_
            refine lv_iconst (v := 1) hx hb dX0_observe_108 (by decide) ?_
            refine lv_iadd hx hb dX0_observe_109 ?_
            refine va_put (D := D) (ci := 0) (v := .int ((xNO u) + 1)) (ty := .int) (C := RX0) (T := TX0) (N := 9) hx hb hts hin tyX0 tyX0_ok nmX0 hown hK hP hD hS 0 rfl rfl 5 (by decide) (hts (.fieldLink RX0 26 "TideDepths" "observations" "I") (by decide +kernel)) (fun _ h9 => h9) rfl (by decide +kernel) rfl rfl (Nat.le_of_ble_eq_true rfl) dX0_observe_110 (fun H locs hP hD hS => ?_)
            have hP : va_P D cls2 (x0W cJ h0 a1 a2 a3 a4 a5 a6 ((xTT u), (xTH u), (xNT u), (vp_updL (xOT u) ((xNO u)).toNatClampNeg v1), (vp_updL (xOD u) ((xNO u)).toNatClampNeg (v3 - r14)), ((xNO u) + 1), (xPW u), (xPB u), (xNP u))) H := hP
            have hD : va_D A (x0W cJ h0 a1 a2 a3 a4 a5 a6 ((xTT u), (xTH u), (xNT u), (vp_updL (xOT u) ((xNO u)).toNatClampNeg v1), (vp_updL (xOD u) ((xNO u)).toNatClampNeg (v3 - r14)), ((xNO u) + 1), (xPW u), (xPB u), (xNP u))) := hD
            have hW : XW D cJ h0 a1 a2 a3 a4 a5 a6 tC tS ((xTT u), (xTH u), (xNT u), (vp_updL (xOT u) ((xNO u)).toNatClampNeg v1), (vp_updL (xOD u) ((xNO u)).toNatClampNeg (v3 - r14)), ((xNO u) + 1), (xPW u), (xPB u), (xNP u)) s H := ⟨hP, hK, (SW.kept hZ hS.2.1).narrow (fun _ h => h.elim)⟩
            refine lv_aload_n hx hb dX0_observe_113 rfl (lv_at hl 0 rfl) ?_
            refine va_get (D := D) (ci := 0) (v := .int ((xNO u) + 1)) (C := RX0) (T := TX0) (N := 9) hx hb hts hin hown hK hP 0 rfl rfl 5 (by decide) (hts (.fieldLink RX0 26 "TideDepths" "observations" "I") (by decide +kernel)) (fun _ h9 => h9) rfl dX0_observe_114 ?_
            refine W.widen (k := 1) (n := 6) (Nat.le_of_ble_eq_true rfl) (Nat.le_of_ble_eq_true rfl) ?_
            exact vx_ret (W.iret (v := ((xNO u) + 1)) hx hb hr (fun t ht hWm => ⟨⟨((xNO u) + 1), ((xTT u), (xTH u), (xNT u), (vp_updL (xOT u) ((xNO u)).toNatClampNeg v1), (vp_updL (xOD u) ((xNO u)).toNatClampNeg (v3 - r14)), ((xNO u) + 1), (xPW u), (xPB u), (xNP u)), rfl, hw, by rw [ht]; exact hP, va_K.moved hWm.alike hK, hD⟩, hS.F ht⟩) hS.2.2 dX0_observe_117)
          · have hw := hw.2 c12
            exact x0_throw (k := 1) (names := ["java/lang/RuntimeException", "java/lang/Exception"]) (text := "no room for an observation") hx hb hst hown (by decide +kernel) (by decide +kernel) (hts (.classLink RX0 57 "java/lang/IllegalStateException") (by decide +kernel)) (hts (.initialized "java/lang/IllegalStateException") (by decide +kernel)) (by decide +kernel) hT (fun w h => hts w (by unfold wsX0_observe; exact List.mem_cons_of_mem _ (List.mem_append_right _ h))) (by decide +kernel) (by decide +kernel) (hl.1.trans hml.symm) dX0_observe_67 dX0_observe_70 dX0_observe_71 dX0_observe_73 dX0_observe_76 hout (Nat.le_of_ble_eq_true rfl) (Nat.le_of_ble_eq_true rfl) (Nat.le_of_ble_eq_true rfl) (Nat.le_of_ble_eq_true rfl) hlocks hP hK hD rfl hw
        · have hw := hw.2 c11
          exact x0_throw (k := 0) (names := ["java/lang/RuntimeException", "java/lang/Exception"]) (text := "ahead of the latest observation") hx hb hst hown (by decide +kernel) (by decide +kernel) (hts (.classLink RX0 48 "java/lang/IllegalArgumentException") (by decide +kernel)) (hts (.initialized "java/lang/IllegalArgumentException") (by decide +kernel)) (by decide +kernel) hT (fun w h => hts w (by unfold wsX0_observe; exact List.mem_cons_of_mem _ (List.mem_append_left _ (List.mem_append_right _ h)))) (by decide +kernel) (by decide +kernel) (hl.1.trans hml.symm) dX0_observe_48 dX0_observe_51 dX0_observe_52 dX0_observe_54 dX0_observe_57 hout (Nat.le_of_ble_eq_true rfl) (Nat.le_of_ble_eq_true rfl) (Nat.le_of_ble_eq_true rfl) (Nat.le_of_ble_eq_true rfl) hlocks hP hK hD rfl hw
    · have hw := hw.1 c4
      exact x0_throw (k := 0) (names := ["java/lang/RuntimeException", "java/lang/Exception"]) (text := "outside the table, or no such height") hx hb hst hown (by decide +kernel) (by decide +kernel) (hts (.classLink RX0 48 "java/lang/IllegalArgumentException") (by decide +kernel)) (hts (.initialized "java/lang/IllegalArgumentException") (by decide +kernel)) (by decide +kernel) hT (fun w h => hts w (by unfold wsX0_observe; exact List.mem_cons_of_mem _ (List.mem_append_left _ (List.mem_append_right _ h)))) (by decide +kernel) (by decide +kernel) (hl.1.trans hml.symm) dX0_observe_15 dX0_observe_18 dX0_observe_19 dX0_observe_21 dX0_observe_24 hout (Nat.le_of_ble_eq_true rfl) (Nat.le_of_ble_eq_true rfl) (Nat.le_of_ble_eq_true rfl) (Nat.le_of_ble_eq_true rfl) hlocks hP hK hD rfl hw

def wX0_span (post : Int32 → XS → Prop) (thr : Nat → Prop) (u : XS) (v1 : Int64) (v3 : Int64) (v5 : Int64) (v7 : Int32) : Prop := (wX0_isInTable (fun r1 => ((r1 = 0 → (thr 0)) ∧ (¬ r1 = 0 → (wX0_isLevel (fun r3 => ((r3 = 0 → (thr 0)) ∧ (¬ r3 = 0 → (wX0_isLevel (fun r5 => ((r5 = 0 → (thr 0)) ∧ (¬ r5 = 0 → (wX0_isWithin (fun r7 => ((r7 = 0 → (thr 0)) ∧ (¬ r7 = 0 → ((v7 < 2 → (wX0_nextSecond (fun r11 => (wX0_lastSecond (fun r12 => ((r11 ≤ r12 → ((v7 = 0 → (post (r11).toInt32 u)) ∧ (¬ v7 = 0 → ((v7 = 2 → (post (r11).toInt32 u)) ∧ (¬ v7 = 2 → (wX0_nextSecond (fun r18 => (post ((r18 - 1)).toInt32 u)) u (v3 - v1) r11 0)))))) ∧ (¬ r11 ≤ r12 → (post (-1) u)))) u)) u (v3 - v1) v5 1)) ∧ (¬ v7 < 2 → (wX0_longestSpan (fun r21 => (wX0_lastSecond (fun r22 => ((r21 ≤ r22 → ((v7 = 0 → (post (r21).toInt32 u)) ∧ (¬ v7 = 0 → ((v7 = 2 → (post (r21).toInt32 u)) ∧ (¬ v7 = 2 → (wX0_nextSecond (fun r28 => (post ((r28 - 1)).toInt32 u)) u (v3 - v1) r21 0)))))) ∧ (¬ r21 ≤ r22 → (post (-1) u)))) u)) u (v3 - v1) v5)))))) (v7).toInt64 0 3)))) v3)))) v1)))) u v5)

set_option maxHeartbeats 4000000 in
set_option maxRecDepth 100000 in
theorem mX0_span (l : Launch) (hst : l.stackTraces = false) (D : va_G) (cJ : ClassId) (h0 a1 a2 a3 a4 a5 a6 tC tS sz : Nat) (u : XS) (v1 : Int64) (v3 : Int64) (v5 : Int64) (v7 : Int32) (post : Int32 → XS → Prop) (thr : Nat → Prop) : vx_Met l yX0_span wsX0_span ({ frames := 6, cells := 1, slots := 6, locals := 178 } : Room) (va_Pc [.ref h0, .long v1, .long v3, .long v5, .int v7] (fun U => XE D cJ h0 a1 a2 a3 a4 a5 a6 tC tS sz u U ∧ wX0_span post thr u v1 v3 v5 v7)) (va_Qi post (fun u9 t9 => XT D cJ h0 a1 a2 a3 a4 a5 a6 (va_A (x0W cJ h0 a1 a2 a3 a4 a5 a6 u) sz) u9 t9) (va_A (x0W cJ h0 a1 a2 a3 a4 a5 a6 u) sz)) (vx_X thr (fun E9 k9 t9 => E9 = exN k9 ∧ XT D cJ h0 a1 a2 a3 a4 a5 a6 (va_A (x0W cJ h0 a1 a2 a3 a4 a5 a6 u) sz) u t9) (va_A (x0W cJ h0 a1 a2 a3 a4 a5 a6 u) sz)) 1 6 (va_A (x0W cJ h0 a1 a2 a3 a4 a5 a6 u) sz) := by
  refine vx_ofW (cc := cX0_span) (maxL := 14) (ret := (some .int)) (by decide +kernel) rfl ?_
  intro p e s m args below meth c s₁ B hml hout hv
  obtain ⟨rfl, ⟨hsz, hP, hK, hD0, hZ, hT⟩, hw⟩ := hv
  have hx := B.exec
  have hb := B.bytes
  have hr := B.returns
  have hts := atoms_spec (ws := wsX0_span) B.pre
  have hown : s.vm.findClass RX0 = some m.cls := findClass_of_methodNamed B.named
  have hlocks := B.notSynchronized
  have hin := ()
  subst hsz
  have hD := hD0.self (sz := s.heap.size)
  generalize hAe : va_A (x0W cJ h0 a1 a2 a3 a4 a5 a6 u) s.heap.size = A at hD hZ hT ⊢
  have hS : va_S A s.heap s.heap [] := va_S.rf
  have hW : XW D cJ h0 a1 a2 a3 a4 a5 a6 tC tS u s s.heap := ⟨hP, hK, hZ.narrow (fun _ h => h.elim)⟩
  have hl := lv_entry ([.ref h0, .long v1, .long v3, .long v5, .int v7]) (n := 14) (Nat.le_of_ble_eq_true rfl)
  rw [lg_entry_eq]
  generalize (lg_sl ([.ref h0, .long v1, .long v3, .long v5, .int v7]) ++ List.replicate (14 - (lg_sl ([.ref h0, .long v1, .long v3, .long v5, .int v7])).length) Slot.unset).toArray = ls at hl ⊢
  have hl : lv_has ls 14 [(0, .ref h0), (1, .long v1), (3, .long v3), (5, .long v5), (7, .int v7)] := hl
  unfold wX0_span at hw
  refine lv_aload_n hx hb dX0_span_0 rfl (lv_at hl 0 rfl) ?_
  refine lv_lload hx hb dX0_span_1 (lv_at hl 3 rfl) ?_
  refine pc_Vi (As := [.long v5]) (rest := []) ⟨hx, hb, hml, hown, hts⟩ (mX0_isInTable l D cJ h0 a1 a2 a3 a4 a5 a6 tC tS u v5 _) (cwV 1 hts gX0_span_X0_isInTable rfl rfl rfl (by decide +kernel) ⟨Nat.le_of_ble_eq_true rfl, Nat.le_of_ble_eq_true rfl⟩) (wX_rc hW) wX_bl (wX_in hW hw) rfl hl.1 rfl (Nat.le_of_ble_eq_true rfl) dX0_span_3 ⟨Nat.le_of_ble_eq_true rfl, Nat.le_of_ble_eq_true rfl⟩ (fun r1 hw => ?_)
  obtain ⟨z_r1, hw⟩ := hw
  refine lv_if_eq (tgt := 36) hx hb dX0_span_6 (by decide) (fun c2 => ?_) (fun c2 => ?_)
  · have hw := hw.1 c2
    exact x0_throw (k := 0) (names := ["java/lang/RuntimeException", "java/lang/Exception"]) (text := "outside the table, or no such base, need or side") hx hb hst hown (by decide +kernel) (by decide +kernel) (hts (.classLink RX0 48 "java/lang/IllegalArgumentException") (by decide +kernel)) (hts (.initialized "java/lang/IllegalArgumentException") (by decide +kernel)) (by decide +kernel) hT (fun w h => hts w (by unfold wsX0_span; exact List.mem_cons_of_mem _ (List.mem_append_right _ h))) (by decide +kernel) (by decide +kernel) (hl.1.trans hml.symm) dX0_span_36 dX0_span_39 dX0_span_40 dX0_span_42 dX0_span_45 hout (Nat.le_of_ble_eq_true rfl) (Nat.le_of_ble_eq_true rfl) (Nat.le_of_ble_eq_true rfl) (Nat.le_of_ble_eq_true rfl) hlocks hP hK hD rfl hw
  · have hw := hw.2 c2
    refine lv_lload_n hx hb dX0_span_9 rfl (lv_at hl 1 rfl) ?_
    refine pc_Si (As := [.long v1]) (rest := []) ⟨hx, hb, hml, hown, hts⟩ (mX0_isLevel l v1 _) (va_cwS 1 hts gX0_span_X0_isLevel rfl rfl rfl (by decide +kernel) ⟨Nat.le_of_ble_eq_true rfl, Nat.le_of_ble_eq_true rfl⟩) wK_bl (fun _ _ _ => hw) rfl hl.1 rfl (Nat.le_of_ble_eq_true rfl) dX0_span_10 ⟨Nat.le_of_ble_eq_true rfl, Nat.le_of_ble_eq_true rfl⟩ (fun r3 hw => ?_)
    obtain ⟨z_r3, hw⟩ := hw
    refine lv_if_eq (tgt := 36) hx hb dX0_span_13 (by decide) (fun c4 => ?_) (fun c4 => ?_)
    · have hw := hw.1 c4
      exact x0_throw (k := 0) (names := ["java/lang/RuntimeException", "java/lang/Exception"]) (text := "outside the table, or no such base, need or side") hx hb hst hown (by decide +kernel) (by decide +kernel) (hts (.classLink RX0 48 "java/lang/IllegalArgumentException") (by decide +kernel)) (hts (.initialized "java/lang/IllegalArgumentException") (by decide +kernel)) (by decide +kernel) hT (fun w h => hts w (by unfold wsX0_span; exact List.mem_cons_of_mem _ (List.mem_append_right _ h))) (by decide +kernel) (by decide +kernel) (hl.1.trans hml.symm) dX0_span_36 dX0_span_39 dX0_span_40 dX0_span_42 dX0_span_45 hout (Nat.le_of_ble_eq_true rfl) (Nat.le_of_ble_eq_true rfl) (Nat.le_of_ble_eq_true rfl) (Nat.le_of_ble_eq_true rfl) hlocks hP hK hD rfl hw
    · have hw := hw.2 c4
      refine lv_lload_n hx hb dX0_span_16 rfl (lv_at hl 2 rfl) ?_
      refine pc_Si (As := [.long v3]) (rest := []) ⟨hx, hb, hml, hown, hts⟩ (mX0_isLevel l v3 _) (va_cwS 1 hts gX0_span_X0_isLevel rfl rfl rfl (by decide +kernel) ⟨Nat.le_of_ble_eq_true rfl, Nat.le_of_ble_eq_true rfl⟩) wK_bl (fun _ _ _ => hw) rfl hl.1 rfl (Nat.le_of_ble_eq_true rfl) dX0_span_17 ⟨Nat.le_of_ble_eq_true rfl, Nat.le_of_ble_eq_true rfl⟩ (fun r5 hw => ?_)
      obtain ⟨z_r5, hw⟩ := hw
      refine lv_if_eq (tgt := 36) hx hb dX0_span_20 (by decide) (fun c6 => ?_) (fun c6 => ?_)
      · have hw := hw.1 c6
        exact x0_throw (k := 0) (names := ["java/lang/RuntimeException", "java/lang/Exception"]) (text := "outside the table, or no such base, need or side") hx hb hst hown (by decide +kernel) (by decide +kernel) (hts (.classLink RX0 48 "java/lang/IllegalArgumentException") (by decide +kernel)) (hts (.initialized "java/lang/IllegalArgumentException") (by decide +kernel)) (by decide +kernel) hT (fun w h => hts w (by unfold wsX0_span; exact List.mem_cons_of_mem _ (List.mem_append_right _ h))) (by decide +kernel) (by decide +kernel) (hl.1.trans hml.symm) dX0_span_36 dX0_span_39 dX0_span_40 dX0_span_42 dX0_span_45 hout (Nat.le_of_ble_eq_true rfl) (Nat.le_of_ble_eq_true rfl) (Nat.le_of_ble_eq_true rfl) (Nat.le_of_ble_eq_true rfl) hlocks hP hK hD rfl hw
      · have hw := hw.2 c6
        refine lv_iload hx hb dX0_span_23 (lv_at hl 4 rfl) ?_
        refine lv_i2l (v := (v7).toInt64) hx hb dX0_span_25 rfl ?_
        refine lv_lconst (v := 0) hx hb dX0_span_26 (by decide) ?_
        refine lv_ldc2 (v := 3) hx hb hown (hts (.constantLong RX0 83 (3)) (by decide +kernel)) dX0_span_27 ?_
        refine pc_Si (As := [.long (v7).toInt64, .long 0, .long 3]) (rest := []) ⟨hx, hb, hml, hown, hts⟩ (mX0_isWithin l (v7).toInt64 0 3 _) (va_cwS 3 hts gX0_span_X0_isWithin rfl rfl rfl (by decide +kernel) ⟨Nat.le_of_ble_eq_true rfl, Nat.le_of_ble_eq_true rfl⟩) wK_bl (fun _ _ _ => hw) rfl hl.1 rfl (Nat.le_of_ble_eq_true rfl) dX0_span_30 ⟨Nat.le_of_ble_eq_true rfl, Nat.le_of_ble_eq_true rfl⟩ (fun r7 hw => ?_)
        obtain ⟨z_r7, hw⟩ := hw
        refine lv_if_ne (tgt := 46) hx hb dX0_span_33 (by decide) (fun c8 => ?_) (fun c8 => ?_)
        · have hw := hw.2 c8
          refine lv_lload_n hx hb dX0_span_46 rfl (lv_at hl 2 rfl) ?_
          refine lv_lload_n hx hb dX0_span_47 rfl (lv_at hl 1 rfl) ?_
          refine lv_lsub hx hb dX0_span_48 ?_
          refine lv_lstore (lv' := [(8, .long (v3 - v1)), (0, .ref h0), (1, .long v1), (3, .long v3), (5, .long v5), (7, .int v7)]) hx hb dX0_span_49 hl (by decide) rfl (fun ls hl => ?_)
          refine lv_iload hx hb dX0_span_51 (lv_at hl 5 rfl) ?_
          refine lv_iconst (v := 2) hx hb dX0_span_53 (by decide) ?_
          refine lv_icmp_lt (tgt := 61) hx hb dX0_span_54 (by decide) (fun c9 => ?_) (fun c9 => ?_)
          · have hw := hw.1 c9
            refine lv_iconst (v := 0) hx hb dX0_span_61 (by decide) ?_
            refine lv_istore (lv' := [(10, .int 0), (8, .long (v3 - v1)), (0, .ref h0), (1, .long v1), (3, .long v3), (5, .long v5), (7, .int v7)]) hx hb dX0_span_62 hl (by decide) rfl (fun ls hl => ?_)
            refine lv_iload hx hb dX0_span_64 (lv_at hl 0 rfl) ?_
            refine lv_if_eq (tgt := 80) hx hb dX0_span_66 (by decide) (fun c10 => ?_) (fun c10 => ?_)
            ·
              refine lv_aload_n hx hb dX0_span_80 rfl (lv_at hl 2 rfl) ?_
              refine lv_lload hx hb dX0_span_81 (lv_at hl 1 rfl) ?_
              refine lv_lload hx hb dX0_span_83 (lv_at hl 5 rfl) ?_
              refine lv_iconst (v := 1) hx hb dX0_span_85 (by decide) ?_
              refine pc_Vl (As := [.long (v3 - v1), .long v5, .int 1]) (rest := []) ⟨hx, hb, hml, hown, hts⟩ (mX0_nextSecond l D cJ h0 a1 a2 a3 a4 a5 a6 tC tS u (v3 - v1) v5 1 _) (cwV 3 hts gX0_span_X0_nextSecond rfl rfl rfl (by decide +kernel) ⟨Nat.le_of_ble_eq_true rfl, Nat.le_of_ble_eq_true rfl⟩) (wX_rc hW) wX_bl (wX_in hW hw) rfl hl.1 rfl (Nat.le_of_ble_eq_true rfl) dX0_span_86 ⟨Nat.le_of_ble_eq_true rfl, Nat.le_of_ble_eq_true rfl⟩ (fun r11 hw => ?_)
              refine lv_lstore (lv' := [(11, .long r11), (10, .int 0), (8, .long (v3 - v1)), (0, .ref h0), (1, .long v1), (3, .long v3), (5, .long v5), (7, .int v7)]) hx hb dX0_span_89 hl (by decide) rfl (fun ls hl => ?_)
              refine lv_lload hx hb dX0_span_91 (lv_at hl 0 rfl) ?_
              refine lv_aload_n hx hb dX0_span_93 rfl (lv_at hl 3 rfl) ?_
              refine pc_Vl (As := []) (rest := [.long r11]) ⟨hx, hb, hml, hown, hts⟩ (mX0_lastSecond l D cJ h0 a1 a2 a3 a4 a5 a6 tC tS u _) (cwV 0 hts gX0_span_X0_lastSecond rfl rfl rfl (by decide +kernel) ⟨Nat.le_of_ble_eq_true rfl, Nat.le_of_ble_eq_true rfl⟩) (wX_rc hW) wX_bl (wX_in hW hw) rfl hl.1 rfl (Nat.le_of_ble_eq_true rfl) dX0_span_94 ⟨Nat.le_of_ble_eq_true rfl, Nat.le_of_ble_eq_true rfl⟩ (fun r12 hw => ?_)
              refine bl_le (tgt := 103) hx hb dX0_span_97 dX0_span_98 (by decide) (fun c13 => ?_) (fun c13 => ?_)
              · have hw := hw.1 c13
                refine lv_iload hx hb dX0_span_103 (lv_at hl 7 rfl) ?_
                refine lv_if_eq (tgt := 114) hx hb dX0_span_105 (by decide) (fun c14 => ?_) (fun c14 => ?_)
                · have hw := hw.1 c14
                  refine lv_iconst (v := 1) hx hb dX0_span_114 (by decide) ?_
                  refine lv_goto (tgt := 119) hx hb dX0_span_115 (by decide) ?_
                  refine lv_istore (lv' := [(13, .int 1), (11, .long r11), (10, .int 0), (8, .long (v3 - v1)), (0, .ref h0), (1, .long v1), (3, .long v3), (5, .long v5), (7, .int v7)]) hx hb dX0_span_119 hl (by decide) rfl (fun ls hl => ?_)
                  refine lv_iload hx hb dX0_span_121 (lv_at hl 0 rfl) ?_
                  refine lv_if_eq (tgt := 131) hx hb dX0_span_123 (by decide) (fun c15 => ?_) (fun c15 => ?_)
                  · exact absurd c15 (by decide)
                  ·
                    refine lv_lload hx hb dX0_span_126 (lv_at hl 1 rfl) ?_
                    refine lv_goto (tgt := 142) hx hb dX0_span_128 (by decide) ?_
                    refine lv_l2i (v := (r11).toInt32) hx hb dX0_span_142 rfl ?_
                    refine W.widen (k := 1) (n := 6) (Nat.le_of_ble_eq_true rfl) (Nat.le_of_ble_eq_true rfl) ?_
                    exact vx_ret (W.iret (v := (r11).toInt32) hx hb hr (fun t ht hWm => ⟨⟨(r11).toInt32, u, rfl, hw, by rw [ht]; exact hP, va_K.moved hWm.alike hK, hD⟩, hS.F ht⟩) hS.2.2 dX0_span_143)
                · have hw := hw.2 c14
                  refine lv_iload hx hb dX0_span_108 (lv_at hl 7 rfl) ?_
                  refine lv_iconst (v := 2) hx hb dX0_span_110 (by decide) ?_
                  refine lv_icmp_ne (tgt := 118) hx hb dX0_span_111 (by decide) (fun c16 => ?_) (fun c16 => ?_)
                  · have hw := hw.2 c16
                    refine lv_iconst (v := 0) hx hb dX0_span_118 (by decide) ?_
                    refine lv_istore (lv' := [(13, .int 0), (11, .long r11), (10, .int 0), (8, .long (v3 - v1)), (0, .ref h0), (1, .long v1), (3, .long v3), (5, .long v5), (7, .int v7)]) hx hb dX0_span_119 hl (by decide) rfl (fun ls hl => ?_)
                    refine lv_iload hx hb dX0_span_121 (lv_at hl 0 rfl) ?_
                    refine lv_if_eq (tgt := 131) hx hb dX0_span_123 (by decide) (fun c17 => ?_) (fun c17 => ?_)
                    ·
                      refine lv_aload_n hx hb dX0_span_131 rfl (lv_at hl 4 rfl) ?_
                      refine lv_lload hx hb dX0_span_132 (lv_at hl 3 rfl) ?_
                      refine lv_lload hx hb dX0_span_134 (lv_at hl 1 rfl) ?_
                      refine lv_iconst (v := 0) hx hb dX0_span_136 (by decide) ?_
                      refine pc_Vl (As := [.long (v3 - v1), .long r11, .int 0]) (rest := []) ⟨hx, hb, hml, hown, hts⟩ (mX0_nextSecond l D cJ h0 a1 a2 a3 a4 a5 a6 tC tS u (v3 - v1) r11 0 _) (cwV 3 hts gX0_span_X0_nextSecond rfl rfl rfl (by decide +kernel) ⟨Nat.le_of_ble_eq_true rfl, Nat.le_of_ble_eq_true rfl⟩) (wX_rc hW) wX_bl (wX_in hW hw) rfl hl.1 rfl (Nat.le_of_ble_eq_true rfl) dX0_span_137 ⟨Nat.le_of_ble_eq_true rfl, Nat.le_of_ble_eq_true rfl⟩ (fun r18 hw => ?_)
                      refine lv_lconst (v := 1) hx hb dX0_span_140 (by decide) ?_
                      refine lv_lsub hx hb dX0_span_141 ?_
                      refine lv_l2i (v := ((r18 - 1)).toInt32) hx hb dX0_span_142 rfl ?_
                      refine W.widen (k := 1) (n := 6) (Nat.le_of_ble_eq_true rfl) (Nat.le_of_ble_eq_true rfl) ?_
                      exact vx_ret (W.iret (v := ((r18 - 1)).toInt32) hx hb hr (fun t ht hWm => ⟨⟨((r18 - 1)).toInt32, u, rfl, hw, by rw [ht]; exact hP, va_K.moved hWm.alike hK, hD⟩, hS.F ht⟩) hS.2.2 dX0_span_143)
                    · exact absurd (by decide) c17
                  · have hw := hw.1 c16
                    refine lv_iconst (v := 1) hx hb dX0_span_114 (by decide) ?_
                    refine lv_goto (tgt := 119) hx hb dX0_span_115 (by decide) ?_
                    refine lv_istore (lv' := [(13, .int 1), (11, .long r11), (10, .int 0), (8, .long (v3 - v1)), (0, .ref h0), (1, .long v1), (3, .long v3), (5, .long v5), (7, .int v7)]) hx hb dX0_span_119 hl (by decide) rfl (fun ls hl => ?_)
                    refine lv_iload hx hb dX0_span_121 (lv_at hl 0 rfl) ?_
                    refine lv_if_eq (tgt := 131) hx hb dX0_span_123 (by decide) (fun c19 => ?_) (fun c19 => ?_)
                    · exact absurd c19 (by decide)
                    ·
                      refine lv_lload hx hb dX0_span_126 (lv_at hl 1 rfl) ?_
                      refine lv_goto (tgt := 142) hx hb dX0_span_128 (by decide) ?_
                      refine lv_l2i (v := (r11).toInt32) hx hb dX0_span_142 rfl ?_
                      refine W.widen (k := 1) (n := 6) (Nat.le_of_ble_eq_true rfl) (Nat.le_of_ble_eq_true rfl) ?_
                      exact vx_ret (W.iret (v := (r11).toInt32) hx hb hr (fun t ht hWm => ⟨⟨(r11).toInt32, u, rfl, hw, by rw [ht]; exact hP, va_K.moved hWm.alike hK, hD⟩, hS.F ht⟩) hS.2.2 dX0_span_143)
              · have hw := hw.2 c13
                refine lv_iconst (v := (-1)) hx hb dX0_span_101 (by decide) ?_
                refine W.widen (k := 1) (n := 6) (Nat.le_of_ble_eq_true rfl) (Nat.le_of_ble_eq_true rfl) ?_
                exact vx_ret (W.iret (v := (-1)) hx hb hr (fun t ht hWm => ⟨⟨(-1), u, rfl, hw, by rw [ht]; exact hP, va_K.moved hWm.alike hK, hD⟩, hS.F ht⟩) hS.2.2 dX0_span_102)
            · exact absurd (by decide) c10
          · have hw := hw.2 c9
            refine lv_iconst (v := 1) hx hb dX0_span_57 (by decide) ?_
            refine lv_goto (tgt := 62) hx hb dX0_span_58 (by decide) ?_
            refine lv_istore (lv' := [(10, .int 1), (8, .long (v3 - v1)), (0, .ref h0), (1, .long v1), (3, .long v3), (5, .long v5), (7, .int v7)]) hx hb dX0_span_62 hl (by decide) rfl (fun ls hl => ?_)
            refine lv_iload hx hb dX0_span_64 (lv_at hl 0 rfl) ?_
            refine lv_if_eq (tgt := 80) hx hb dX0_span_66 (by decide) (fun c20 => ?_) (fun c20 => ?_)
            · exact absurd c20 (by decide)
            ·
              refine lv_aload_n hx hb dX0_span_69 rfl (lv_at hl 2 rfl) ?_
              refine lv_lload hx hb dX0_span_70 (lv_at hl 1 rfl) ?_
              refine lv_lload hx hb dX0_span_72 (lv_at hl 5 rfl) ?_
              refine pc_Vl (As := [.long (v3 - v1), .long v5]) (rest := []) ⟨hx, hb, hml, hown, hts⟩ (mX0_longestSpan l D cJ h0 a1 a2 a3 a4 a5 a6 tC tS u (v3 - v1) v5 _) (cwV 2 hts gX0_span_X0_longestSpan rfl rfl rfl (by decide +kernel) ⟨Nat.le_of_ble_eq_true rfl, Nat.le_of_ble_eq_true rfl⟩) (wX_rc hW) wX_bl (wX_in hW hw) rfl hl.1 rfl (Nat.le_of_ble_eq_true rfl) dX0_span_74 ⟨Nat.le_of_ble_eq_true rfl, Nat.le_of_ble_eq_true rfl⟩ (fun r21 hw => ?_)
              refine lv_goto (tgt := 89) hx hb dX0_span_77 (by decide) ?_
              refine lv_lstore (lv' := [(11, .long r21), (10, .int 1), (8, .long (v3 - v1)), (0, .ref h0), (1, .long v1), (3, .long v3), (5, .long v5), (7, .int v7)]) hx hb dX0_span_89 hl (by decide) rfl (fun ls hl => ?_)
              refine lv_lload hx hb dX0_span_91 (lv_at hl 0 rfl) ?_
              refine lv_aload_n hx hb dX0_span_93 rfl (lv_at hl 3 rfl) ?_
              refine pc_Vl (As := []) (rest := [.long r21]) ⟨hx, hb, hml, hown, hts⟩ (mX0_lastSecond l D cJ h0 a1 a2 a3 a4 a5 a6 tC tS u _) (cwV 0 hts gX0_span_X0_lastSecond rfl rfl rfl (by decide +kernel) ⟨Nat.le_of_ble_eq_true rfl, Nat.le_of_ble_eq_true rfl⟩) (wX_rc hW) wX_bl (wX_in hW hw) rfl hl.1 rfl (Nat.le_of_ble_eq_true rfl) dX0_span_94 ⟨Nat.le_of_ble_eq_true rfl, Nat.le_of_ble_eq_true rfl⟩ (fun r22 hw => ?_)
              refine bl_le (tgt := 103) hx hb dX0_span_97 dX0_span_98 (by decide) (fun c23 => ?_) (fun c23 => ?_)
              · have hw := hw.1 c23
                refine lv_iload hx hb dX0_span_103 (lv_at hl 7 rfl) ?_
                refine lv_if_eq (tgt := 114) hx hb dX0_span_105 (by decide) (fun c24 => ?_) (fun c24 => ?_)
                · have hw := hw.1 c24
                  refine lv_iconst (v := 1) hx hb dX0_span_114 (by decide) ?_
                  refine lv_goto (tgt := 119) hx hb dX0_span_115 (by decide) ?_
                  refine lv_istore (lv' := [(13, .int 1), (11, .long r21), (10, .int 1), (8, .long (v3 - v1)), (0, .ref h0), (1, .long v1), (3, .long v3), (5, .long v5), (7, .int v7)]) hx hb dX0_span_119 hl (by decide) rfl (fun ls hl => ?_)
                  refine lv_iload hx hb dX0_span_121 (lv_at hl 0 rfl) ?_
                  refine lv_if_eq (tgt := 131) hx hb dX0_span_123 (by decide) (fun c25 => ?_) (fun c25 => ?_)
                  · exact absurd c25 (by decide)
                  ·
                    refine lv_lload hx hb dX0_span_126 (lv_at hl 1 rfl) ?_
                    refine lv_goto (tgt := 142) hx hb dX0_span_128 (by decide) ?_
                    refine lv_l2i (v := (r21).toInt32) hx hb dX0_span_142 rfl ?_
                    refine W.widen (k := 1) (n := 6) (Nat.le_of_ble_eq_true rfl) (Nat.le_of_ble_eq_true rfl) ?_
                    exact vx_ret (W.iret (v := (r21).toInt32) hx hb hr (fun t ht hWm => ⟨⟨(r21).toInt32, u, rfl, hw, by rw [ht]; exact hP, va_K.moved hWm.alike hK, hD⟩, hS.F ht⟩) hS.2.2 dX0_span_143)
                · have hw := hw.2 c24
                  refine lv_iload hx hb dX0_span_108 (lv_at hl 7 rfl) ?_
                  refine lv_iconst (v := 2) hx hb dX0_span_110 (by decide) ?_
                  refine lv_icmp_ne (tgt := 118) hx hb dX0_span_111 (by decide) (fun c26 => ?_) (fun c26 => ?_)
                  · have hw := hw.2 c26
                    refine lv_iconst (v := 0) hx hb dX0_span_118 (by decide) ?_
                    refine lv_istore (lv' := [(13, .int 0), (11, .long r21), (10, .int 1), (8, .long (v3 - v1)), (0, .ref h0), (1, .long v1), (3, .long v3), (5, .long v5), (7, .int v7)]) hx hb dX0_span_119 hl (by decide) rfl (fun ls hl => ?_)
                    refine lv_iload hx hb dX0_span_121 (lv_at hl 0 rfl) ?_
                    refine lv_if_eq (tgt := 131) hx hb dX0_span_123 (by decide) (fun c27 => ?_) (fun c27 => ?_)
                    ·
                      refine lv_aload_n hx hb dX0_span_131 rfl (lv_at hl 4 rfl) ?_
                      refine lv_lload hx hb dX0_span_132 (lv_at hl 3 rfl) ?_
                      refine lv_lload hx hb dX0_span_134 (lv_at hl 1 rfl) ?_
                      refine lv_iconst (v := 0) hx hb dX0_span_136 (by decide) ?_
                      refine pc_Vl (As := [.long (v3 - v1), .long r21, .int 0]) (rest := []) ⟨hx, hb, hml, hown, hts⟩ (mX0_nextSecond l D cJ h0 a1 a2 a3 a4 a5 a6 tC tS u (v3 - v1) r21 0 _) (cwV 3 hts gX0_span_X0_nextSecond rfl rfl rfl (by decide +kernel) ⟨Nat.le_of_ble_eq_true rfl, Nat.le_of_ble_eq_true rfl⟩) (wX_rc hW) wX_bl (wX_in hW hw) rfl hl.1 rfl (Nat.le_of_ble_eq_true rfl) dX0_span_137 ⟨Nat.le_of_ble_eq_true rfl, Nat.le_of_ble_eq_true rfl⟩ (fun r28 hw => ?_)
                      refine lv_lconst (v := 1) hx hb dX0_span_140 (by decide) ?_
                      refine lv_lsub hx hb dX0_span_141 ?_
                      refine lv_l2i (v := ((r28 - 1)).toInt32) hx hb dX0_span_142 rfl ?_
                      refine W.widen (k := 1) (n := 6) (Nat.le_of_ble_eq_true rfl) (Nat.le_of_ble_eq_true rfl) ?_
                      exact vx_ret (W.iret (v := ((r28 - 1)).toInt32) hx hb hr (fun t ht hWm => ⟨⟨((r28 - 1)).toInt32, u, rfl, hw, by rw [ht]; exact hP, va_K.moved hWm.alike hK, hD⟩, hS.F ht⟩) hS.2.2 dX0_span_143)
                    · exact absurd (by decide) c27
                  · have hw := hw.1 c26
                    refine lv_iconst (v := 1) hx hb dX0_span_114 (by decide) ?_
                    refine lv_goto (tgt := 119) hx hb dX0_span_115 (by decide) ?_
                    refine lv_istore (lv' := [(13, .int 1), (11, .long r21), (10, .int 1), (8, .long (v3 - v1)), (0, .ref h0), (1, .long v1), (3, .long v3), (5, .long v5), (7, .int v7)]) hx hb dX0_span_119 hl (by decide) rfl (fun ls hl => ?_)
                    refine lv_iload hx hb dX0_span_121 (lv_at hl 0 rfl) ?_
                    refine lv_if_eq (tgt := 131) hx hb dX0_span_123 (by decide) (fun c29 => ?_) (fun c29 => ?_)
                    · exact absurd c29 (by decide)
                    ·
                      refine lv_lload hx hb dX0_span_126 (lv_at hl 1 rfl) ?_
                      refine lv_goto (tgt := 142) hx hb dX0_span_128 (by decide) ?_
                      refine lv_l2i (v := (r21).toInt32) hx hb dX0_span_142 rfl ?_
                      refine W.widen (k := 1) (n := 6) (Nat.le_of_ble_eq_true rfl) (Nat.le_of_ble_eq_true rfl) ?_
                      exact vx_ret (W.iret (v := (r21).toInt32) hx hb hr (fun t ht hWm => ⟨⟨(r21).toInt32, u, rfl, hw, by rw [ht]; exact hP, va_K.moved hWm.alike hK, hD⟩, hS.F ht⟩) hS.2.2 dX0_span_143)
              · have hw := hw.2 c23
                refine lv_iconst (v := (-1)) hx hb dX0_span_101 (by decide) ?_
                refine W.widen (k := 1) (n := 6) (Nat.le_of_ble_eq_true rfl) (Nat.le_of_ble_eq_true rfl) ?_
                exact vx_ret (W.iret (v := (-1)) hx hb hr (fun t ht hWm => ⟨⟨(-1), u, rfl, hw, by rw [ht]; exact hP, va_K.moved hWm.alike hK, hD⟩, hS.F ht⟩) hS.2.2 dX0_span_102)
        · have hw := hw.1 c8
          exact x0_throw (k := 0) (names := ["java/lang/RuntimeException", "java/lang/Exception"]) (text := "outside the table, or no such base, need or side") hx hb hst hown (by decide +kernel) (by decide +kernel) (hts (.classLink RX0 48 "java/lang/IllegalArgumentException") (by decide +kernel)) (hts (.initialized "java/lang/IllegalArgumentException") (by decide +kernel)) (by decide +kernel) hT (fun w h => hts w (by unfold wsX0_span; exact List.mem_cons_of_mem _ (List.mem_append_right _ h))) (by decide +kernel) (by decide +kernel) (hl.1.trans hml.symm) dX0_span_36 dX0_span_39 dX0_span_40 dX0_span_42 dX0_span_45 hout (Nat.le_of_ble_eq_true rfl) (Nat.le_of_ble_eq_true rfl) (Nat.le_of_ble_eq_true rfl) (Nat.le_of_ble_eq_true rfl) hlocks hP hK hD rfl hw

def wX0_squat (post : Int64 → XS → Prop) (thr : Nat → Prop) (u : XS) (v1 : Int64) (v3 : Int64) : Prop := (wX0_isWithin (fun r1 => ((r1 = 0 → (thr 0)) ∧ (¬ r1 = 0 → (wX0_isWithin (fun r3 => ((r3 = 0 → (thr 0)) ∧ (¬ r3 = 0 → (wX0_squatOf (fun r5 => (post r5 u)) v1 v3)))) v3 0 30000)))) v1 0 10000)

set_option maxHeartbeats 4000000 in
set_option maxRecDepth 100000 in
theorem mX0_squat (l : Launch) (hst : l.stackTraces = false) (D : va_G) (cJ : ClassId) (h0 a1 a2 a3 a4 a5 a6 tC tS sz : Nat) (u : XS) (v1 : Int64) (v3 : Int64) (post : Int64 → XS → Prop) (thr : Nat → Prop) : vx_Met l yX0_squat wsX0_squat ({ frames := 6, cells := 1, slots := 6, locals := 90 } : Room) (va_Pc [.ref h0, .long v1, .long v3] (fun U => XE D cJ h0 a1 a2 a3 a4 a5 a6 tC tS sz u U ∧ wX0_squat post thr u v1 v3)) (va_Ql post (fun u9 t9 => XT D cJ h0 a1 a2 a3 a4 a5 a6 (va_A (x0W cJ h0 a1 a2 a3 a4 a5 a6 u) sz) u9 t9) (va_A (x0W cJ h0 a1 a2 a3 a4 a5 a6 u) sz)) (vx_X thr (fun E9 k9 t9 => E9 = exN k9 ∧ XT D cJ h0 a1 a2 a3 a4 a5 a6 (va_A (x0W cJ h0 a1 a2 a3 a4 a5 a6 u) sz) u t9) (va_A (x0W cJ h0 a1 a2 a3 a4 a5 a6 u) sz)) 1 6 (va_A (x0W cJ h0 a1 a2 a3 a4 a5 a6 u) sz) := by
  refine vx_ofW (cc := cX0_squat) (maxL := 5) (ret := (some .long)) (by decide +kernel) rfl ?_
  intro p e s m args below meth c s₁ B hml hout hv
  obtain ⟨rfl, ⟨hsz, hP, hK, hD0, hZ, hT⟩, hw⟩ := hv
  have hx := B.exec
  have hb := B.bytes
  have hr := B.returns
  have hts := atoms_spec (ws := wsX0_squat) B.pre
  have hown : s.vm.findClass RX0 = some m.cls := findClass_of_methodNamed B.named
  have hlocks := B.notSynchronized
  have hin := ()
  subst hsz
  have hD := hD0.self (sz := s.heap.size)
  generalize hAe : va_A (x0W cJ h0 a1 a2 a3 a4 a5 a6 u) s.heap.size = A at hD hZ hT ⊢
  have hS : va_S A s.heap s.heap [] := va_S.rf
  have hW : XW D cJ h0 a1 a2 a3 a4 a5 a6 tC tS u s s.heap := ⟨hP, hK, hZ.narrow (fun _ h => h.elim)⟩
  have hl := lv_entry ([.ref h0, .long v1, .long v3]) (n := 5) (Nat.le_of_ble_eq_true rfl)
  rw [lg_entry_eq]
  generalize (lg_sl ([.ref h0, .long v1, .long v3]) ++ List.replicate (5 - (lg_sl ([.ref h0, .long v1, .long v3])).length) Slot.unset).toArray = ls at hl ⊢
  have hl : lv_has ls 5 [(0, .ref h0), (1, .long v1), (3, .long v3)] := hl
  unfold wX0_squat at hw
  refine lv_lload_n hx hb dX0_squat_0 rfl (lv_at hl 1 rfl) ?_
  refine lv_lconst (v := 0) hx hb dX0_squat_1 (by decide) ?_
  refine lv_ldc2 (v := 10000) hx hb hown (hts (.constantLong RX0 99 (10000)) (by decide +kernel)) dX0_squat_2 ?_
  refine pc_Si (As := [.long v1, .long 0, .long 10000]) (rest := []) ⟨hx, hb, hml, hown, hts⟩ (mX0_isWithin l v1 0 10000 _) (va_cwS 3 hts gX0_squat_X0_isWithin rfl rfl rfl (by decide +kernel) ⟨Nat.le_of_ble_eq_true rfl, Nat.le_of_ble_eq_true rfl⟩) wK_bl (fun _ _ _ => hw) rfl hl.1 rfl (Nat.le_of_ble_eq_true rfl) dX0_squat_5 ⟨Nat.le_of_ble_eq_true rfl, Nat.le_of_ble_eq_true rfl⟩ (fun r1 hw => ?_)
  obtain ⟨z_r1, hw⟩ := hw
  refine lv_if_eq (tgt := 22) hx hb dX0_squat_8 (by decide) (fun c2 => ?_) (fun c2 => ?_)
  · have hw := hw.1 c2
    exact x0_throw (k := 0) (names := ["java/lang/RuntimeException", "java/lang/Exception"]) (text := "no such speed or draft") hx hb hst hown (by decide +kernel) (by decide +kernel) (hts (.classLink RX0 48 "java/lang/IllegalArgumentException") (by decide +kernel)) (hts (.initialized "java/lang/IllegalArgumentException") (by decide +kernel)) (by decide +kernel) hT (fun w h => hts w (by unfold wsX0_squat; exact List.mem_cons_of_mem _ (List.mem_append_right _ h))) (by decide +kernel) (by decide +kernel) (hl.1.trans hml.symm) dX0_squat_22 dX0_squat_25 dX0_squat_26 dX0_squat_28 dX0_squat_31 hout (Nat.le_of_ble_eq_true rfl) (Nat.le_of_ble_eq_true rfl) (Nat.le_of_ble_eq_true rfl) (Nat.le_of_ble_eq_true rfl) hlocks hP hK hD rfl hw
  · have hw := hw.2 c2
    refine lv_lload_n hx hb dX0_squat_11 rfl (lv_at hl 2 rfl) ?_
    refine lv_lconst (v := 0) hx hb dX0_squat_12 (by decide) ?_
    refine lv_ldc2 (v := 30000) hx hb hown (hts (.constantLong RX0 101 (30000)) (by decide +kernel)) dX0_squat_13 ?_
    refine pc_Si (As := [.long v3, .long 0, .long 30000]) (rest := []) ⟨hx, hb, hml, hown, hts⟩ (mX0_isWithin l v3 0 30000 _) (va_cwS 3 hts gX0_squat_X0_isWithin rfl rfl rfl (by decide +kernel) ⟨Nat.le_of_ble_eq_true rfl, Nat.le_of_ble_eq_true rfl⟩) wK_bl (fun _ _ _ => hw) rfl hl.1 rfl (Nat.le_of_ble_eq_true rfl) dX0_squat_16 ⟨Nat.le_of_ble_eq_true rfl, Nat.le_of_ble_eq_true rfl⟩ (fun r3 hw => ?_)
    obtain ⟨z_r3, hw⟩ := hw
    refine lv_if_ne (tgt := 32) hx hb dX0_squat_19 (by decide) (fun c4 => ?_) (fun c4 => ?_)
    · have hw := hw.2 c4
      refine lv_lload_n hx hb dX0_squat_32 rfl (lv_at hl 1 rfl) ?_
      refine lv_lload_n hx hb dX0_squat_33 rfl (lv_at hl 2 rfl) ?_
      refine pc_Sl (As := [.long v1, .long v3]) (rest := []) ⟨hx, hb, hml, hown, hts⟩ (mX0_squatOf l tC tS v1 v3 _) (va_cwS 2 hts gX0_squat_X0_squatOf rfl rfl rfl (by decide +kernel) ⟨Nat.le_of_ble_eq_true rfl, Nat.le_of_ble_eq_true rfl⟩) wS_bl (wS_in hW.2.2 hw) rfl hl.1 rfl (Nat.le_of_ble_eq_true rfl) dX0_squat_34 ⟨Nat.le_of_ble_eq_true rfl, Nat.le_of_ble_eq_true rfl⟩ (fun r5 hw => ?_)
      refine W.widen (k := 1) (n := 6) (Nat.le_of_ble_eq_true rfl) (Nat.le_of_ble_eq_true rfl) ?_
      exact vx_ret (W.lret (v := r5) hx hb hr (fun t ht hWm => ⟨⟨r5, u, rfl, hw, by rw [ht]; exact hP, va_K.moved hWm.alike hK, hD⟩, hS.F ht⟩) hS.2.2 dX0_squat_37)
    · have hw := hw.1 c4
      exact x0_throw (k := 0) (names := ["java/lang/RuntimeException", "java/lang/Exception"]) (text := "no such speed or draft") hx hb hst hown (by decide +kernel) (by decide +kernel) (hts (.classLink RX0 48 "java/lang/IllegalArgumentException") (by decide +kernel)) (hts (.initialized "java/lang/IllegalArgumentException") (by decide +kernel)) (by decide +kernel) hT (fun w h => hts w (by unfold wsX0_squat; exact List.mem_cons_of_mem _ (List.mem_append_right _ h))) (by decide +kernel) (by decide +kernel) (hl.1.trans hml.symm) dX0_squat_22 dX0_squat_25 dX0_squat_26 dX0_squat_28 dX0_squat_31 hout (Nat.le_of_ble_eq_true rfl) (Nat.le_of_ble_eq_true rfl) (Nat.le_of_ble_eq_true rfl) (Nat.le_of_ble_eq_true rfl) hlocks hP hK hD rfl hw

def wX0_passing (post : Int64 → XS → Prop) (thr : Nat → Prop) (u : XS) (v1 : Int64) (v3 : Int64) : Prop := (wX0_isWithin (fun r1 => ((r1 = 0 → (thr 0)) ∧ (¬ r1 = 0 → (wX0_isWithin (fun r3 => ((r3 = 0 → (thr 0)) ∧ (¬ r3 = 0 → ((v3 = 0 → (thr 2)) ∧ (¬ v3 = 0 → (wX0_secondsFor (fun r6 => (post r6 u)) v1 v3)))))) v3 0 10000)))) v1 0 1000000)

set_option maxHeartbeats 4000000 in
set_option maxRecDepth 100000 in
theorem mX0_passing (l : Launch) (hst : l.stackTraces = false) (D : va_G) (cJ : ClassId) (h0 a1 a2 a3 a4 a5 a6 tC tS sz : Nat) (u : XS) (v1 : Int64) (v3 : Int64) (post : Int64 → XS → Prop) (thr : Nat → Prop) : vx_Met l yX0_passing wsX0_passing ({ frames := 6, cells := 1, slots := 6, locals := 90 } : Room) (va_Pc [.ref h0, .long v1, .long v3] (fun U => XE D cJ h0 a1 a2 a3 a4 a5 a6 tC tS sz u U ∧ wX0_passing post thr u v1 v3)) (va_Ql post (fun u9 t9 => XT D cJ h0 a1 a2 a3 a4 a5 a6 (va_A (x0W cJ h0 a1 a2 a3 a4 a5 a6 u) sz) u9 t9) (va_A (x0W cJ h0 a1 a2 a3 a4 a5 a6 u) sz)) (vx_X thr (fun E9 k9 t9 => E9 = exN k9 ∧ XT D cJ h0 a1 a2 a3 a4 a5 a6 (va_A (x0W cJ h0 a1 a2 a3 a4 a5 a6 u) sz) u t9) (va_A (x0W cJ h0 a1 a2 a3 a4 a5 a6 u) sz)) 1 6 (va_A (x0W cJ h0 a1 a2 a3 a4 a5 a6 u) sz) := by
  refine vx_ofW (cc := cX0_passing) (maxL := 5) (ret := (some .long)) (by decide +kernel) rfl ?_
  intro p e s m args below meth c s₁ B hml hout hv
  obtain ⟨rfl, ⟨hsz, hP, hK, hD0, hZ, hT⟩, hw⟩ := hv
  have hx := B.exec
  have hb := B.bytes
  have hr := B.returns
  have hts := atoms_spec (ws := wsX0_passing) B.pre
  have hown : s.vm.findClass RX0 = some m.cls := findClass_of_methodNamed B.named
  have hlocks := B.notSynchronized
  have hin := ()
  subst hsz
  have hD := hD0.self (sz := s.heap.size)
  generalize hAe : va_A (x0W cJ h0 a1 a2 a3 a4 a5 a6 u) s.heap.size = A at hD hZ hT ⊢
  have hS : va_S A s.heap s.heap [] := va_S.rf
  have hW : XW D cJ h0 a1 a2 a3 a4 a5 a6 tC tS u s s.heap := ⟨hP, hK, hZ.narrow (fun _ h => h.elim)⟩
  have hl := lv_entry ([.ref h0, .long v1, .long v3]) (n := 5) (Nat.le_of_ble_eq_true rfl)
  rw [lg_entry_eq]
  generalize (lg_sl ([.ref h0, .long v1, .long v3]) ++ List.replicate (5 - (lg_sl ([.ref h0, .long v1, .long v3])).length) Slot.unset).toArray = ls at hl ⊢
  have hl : lv_has ls 5 [(0, .ref h0), (1, .long v1), (3, .long v3)] := hl
  unfold wX0_passing at hw
  refine lv_lload_n hx hb dX0_passing_0 rfl (lv_at hl 1 rfl) ?_
  refine lv_lconst (v := 0) hx hb dX0_passing_1 (by decide) ?_
  refine lv_ldc2 (v := 1000000) hx hb hown (hts (.constantLong RX0 108 (1000000)) (by decide +kernel)) dX0_passing_2 ?_
  refine pc_Si (As := [.long v1, .long 0, .long 1000000]) (rest := []) ⟨hx, hb, hml, hown, hts⟩ (mX0_isWithin l v1 0 1000000 _) (va_cwS 3 hts gX0_passing_X0_isWithin rfl rfl rfl (by decide +kernel) ⟨Nat.le_of_ble_eq_true rfl, Nat.le_of_ble_eq_true rfl⟩) wK_bl (fun _ _ _ => hw) rfl hl.1 rfl (Nat.le_of_ble_eq_true rfl) dX0_passing_5 ⟨Nat.le_of_ble_eq_true rfl, Nat.le_of_ble_eq_true rfl⟩ (fun r1 hw => ?_)
  obtain ⟨z_r1, hw⟩ := hw
  refine lv_if_eq (tgt := 22) hx hb dX0_passing_8 (by decide) (fun c2 => ?_) (fun c2 => ?_)
  · have hw := hw.1 c2
    exact x0_throw (k := 0) (names := ["java/lang/RuntimeException", "java/lang/Exception"]) (text := "no such way or speed") hx hb hst hown (by decide +kernel) (by decide +kernel) (hts (.classLink RX0 48 "java/lang/IllegalArgumentException") (by decide +kernel)) (hts (.initialized "java/lang/IllegalArgumentException") (by decide +kernel)) (by decide +kernel) hT (fun w h => hts w (by unfold wsX0_passing; exact List.mem_cons_of_mem _ (List.mem_append_left _ (List.mem_append_right _ h)))) (by decide +kernel) (by decide +kernel) (hl.1.trans hml.symm) dX0_passing_22 dX0_passing_25 dX0_passing_26 dX0_passing_28 dX0_passing_31 hout (Nat.le_of_ble_eq_true rfl) (Nat.le_of_ble_eq_true rfl) (Nat.le_of_ble_eq_true rfl) (Nat.le_of_ble_eq_true rfl) hlocks hP hK hD rfl hw
  · have hw := hw.2 c2
    refine lv_lload_n hx hb dX0_passing_11 rfl (lv_at hl 2 rfl) ?_
    refine lv_lconst (v := 0) hx hb dX0_passing_12 (by decide) ?_
    refine lv_ldc2 (v := 10000) hx hb hown (hts (.constantLong RX0 99 (10000)) (by decide +kernel)) dX0_passing_13 ?_
    refine pc_Si (As := [.long v3, .long 0, .long 10000]) (rest := []) ⟨hx, hb, hml, hown, hts⟩ (mX0_isWithin l v3 0 10000 _) (va_cwS 3 hts gX0_passing_X0_isWithin rfl rfl rfl (by decide +kernel) ⟨Nat.le_of_ble_eq_true rfl, Nat.le_of_ble_eq_true rfl⟩) wK_bl (fun _ _ _ => hw) rfl hl.1 rfl (Nat.le_of_ble_eq_true rfl) dX0_passing_16 ⟨Nat.le_of_ble_eq_true rfl, Nat.le_of_ble_eq_true rfl⟩ (fun r3 hw => ?_)
    obtain ⟨z_r3, hw⟩ := hw
    refine lv_if_ne (tgt := 32) hx hb dX0_passing_19 (by decide) (fun c4 => ?_) (fun c4 => ?_)
    · have hw := hw.2 c4
      refine lv_lload_n hx hb dX0_passing_32 rfl (lv_at hl 2 rfl) ?_
      refine lv_lconst (v := 0) hx hb dX0_passing_33 (by decide) ?_
      refine bl_ne (tgt := 48) hx hb dX0_passing_34 dX0_passing_35 (by decide) (fun c5 => ?_) (fun c5 => ?_)
      · have hw := hw.2 c5
        refine lv_lload_n hx hb dX0_passing_48 rfl (lv_at hl 1 rfl) ?_
        refine lv_lload_n hx hb dX0_passing_49 rfl (lv_at hl 2 rfl) ?_
        refine pc_Sl (As := [.long v1, .long v3]) (rest := []) ⟨hx, hb, hml, hown, hts⟩ (mX0_secondsFor l v1 v3 _) (va_cwS 2 hts gX0_passing_X0_secondsFor rfl rfl rfl (by decide +kernel) ⟨Nat.le_of_ble_eq_true rfl, Nat.le_of_ble_eq_true rfl⟩) wK_bl (fun _ _ _ => hw) rfl hl.1 rfl (Nat.le_of_ble_eq_true rfl) dX0_passing_50 ⟨Nat.le_of_ble_eq_true rfl, Nat.le_of_ble_eq_true rfl⟩ (fun r6 hw => ?_)
        refine W.widen (k := 1) (n := 6) (Nat.le_of_ble_eq_true rfl) (Nat.le_of_ble_eq_true rfl) ?_
        exact vx_ret (W.lret (v := r6) hx hb hr (fun t ht hWm => ⟨⟨r6, u, rfl, hw, by rw [ht]; exact hP, va_K.moved hWm.alike hK, hD⟩, hS.F ht⟩) hS.2.2 dX0_passing_53)
      · have hw := hw.1 c5
        exact x0_throw (k := 2) (names := ["java/lang/RuntimeException", "java/lang/Exception"]) (text := "speed 0") hx hb hst hown (by decide +kernel) (by decide +kernel) (hts (.classLink RX0 112 "java/lang/ArithmeticException") (by decide +kernel)) (hts (.initialized "java/lang/ArithmeticException") (by decide +kernel)) (by decide +kernel) hT (fun w h => hts w (by unfold wsX0_passing; exact List.mem_cons_of_mem _ (List.mem_append_right _ h))) (by decide +kernel) (by decide +kernel) (hl.1.trans hml.symm) dX0_passing_38 dX0_passing_41 dX0_passing_42 dX0_passing_44 dX0_passing_47 hout (Nat.le_of_ble_eq_true rfl) (Nat.le_of_ble_eq_true rfl) (Nat.le_of_ble_eq_true rfl) (Nat.le_of_ble_eq_true rfl) hlocks hP hK hD rfl hw
    · have hw := hw.1 c4
      exact x0_throw (k := 0) (names := ["java/lang/RuntimeException", "java/lang/Exception"]) (text := "no such way or speed") hx hb hst hown (by decide +kernel) (by decide +kernel) (hts (.classLink RX0 48 "java/lang/IllegalArgumentException") (by decide +kernel)) (hts (.initialized "java/lang/IllegalArgumentException") (by decide +kernel)) (by decide +kernel) hT (fun w h => hts w (by unfold wsX0_passing; exact List.mem_cons_of_mem _ (List.mem_append_left _ (List.mem_append_right _ h)))) (by decide +kernel) (by decide +kernel) (hl.1.trans hml.symm) dX0_passing_22 dX0_passing_25 dX0_passing_26 dX0_passing_28 dX0_passing_31 hout (Nat.le_of_ble_eq_true rfl) (Nat.le_of_ble_eq_true rfl) (Nat.le_of_ble_eq_true rfl) (Nat.le_of_ble_eq_true rfl) hlocks hP hK hD rfl hw

def wX0_cosine (post : Int32 → XS → Prop) (thr : Nat → Prop) (u : XS) (v1 : Int32) : Prop := ((v1 < 0 → (thr 4)) ∧ (¬ v1 < 0 → ((v1 < 65 → (vp_in v1 65 ∧ (post (cosT (v1).toNatClampNeg) u))) ∧ (¬ v1 < 65 → (thr 4)))))

set_option maxHeartbeats 4000000 in
set_option maxRecDepth 100000 in
theorem mX0_cosine (l : Launch) (hst : l.stackTraces = false) (D : va_G) (cJ : ClassId) (h0 a1 a2 a3 a4 a5 a6 tC tS sz : Nat) (u : XS) (v1 : Int32) (post : Int32 → XS → Prop) (thr : Nat → Prop) : vx_Met l yX0_cosine wsX0_cosineX ({ frames := 7, cells := 1, slots := 6, locals := 103 } : Room) (va_Pc [.ref h0, .int v1] (fun U => XE D cJ h0 a1 a2 a3 a4 a5 a6 tC tS sz u U ∧ wX0_cosine post thr u v1)) (va_Qi post (fun u9 t9 => XT D cJ h0 a1 a2 a3 a4 a5 a6 (va_A (x0W cJ h0 a1 a2 a3 a4 a5 a6 u) sz) u9 t9) (va_A (x0W cJ h0 a1 a2 a3 a4 a5 a6 u) sz)) (vx_X thr (fun E9 k9 t9 => E9 = exN k9 ∧ XT D cJ h0 a1 a2 a3 a4 a5 a6 (va_A (x0W cJ h0 a1 a2 a3 a4 a5 a6 u) sz) u t9) (va_A (x0W cJ h0 a1 a2 a3 a4 a5 a6 u) sz)) 1 6 (va_A (x0W cJ h0 a1 a2 a3 a4 a5 a6 u) sz) := by
  refine vx_ofW (cc := cX0_cosine) (maxL := 2) (ret := (some .int)) (by decide +kernel) rfl ?_
  intro p e s m args below meth c s₁ B hml hout hv
  obtain ⟨rfl, ⟨hsz, hP, hK, hD0, hZ, hT⟩, hw⟩ := hv
  have hx := B.exec
  have hb := B.bytes
  have hr := B.returns
  have hts := atoms_spec (ws := wsX0_cosineX) B.pre
  have hown : s.vm.findClass RX0 = some m.cls := findClass_of_methodNamed B.named
  have hlocks := B.notSynchronized
  have hin := ()
  subst hsz
  have hD := hD0.self (sz := s.heap.size)
  generalize hAe : va_A (x0W cJ h0 a1 a2 a3 a4 a5 a6 u) s.heap.size = A at hD hZ hT ⊢
  have hS : va_S A s.heap s.heap [] := va_S.rf
  have hW : XW D cJ h0 a1 a2 a3 a4 a5 a6 tC tS u s s.heap := ⟨hP, hK, hZ.narrow (fun _ h => h.elim)⟩
  have hl := lv_entry ([.ref h0, .int v1]) (n := 2) (Nat.le_of_ble_eq_true rfl)
  rw [lg_entry_eq]
  generalize (lg_sl ([.ref h0, .int v1]) ++ List.replicate (2 - (lg_sl ([.ref h0, .int v1])).length) Slot.unset).toArray = ls at hl ⊢
  have hl : lv_has ls 2 [(0, .ref h0), (1, .int v1)] := hl
  unfold wX0_cosine at hw
  refine lv_iload_n hx hb dX0_cosine_0 rfl (lv_at hl 1 rfl) ?_
  refine lv_if_lt (tgt := 12) hx hb dX0_cosine_1 (by decide) (fun c1 => ?_) (fun c1 => ?_)
  · have hw := hw.1 c1
    exact x0_throw (k := 4) (names := ["java/lang/IndexOutOfBoundsException", "java/lang/RuntimeException", "java/lang/Exception"]) (text := "no such number of the cosine") hx hb hst hown (by decide +kernel) (by decide +kernel) (hts (.classLink RX0 124 "java/lang/ArrayIndexOutOfBoundsException") (by decide +kernel)) (hts (.initialized "java/lang/ArrayIndexOutOfBoundsException") (by decide +kernel)) (by decide +kernel) hT (fun w h => hts w (by unfold wsX0_cosineX; exact List.mem_cons_of_mem _ (List.mem_append_right _ h))) (by decide +kernel) (by decide +kernel) (hl.1.trans hml.symm) dX0_cosine_12 dX0_cosine_15 dX0_cosine_16 dX0_cosine_18 dX0_cosine_21 hout (Nat.le_of_ble_eq_true rfl) (Nat.le_of_ble_eq_true rfl) (Nat.le_of_ble_eq_true rfl) (Nat.le_of_ble_eq_true rfl) hlocks hP hK hD rfl hw
  · have hw := hw.2 c1
    refine lv_iload_n hx hb dX0_cosine_4 rfl (lv_at hl 1 rfl) ?_
    refine va_gets hx hb hW.2.2.1 nS hown (hts (.fieldLink RX0 120 "TideDepths" "COSINE" "[I") (by decide +kernel)) (fun _ h9 => h9) dX0_cosine_5 ?_
    refine va_tlen (v := 65) hx hb hW.2.2.2.1 nS (by decide) dX0_cosine_8 ?_
    refine lv_icmp_lt (tgt := 22) hx hb dX0_cosine_9 (by decide) (fun c2 => ?_) (fun c2 => ?_)
    · have hw := hw.1 c2
      refine va_gets hx hb hW.2.2.1 nS hown (hts (.fieldLink RX0 120 "TideDepths" "COSINE" "[I") (by decide +kernel)) (fun _ h9 => h9) dX0_cosine_22 ?_
      refine lv_iload_n hx hb dX0_cosine_25 rfl (lv_at hl 1 rfl) ?_
      obtain ⟨h3, hw⟩ := hw
      refine va_ti (v := .int (cosT (v1).toNatClampNeg)) hx hb hW.2.2.2.1 nS h3 rfl dX0_cosine_26 ?_
      refine W.widen (k := 1) (n := 6) (Nat.le_of_ble_eq_true rfl) (Nat.le_of_ble_eq_true rfl) ?_
      exact vx_ret (W.iret (v := (cosT (v1).toNatClampNeg)) hx hb hr (fun t ht hWm => ⟨⟨(cosT (v1).toNatClampNeg), u, rfl, hw, by rw [ht]; exact hP, va_K.moved hWm.alike hK, hD⟩, hS.F ht⟩) hS.2.2 dX0_cosine_27)
    · have hw := hw.2 c2
      exact x0_throw (k := 4) (names := ["java/lang/IndexOutOfBoundsException", "java/lang/RuntimeException", "java/lang/Exception"]) (text := "no such number of the cosine") hx hb hst hown (by decide +kernel) (by decide +kernel) (hts (.classLink RX0 124 "java/lang/ArrayIndexOutOfBoundsException") (by decide +kernel)) (hts (.initialized "java/lang/ArrayIndexOutOfBoundsException") (by decide +kernel)) (by decide +kernel) hT (fun w h => hts w (by unfold wsX0_cosineX; exact List.mem_cons_of_mem _ (List.mem_append_right _ h))) (by decide +kernel) (by decide +kernel) (hl.1.trans hml.symm) dX0_cosine_12 dX0_cosine_15 dX0_cosine_16 dX0_cosine_18 dX0_cosine_21 hout (Nat.le_of_ble_eq_true rfl) (Nat.le_of_ble_eq_true rfl) (Nat.le_of_ble_eq_true rfl) (Nat.le_of_ble_eq_true rfl) hlocks hP hK hD rfl hw

def wX0_draft (post : Int64 → XS → Prop) (thr : Nat → Prop) (u : XS) (v1 : Int64) (v3 : Int64) (v5 : Int64) : Prop := (wX0_isWithin (fun r1 => ((r1 = 0 → (thr 0)) ∧ (¬ r1 = 0 → (wX0_isDensity (fun r3 => ((r3 = 0 → (thr 0)) ∧ (¬ r3 = 0 → (wX0_isDensity (fun r5 => ((r5 = 0 → (thr 0)) ∧ (¬ r5 = 0 → (wX0_dividedUp (fun r7 => (post r7 u)) (v1 * v3) v5)))) v5)))) v3)))) v1 0 30000)

set_option maxHeartbeats 4000000 in
set_option maxRecDepth 100000 in
theorem mX0_draft (l : Launch) (hst : l.stackTraces = false) (D : va_G) (cJ : ClassId) (h0 a1 a2 a3 a4 a5 a6 tC tS sz : Nat) (u : XS) (v1 : Int64) (v3 : Int64) (v5 : Int64) (post : Int64 → XS → Prop) (thr : Nat → Prop) : vx_Met l yX0_draft wsX0_draft ({ frames := 6, cells := 1, slots := 6, locals := 90 } : Room) (va_Pc [.ref h0, .long v1, .long v3, .long v5] (fun U => XE D cJ h0 a1 a2 a3 a4 a5 a6 tC tS sz u U ∧ wX0_draft post thr u v1 v3 v5)) (va_Ql post (fun u9 t9 => XT D cJ h0 a1 a2 a3 a4 a5 a6 (va_A (x0W cJ h0 a1 a2 a3 a4 a5 a6 u) sz) u9 t9) (va_A (x0W cJ h0 a1 a2 a3 a4 a5 a6 u) sz)) (vx_X thr (fun E9 k9 t9 => E9 = exN k9 ∧ XT D cJ h0 a1 a2 a3 a4 a5 a6 (va_A (x0W cJ h0 a1 a2 a3 a4 a5 a6 u) sz) u t9) (va_A (x0W cJ h0 a1 a2 a3 a4 a5 a6 u) sz)) 1 6 (va_A (x0W cJ h0 a1 a2 a3 a4 a5 a6 u) sz) := by
  refine vx_ofW (cc := cX0_draft) (maxL := 7) (ret := (some .long)) (by decide +kernel) rfl ?_
  intro p e s m args below meth c s₁ B hml hout hv
  obtain ⟨rfl, ⟨hsz, hP, hK, hD0, hZ, hT⟩, hw⟩ := hv
  have hx := B.exec
  have hb := B.bytes
  have hr := B.returns
  have hts := atoms_spec (ws := wsX0_draft) B.pre
  have hown : s.vm.findClass RX0 = some m.cls := findClass_of_methodNamed B.named
  have hlocks := B.notSynchronized
  have hin := ()
  subst hsz
  have hD := hD0.self (sz := s.heap.size)
  generalize hAe : va_A (x0W cJ h0 a1 a2 a3 a4 a5 a6 u) s.heap.size = A at hD hZ hT ⊢
  have hS : va_S A s.heap s.heap [] := va_S.rf
  have hW : XW D cJ h0 a1 a2 a3 a4 a5 a6 tC tS u s s.heap := ⟨hP, hK, hZ.narrow (fun _ h => h.elim)⟩
  have hl := lv_entry ([.ref h0, .long v1, .long v3, .long v5]) (n := 7) (Nat.le_of_ble_eq_true rfl)
  rw [lg_entry_eq]
  generalize (lg_sl ([.ref h0, .long v1, .long v3, .long v5]) ++ List.replicate (7 - (lg_sl ([.ref h0, .long v1, .long v3, .long v5])).length) Slot.unset).toArray = ls at hl ⊢
  have hl : lv_has ls 7 [(0, .ref h0), (1, .long v1), (3, .long v3), (5, .long v5)] := hl
  unfold wX0_draft at hw
  refine lv_lload_n hx hb dX0_draft_0 rfl (lv_at hl 1 rfl) ?_
  refine lv_lconst (v := 0) hx hb dX0_draft_1 (by decide) ?_
  refine lv_ldc2 (v := 30000) hx hb hown (hts (.constantLong RX0 101 (30000)) (by decide +kernel)) dX0_draft_2 ?_
  refine pc_Si (As := [.long v1, .long 0, .long 30000]) (rest := []) ⟨hx, hb, hml, hown, hts⟩ (mX0_isWithin l v1 0 30000 _) (va_cwS 3 hts gX0_draft_X0_isWithin rfl rfl rfl (by decide +kernel) ⟨Nat.le_of_ble_eq_true rfl, Nat.le_of_ble_eq_true rfl⟩) wK_bl (fun _ _ _ => hw) rfl hl.1 rfl (Nat.le_of_ble_eq_true rfl) dX0_draft_5 ⟨Nat.le_of_ble_eq_true rfl, Nat.le_of_ble_eq_true rfl⟩ (fun r1 hw => ?_)
  obtain ⟨z_r1, hw⟩ := hw
  refine lv_if_eq (tgt := 26) hx hb dX0_draft_8 (by decide) (fun c2 => ?_) (fun c2 => ?_)
  · have hw := hw.1 c2
    exact x0_throw (k := 0) (names := ["java/lang/RuntimeException", "java/lang/Exception"]) (text := "no such draft or density") hx hb hst hown (by decide +kernel) (by decide +kernel) (hts (.classLink RX0 48 "java/lang/IllegalArgumentException") (by decide +kernel)) (hts (.initialized "java/lang/IllegalArgumentException") (by decide +kernel)) (by decide +kernel) hT (fun w h => hts w (by unfold wsX0_draft; exact List.mem_cons_of_mem _ (List.mem_append_right _ h))) (by decide +kernel) (by decide +kernel) (hl.1.trans hml.symm) dX0_draft_26 dX0_draft_29 dX0_draft_30 dX0_draft_32 dX0_draft_35 hout (Nat.le_of_ble_eq_true rfl) (Nat.le_of_ble_eq_true rfl) (Nat.le_of_ble_eq_true rfl) (Nat.le_of_ble_eq_true rfl) hlocks hP hK hD rfl hw
  · have hw := hw.2 c2
    refine lv_lload_n hx hb dX0_draft_11 rfl (lv_at hl 2 rfl) ?_
    refine pc_Si (As := [.long v3]) (rest := []) ⟨hx, hb, hml, hown, hts⟩ (mX0_isDensity l v3 _) (va_cwS 1 hts gX0_draft_X0_isDensity rfl rfl rfl (by decide +kernel) ⟨Nat.le_of_ble_eq_true rfl, Nat.le_of_ble_eq_true rfl⟩) wK_bl (fun _ _ _ => hw) rfl hl.1 rfl (Nat.le_of_ble_eq_true rfl) dX0_draft_12 ⟨Nat.le_of_ble_eq_true rfl, Nat.le_of_ble_eq_true rfl⟩ (fun r3 hw => ?_)
    obtain ⟨z_r3, hw⟩ := hw
    refine lv_if_eq (tgt := 26) hx hb dX0_draft_15 (by decide) (fun c4 => ?_) (fun c4 => ?_)
    · have hw := hw.1 c4
      exact x0_throw (k := 0) (names := ["java/lang/RuntimeException", "java/lang/Exception"]) (text := "no such draft or density") hx hb hst hown (by decide +kernel) (by decide +kernel) (hts (.classLink RX0 48 "java/lang/IllegalArgumentException") (by decide +kernel)) (hts (.initialized "java/lang/IllegalArgumentException") (by decide +kernel)) (by decide +kernel) hT (fun w h => hts w (by unfold wsX0_draft; exact List.mem_cons_of_mem _ (List.mem_append_right _ h))) (by decide +kernel) (by decide +kernel) (hl.1.trans hml.symm) dX0_draft_26 dX0_draft_29 dX0_draft_30 dX0_draft_32 dX0_draft_35 hout (Nat.le_of_ble_eq_true rfl) (Nat.le_of_ble_eq_true rfl) (Nat.le_of_ble_eq_true rfl) (Nat.le_of_ble_eq_true rfl) hlocks hP hK hD rfl hw
    · have hw := hw.2 c4
      refine lv_lload hx hb dX0_draft_18 (lv_at hl 3 rfl) ?_
      refine pc_Si (As := [.long v5]) (rest := []) ⟨hx, hb, hml, hown, hts⟩ (mX0_isDensity l v5 _) (va_cwS 1 hts gX0_draft_X0_isDensity rfl rfl rfl (by decide +kernel) ⟨Nat.le_of_ble_eq_true rfl, Nat.le_of_ble_eq_true rfl⟩) wK_bl (fun _ _ _ => hw) rfl hl.1 rfl (Nat.le_of_ble_eq_true rfl) dX0_draft_20 ⟨Nat.le_of_ble_eq_true rfl, Nat.le_of_ble_eq_true rfl⟩ (fun r5 hw => ?_)
      obtain ⟨z_r5, hw⟩ := hw
      refine lv_if_ne (tgt := 36) hx hb dX0_draft_23 (by decide) (fun c6 => ?_) (fun c6 => ?_)
      · have hw := hw.2 c6
        refine lv_lload_n hx hb dX0_draft_36 rfl (lv_at hl 1 rfl) ?_
        refine lv_lload_n hx hb dX0_draft_37 rfl (lv_at hl 2 rfl) ?_
        refine lv_lmul hx hb dX0_draft_38 ?_
        refine lv_lload hx hb dX0_draft_39 (lv_at hl 3 rfl) ?_
        refine pc_Sl (As := [.long (v1 * v3), .long v5]) (rest := []) ⟨hx, hb, hml, hown, hts⟩ (mX0_dividedUp l (v1 * v3) v5 _) (va_cwS 2 hts gX0_draft_X0_dividedUp rfl rfl rfl (by decide +kernel) ⟨Nat.le_of_ble_eq_true rfl, Nat.le_of_ble_eq_true rfl⟩) wK_bl (fun _ _ _ => hw) rfl hl.1 rfl (Nat.le_of_ble_eq_true rfl) dX0_draft_41 ⟨Nat.le_of_ble_eq_true rfl, Nat.le_of_ble_eq_true rfl⟩ (fun r7 hw => ?_)
        refine W.widen (k := 1) (n := 6) (Nat.le_of_ble_eq_true rfl) (Nat.le_of_ble_eq_true rfl) ?_
        exact vx_ret (W.lret (v := r7) hx hb hr (fun t ht hWm => ⟨⟨r7, u, rfl, hw, by rw [ht]; exact hP, va_K.moved hWm.alike hK, hD⟩, hS.F ht⟩) hS.2.2 dX0_draft_44)
      · have hw := hw.1 c6
        exact x0_throw (k := 0) (names := ["java/lang/RuntimeException", "java/lang/Exception"]) (text := "no such draft or density") hx hb hst hown (by decide +kernel) (by decide +kernel) (hts (.classLink RX0 48 "java/lang/IllegalArgumentException") (by decide +kernel)) (hts (.initialized "java/lang/IllegalArgumentException") (by decide +kernel)) (by decide +kernel) hT (fun w h => hts w (by unfold wsX0_draft; exact List.mem_cons_of_mem _ (List.mem_append_right _ h))) (by decide +kernel) (by decide +kernel) (hl.1.trans hml.symm) dX0_draft_26 dX0_draft_29 dX0_draft_30 dX0_draft_32 dX0_draft_35 hout (Nat.le_of_ble_eq_true rfl) (Nat.le_of_ble_eq_true rfl) (Nat.le_of_ble_eq_true rfl) (Nat.le_of_ble_eq_true rfl) hlocks hP hK hD rfl hw

def wX0_place (post : Int32 → XS → Prop) (thr : Nat → Prop) (u : XS) (v1 : Int64) (v3 : Int64) : Prop := (wX0_isWithin (fun r1 => ((r1 = 0 → (thr 0)) ∧ (¬ r1 = 0 → (wX0_isLevel (fun r3 => ((r3 = 0 → (thr 0)) ∧ (¬ r3 = 0 → (((xNP u) ≤ 0 → (((xNP u) < 12 → (vp_in (xNP u) 12 ∧ (vp_in (xNP u) 12 ∧ (post (((xNP u) + 1) - 1) ((xTT u), (xTH u), (xNT u), (xOT u), (xOD u), (xNO u), (vp_updL (xPW u) ((xNP u)).toNatClampNeg v1), (vp_updL (xPB u) ((xNP u)).toNatClampNeg v3), ((xNP u) + 1)))))) ∧ (¬ (xNP u) < 12 → (thr 1)))) ∧ (¬ (xNP u) ≤ 0 → (vp_in ((xNP u) - 1) 12 ∧ ((((xPW u) (((xNP u) - 1)).toNatClampNeg) < v1 → (((xNP u) < 12 → (vp_in (xNP u) 12 ∧ (vp_in (xNP u) 12 ∧ (post (((xNP u) + 1) - 1) ((xTT u), (xTH u), (xNT u), (xOT u), (xOD u), (xNO u), (vp_updL (xPW u) ((xNP u)).toNatClampNeg v1), (vp_updL (xPB u) ((xNP u)).toNatClampNeg v3), ((xNP u) + 1)))))) ∧ (¬ (xNP u) < 12 → (thr 1)))) ∧ (¬ ((xPW u) (((xNP u) - 1)).toNatClampNeg) < v1 → (thr 0))))))))) v3)))) v1 0 1000000)

set_option maxHeartbeats 4000000 in
set_option maxRecDepth 100000 in
theorem mX0_place (l : Launch) (hst : l.stackTraces = false) (D : va_G) (cJ : ClassId) (h0 a1 a2 a3 a4 a5 a6 tC tS sz : Nat) (u : XS) (v1 : Int64) (v3 : Int64) (post : Int32 → XS → Prop) (thr : Nat → Prop) : vx_Met l yX0_place wsX0_place ({ frames := 6, cells := 1, slots := 6, locals := 90 } : Room) (va_Pc [.ref h0, .long v1, .long v3] (fun U => XE D cJ h0 a1 a2 a3 a4 a5 a6 tC tS sz u U ∧ wX0_place post thr u v1 v3)) (va_Qi post (fun u9 t9 => XT D cJ h0 a1 a2 a3 a4 a5 a6 (va_A (x0W cJ h0 a1 a2 a3 a4 a5 a6 u) sz) u9 t9) (va_A (x0W cJ h0 a1 a2 a3 a4 a5 a6 u) sz)) (vx_X thr (fun E9 k9 t9 => E9 = exN k9 ∧ XT D cJ h0 a1 a2 a3 a4 a5 a6 (va_A (x0W cJ h0 a1 a2 a3 a4 a5 a6 u) sz) u t9) (va_A (x0W cJ h0 a1 a2 a3 a4 a5 a6 u) sz)) 1 6 (va_A (x0W cJ h0 a1 a2 a3 a4 a5 a6 u) sz) := by
  refine vx_ofW (cc := cX0_place) (maxL := 5) (ret := (some .int)) (by decide +kernel) rfl ?_
  intro p e s m args below meth c s₁ B hml hout hv
  obtain ⟨rfl, ⟨hsz, hP, hK, hD0, hZ, hT⟩, hw⟩ := hv
  have hx := B.exec
  have hb := B.bytes
  have hr := B.returns
  have hts := atoms_spec (ws := wsX0_place) B.pre
  have hown : s.vm.findClass RX0 = some m.cls := findClass_of_methodNamed B.named
  have hlocks := B.notSynchronized
  have hin : ∀ w ∈ u_ws RX0 TX0 9, w ∈ wsX0_place := by decide +kernel
  subst hsz
  have hD := hD0.self (sz := s.heap.size)
  generalize hAe : va_A (x0W cJ h0 a1 a2 a3 a4 a5 a6 u) s.heap.size = A at hD hZ hT ⊢
  have hS : va_S A s.heap s.heap [] := va_S.rf
  have hW : XW D cJ h0 a1 a2 a3 a4 a5 a6 tC tS u s s.heap := ⟨hP, hK, hZ.narrow (fun _ h => h.elim)⟩
  have hl := lv_entry ([.ref h0, .long v1, .long v3]) (n := 5) (Nat.le_of_ble_eq_true rfl)
  rw [lg_entry_eq]
  generalize (lg_sl ([.ref h0, .long v1, .long v3]) ++ List.replicate (5 - (lg_sl ([.ref h0, .long v1, .long v3])).length) Slot.unset).toArray = ls at hl ⊢
  have hl : lv_has ls 5 [(0, .ref h0), (1, .long v1), (3, .long v3)] := hl
  unfold wX0_place at hw
  refine lv_lload_n hx hb dX0_place_0 rfl (lv_at hl 1 rfl) ?_
  refine lv_lconst (v := 0) hx hb dX0_place_1 (by decide) ?_
  refine lv_ldc2 (v := 1000000) hx hb hown (hts (.constantLong RX0 108 (1000000)) (by decide +kernel)) dX0_place_2 ?_
  refine pc_Si (As := [.long v1, .long 0, .long 1000000]) (rest := []) ⟨hx, hb, hml, hown, hts⟩ (mX0_isWithin l v1 0 1000000 _) (va_cwS 3 hts gX0_place_X0_isWithin rfl rfl rfl (by decide +kernel) ⟨Nat.le_of_ble_eq_true rfl, Nat.le_of_ble_eq_true rfl⟩) wK_bl (fun _ _ _ => hw) rfl hl.1 rfl (Nat.le_of_ble_eq_true rfl) dX0_place_5 ⟨Nat.le_of_ble_eq_true rfl, Nat.le_of_ble_eq_true rfl⟩ (fun r1 hw => ?_)
  obtain ⟨z_r1, hw⟩ := hw
  refine lv_if_eq (tgt := 18) hx hb dX0_place_8 (by decide) (fun c2 => ?_) (fun c2 => ?_)
  · have hw := hw.1 c2
    exact x0_throw (k := 0) (names := ["java/lang/RuntimeException", "java/lang/Exception"]) (text := "no such way or base") hx hb hst hown (by decide +kernel) (by decide +kernel) (hts (.classLink RX0 48 "java/lang/IllegalArgumentException") (by decide +kernel)) (hts (.initialized "java/lang/IllegalArgumentException") (by decide +kernel)) (by decide +kernel) hT (fun w h => hts w (by unfold wsX0_place; exact List.mem_cons_of_mem _ (List.mem_append_left _ (List.mem_append_right _ h)))) (by decide +kernel) (by decide +kernel) (hl.1.trans hml.symm) dX0_place_18 dX0_place_21 dX0_place_22 dX0_place_24 dX0_place_27 hout (Nat.le_of_ble_eq_true rfl) (Nat.le_of_ble_eq_true rfl) (Nat.le_of_ble_eq_true rfl) (Nat.le_of_ble_eq_true rfl) hlocks hP hK hD rfl hw
  · have hw := hw.2 c2
    refine lv_lload_n hx hb dX0_place_11 rfl (lv_at hl 2 rfl) ?_
    refine pc_Si (As := [.long v3]) (rest := []) ⟨hx, hb, hml, hown, hts⟩ (mX0_isLevel l v3 _) (va_cwS 1 hts gX0_place_X0_isLevel rfl rfl rfl (by decide +kernel) ⟨Nat.le_of_ble_eq_true rfl, Nat.le_of_ble_eq_true rfl⟩) wK_bl (fun _ _ _ => hw) rfl hl.1 rfl (Nat.le_of_ble_eq_true rfl) dX0_place_12 ⟨Nat.le_of_ble_eq_true rfl, Nat.le_of_ble_eq_true rfl⟩ (fun r3 hw => ?_)
    obtain ⟨z_r3, hw⟩ := hw
    refine lv_if_ne (tgt := 28) hx hb dX0_place_15 (by decide) (fun c4 => ?_) (fun c4 => ?_)
    · have hw := hw.2 c4
      refine lv_aload_n hx hb dX0_place_28 rfl (lv_at hl 0 rfl) ?_
      refine va_get (D := D) (ci := 0) (v := .int (xNP u)) (C := RX0) (T := TX0) (N := 9) hx hb hts hin hown hK hP 0 rfl rfl 8 (by decide) (hts (.fieldLink RX0 35 "TideDepths" "places" "I") (by decide +kernel)) (fun _ h9 => h9) rfl dX0_place_29 ?_
      refine lv_if_le (tgt := 61) hx hb dX0_place_32 (by decide) (fun c5 => ?_) (fun c5 => ?_)
      · have hw := hw.1 c5
        refine lv_aload_n hx hb dX0_place_61 rfl (lv_at hl 0 rfl) ?_
        refine va_get (D := D) (ci := 0) (v := .int (xNP u)) (C := RX0) (T := TX0) (N := 9) hx hb hts hin hown hK hP 0 rfl rfl 8 (by decide) (hts (.fieldLink RX0 35 "TideDepths" "places" "I") (by decide +kernel)) (fun _ h9 => h9) rfl dX0_place_62 ?_
        refine lv_bipush (v := 12) hx hb dX0_place_65 (by decide) ?_
        refine lv_icmp_lt (tgt := 80) hx hb dX0_place_67 (by decide) (fun c6 => ?_) (fun c6 => ?_)
        · have hw := hw.1 c6
          refine lv_aload_n hx hb dX0_place_80 rfl (lv_at hl 0 rfl) ?_
          refine va_get (D := D) (ci := 0) (v := .ref a5) (C := RX0) (T := TX0) (N := 9) hx hb hts hin hown hK hP 0 rfl rfl 6 (by decide) (hts (.fieldLink RX0 29 "TideDepths" "ways" "[J") (by decide +kernel)) (fun _ h9 => h9) rfl dX0_place_81 ?_
          refine lv_aload_n hx hb dX0_place_84 rfl (lv_at hl 0 rfl) ?_
          refine va_get (D := D) (ci := 0) (v := .int (xNP u)) (C := RX0) (T := TX0) (N := 9) hx hb hts hin hown hK hP 0 rfl rfl 8 (by decide) (hts (.fieldLink RX0 35 "TideDepths" "places" "I") (by decide +kernel)) (fun _ h9 => h9) rfl dX0_place_85 ?_
          refine lv_lload_n hx hb dX0_place_88 rfl (lv_at hl 1 rfl) ?_
          obtain ⟨h7, hw⟩ := hw
          refine va_last hx hb hK hP hD hS 5 0 rfl rfl h7 dX0_place_89 (fun H locs hP hD hS => ?_)
          have hP : va_P D cls2 (x0W cJ h0 a1 a2 a3 a4 a5 a6 ((xTT u), (xTH u), (xNT u), (xOT u), (xOD u), (xNO u), (vp_updL (xPW u) ((xNP u)).toNatClampNeg v1), (xPB u), (xNP u))) H := hP
          have hD : va_D A (x0W cJ h0 a1 a2 a3 a4 a5 a6 ((xTT u), (xTH u), (xNT u), (xOT u), (xOD u), (xNO u), (vp_updL (xPW u) ((xNP u)).toNatClampNeg v1), (xPB u), (xNP u))) := hD
          have hW : XW D cJ h0 a1 a2 a3 a4 a5 a6 tC tS ((xTT u), (xTH u), (xNT u), (xOT u), (xOD u), (xNO u), (vp_updL (xPW u) ((xNP u)).toNatClampNeg v1), (xPB u), (xNP u)) s H := ⟨hP, hK, (SW.kept hZ hS.2.1).narrow (fun _ h => h.elim)⟩
          refine lv_aload_n hx hb dX0_place_90 rfl (lv_at hl 0 rfl) ?_
          refine va_get (D := D) (ci := 0) (v := .ref a6) (C := RX0) (T := TX0) (N := 9) hx hb hts hin hown hK hP 0 rfl rfl 7 (by decide) (hts (.fieldLink RX0 32 "TideDepths" "bases" "[J") (by decide +kernel)) (fun _ h9 => h9) rfl dX0_place_91 ?_
          refine lv_aload_n hx hb dX0_place_94 rfl (lv_at hl 0 rfl) ?_
          refine va_get (D := D) (ci := 0) (v := .int (xNP u)) (C := RX0) (T := TX0) (N := 9) hx hb hts hin hown hK hP 0 rfl rfl 8 (by decide) (hts (.fieldLink RX0 35 "TideDepths" "places" "I") (by decide +kernel)) (fun _ h9 => h9) rfl dX0_place_95 ?_
          refine lv_lload_n hx hb dX0_place_98 rfl (lv_at hl 2 rfl) ?_
          obtain ⟨h8, hw⟩ := hw
          refine va_last hx hb hK hP hD hS 6 0 rfl rfl h8 dX0_place_99 (fun H locs hP hD hS => ?_)
          have hP : va_P D cls2 (x0W cJ h0 a1 a2 a3 a4 a5 a6 ((xTT u), (xTH u), (xNT u), (xOT u), (xOD u), (xNO u), (vp_updL (xPW u) ((xNP u)).toNatClampNeg v1), (vp_updL (xPB u) ((xNP u)).toNatClampNeg v3), (xNP u))) H := hP
          have hD : va_D A (x0W cJ h0 a1 a2 a3 a4 a5 a6 ((xTT u), (xTH u), (xNT u), (xOT u), (xOD u), (xNO u), (vp_updL (xPW u) ((xNP u)).toNatClampNeg v1), (vp_updL (xPB u) ((xNP u)).toNatClampNeg v3), (xNP u))) := hD
          have hW : XW D cJ h0 a1 a2 a3 a4 a5 a6 tC tS ((xTT u), (xTH u), (xNT u), (xOT u), (xOD u), (xNO u), (vp_updL (xPW u) ((xNP u)).toNatClampNeg v1), (vp_updL (xPB u) ((xNP u)).toNatClampNeg v3), (xNP u)) s H := ⟨hP, hK, (SW.kept hZ hS.2.1).narrow (fun _ h => h.elim)⟩
          refine lv_aload_n hx hb dX0_place_100 rfl (lv_at hl 0 rfl) ?_
          refine lv_dup hx hb dX0_place_101 rfl ?_
          refine va_get (D := D) (ci := 0) (v := .int (xNP u)) (C := RX0) (T := TX0) (N := 9) hx hb hts hin hown hK hP 0 rfl rfl 8 (by decide) (hts (.fieldLink RX0 35 "TideDepths" "places" "I") (by decide +kernel)) (fun _ h9 => h9) rfl dX0_place_102 ?_
          refine lv_iconst (v := 1) hx hb dX0_place_105 (by decide) ?_
          refine lv_iadd hx hb dX0_place_106 ?_
          refine va_put (D := D) (ci := 0) (v := .int ((xNP u) + 1)) (ty := .int) (C := RX0) (T := TX0) (N := 9) hx hb hts hin tyX0 tyX0_ok nmX0 hown hK hP hD hS 0 rfl rfl 8 (by decide) (hts (.fieldLink RX0 35 "TideDepths" "places" "I") (by decide +kernel)) (fun _ h9 => h9) rfl (by decide +kernel) rfl rfl (Nat.le_of_ble_eq_true rfl) dX0_place_107 (fun H locs hP hD hS => ?_)
          have hP : va_P D cls2 (x0W cJ h0 a1 a2 a3 a4 a5 a6 ((xTT u), (xTH u), (xNT u), (xOT u), (xOD u), (xNO u), (vp_updL (xPW u) ((xNP u)).toNatClampNeg v1), (vp_updL (xPB u) ((xNP u)).toNatClampNeg v3), ((xNP u) + 1))) H := hP
          have hD : va_D A (x0W cJ h0 a1 a2 a3 a4 a5 a6 ((xTT u), (xTH u), (xNT u), (xOT u), (xOD u), (xNO u), (vp_updL (xPW u) ((xNP u)).toNatClampNeg v1), (vp_updL (xPB u) ((xNP u)).toNatClampNeg v3), ((xNP u) + 1))) := hD
          have hW : XW D cJ h0 a1 a2 a3 a4 a5 a6 tC tS ((xTT u), (xTH u), (xNT u), (xOT u), (xOD u), (xNO u), (vp_updL (xPW u) ((xNP u)).toNatClampNeg v1), (vp_updL (xPB u) ((xNP u)).toNatClampNeg v3), ((xNP u) + 1)) s H := ⟨hP, hK, (SW.kept hZ hS.2.1).narrow (fun _ h => h.elim)⟩
          refine lv_aload_n hx hb dX0_place_110 rfl (lv_at hl 0 rfl) ?_
          refine va_get (D := D) (ci := 0) (v := .int ((xNP u) + 1)) (C := RX0) (T := TX0) (N := 9) hx hb hts hin hown hK hP 0 rfl rfl 8 (by decide) (hts (.fieldLink RX0 35 "TideDepths" "places" "I") (by decide +kernel)) (fun _ h9 => h9) rfl dX0_place_111 ?_
          refine lv_iconst (v := 1) hx hb dX0_place_114 (by decide) ?_
          refine lv_isub hx hb dX0_place_115 ?_
          refine W.widen (k := 1) (n := 6) (Nat.le_of_ble_eq_true rfl) (Nat.le_of_ble_eq_true rfl) ?_
          exact vx_ret (W.iret (v := (((xNP u) + 1) - 1)) hx hb hr (fun t ht hWm => ⟨⟨(((xNP u) + 1) - 1), ((xTT u), (xTH u), (xNT u), (xOT u), (xOD u), (xNO u), (vp_updL (xPW u) ((xNP u)).toNatClampNeg v1), (vp_updL (xPB u) ((xNP u)).toNatClampNeg v3), ((xNP u) + 1)), rfl, hw, by rw [ht]; exact hP, va_K.moved hWm.alike hK, hD⟩, hS.F ht⟩) hS.2.2 dX0_place_116)
        · have hw := hw.2 c6
          exact x0_throw (k := 1) (names := ["java/lang/RuntimeException", "java/lang/Exception"]) (text := "no room for a place") hx hb hst hown (by decide +kernel) (by decide +kernel) (hts (.classLink RX0 57 "java/lang/IllegalStateException") (by decide +kernel)) (hts (.initialized "java/lang/IllegalStateException") (by decide +kernel)) (by decide +kernel) hT (fun w h => hts w (by unfold wsX0_place; exact List.mem_cons_of_mem _ (List.mem_append_right _ h))) (by decide +kernel) (by decide +kernel) (hl.1.trans hml.symm) dX0_place_70 dX0_place_73 dX0_place_74 dX0_place_76 dX0_place_79 hout (Nat.le_of_ble_eq_true rfl) (Nat.le_of_ble_eq_true rfl) (Nat.le_of_ble_eq_true rfl) (Nat.le_of_ble_eq_true rfl) hlocks hP hK hD rfl hw
      · have hw := hw.2 c5
        refine lv_lload_n hx hb dX0_place_35 rfl (lv_at hl 1 rfl) ?_
        refine lv_aload_n hx hb dX0_place_36 rfl (lv_at hl 0 rfl) ?_
        refine va_get (D := D) (ci := 0) (v := .ref a5) (C := RX0) (T := TX0) (N := 9) hx hb hts hin hown hK hP 0 rfl rfl 6 (by decide) (hts (.fieldLink RX0 29 "TideDepths" "ways" "[J") (by decide +kernel)) (fun _ h9 => h9) rfl dX0_place_37 ?_
        refine lv_aload_n hx hb dX0_place_40 rfl (lv_at hl 0 rfl) ?_
        refine va_get (D := D) (ci := 0) (v := .int (xNP u)) (C := RX0) (T := TX0) (N := 9) hx hb hts hin hown hK hP 0 rfl rfl 8 (by decide) (hts (.fieldLink RX0 35 "TideDepths" "places" "I") (by decide +kernel)) (fun _ h9 => h9) rfl dX0_place_41 ?_
        refine lv_iconst (v := 1) hx hb dX0_place_44 (by decide) ?_
        refine lv_isub hx hb dX0_place_45 ?_
        obtain ⟨h9, hw⟩ := hw
        refine va_lald hx hb hK hP 5 0 rfl rfl h9 dX0_place_46 ?_
        refine bl_gt (tgt := 61) hx hb dX0_place_47 dX0_place_48 (by decide) (fun c10 => ?_) (fun c10 => ?_)
        · have hw := hw.1 c10
          refine lv_aload_n hx hb dX0_place_61 rfl (lv_at hl 0 rfl) ?_
          refine va_get (D := D) (ci := 0) (v := .int (xNP u)) (C := RX0) (T := TX0) (N := 9) hx hb hts hin hown hK hP 0 rfl rfl 8 (by decide) (hts (.fieldLink RX0 35 "TideDepths" "places" "I") (by decide +kernel)) (fun _ h9 => h9) rfl dX0_place_62 ?_
          refine lv_bipush (v := 12) hx hb dX0_place_65 (by decide) ?_
          refine lv_icmp_lt (tgt := 80) hx hb dX0_place_67 (by decide) (fun c11 => ?_) (fun c11 => ?_)
          · have hw := hw.1 c11
            refine lv_aload_n hx hb dX0_place_80 rfl (lv_at hl 0 rfl) ?_
            refine va_get (D := D) (ci := 0) (v := .ref a5) (C := RX0) (T := TX0) (N := 9) hx hb hts hin hown hK hP 0 rfl rfl 6 (by decide) (hts (.fieldLink RX0 29 "TideDepths" "ways" "[J") (by decide +kernel)) (fun _ h9 => h9) rfl dX0_place_81 ?_
            refine lv_aload_n hx hb dX0_place_84 rfl (lv_at hl 0 rfl) ?_
            refine va_get (D := D) (ci := 0) (v := .int (xNP u)) (C := RX0) (T := TX0) (N := 9) hx hb hts hin hown hK hP 0 rfl rfl 8 (by decide) (hts (.fieldLink RX0 35 "TideDepths" "places" "I") (by decide +kernel)) (fun _ h9 => h9) rfl dX0_place_85 ?_
            refine lv_lload_n hx hb dX0_place_88 rfl (lv_at hl 1 rfl) ?_
            obtain ⟨h12, hw⟩ := hw
            refine va_last hx hb hK hP hD hS 5 0 rfl rfl h12 dX0_place_89 (fun H locs hP hD hS => ?_)
            have hP : va_P D cls2 (x0W cJ h0 a1 a2 a3 a4 a5 a6 ((xTT u), (xTH u), (xNT u), (xOT u), (xOD u), (xNO u), (vp_updL (xPW u) ((xNP u)).toNatClampNeg v1), (xPB u), (xNP u))) H := hP
            have hD : va_D A (x0W cJ h0 a1 a2 a3 a4 a5 a6 ((xTT u), (xTH u), (xNT u), (xOT u), (xOD u), (xNO u), (vp_updL (xPW u) ((xNP u)).toNatClampNeg v1), (xPB u), (xNP u))) := hD
            have hW : XW D cJ h0 a1 a2 a3 a4 a5 a6 tC tS ((xTT u), (xTH u), (xNT u), (xOT u), (xOD u), (xNO u), (vp_updL (xPW u) ((xNP u)).toNatClampNeg v1), (xPB u), (xNP u)) s H := ⟨hP, hK, (SW.kept hZ hS.2.1).narrow (fun _ h => h.elim)⟩
            refine lv_aload_n hx hb dX0_place_90 rfl (lv_at hl 0 rfl) ?_
            refine va_get (D := D) (ci := 0) (v := .ref a6) (C := RX0) (T := TX0) (N := 9) hx hb hts hin hown hK hP 0 rfl rfl 7 (by decide) (hts (.fieldLink RX0 32 "TideDepths" "bases" "[J") (by decide +kernel)) (fun _ h9 => h9) rfl dX0_place_91 ?_
            refine lv_aload_n hx hb dX0_place_94 rfl (lv_at hl 0 rfl) ?_
            refine va_get (D := D) (ci := 0) (v := .int (xNP u)) (C := RX0) (T := TX0) (N := 9) hx hb hts hin hown hK hP 0 rfl rfl 8 (by decide) (hts (.fieldLink RX0 35 "TideDepths" "places" "I") (by decide +kernel)) (fun _ h9 => h9) rfl dX0_place_95 ?_
            refine lv_lload_n hx hb dX0_place_98 rfl (lv_at hl 2 rfl) ?_
            obtain ⟨h13, hw⟩ := hw
            refine va_last hx hb hK hP hD hS 6 0 rfl rfl h13 dX0_place_99 (fun H locs hP hD hS => ?_)
            have hP : va_P D cls2 (x0W cJ h0 a1 a2 a3 a4 a5 a6 ((xTT u), (xTH u), (xNT u), (xOT u), (xOD u), (xNO u), (vp_updL (xPW u) ((xNP u)).toNatClampNeg v1), (vp_updL (xPB u) ((xNP u)).toNatClampNeg v3), (xNP u))) H := hP
            have hD : va_D A (x0W cJ h0 a1 a2 a3 a4 a5 a6 ((xTT u), (xTH u), (xNT u), (xOT u), (xOD u), (xNO u), (vp_updL (xPW u) ((xNP u)).toNatClampNeg v1), (vp_updL (xPB u) ((xNP u)).toNatClampNeg v3), (xNP u))) := hD
            have hW : XW D cJ h0 a1 a2 a3 a4 a5 a6 tC tS ((xTT u), (xTH u), (xNT u), (xOT u), (xOD u), (xNO u), (vp_updL (xPW u) ((xNP u)).toNatClampNeg v1), (vp_updL (xPB u) ((xNP u)).toNatClampNeg v3), (xNP u)) s H := ⟨hP, hK, (SW.kept hZ hS.2.1).narrow (fun _ h => h.elim)⟩
            refine lv_aload_n hx hb dX0_place_100 rfl (lv_at hl 0 rfl) ?_
            refine lv_dup hx hb dX0_place_101 rfl ?_
            refine va_get (D := D) (ci := 0) (v := .int (xNP u)) (C := RX0) (T := TX0) (N := 9) hx hb hts hin hown hK hP 0 rfl rfl 8 (by decide) (hts (.fieldLink RX0 35 "TideDepths" "places" "I") (by decide +kernel)) (fun _ h9 => h9) rfl dX0_place_102 ?_
            refine lv_iconst (v := 1) hx hb dX0_place_105 (by decide) ?_
            refine lv_iadd hx hb dX0_place_106 ?_
            refine va_put (D := D) (ci := 0) (v := .int ((xNP u) + 1)) (ty := .int) (C := RX0) (T := TX0) (N := 9) hx hb hts hin tyX0 tyX0_ok nmX0 hown hK hP hD hS 0 rfl rfl 8 (by decide) (hts (.fieldLink RX0 35 "TideDepths" "places" "I") (by decide +kernel)) (fun _ h9 => h9) rfl (by decide +kernel) rfl rfl (Nat.le_of_ble_eq_true rfl) dX0_place_107 (fun H locs hP hD hS => ?_)
            have hP : va_P D cls2 (x0W cJ h0 a1 a2 a3 a4 a5 a6 ((xTT u), (xTH u), (xNT u), (xOT u), (xOD u), (xNO u), (vp_updL (xPW u) ((xNP u)).toNatClampNeg v1), (vp_updL (xPB u) ((xNP u)).toNatClampNeg v3), ((xNP u) + 1))) H := hP
            have hD : va_D A (x0W cJ h0 a1 a2 a3 a4 a5 a6 ((xTT u), (xTH u), (xNT u), (xOT u), (xOD u), (xNO u), (vp_updL (xPW u) ((xNP u)).toNatClampNeg v1), (vp_updL (xPB u) ((xNP u)).toNatClampNeg v3), ((xNP u) + 1))) := hD
            have hW : XW D cJ h0 a1 a2 a3 a4 a5 a6 tC tS ((xTT u), (xTH u), (xNT u), (xOT u), (xOD u), (xNO u), (vp_updL (xPW u) ((xNP u)).toNatClampNeg v1), (vp_updL (xPB u) ((xNP u)).toNatClampNeg v3), ((xNP u) + 1)) s H := ⟨hP, hK, (SW.kept hZ hS.2.1).narrow (fun _ h => h.elim)⟩
            refine lv_aload_n hx hb dX0_place_110 rfl (lv_at hl 0 rfl) ?_
            refine va_get (D := D) (ci := 0) (v := .int ((xNP u) + 1)) (C := RX0) (T := TX0) (N := 9) hx hb hts hin hown hK hP 0 rfl rfl 8 (by decide) (hts (.fieldLink RX0 35 "TideDepths" "places" "I") (by decide +kernel)) (fun _ h9 => h9) rfl dX0_place_111 ?_
            refine lv_iconst (v := 1) hx hb dX0_place_114 (by decide) ?_
            refine lv_isub hx hb dX0_place_115 ?_
            refine W.widen (k := 1) (n := 6) (Nat.le_of_ble_eq_true rfl) (Nat.le_of_ble_eq_true rfl) ?_
            exact vx_ret (W.iret (v := (((xNP u) + 1) - 1)) hx hb hr (fun t ht hWm => ⟨⟨(((xNP u) + 1) - 1), ((xTT u), (xTH u), (xNT u), (xOT u), (xOD u), (xNO u), (vp_updL (xPW u) ((xNP u)).toNatClampNeg v1), (vp_updL (xPB u) ((xNP u)).toNatClampNeg v3), ((xNP u) + 1)), rfl, hw, by rw [ht]; exact hP, va_K.moved hWm.alike hK, hD⟩, hS.F ht⟩) hS.2.2 dX0_place_116)
          · have hw := hw.2 c11
            exact x0_throw (k := 1) (names := ["java/lang/RuntimeException", "java/lang/Exception"]) (text := "no room for a place") hx hb hst hown (by decide +kernel) (by decide +kernel) (hts (.classLink RX0 57 "java/lang/IllegalStateException") (by decide +kernel)) (hts (.initialized "java/lang/IllegalStateException") (by decide +kernel)) (by decide +kernel) hT (fun w h => hts w (by unfold wsX0_place; exact List.mem_cons_of_mem _ (List.mem_append_right _ h))) (by decide +kernel) (by decide +kernel) (hl.1.trans hml.symm) dX0_place_70 dX0_place_73 dX0_place_74 dX0_place_76 dX0_place_79 hout (Nat.le_of_ble_eq_true rfl) (Nat.le_of_ble_eq_true rfl) (Nat.le_of_ble_eq_true rfl) (Nat.le_of_ble_eq_true rfl) hlocks hP hK hD rfl hw
        · have hw := hw.2 c10
          exact x0_throw (k := 0) (names := ["java/lang/RuntimeException", "java/lang/Exception"]) (text := "not above the last place's way") hx hb hst hown (by decide +kernel) (by decide +kernel) (hts (.classLink RX0 48 "java/lang/IllegalArgumentException") (by decide +kernel)) (hts (.initialized "java/lang/IllegalArgumentException") (by decide +kernel)) (by decide +kernel) hT (fun w h => hts w (by unfold wsX0_place; exact List.mem_cons_of_mem _ (List.mem_append_left _ (List.mem_append_right _ h)))) (by decide +kernel) (by decide +kernel) (hl.1.trans hml.symm) dX0_place_51 dX0_place_54 dX0_place_55 dX0_place_57 dX0_place_60 hout (Nat.le_of_ble_eq_true rfl) (Nat.le_of_ble_eq_true rfl) (Nat.le_of_ble_eq_true rfl) (Nat.le_of_ble_eq_true rfl) hlocks hP hK hD rfl hw
    · have hw := hw.1 c4
      exact x0_throw (k := 0) (names := ["java/lang/RuntimeException", "java/lang/Exception"]) (text := "no such way or base") hx hb hst hown (by decide +kernel) (by decide +kernel) (hts (.classLink RX0 48 "java/lang/IllegalArgumentException") (by decide +kernel)) (hts (.initialized "java/lang/IllegalArgumentException") (by decide +kernel)) (by decide +kernel) hT (fun w h => hts w (by unfold wsX0_place; exact List.mem_cons_of_mem _ (List.mem_append_left _ (List.mem_append_right _ h)))) (by decide +kernel) (by decide +kernel) (hl.1.trans hml.symm) dX0_place_18 dX0_place_21 dX0_place_22 dX0_place_24 dX0_place_27 hout (Nat.le_of_ble_eq_true rfl) (Nat.le_of_ble_eq_true rfl) (Nat.le_of_ble_eq_true rfl) (Nat.le_of_ble_eq_true rfl) hlocks hP hK hD rfl hw

def wX0_depth (post : Int64 → XS → Prop) (thr : Nat → Prop) (u : XS) (v1 : Int32) (v2 : Int64) : Prop := ((v1 < 0 → (thr 3)) ∧ (¬ v1 < 0 → ((v1 < (xNP u) → (wX0_isInTable (fun r3 => ((r3 = 0 → (thr 0)) ∧ (¬ r3 = 0 → (vp_in v1 12 ∧ (wX0_heightAt (fun r6 => (post (((xPB u) (v1).toNatClampNeg) + r6) u)) u v2))))) u v2)) ∧ (¬ v1 < (xNP u) → (thr 3)))))

set_option maxHeartbeats 4000000 in
set_option maxRecDepth 100000 in
theorem mX0_depth (l : Launch) (hst : l.stackTraces = false) (D : va_G) (cJ : ClassId) (h0 a1 a2 a3 a4 a5 a6 tC tS sz : Nat) (u : XS) (v1 : Int32) (v2 : Int64) (post : Int64 → XS → Prop) (thr : Nat → Prop) : vx_Met l yX0_depth wsX0_depth ({ frames := 6, cells := 1, slots := 6, locals := 90 } : Room) (va_Pc [.ref h0, .int v1, .long v2] (fun U => XE D cJ h0 a1 a2 a3 a4 a5 a6 tC tS sz u U ∧ wX0_depth post thr u v1 v2)) (va_Ql post (fun u9 t9 => XT D cJ h0 a1 a2 a3 a4 a5 a6 (va_A (x0W cJ h0 a1 a2 a3 a4 a5 a6 u) sz) u9 t9) (va_A (x0W cJ h0 a1 a2 a3 a4 a5 a6 u) sz)) (vx_X thr (fun E9 k9 t9 => E9 = exN k9 ∧ XT D cJ h0 a1 a2 a3 a4 a5 a6 (va_A (x0W cJ h0 a1 a2 a3 a4 a5 a6 u) sz) u t9) (va_A (x0W cJ h0 a1 a2 a3 a4 a5 a6 u) sz)) 1 6 (va_A (x0W cJ h0 a1 a2 a3 a4 a5 a6 u) sz) := by
  refine vx_ofW (cc := cX0_depth) (maxL := 4) (ret := (some .long)) (by decide +kernel) rfl ?_
  intro p e s m args below meth c s₁ B hml hout hv
  obtain ⟨rfl, ⟨hsz, hP, hK, hD0, hZ, hT⟩, hw⟩ := hv
  have hx := B.exec
  have hb := B.bytes
  have hr := B.returns
  have hts := atoms_spec (ws := wsX0_depth) B.pre
  have hown : s.vm.findClass RX0 = some m.cls := findClass_of_methodNamed B.named
  have hlocks := B.notSynchronized
  have hin : ∀ w ∈ u_ws RX0 TX0 9, w ∈ wsX0_depth := by decide +kernel
  subst hsz
  have hD := hD0.self (sz := s.heap.size)
  generalize hAe : va_A (x0W cJ h0 a1 a2 a3 a4 a5 a6 u) s.heap.size = A at hD hZ hT ⊢
  have hS : va_S A s.heap s.heap [] := va_S.rf
  have hW : XW D cJ h0 a1 a2 a3 a4 a5 a6 tC tS u s s.heap := ⟨hP, hK, hZ.narrow (fun _ h => h.elim)⟩
  have hl := lv_entry ([.ref h0, .int v1, .long v2]) (n := 4) (Nat.le_of_ble_eq_true rfl)
  rw [lg_entry_eq]
  generalize (lg_sl ([.ref h0, .int v1, .long v2]) ++ List.replicate (4 - (lg_sl ([.ref h0, .int v1, .long v2])).length) Slot.unset).toArray = ls at hl ⊢
  have hl : lv_has ls 4 [(0, .ref h0), (1, .int v1), (2, .long v2)] := hl
  unfold wX0_depth at hw
  refine lv_iload_n hx hb dX0_depth_0 rfl (lv_at hl 1 rfl) ?_
  refine lv_if_lt (tgt := 12) hx hb dX0_depth_1 (by decide) (fun c1 => ?_) (fun c1 => ?_)
  · have hw := hw.1 c1
    exact x0_throw (k := 3) (names := ["java/lang/RuntimeException", "java/lang/Exception"]) (text := "no such place") hx hb hst hown (by decide +kernel) (by decide +kernel) (hts (.classLink RX0 143 "java/lang/IndexOutOfBoundsException") (by decide +kernel)) (hts (.initialized "java/lang/IndexOutOfBoundsException") (by decide +kernel)) (by decide +kernel) hT (fun w h => hts w (by unfold wsX0_depth; exact List.mem_cons_of_mem _ (List.mem_append_left _ (List.mem_append_right _ h)))) (by decide +kernel) (by decide +kernel) (hl.1.trans hml.symm) dX0_depth_12 dX0_depth_15 dX0_depth_16 dX0_depth_18 dX0_depth_21 hout (Nat.le_of_ble_eq_true rfl) (Nat.le_of_ble_eq_true rfl) (Nat.le_of_ble_eq_true rfl) (Nat.le_of_ble_eq_true rfl) hlocks hP hK hD rfl hw
  · have hw := hw.2 c1
    refine lv_iload_n hx hb dX0_depth_4 rfl (lv_at hl 1 rfl) ?_
    refine lv_aload_n hx hb dX0_depth_5 rfl (lv_at hl 0 rfl) ?_
    refine va_get (D := D) (ci := 0) (v := .int (xNP u)) (C := RX0) (T := TX0) (N := 9) hx hb hts hin hown hK hP 0 rfl rfl 8 (by decide) (hts (.fieldLink RX0 35 "TideDepths" "places" "I") (by decide +kernel)) (fun _ h9 => h9) rfl dX0_depth_6 ?_
    refine lv_icmp_lt (tgt := 22) hx hb dX0_depth_9 (by decide) (fun c2 => ?_) (fun c2 => ?_)
    · have hw := hw.1 c2
      refine lv_aload_n hx hb dX0_depth_22 rfl (lv_at hl 0 rfl) ?_
      refine lv_lload_n hx hb dX0_depth_23 rfl (lv_at hl 2 rfl) ?_
      refine pc_Vi (As := [.long v2]) (rest := []) ⟨hx, hb, hml, hown, hts⟩ (mX0_isInTable l D cJ h0 a1 a2 a3 a4 a5 a6 tC tS u v2 _) (cwV 1 hts gX0_depth_X0_isInTable rfl rfl rfl (by decide +kernel) ⟨Nat.le_of_ble_eq_true rfl, Nat.le_of_ble_eq_true rfl⟩) (wX_rc hW) wX_bl (wX_in hW hw) rfl hl.1 rfl (Nat.le_of_ble_eq_true rfl) dX0_depth_24 ⟨Nat.le_of_ble_eq_true rfl, Nat.le_of_ble_eq_true rfl⟩ (fun r3 hw => ?_)
      obtain ⟨z_r3, hw⟩ := hw
      refine lv_if_ne (tgt := 40) hx hb dX0_depth_27 (by decide) (fun c4 => ?_) (fun c4 => ?_)
      · have hw := hw.2 c4
        refine lv_aload_n hx hb dX0_depth_40 rfl (lv_at hl 0 rfl) ?_
        refine va_get (D := D) (ci := 0) (v := .ref a6) (C := RX0) (T := TX0) (N := 9) hx hb hts hin hown hK hP 0 rfl rfl 7 (by decide) (hts (.fieldLink RX0 32 "TideDepths" "bases" "[J") (by decide +kernel)) (fun _ h9 => h9) rfl dX0_depth_41 ?_
        refine lv_iload_n hx hb dX0_depth_44 rfl (lv_at hl 1 rfl) ?_
        obtain ⟨h5, hw⟩ := hw
        refine va_lald hx hb hK hP 6 0 rfl rfl h5 dX0_depth_45 ?_
        refine lv_aload_n hx hb dX0_depth_46 rfl (lv_at hl 0 rfl) ?_
        refine lv_lload_n hx hb dX0_depth_47 rfl (lv_at hl 2 rfl) ?_
        refine pc_Vl (As := [.long v2]) (rest := [.long ((xPB u) (v1).toNatClampNeg)]) ⟨hx, hb, hml, hown, hts⟩ (mX0_heightAt l D cJ h0 a1 a2 a3 a4 a5 a6 tC tS u v2 _) (cwV 1 hts gX0_depth_X0_heightAt rfl rfl rfl (by decide +kernel) ⟨Nat.le_of_ble_eq_true rfl, Nat.le_of_ble_eq_true rfl⟩) (wX_rc hW) wX_bl (wX_in hW hw) rfl hl.1 rfl (Nat.le_of_ble_eq_true rfl) dX0_depth_48 ⟨Nat.le_of_ble_eq_true rfl, Nat.le_of_ble_eq_true rfl⟩ (fun r6 hw => ?_)
        refine lv_ladd hx hb dX0_depth_51 ?_
        refine W.widen (k := 1) (n := 6) (Nat.le_of_ble_eq_true rfl) (Nat.le_of_ble_eq_true rfl) ?_
        exact vx_ret (W.lret (v := (((xPB u) (v1).toNatClampNeg) + r6)) hx hb hr (fun t ht hWm => ⟨⟨(((xPB u) (v1).toNatClampNeg) + r6), u, rfl, hw, by rw [ht]; exact hP, va_K.moved hWm.alike hK, hD⟩, hS.F ht⟩) hS.2.2 dX0_depth_52)
      · have hw := hw.1 c4
        exact x0_throw (k := 0) (names := ["java/lang/RuntimeException", "java/lang/Exception"]) (text := "outside the table") hx hb hst hown (by decide +kernel) (by decide +kernel) (hts (.classLink RX0 48 "java/lang/IllegalArgumentException") (by decide +kernel)) (hts (.initialized "java/lang/IllegalArgumentException") (by decide +kernel)) (by decide +kernel) hT (fun w h => hts w (by unfold wsX0_depth; exact List.mem_cons_of_mem _ (List.mem_append_right _ h))) (by decide +kernel) (by decide +kernel) (hl.1.trans hml.symm) dX0_depth_30 dX0_depth_33 dX0_depth_34 dX0_depth_36 dX0_depth_39 hout (Nat.le_of_ble_eq_true rfl) (Nat.le_of_ble_eq_true rfl) (Nat.le_of_ble_eq_true rfl) (Nat.le_of_ble_eq_true rfl) hlocks hP hK hD rfl hw
    · have hw := hw.2 c2
      exact x0_throw (k := 3) (names := ["java/lang/RuntimeException", "java/lang/Exception"]) (text := "no such place") hx hb hst hown (by decide +kernel) (by decide +kernel) (hts (.classLink RX0 143 "java/lang/IndexOutOfBoundsException") (by decide +kernel)) (hts (.initialized "java/lang/IndexOutOfBoundsException") (by decide +kernel)) (by decide +kernel) hT (fun w h => hts w (by unfold wsX0_depth; exact List.mem_cons_of_mem _ (List.mem_append_left _ (List.mem_append_right _ h)))) (by decide +kernel) (by decide +kernel) (hl.1.trans hml.symm) dX0_depth_12 dX0_depth_15 dX0_depth_16 dX0_depth_18 dX0_depth_21 hout (Nat.le_of_ble_eq_true rfl) (Nat.le_of_ble_eq_true rfl) (Nat.le_of_ble_eq_true rfl) (Nat.le_of_ble_eq_true rfl) hlocks hP hK hD rfl hw

def wX0_sail (post : Int32 → XS → Prop) (thr : Nat → Prop) (u : XS) (v1 : Int64) (v3 : Int64) (v5 : Int64) (v7 : Int32) : Prop := (wX0_isInTable (fun r1 => ((r1 = 0 → (thr 0)) ∧ (¬ r1 = 0 → (wX0_isLevel (fun r3 => ((r3 = 0 → (thr 0)) ∧ (¬ r3 = 0 → (wX0_isWithin (fun r5 => ((r5 = 0 → (thr 0)) ∧ (¬ r5 = 0 → (wX0_isWithin (fun r7 => ((r7 = 0 → (thr 0)) ∧ (¬ r7 = 0 → (((xNP u) = 0 → (thr 1)) ∧ (¬ (xNP u) = 0 → ((v3 = 0 → (thr 2)) ∧ (¬ v3 = 0 → ((0 ≤ v1 → (wX0_squatOf (fun r12 => (wX0_firstSailing (fun r13 => (wX0_lastSecond (fun r14 => ((r13 ≤ r14 → ((v7 = 0 → (post (r13).toInt32 u)) ∧ (¬ v7 = 0 → (wX0_lastSailing (fun r17 => (post (r17).toInt32 u)) u (v1 + r12) v3 r13)))) ∧ (¬ r13 ≤ r14 → (post (-1) u)))) u)) u (v1 + r12) v3 v5)) v3 v1)) ∧ (¬ 0 ≤ v1 → (wX0_firstSailing (fun r18 => (wX0_lastSecond (fun r19 => ((r18 ≤ r19 → ((v7 = 0 → (post (r18).toInt32 u)) ∧ (¬ v7 = 0 → (wX0_lastSailing (fun r22 => (post (r22).toInt32 u)) u v1 v3 r18)))) ∧ (¬ r18 ≤ r19 → (post (-1) u)))) u)) u v1 v3 v5)))))))))) (v7).toInt64 0 1)))) v3 0 10000)))) v1)))) u v5)

set_option maxHeartbeats 4000000 in
set_option maxRecDepth 100000 in
theorem mX0_sail (l : Launch) (hst : l.stackTraces = false) (D : va_G) (cJ : ClassId) (h0 a1 a2 a3 a4 a5 a6 tC tS sz : Nat) (u : XS) (v1 : Int64) (v3 : Int64) (v5 : Int64) (v7 : Int32) (post : Int32 → XS → Prop) (thr : Nat → Prop) : vx_Met l yX0_sail wsX0_sail ({ frames := 6, cells := 1, slots := 6, locals := 181 } : Room) (va_Pc [.ref h0, .long v1, .long v3, .long v5, .int v7] (fun U => XE D cJ h0 a1 a2 a3 a4 a5 a6 tC tS sz u U ∧ wX0_sail post thr u v1 v3 v5 v7)) (va_Qi post (fun u9 t9 => XT D cJ h0 a1 a2 a3 a4 a5 a6 (va_A (x0W cJ h0 a1 a2 a3 a4 a5 a6 u) sz) u9 t9) (va_A (x0W cJ h0 a1 a2 a3 a4 a5 a6 u) sz)) (vx_X thr (fun E9 k9 t9 => E9 = exN k9 ∧ XT D cJ h0 a1 a2 a3 a4 a5 a6 (va_A (x0W cJ h0 a1 a2 a3 a4 a5 a6 u) sz) u t9) (va_A (x0W cJ h0 a1 a2 a3 a4 a5 a6 u) sz)) 1 6 (va_A (x0W cJ h0 a1 a2 a3 a4 a5 a6 u) sz) := by
  refine vx_ofW (cc := cX0_sail) (maxL := 12) (ret := (some .int)) (by decide +kernel) rfl ?_
  intro p e s m args below meth c s₁ B hml hout hv
  obtain ⟨rfl, ⟨hsz, hP, hK, hD0, hZ, hT⟩, hw⟩ := hv
  have hx := B.exec
  have hb := B.bytes
  have hr := B.returns
  have hts := atoms_spec (ws := wsX0_sail) B.pre
  have hown : s.vm.findClass RX0 = some m.cls := findClass_of_methodNamed B.named
  have hlocks := B.notSynchronized
  have hin : ∀ w ∈ u_ws RX0 TX0 9, w ∈ wsX0_sail := by decide +kernel
  subst hsz
  have hD := hD0.self (sz := s.heap.size)
  generalize hAe : va_A (x0W cJ h0 a1 a2 a3 a4 a5 a6 u) s.heap.size = A at hD hZ hT ⊢
  have hS : va_S A s.heap s.heap [] := va_S.rf
  have hW : XW D cJ h0 a1 a2 a3 a4 a5 a6 tC tS u s s.heap := ⟨hP, hK, hZ.narrow (fun _ h => h.elim)⟩
  have hl := lv_entry ([.ref h0, .long v1, .long v3, .long v5, .int v7]) (n := 12) (Nat.le_of_ble_eq_true rfl)
  rw [lg_entry_eq]
  generalize (lg_sl ([.ref h0, .long v1, .long v3, .long v5, .int v7]) ++ List.replicate (12 - (lg_sl ([.ref h0, .long v1, .long v3, .long v5, .int v7])).length) Slot.unset).toArray = ls at hl ⊢
  have hl : lv_has ls 12 [(0, .ref h0), (1, .long v1), (3, .long v3), (5, .long v5), (7, .int v7)] := hl
  unfold wX0_sail at hw
  refine lv_aload_n hx hb dX0_sail_0 rfl (lv_at hl 0 rfl) ?_
  refine lv_lload hx hb dX0_sail_1 (lv_at hl 3 rfl) ?_
  refine pc_Vi (As := [.long v5]) (rest := []) ⟨hx, hb, hml, hown, hts⟩ (mX0_isInTable l D cJ h0 a1 a2 a3 a4 a5 a6 tC tS u v5 _) (cwV 1 hts gX0_sail_X0_isInTable rfl rfl rfl (by decide +kernel) ⟨Nat.le_of_ble_eq_true rfl, Nat.le_of_ble_eq_true rfl⟩) (wX_rc hW) wX_bl (wX_in hW hw) rfl hl.1 rfl (Nat.le_of_ble_eq_true rfl) dX0_sail_3 ⟨Nat.le_of_ble_eq_true rfl, Nat.le_of_ble_eq_true rfl⟩ (fun r1 hw => ?_)
  obtain ⟨z_r1, hw⟩ := hw
  refine lv_if_eq (tgt := 16) hx hb dX0_sail_6 (by decide) (fun c2 => ?_) (fun c2 => ?_)
  · have hw := hw.1 c2
    exact x0_throw (k := 0) (names := ["java/lang/RuntimeException", "java/lang/Exception"]) (text := "outside the table, or no such need") hx hb hst hown (by decide +kernel) (by decide +kernel) (hts (.classLink RX0 48 "java/lang/IllegalArgumentException") (by decide +kernel)) (hts (.initialized "java/lang/IllegalArgumentException") (by decide +kernel)) (by decide +kernel) hT (fun w h => hts w (by unfold wsX0_sail; exact List.mem_cons_of_mem _ (List.mem_append_left _ (List.mem_append_left _ (List.mem_append_right _ h))))) (by decide +kernel) (by decide +kernel) (hl.1.trans hml.symm) dX0_sail_16 dX0_sail_19 dX0_sail_20 dX0_sail_22 dX0_sail_25 hout (Nat.le_of_ble_eq_true rfl) (Nat.le_of_ble_eq_true rfl) (Nat.le_of_ble_eq_true rfl) (Nat.le_of_ble_eq_true rfl) hlocks hP hK hD rfl hw
  · have hw := hw.2 c2
    refine lv_lload_n hx hb dX0_sail_9 rfl (lv_at hl 1 rfl) ?_
    refine pc_Si (As := [.long v1]) (rest := []) ⟨hx, hb, hml, hown, hts⟩ (mX0_isLevel l v1 _) (va_cwS 1 hts gX0_sail_X0_isLevel rfl rfl rfl (by decide +kernel) ⟨Nat.le_of_ble_eq_true rfl, Nat.le_of_ble_eq_true rfl⟩) wK_bl (fun _ _ _ => hw) rfl hl.1 rfl (Nat.le_of_ble_eq_true rfl) dX0_sail_10 ⟨Nat.le_of_ble_eq_true rfl, Nat.le_of_ble_eq_true rfl⟩ (fun r3 hw => ?_)
    obtain ⟨z_r3, hw⟩ := hw
    refine lv_if_ne (tgt := 26) hx hb dX0_sail_13 (by decide) (fun c4 => ?_) (fun c4 => ?_)
    · have hw := hw.2 c4
      refine lv_lload_n hx hb dX0_sail_26 rfl (lv_at hl 2 rfl) ?_
      refine lv_lconst (v := 0) hx hb dX0_sail_27 (by decide) ?_
      refine lv_ldc2 (v := 10000) hx hb hown (hts (.constantLong RX0 99 (10000)) (by decide +kernel)) dX0_sail_28 ?_
      refine pc_Si (As := [.long v3, .long 0, .long 10000]) (rest := []) ⟨hx, hb, hml, hown, hts⟩ (mX0_isWithin l v3 0 10000 _) (va_cwS 3 hts gX0_sail_X0_isWithin rfl rfl rfl (by decide +kernel) ⟨Nat.le_of_ble_eq_true rfl, Nat.le_of_ble_eq_true rfl⟩) wK_bl (fun _ _ _ => hw) rfl hl.1 rfl (Nat.le_of_ble_eq_true rfl) dX0_sail_31 ⟨Nat.le_of_ble_eq_true rfl, Nat.le_of_ble_eq_true rfl⟩ (fun r5 hw => ?_)
      obtain ⟨z_r5, hw⟩ := hw
      refine lv_if_eq (tgt := 48) hx hb dX0_sail_34 (by decide) (fun c6 => ?_) (fun c6 => ?_)
      · have hw := hw.1 c6
        exact x0_throw (k := 0) (names := ["java/lang/RuntimeException", "java/lang/Exception"]) (text := "no such speed or side") hx hb hst hown (by decide +kernel) (by decide +kernel) (hts (.classLink RX0 48 "java/lang/IllegalArgumentException") (by decide +kernel)) (hts (.initialized "java/lang/IllegalArgumentException") (by decide +kernel)) (by decide +kernel) hT (fun w h => hts w (by unfold wsX0_sail; exact List.mem_cons_of_mem _ (List.mem_append_left _ (List.mem_append_left _ (List.mem_append_right _ h))))) (by decide +kernel) (by decide +kernel) (hl.1.trans hml.symm) dX0_sail_48 dX0_sail_51 dX0_sail_52 dX0_sail_54 dX0_sail_57 hout (Nat.le_of_ble_eq_true rfl) (Nat.le_of_ble_eq_true rfl) (Nat.le_of_ble_eq_true rfl) (Nat.le_of_ble_eq_true rfl) hlocks hP hK hD rfl hw
      · have hw := hw.2 c6
        refine lv_iload hx hb dX0_sail_37 (lv_at hl 4 rfl) ?_
        refine lv_i2l (v := (v7).toInt64) hx hb dX0_sail_39 rfl ?_
        refine lv_lconst (v := 0) hx hb dX0_sail_40 (by decide) ?_
        refine lv_lconst (v := 1) hx hb dX0_sail_41 (by decide) ?_
        refine pc_Si (As := [.long (v7).toInt64, .long 0, .long 1]) (rest := []) ⟨hx, hb, hml, hown, hts⟩ (mX0_isWithin l (v7).toInt64 0 1 _) (va_cwS 3 hts gX0_sail_X0_isWithin rfl rfl rfl (by decide +kernel) ⟨Nat.le_of_ble_eq_true rfl, Nat.le_of_ble_eq_true rfl⟩) wK_bl (fun _ _ _ => hw) rfl hl.1 rfl (Nat.le_of_ble_eq_true rfl) dX0_sail_42 ⟨Nat.le_of_ble_eq_true rfl, Nat.le_of_ble_eq_true rfl⟩ (fun r7 hw => ?_)
        obtain ⟨z_r7, hw⟩ := hw
        refine lv_if_ne (tgt := 58) hx hb dX0_sail_45 (by decide) (fun c8 => ?_) (fun c8 => ?_)
        · have hw := hw.2 c8
          refine lv_aload_n hx hb dX0_sail_58 rfl (lv_at hl 0 rfl) ?_
          refine va_get (D := D) (ci := 0) (v := .int (xNP u)) (C := RX0) (T := TX0) (N := 9) hx hb hts hin hown hK hP 0 rfl rfl 8 (by decide) (hts (.fieldLink RX0 35 "TideDepths" "places" "I") (by decide +kernel)) (fun _ h9 => h9) rfl dX0_sail_59 ?_
          refine lv_if_ne (tgt := 75) hx hb dX0_sail_62 (by decide) (fun c9 => ?_) (fun c9 => ?_)
          · have hw := hw.2 c9
            refine lv_lload_n hx hb dX0_sail_75 rfl (lv_at hl 2 rfl) ?_
            refine lv_lconst (v := 0) hx hb dX0_sail_76 (by decide) ?_
            refine bl_ne (tgt := 91) hx hb dX0_sail_77 dX0_sail_78 (by decide) (fun c10 => ?_) (fun c10 => ?_)
            · have hw := hw.2 c10
              refine lv_lload_n hx hb dX0_sail_91 rfl (lv_at hl 1 rfl) ?_
              refine lv_lconst (v := 0) hx hb dX0_sail_92 (by decide) ?_
              refine bl_ge (tgt := 101) hx hb dX0_sail_93 dX0_sail_94 (by decide) (fun c11 => ?_) (fun c11 => ?_)
              · have hw := hw.1 c11
                refine lv_lload_n hx hb dX0_sail_101 rfl (lv_at hl 1 rfl) ?_
                refine lv_lload_n hx hb dX0_sail_102 rfl (lv_at hl 2 rfl) ?_
                refine lv_lload_n hx hb dX0_sail_103 rfl (lv_at hl 1 rfl) ?_
                refine pc_Sl (As := [.long v3, .long v1]) (rest := [.long v1]) ⟨hx, hb, hml, hown, hts⟩ (mX0_squatOf l tC tS v3 v1 _) (va_cwS 2 hts gX0_sail_X0_squatOf rfl rfl rfl (by decide +kernel) ⟨Nat.le_of_ble_eq_true rfl, Nat.le_of_ble_eq_true rfl⟩) wS_bl (wS_in hW.2.2 hw) rfl hl.1 rfl (Nat.le_of_ble_eq_true rfl) dX0_sail_104 ⟨Nat.le_of_ble_eq_true rfl, Nat.le_of_ble_eq_true rfl⟩ (fun r12 hw => ?_)
                refine lv_ladd hx hb dX0_sail_107 ?_
                refine lv_lstore (lv' := [(8, .long (v1 + r12)), (0, .ref h0), (1, .long v1), (3, .long v3), (5, .long v5), (7, .int v7)]) hx hb dX0_sail_108 hl (by decide) rfl (fun ls hl => ?_)
                refine lv_aload_n hx hb dX0_sail_110 rfl (lv_at hl 1 rfl) ?_
                refine lv_lload hx hb dX0_sail_111 (lv_at hl 0 rfl) ?_
                refine lv_lload_n hx hb dX0_sail_113 rfl (lv_at hl 3 rfl) ?_
                refine lv_lload hx hb dX0_sail_114 (lv_at hl 4 rfl) ?_
                refine pc_Vl (As := [.long (v1 + r12), .long v3, .long v5]) (rest := []) ⟨hx, hb, hml, hown, hts⟩ (mX0_firstSailing l D cJ h0 a1 a2 a3 a4 a5 a6 tC tS u (v1 + r12) v3 v5 _) (cwV 3 hts gX0_sail_X0_firstSailing rfl rfl rfl (by decide +kernel) ⟨Nat.le_of_ble_eq_true rfl, Nat.le_of_ble_eq_true rfl⟩) (wX_rc hW) wX_bl (wX_in hW hw) rfl hl.1 rfl (Nat.le_of_ble_eq_true rfl) dX0_sail_116 ⟨Nat.le_of_ble_eq_true rfl, Nat.le_of_ble_eq_true rfl⟩ (fun r13 hw => ?_)
                refine lv_lstore (lv' := [(10, .long r13), (8, .long (v1 + r12)), (0, .ref h0), (1, .long v1), (3, .long v3), (5, .long v5), (7, .int v7)]) hx hb dX0_sail_119 hl (by decide) rfl (fun ls hl => ?_)
                refine lv_lload hx hb dX0_sail_121 (lv_at hl 0 rfl) ?_
                refine lv_aload_n hx hb dX0_sail_123 rfl (lv_at hl 2 rfl) ?_
                refine pc_Vl (As := []) (rest := [.long r13]) ⟨hx, hb, hml, hown, hts⟩ (mX0_lastSecond l D cJ h0 a1 a2 a3 a4 a5 a6 tC tS u _) (cwV 0 hts gX0_sail_X0_lastSecond rfl rfl rfl (by decide +kernel) ⟨Nat.le_of_ble_eq_true rfl, Nat.le_of_ble_eq_true rfl⟩) (wX_rc hW) wX_bl (wX_in hW hw) rfl hl.1 rfl (Nat.le_of_ble_eq_true rfl) dX0_sail_124 ⟨Nat.le_of_ble_eq_true rfl, Nat.le_of_ble_eq_true rfl⟩ (fun r14 hw => ?_)
                refine bl_le (tgt := 133) hx hb dX0_sail_127 dX0_sail_128 (by decide) (fun c15 => ?_) (fun c15 => ?_)
                · have hw := hw.1 c15
                  refine lv_iload hx hb dX0_sail_133 (lv_at hl 6 rfl) ?_
                  refine lv_if_ne (tgt := 143) hx hb dX0_sail_135 (by decide) (fun c16 => ?_) (fun c16 => ?_)
                  · have hw := hw.2 c16
                    refine lv_aload_n hx hb dX0_sail_143 rfl (lv_at hl 2 rfl) ?_
                    refine lv_lload hx hb dX0_sail_144 (lv_at hl 1 rfl) ?_
                    refine lv_lload_n hx hb dX0_sail_146 rfl (lv_at hl 4 rfl) ?_
                    refine lv_lload hx hb dX0_sail_147 (lv_at hl 0 rfl) ?_
                    refine pc_Vl (As := [.long (v1 + r12), .long v3, .long r13]) (rest := []) ⟨hx, hb, hml, hown, hts⟩ (mX0_lastSailing l D cJ h0 a1 a2 a3 a4 a5 a6 tC tS u (v1 + r12) v3 r13 _) (cwV 3 hts gX0_sail_X0_lastSailing rfl rfl rfl (by decide +kernel) ⟨Nat.le_of_ble_eq_true rfl, Nat.le_of_ble_eq_true rfl⟩) (wX_rc hW) wX_bl (wX_in hW hw) rfl hl.1 rfl (Nat.le_of_ble_eq_true rfl) dX0_sail_149 ⟨Nat.le_of_ble_eq_true rfl, Nat.le_of_ble_eq_true rfl⟩ (fun r17 hw => ?_)
                    refine lv_l2i (v := (r17).toInt32) hx hb dX0_sail_152 rfl ?_
                    refine W.widen (k := 1) (n := 6) (Nat.le_of_ble_eq_true rfl) (Nat.le_of_ble_eq_true rfl) ?_
                    exact vx_ret (W.iret (v := (r17).toInt32) hx hb hr (fun t ht hWm => ⟨⟨(r17).toInt32, u, rfl, hw, by rw [ht]; exact hP, va_K.moved hWm.alike hK, hD⟩, hS.F ht⟩) hS.2.2 dX0_sail_153)
                  · have hw := hw.1 c16
                    refine lv_lload hx hb dX0_sail_138 (lv_at hl 0 rfl) ?_
                    refine lv_goto (tgt := 152) hx hb dX0_sail_140 (by decide) ?_
                    refine lv_l2i (v := (r13).toInt32) hx hb dX0_sail_152 rfl ?_
                    refine W.widen (k := 1) (n := 6) (Nat.le_of_ble_eq_true rfl) (Nat.le_of_ble_eq_true rfl) ?_
                    exact vx_ret (W.iret (v := (r13).toInt32) hx hb hr (fun t ht hWm => ⟨⟨(r13).toInt32, u, rfl, hw, by rw [ht]; exact hP, va_K.moved hWm.alike hK, hD⟩, hS.F ht⟩) hS.2.2 dX0_sail_153)
                · have hw := hw.2 c15
                  refine lv_iconst (v := (-1)) hx hb dX0_sail_131 (by decide) ?_
                  refine W.widen (k := 1) (n := 6) (Nat.le_of_ble_eq_true rfl) (Nat.le_of_ble_eq_true rfl) ?_
                  exact vx_ret (W.iret (v := (-1)) hx hb hr (fun t ht hWm => ⟨⟨(-1), u, rfl, hw, by rw [ht]; exact hP, va_K.moved hWm.alike hK, hD⟩, hS.F ht⟩) hS.2.2 dX0_sail_132)
              · have hw := hw.2 c11
                refine lv_lload_n hx hb dX0_sail_97 rfl (lv_at hl 1 rfl) ?_
                refine lv_goto (tgt := 108) hx hb dX0_sail_98 (by decide) ?_
                refine lv_lstore (lv' := [(8, .long v1), (0, .ref h0), (1, .long v1), (3, .long v3), (5, .long v5), (7, .int v7)]) hx hb dX0_sail_108 hl (by decide) rfl (fun ls hl => ?_)
                refine lv_aload_n hx hb dX0_sail_110 rfl (lv_at hl 1 rfl) ?_
                refine lv_lload hx hb dX0_sail_111 (lv_at hl 0 rfl) ?_
                refine lv_lload_n hx hb dX0_sail_113 rfl (lv_at hl 3 rfl) ?_
                refine lv_lload hx hb dX0_sail_114 (lv_at hl 4 rfl) ?_
                refine pc_Vl (As := [.long v1, .long v3, .long v5]) (rest := []) ⟨hx, hb, hml, hown, hts⟩ (mX0_firstSailing l D cJ h0 a1 a2 a3 a4 a5 a6 tC tS u v1 v3 v5 _) (cwV 3 hts gX0_sail_X0_firstSailing rfl rfl rfl (by decide +kernel) ⟨Nat.le_of_ble_eq_true rfl, Nat.le_of_ble_eq_true rfl⟩) (wX_rc hW) wX_bl (wX_in hW hw) rfl hl.1 rfl (Nat.le_of_ble_eq_true rfl) dX0_sail_116 ⟨Nat.le_of_ble_eq_true rfl, Nat.le_of_ble_eq_true rfl⟩ (fun r18 hw => ?_)
                refine lv_lstore (lv' := [(10, .long r18), (8, .long v1), (0, .ref h0), (1, .long v1), (3, .long v3), (5, .long v5), (7, .int v7)]) hx hb dX0_sail_119 hl (by decide) rfl (fun ls hl => ?_)
                refine lv_lload hx hb dX0_sail_121 (lv_at hl 0 rfl) ?_
                refine lv_aload_n hx hb dX0_sail_123 rfl (lv_at hl 2 rfl) ?_
                refine pc_Vl (As := []) (rest := [.long r18]) ⟨hx, hb, hml, hown, hts⟩ (mX0_lastSecond l D cJ h0 a1 a2 a3 a4 a5 a6 tC tS u _) (cwV 0 hts gX0_sail_X0_lastSecond rfl rfl rfl (by decide +kernel) ⟨Nat.le_of_ble_eq_true rfl, Nat.le_of_ble_eq_true rfl⟩) (wX_rc hW) wX_bl (wX_in hW hw) rfl hl.1 rfl (Nat.le_of_ble_eq_true rfl) dX0_sail_124 ⟨Nat.le_of_ble_eq_true rfl, Nat.le_of_ble_eq_true rfl⟩ (fun r19 hw => ?_)
                refine bl_le (tgt := 133) hx hb dX0_sail_127 dX0_sail_128 (by decide) (fun c20 => ?_) (fun c20 => ?_)
                · have hw := hw.1 c20
                  refine lv_iload hx hb dX0_sail_133 (lv_at hl 6 rfl) ?_
                  refine lv_if_ne (tgt := 143) hx hb dX0_sail_135 (by decide) (fun c21 => ?_) (fun c21 => ?_)
                  · have hw := hw.2 c21
                    refine lv_aload_n hx hb dX0_sail_143 rfl (lv_at hl 2 rfl) ?_
                    refine lv_lload hx hb dX0_sail_144 (lv_at hl 1 rfl) ?_
                    refine lv_lload_n hx hb dX0_sail_146 rfl (lv_at hl 4 rfl) ?_
                    refine lv_lload hx hb dX0_sail_147 (lv_at hl 0 rfl) ?_
                    refine pc_Vl (As := [.long v1, .long v3, .long r18]) (rest := []) ⟨hx, hb, hml, hown, hts⟩ (mX0_lastSailing l D cJ h0 a1 a2 a3 a4 a5 a6 tC tS u v1 v3 r18 _) (cwV 3 hts gX0_sail_X0_lastSailing rfl rfl rfl (by decide +kernel) ⟨Nat.le_of_ble_eq_true rfl, Nat.le_of_ble_eq_true rfl⟩) (wX_rc hW) wX_bl (wX_in hW hw) rfl hl.1 rfl (Nat.le_of_ble_eq_true rfl) dX0_sail_149 ⟨Nat.le_of_ble_eq_true rfl, Nat.le_of_ble_eq_true rfl⟩ (fun r22 hw => ?_)
                    refine lv_l2i (v := (r22).toInt32) hx hb dX0_sail_152 rfl ?_
                    refine W.widen (k := 1) (n := 6) (Nat.le_of_ble_eq_true rfl) (Nat.le_of_ble_eq_true rfl) ?_
                    exact vx_ret (W.iret (v := (r22).toInt32) hx hb hr (fun t ht hWm => ⟨⟨(r22).toInt32, u, rfl, hw, by rw [ht]; exact hP, va_K.moved hWm.alike hK, hD⟩, hS.F ht⟩) hS.2.2 dX0_sail_153)
                  · have hw := hw.1 c21
                    refine lv_lload hx hb dX0_sail_138 (lv_at hl 0 rfl) ?_
                    refine lv_goto (tgt := 152) hx hb dX0_sail_140 (by decide) ?_
                    refine lv_l2i (v := (r18).toInt32) hx hb dX0_sail_152 rfl ?_
                    refine W.widen (k := 1) (n := 6) (Nat.le_of_ble_eq_true rfl) (Nat.le_of_ble_eq_true rfl) ?_
                    exact vx_ret (W.iret (v := (r18).toInt32) hx hb hr (fun t ht hWm => ⟨⟨(r18).toInt32, u, rfl, hw, by rw [ht]; exact hP, va_K.moved hWm.alike hK, hD⟩, hS.F ht⟩) hS.2.2 dX0_sail_153)
                · have hw := hw.2 c20
                  refine lv_iconst (v := (-1)) hx hb dX0_sail_131 (by decide) ?_
                  refine W.widen (k := 1) (n := 6) (Nat.le_of_ble_eq_true rfl) (Nat.le_of_ble_eq_true rfl) ?_
                  exact vx_ret (W.iret (v := (-1)) hx hb hr (fun t ht hWm => ⟨⟨(-1), u, rfl, hw, by rw [ht]; exact hP, va_K.moved hWm.alike hK, hD⟩, hS.F ht⟩) hS.2.2 dX0_sail_132)
            · have hw := hw.1 c10
              exact x0_throw (k := 2) (names := ["java/lang/RuntimeException", "java/lang/Exception"]) (text := "speed 0") hx hb hst hown (by decide +kernel) (by decide +kernel) (hts (.classLink RX0 112 "java/lang/ArithmeticException") (by decide +kernel)) (hts (.initialized "java/lang/ArithmeticException") (by decide +kernel)) (by decide +kernel) hT (fun w h => hts w (by unfold wsX0_sail; exact List.mem_cons_of_mem _ (List.mem_append_right _ h))) (by decide +kernel) (by decide +kernel) (hl.1.trans hml.symm) dX0_sail_81 dX0_sail_84 dX0_sail_85 dX0_sail_87 dX0_sail_90 hout (Nat.le_of_ble_eq_true rfl) (Nat.le_of_ble_eq_true rfl) (Nat.le_of_ble_eq_true rfl) (Nat.le_of_ble_eq_true rfl) hlocks hP hK hD rfl hw
          · have hw := hw.1 c9
            exact x0_throw (k := 1) (names := ["java/lang/RuntimeException", "java/lang/Exception"]) (text := "no places") hx hb hst hown (by decide +kernel) (by decide +kernel) (hts (.classLink RX0 57 "java/lang/IllegalStateException") (by decide +kernel)) (hts (.initialized "java/lang/IllegalStateException") (by decide +kernel)) (by decide +kernel) hT (fun w h => hts w (by unfold wsX0_sail; exact List.mem_cons_of_mem _ (List.mem_append_left _ (List.mem_append_right _ h)))) (by decide +kernel) (by decide +kernel) (hl.1.trans hml.symm) dX0_sail_65 dX0_sail_68 dX0_sail_69 dX0_sail_71 dX0_sail_74 hout (Nat.le_of_ble_eq_true rfl) (Nat.le_of_ble_eq_true rfl) (Nat.le_of_ble_eq_true rfl) (Nat.le_of_ble_eq_true rfl) hlocks hP hK hD rfl hw
        · have hw := hw.1 c8
          exact x0_throw (k := 0) (names := ["java/lang/RuntimeException", "java/lang/Exception"]) (text := "no such speed or side") hx hb hst hown (by decide +kernel) (by decide +kernel) (hts (.classLink RX0 48 "java/lang/IllegalArgumentException") (by decide +kernel)) (hts (.initialized "java/lang/IllegalArgumentException") (by decide +kernel)) (by decide +kernel) hT (fun w h => hts w (by unfold wsX0_sail; exact List.mem_cons_of_mem _ (List.mem_append_left _ (List.mem_append_left _ (List.mem_append_right _ h))))) (by decide +kernel) (by decide +kernel) (hl.1.trans hml.symm) dX0_sail_48 dX0_sail_51 dX0_sail_52 dX0_sail_54 dX0_sail_57 hout (Nat.le_of_ble_eq_true rfl) (Nat.le_of_ble_eq_true rfl) (Nat.le_of_ble_eq_true rfl) (Nat.le_of_ble_eq_true rfl) hlocks hP hK hD rfl hw
    · have hw := hw.1 c4
      exact x0_throw (k := 0) (names := ["java/lang/RuntimeException", "java/lang/Exception"]) (text := "outside the table, or no such need") hx hb hst hown (by decide +kernel) (by decide +kernel) (hts (.classLink RX0 48 "java/lang/IllegalArgumentException") (by decide +kernel)) (hts (.initialized "java/lang/IllegalArgumentException") (by decide +kernel)) (by decide +kernel) hT (fun w h => hts w (by unfold wsX0_sail; exact List.mem_cons_of_mem _ (List.mem_append_left _ (List.mem_append_left _ (List.mem_append_right _ h))))) (by decide +kernel) (by decide +kernel) (hl.1.trans hml.symm) dX0_sail_16 dX0_sail_19 dX0_sail_20 dX0_sail_22 dX0_sail_25 hout (Nat.le_of_ble_eq_true rfl) (Nat.le_of_ble_eq_true rfl) (Nat.le_of_ble_eq_true rfl) (Nat.le_of_ble_eq_true rfl) hlocks hP hK hD rfl hw

def wX0_read (post : Int64 → XS → Prop) (thr : Nat → Prop) (u : XS) (v1 : Int32) (v2 : Int32) : Prop := ((v2 = 0 → ((v1 < 0 → ((v2 = 2 → ((v1 < 100 → (thr 3)) ∧ (¬ v1 < 100 → (((xNO u) ≤ (v1 - 100) → (thr 3)) ∧ (¬ (xNO u) ≤ (v1 - 100) → (vp_in (v1 - 100) 16 ∧ (post ((xOT u) ((v1 - 100)).toNatClampNeg) u))))))) ∧ (¬ v2 = 2 → ((v2 = 3 → ((v1 < 100 → (thr 3)) ∧ (¬ v1 < 100 → (((xNO u) ≤ (v1 - 100) → (thr 3)) ∧ (¬ (xNO u) ≤ (v1 - 100) → (vp_in (v1 - 100) 16 ∧ (post ((xOD u) ((v1 - 100)).toNatClampNeg) u))))))) ∧ (¬ v2 = 3 → (thr 3)))))) ∧ (¬ v1 < 0 → (((xNT u) ≤ v1 → ((v2 = 2 → ((v1 < 100 → (thr 3)) ∧ (¬ v1 < 100 → (((xNO u) ≤ (v1 - 100) → (thr 3)) ∧ (¬ (xNO u) ≤ (v1 - 100) → (vp_in (v1 - 100) 16 ∧ (post ((xOT u) ((v1 - 100)).toNatClampNeg) u))))))) ∧ (¬ v2 = 2 → ((v2 = 3 → ((v1 < 100 → (thr 3)) ∧ (¬ v1 < 100 → (((xNO u) ≤ (v1 - 100) → (thr 3)) ∧ (¬ (xNO u) ≤ (v1 - 100) → (vp_in (v1 - 100) 16 ∧ (post ((xOD u) ((v1 - 100)).toNatClampNeg) u))))))) ∧ (¬ v2 = 3 → (thr 3)))))) ∧ (¬ (xNT u) ≤ v1 → (vp_in v1 40 ∧ (post ((xTT u) (v1).toNatClampNeg) u))))))) ∧ (¬ v2 = 0 → ((v2 = 1 → ((v1 < 0 → ((v2 = 2 → ((v1 < 100 → (thr 3)) ∧ (¬ v1 < 100 → (((xNO u) ≤ (v1 - 100) → (thr 3)) ∧ (¬ (xNO u) ≤ (v1 - 100) → (vp_in (v1 - 100) 16 ∧ (post ((xOT u) ((v1 - 100)).toNatClampNeg) u))))))) ∧ (¬ v2 = 2 → ((v2 = 3 → ((v1 < 100 → (thr 3)) ∧ (¬ v1 < 100 → (((xNO u) ≤ (v1 - 100) → (thr 3)) ∧ (¬ (xNO u) ≤ (v1 - 100) → (vp_in (v1 - 100) 16 ∧ (post ((xOD u) ((v1 - 100)).toNatClampNeg) u))))))) ∧ (¬ v2 = 3 → (thr 3)))))) ∧ (¬ v1 < 0 → (((xNT u) ≤ v1 → ((v2 = 2 → ((v1 < 100 → (thr 3)) ∧ (¬ v1 < 100 → (((xNO u) ≤ (v1 - 100) → (thr 3)) ∧ (¬ (xNO u) ≤ (v1 - 100) → (vp_in (v1 - 100) 16 ∧ (post ((xOT u) ((v1 - 100)).toNatClampNeg) u))))))) ∧ (¬ v2 = 2 → ((v2 = 3 → ((v1 < 100 → (thr 3)) ∧ (¬ v1 < 100 → (((xNO u) ≤ (v1 - 100) → (thr 3)) ∧ (¬ (xNO u) ≤ (v1 - 100) → (vp_in (v1 - 100) 16 ∧ (post ((xOD u) ((v1 - 100)).toNatClampNeg) u))))))) ∧ (¬ v2 = 3 → (thr 3)))))) ∧ (¬ (xNT u) ≤ v1 → (vp_in v1 40 ∧ (post ((xTH u) (v1).toNatClampNeg) u))))))) ∧ (¬ v2 = 1 → ((v2 = 2 → ((v1 < 100 → (thr 3)) ∧ (¬ v1 < 100 → (((xNO u) ≤ (v1 - 100) → (thr 3)) ∧ (¬ (xNO u) ≤ (v1 - 100) → (vp_in (v1 - 100) 16 ∧ (post ((xOT u) ((v1 - 100)).toNatClampNeg) u))))))) ∧ (¬ v2 = 2 → ((v2 = 3 → ((v1 < 100 → (thr 3)) ∧ (¬ v1 < 100 → (((xNO u) ≤ (v1 - 100) → (thr 3)) ∧ (¬ (xNO u) ≤ (v1 - 100) → (vp_in (v1 - 100) 16 ∧ (post ((xOD u) ((v1 - 100)).toNatClampNeg) u))))))) ∧ (¬ v2 = 3 → (thr 3)))))))))

set_option maxHeartbeats 4000000 in
set_option maxRecDepth 100000 in
theorem mX0_read (l : Launch) (hst : l.stackTraces = false) (D : va_G) (cJ : ClassId) (h0 a1 a2 a3 a4 a5 a6 tC tS sz : Nat) (u : XS) (v1 : Int32) (v2 : Int32) (post : Int64 → XS → Prop) (thr : Nat → Prop) : vx_Met l yX0_read wsX0_read ({ frames := 6, cells := 1, slots := 6, locals := 90 } : Room) (va_Pc [.ref h0, .int v1, .int v2] (fun U => XE D cJ h0 a1 a2 a3 a4 a5 a6 tC tS sz u U ∧ wX0_read post thr u v1 v2)) (va_Ql post (fun u9 t9 => XT D cJ h0 a1 a2 a3 a4 a5 a6 (va_A (x0W cJ h0 a1 a2 a3 a4 a5 a6 u) sz) u9 t9) (va_A (x0W cJ h0 a1 a2 a3 a4 a5 a6 u) sz)) (vx_X thr (fun E9 k9 t9 => E9 = exN k9 ∧ XT D cJ h0 a1 a2 a3 a4 a5 a6 (va_A (x0W cJ h0 a1 a2 a3 a4 a5 a6 u) sz) u t9) (va_A (x0W cJ h0 a1 a2 a3 a4 a5 a6 u) sz)) 1 6 (va_A (x0W cJ h0 a1 a2 a3 a4 a5 a6 u) sz) := by
  refine vx_ofW (cc := cX0_read) (maxL := 6) (ret := (some .long)) (by decide +kernel) rfl ?_
  intro p e s m args below meth c s₁ B hml hout hv
  obtain ⟨rfl, ⟨hsz, hP, hK, hD0, hZ, hT⟩, hw⟩ := hv
  have hx := B.exec
  have hb := B.bytes
  have hr := B.returns
  have hts := atoms_spec (ws := wsX0_read) B.pre
  have hown : s.vm.findClass RX0 = some m.cls := findClass_of_methodNamed B.named
  have hlocks := B.notSynchronized
  have hin : ∀ w ∈ u_ws RX0 TX0 9, w ∈ wsX0_read := by decide +kernel
  subst hsz
  have hD := hD0.self (sz := s.heap.size)
  generalize hAe : va_A (x0W cJ h0 a1 a2 a3 a4 a5 a6 u) s.heap.size = A at hD hZ hT ⊢
  have hS : va_S A s.heap s.heap [] := va_S.rf
  have hW : XW D cJ h0 a1 a2 a3 a4 a5 a6 tC tS u s s.heap := ⟨hP, hK, hZ.narrow (fun _ h => h.elim)⟩
  have hl := lv_entry ([.ref h0, .int v1, .int v2]) (n := 6) (Nat.le_of_ble_eq_true rfl)
  rw [lg_entry_eq]
  generalize (lg_sl ([.ref h0, .int v1, .int v2]) ++ List.replicate (6 - (lg_sl ([.ref h0, .int v1, .int v2])).length) Slot.unset).toArray = ls at hl ⊢
  have hl : lv_has ls 6 [(0, .ref h0), (1, .int v1), (2, .int v2)] := hl
  unfold wX0_read at hw
  refine lv_iload_n hx hb dX0_read_0 rfl (lv_at hl 2 rfl) ?_
  refine lv_if_eq (tgt := 9) hx hb dX0_read_1 (by decide) (fun c1 => ?_) (fun c1 => ?_)
  · have hw := hw.1 c1
    refine lv_iconst (v := 1) hx hb dX0_read_9 (by decide) ?_
    refine lv_goto (tgt := 14) hx hb dX0_read_10 (by decide) ?_
    refine lv_istore_n (lv' := [(3, .int 1), (0, .ref h0), (1, .int v1), (2, .int v2)]) hx hb dX0_read_14 rfl hl (by decide) rfl (fun ls hl => ?_)
    refine lv_iload_n hx hb dX0_read_15 rfl (lv_at hl 0 rfl) ?_
    refine lv_if_eq (tgt := 51) hx hb dX0_read_16 (by decide) (fun c2 => ?_) (fun c2 => ?_)
    · exact absurd c2 (by decide)
    ·
      refine lv_iload_n hx hb dX0_read_19 rfl (lv_at hl 2 rfl) ?_
      refine lv_if_lt (tgt := 51) hx hb dX0_read_20 (by decide) (fun c3 => ?_) (fun c3 => ?_)
      · have hw := hw.1 c3
        refine lv_iload_n hx hb dX0_read_51 rfl (lv_at hl 3 rfl) ?_
        refine lv_iconst (v := 2) hx hb dX0_read_52 (by decide) ?_
        refine lv_icmp_eq (tgt := 61) hx hb dX0_read_53 (by decide) (fun c4 => ?_) (fun c4 => ?_)
        · have hw := hw.1 c4
          refine lv_iconst (v := 1) hx hb dX0_read_61 (by decide) ?_
          refine lv_goto (tgt := 66) hx hb dX0_read_62 (by decide) ?_
          refine lv_istore (lv' := [(4, .int 1), (3, .int 1), (0, .ref h0), (1, .int v1), (2, .int v2)]) hx hb dX0_read_66 hl (by decide) rfl (fun ls hl => ?_)
          refine lv_iload hx hb dX0_read_68 (lv_at hl 0 rfl) ?_
          refine lv_if_eq (tgt := 119) hx hb dX0_read_70 (by decide) (fun c5 => ?_) (fun c5 => ?_)
          · exact absurd c5 (by decide)
          ·
            refine lv_iload_n hx hb dX0_read_73 rfl (lv_at hl 3 rfl) ?_
            refine lv_bipush (v := 100) hx hb dX0_read_74 (by decide) ?_
            refine lv_icmp_lt (tgt := 119) hx hb dX0_read_76 (by decide) (fun c6 => ?_) (fun c6 => ?_)
            · have hw := hw.1 c6
              exact x0_throw (k := 3) (names := ["java/lang/RuntimeException", "java/lang/Exception"]) (text := "nothing such to read") hx hb hst hown (by decide +kernel) (by decide +kernel) (hts (.classLink RX0 143 "java/lang/IndexOutOfBoundsException") (by decide +kernel)) (hts (.initialized "java/lang/IndexOutOfBoundsException") (by decide +kernel)) (by decide +kernel) hT (fun w h => hts w (by unfold wsX0_read; exact List.mem_cons_of_mem _ (List.mem_append_right _ h))) (by decide +kernel) (by decide +kernel) (hl.1.trans hml.symm) dX0_read_119 dX0_read_122 dX0_read_123 dX0_read_125 dX0_read_128 hout (Nat.le_of_ble_eq_true rfl) (Nat.le_of_ble_eq_true rfl) (Nat.le_of_ble_eq_true rfl) (Nat.le_of_ble_eq_true rfl) hlocks hP hK hD rfl hw
            · have hw := hw.2 c6
              refine lv_iload_n hx hb dX0_read_79 rfl (lv_at hl 3 rfl) ?_
              refine lv_bipush (v := 100) hx hb dX0_read_80 (by decide) ?_
              refine lv_isub hx hb dX0_read_82 ?_
              refine lv_aload_n hx hb dX0_read_83 rfl (lv_at hl 2 rfl) ?_
              refine va_get (D := D) (ci := 0) (v := .int (xNO u)) (C := RX0) (T := TX0) (N := 9) hx hb hts hin hown hK hP 0 rfl rfl 5 (by decide) (hts (.fieldLink RX0 26 "TideDepths" "observations" "I") (by decide +kernel)) (fun _ h9 => h9) rfl dX0_read_84 ?_
              refine lv_icmp_ge (tgt := 119) hx hb dX0_read_87 (by decide) (fun c7 => ?_) (fun c7 => ?_)
              · have hw := hw.1 c7
                exact x0_throw (k := 3) (names := ["java/lang/RuntimeException", "java/lang/Exception"]) (text := "nothing such to read") hx hb hst hown (by decide +kernel) (by decide +kernel) (hts (.classLink RX0 143 "java/lang/IndexOutOfBoundsException") (by decide +kernel)) (hts (.initialized "java/lang/IndexOutOfBoundsException") (by decide +kernel)) (by decide +kernel) hT (fun w h => hts w (by unfold wsX0_read; exact List.mem_cons_of_mem _ (List.mem_append_right _ h))) (by decide +kernel) (by decide +kernel) (hl.1.trans hml.symm) dX0_read_119 dX0_read_122 dX0_read_123 dX0_read_125 dX0_read_128 hout (Nat.le_of_ble_eq_true rfl) (Nat.le_of_ble_eq_true rfl) (Nat.le_of_ble_eq_true rfl) (Nat.le_of_ble_eq_true rfl) hlocks hP hK hD rfl hw
              · have hw := hw.2 c7
                refine lv_iload_n hx hb dX0_read_90 rfl (lv_at hl 3 rfl) ?_
                refine lv_bipush (v := 100) hx hb dX0_read_91 (by decide) ?_
                refine lv_isub hx hb dX0_read_93 ?_
                refine lv_istore (lv' := [(5, .int (v1 - 100)), (4, .int 1), (3, .int 1), (0, .ref h0), (1, .int v1), (2, .int v2)]) hx hb dX0_read_94 hl (by decide) rfl (fun ls hl => ?_)
                refine lv_iload_n hx hb dX0_read_96 rfl (lv_at hl 5 rfl) ?_
                refine lv_iconst (v := 2) hx hb dX0_read_97 (by decide) ?_
                refine lv_icmp_ne (tgt := 111) hx hb dX0_read_98 (by decide) (fun c8 => ?_) (fun c8 => ?_)
                · exact absurd c4 c8
                ·
                  refine lv_aload_n hx hb dX0_read_101 rfl (lv_at hl 3 rfl) ?_
                  refine va_get (D := D) (ci := 0) (v := .ref a3) (C := RX0) (T := TX0) (N := 9) hx hb hts hin hown hK hP 0 rfl rfl 3 (by decide) (hts (.fieldLink RX0 20 "TideDepths" "observedTimes" "[J") (by decide +kernel)) (fun _ h9 => h9) rfl dX0_read_102 ?_
                  refine lv_iload hx hb dX0_read_105 (lv_at hl 0 rfl) ?_
                  obtain ⟨h9, hw⟩ := hw
                  refine va_lald hx hb hK hP 3 0 rfl rfl h9 dX0_read_107 ?_
                  refine lv_goto (tgt := 118) hx hb dX0_read_108 (by decide) ?_
                  refine W.widen (k := 1) (n := 6) (Nat.le_of_ble_eq_true rfl) (Nat.le_of_ble_eq_true rfl) ?_
                  exact vx_ret (W.lret (v := ((xOT u) ((v1 - 100)).toNatClampNeg)) hx hb hr (fun t ht hWm => ⟨⟨((xOT u) ((v1 - 100)).toNatClampNeg), u, rfl, hw, by rw [ht]; exact hP, va_K.moved hWm.alike hK, hD⟩, hS.F ht⟩) hS.2.2 dX0_read_118)
        · have hw := hw.2 c4
          refine lv_iload_n hx hb dX0_read_56 rfl (lv_at hl 3 rfl) ?_
          refine lv_iconst (v := 3) hx hb dX0_read_57 (by decide) ?_
          refine lv_icmp_ne (tgt := 65) hx hb dX0_read_58 (by decide) (fun c10 => ?_) (fun c10 => ?_)
          · have hw := hw.2 c10
            refine lv_iconst (v := 0) hx hb dX0_read_65 (by decide) ?_
            refine lv_istore (lv' := [(4, .int 0), (3, .int 1), (0, .ref h0), (1, .int v1), (2, .int v2)]) hx hb dX0_read_66 hl (by decide) rfl (fun ls hl => ?_)
            refine lv_iload hx hb dX0_read_68 (lv_at hl 0 rfl) ?_
            refine lv_if_eq (tgt := 119) hx hb dX0_read_70 (by decide) (fun c11 => ?_) (fun c11 => ?_)
            ·
              exact x0_throw (k := 3) (names := ["java/lang/RuntimeException", "java/lang/Exception"]) (text := "nothing such to read") hx hb hst hown (by decide +kernel) (by decide +kernel) (hts (.classLink RX0 143 "java/lang/IndexOutOfBoundsException") (by decide +kernel)) (hts (.initialized "java/lang/IndexOutOfBoundsException") (by decide +kernel)) (by decide +kernel) hT (fun w h => hts w (by unfold wsX0_read; exact List.mem_cons_of_mem _ (List.mem_append_right _ h))) (by decide +kernel) (by decide +kernel) (hl.1.trans hml.symm) dX0_read_119 dX0_read_122 dX0_read_123 dX0_read_125 dX0_read_128 hout (Nat.le_of_ble_eq_true rfl) (Nat.le_of_ble_eq_true rfl) (Nat.le_of_ble_eq_true rfl) (Nat.le_of_ble_eq_true rfl) hlocks hP hK hD rfl hw
            · exact absurd (by decide) c11
          · have hw := hw.1 c10
            refine lv_iconst (v := 1) hx hb dX0_read_61 (by decide) ?_
            refine lv_goto (tgt := 66) hx hb dX0_read_62 (by decide) ?_
            refine lv_istore (lv' := [(4, .int 1), (3, .int 1), (0, .ref h0), (1, .int v1), (2, .int v2)]) hx hb dX0_read_66 hl (by decide) rfl (fun ls hl => ?_)
            refine lv_iload hx hb dX0_read_68 (lv_at hl 0 rfl) ?_
            refine lv_if_eq (tgt := 119) hx hb dX0_read_70 (by decide) (fun c12 => ?_) (fun c12 => ?_)
            · exact absurd c12 (by decide)
            ·
              refine lv_iload_n hx hb dX0_read_73 rfl (lv_at hl 3 rfl) ?_
              refine lv_bipush (v := 100) hx hb dX0_read_74 (by decide) ?_
              refine lv_icmp_lt (tgt := 119) hx hb dX0_read_76 (by decide) (fun c13 => ?_) (fun c13 => ?_)
              · have hw := hw.1 c13
                exact x0_throw (k := 3) (names := ["java/lang/RuntimeException", "java/lang/Exception"]) (text := "nothing such to read") hx hb hst hown (by decide +kernel) (by decide +kernel) (hts (.classLink RX0 143 "java/lang/IndexOutOfBoundsException") (by decide +kernel)) (hts (.initialized "java/lang/IndexOutOfBoundsException") (by decide +kernel)) (by decide +kernel) hT (fun w h => hts w (by unfold wsX0_read; exact List.mem_cons_of_mem _ (List.mem_append_right _ h))) (by decide +kernel) (by decide +kernel) (hl.1.trans hml.symm) dX0_read_119 dX0_read_122 dX0_read_123 dX0_read_125 dX0_read_128 hout (Nat.le_of_ble_eq_true rfl) (Nat.le_of_ble_eq_true rfl) (Nat.le_of_ble_eq_true rfl) (Nat.le_of_ble_eq_true rfl) hlocks hP hK hD rfl hw
              · have hw := hw.2 c13
                refine lv_iload_n hx hb dX0_read_79 rfl (lv_at hl 3 rfl) ?_
                refine lv_bipush (v := 100) hx hb dX0_read_80 (by decide) ?_
                refine lv_isub hx hb dX0_read_82 ?_
                refine lv_aload_n hx hb dX0_read_83 rfl (lv_at hl 2 rfl) ?_
                refine va_get (D := D) (ci := 0) (v := .int (xNO u)) (C := RX0) (T := TX0) (N := 9) hx hb hts hin hown hK hP 0 rfl rfl 5 (by decide) (hts (.fieldLink RX0 26 "TideDepths" "observations" "I") (by decide +kernel)) (fun _ h9 => h9) rfl dX0_read_84 ?_
                refine lv_icmp_ge (tgt := 119) hx hb dX0_read_87 (by decide) (fun c14 => ?_) (fun c14 => ?_)
                · have hw := hw.1 c14
                  exact x0_throw (k := 3) (names := ["java/lang/RuntimeException", "java/lang/Exception"]) (text := "nothing such to read") hx hb hst hown (by decide +kernel) (by decide +kernel) (hts (.classLink RX0 143 "java/lang/IndexOutOfBoundsException") (by decide +kernel)) (hts (.initialized "java/lang/IndexOutOfBoundsException") (by decide +kernel)) (by decide +kernel) hT (fun w h => hts w (by unfold wsX0_read; exact List.mem_cons_of_mem _ (List.mem_append_right _ h))) (by decide +kernel) (by decide +kernel) (hl.1.trans hml.symm) dX0_read_119 dX0_read_122 dX0_read_123 dX0_read_125 dX0_read_128 hout (Nat.le_of_ble_eq_true rfl) (Nat.le_of_ble_eq_true rfl) (Nat.le_of_ble_eq_true rfl) (Nat.le_of_ble_eq_true rfl) hlocks hP hK hD rfl hw
                · have hw := hw.2 c14
                  refine lv_iload_n hx hb dX0_read_90 rfl (lv_at hl 3 rfl) ?_
                  refine lv_bipush (v := 100) hx hb dX0_read_91 (by decide) ?_
                  refine lv_isub hx hb dX0_read_93 ?_
                  refine lv_istore (lv' := [(5, .int (v1 - 100)), (4, .int 1), (3, .int 1), (0, .ref h0), (1, .int v1), (2, .int v2)]) hx hb dX0_read_94 hl (by decide) rfl (fun ls hl => ?_)
                  refine lv_iload_n hx hb dX0_read_96 rfl (lv_at hl 5 rfl) ?_
                  refine lv_iconst (v := 2) hx hb dX0_read_97 (by decide) ?_
                  refine lv_icmp_ne (tgt := 111) hx hb dX0_read_98 (by decide) (fun c15 => ?_) (fun c15 => ?_)
                  ·
                    refine lv_aload_n hx hb dX0_read_111 rfl (lv_at hl 3 rfl) ?_
                    refine va_get (D := D) (ci := 0) (v := .ref a4) (C := RX0) (T := TX0) (N := 9) hx hb hts hin hown hK hP 0 rfl rfl 4 (by decide) (hts (.fieldLink RX0 23 "TideDepths" "differences" "[J") (by decide +kernel)) (fun _ h9 => h9) rfl dX0_read_112 ?_
                    refine lv_iload hx hb dX0_read_115 (lv_at hl 0 rfl) ?_
                    obtain ⟨h16, hw⟩ := hw
                    refine va_lald hx hb hK hP 4 0 rfl rfl h16 dX0_read_117 ?_
                    refine W.widen (k := 1) (n := 6) (Nat.le_of_ble_eq_true rfl) (Nat.le_of_ble_eq_true rfl) ?_
                    exact vx_ret (W.lret (v := ((xOD u) ((v1 - 100)).toNatClampNeg)) hx hb hr (fun t ht hWm => ⟨⟨((xOD u) ((v1 - 100)).toNatClampNeg), u, rfl, hw, by rw [ht]; exact hP, va_K.moved hWm.alike hK, hD⟩, hS.F ht⟩) hS.2.2 dX0_read_118)
                  · exact absurd c15 c4
      · have hw := hw.2 c3
        refine lv_iload_n hx hb dX0_read_23 rfl (lv_at hl 2 rfl) ?_
        refine lv_aload_n hx hb dX0_read_24 rfl (lv_at hl 1 rfl) ?_
        refine va_get (D := D) (ci := 0) (v := .int (xNT u)) (C := RX0) (T := TX0) (N := 9) hx hb hts hin hown hK hP 0 rfl rfl 2 (by decide) (hts (.fieldLink RX0 16 "TideDepths" "turns" "I") (by decide +kernel)) (fun _ h9 => h9) rfl dX0_read_25 ?_
        refine lv_icmp_ge (tgt := 51) hx hb dX0_read_28 (by decide) (fun c17 => ?_) (fun c17 => ?_)
        · have hw := hw.1 c17
          refine lv_iload_n hx hb dX0_read_51 rfl (lv_at hl 3 rfl) ?_
          refine lv_iconst (v := 2) hx hb dX0_read_52 (by decide) ?_
          refine lv_icmp_eq (tgt := 61) hx hb dX0_read_53 (by decide) (fun c18 => ?_) (fun c18 => ?_)
          · have hw := hw.1 c18
            refine lv_iconst (v := 1) hx hb dX0_read_61 (by decide) ?_
            refine lv_goto (tgt := 66) hx hb dX0_read_62 (by decide) ?_
            refine lv_istore (lv' := [(4, .int 1), (3, .int 1), (0, .ref h0), (1, .int v1), (2, .int v2)]) hx hb dX0_read_66 hl (by decide) rfl (fun ls hl => ?_)
            refine lv_iload hx hb dX0_read_68 (lv_at hl 0 rfl) ?_
            refine lv_if_eq (tgt := 119) hx hb dX0_read_70 (by decide) (fun c19 => ?_) (fun c19 => ?_)
            · exact absurd c19 (by decide)
            ·
              refine lv_iload_n hx hb dX0_read_73 rfl (lv_at hl 3 rfl) ?_
              refine lv_bipush (v := 100) hx hb dX0_read_74 (by decide) ?_
              refine lv_icmp_lt (tgt := 119) hx hb dX0_read_76 (by decide) (fun c20 => ?_) (fun c20 => ?_)
              · have hw := hw.1 c20
                exact x0_throw (k := 3) (names := ["java/lang/RuntimeException", "java/lang/Exception"]) (text := "nothing such to read") hx hb hst hown (by decide +kernel) (by decide +kernel) (hts (.classLink RX0 143 "java/lang/IndexOutOfBoundsException") (by decide +kernel)) (hts (.initialized "java/lang/IndexOutOfBoundsException") (by decide +kernel)) (by decide +kernel) hT (fun w h => hts w (by unfold wsX0_read; exact List.mem_cons_of_mem _ (List.mem_append_right _ h))) (by decide +kernel) (by decide +kernel) (hl.1.trans hml.symm) dX0_read_119 dX0_read_122 dX0_read_123 dX0_read_125 dX0_read_128 hout (Nat.le_of_ble_eq_true rfl) (Nat.le_of_ble_eq_true rfl) (Nat.le_of_ble_eq_true rfl) (Nat.le_of_ble_eq_true rfl) hlocks hP hK hD rfl hw
              · have hw := hw.2 c20
                refine lv_iload_n hx hb dX0_read_79 rfl (lv_at hl 3 rfl) ?_
                refine lv_bipush (v := 100) hx hb dX0_read_80 (by decide) ?_
                refine lv_isub hx hb dX0_read_82 ?_
                refine lv_aload_n hx hb dX0_read_83 rfl (lv_at hl 2 rfl) ?_
                refine va_get (D := D) (ci := 0) (v := .int (xNO u)) (C := RX0) (T := TX0) (N := 9) hx hb hts hin hown hK hP 0 rfl rfl 5 (by decide) (hts (.fieldLink RX0 26 "TideDepths" "observations" "I") (by decide +kernel)) (fun _ h9 => h9) rfl dX0_read_84 ?_
                refine lv_icmp_ge (tgt := 119) hx hb dX0_read_87 (by decide) (fun c21 => ?_) (fun c21 => ?_)
                · have hw := hw.1 c21
                  exact x0_throw (k := 3) (names := ["java/lang/RuntimeException", "java/lang/Exception"]) (text := "nothing such to read") hx hb hst hown (by decide +kernel) (by decide +kernel) (hts (.classLink RX0 143 "java/lang/IndexOutOfBoundsException") (by decide +kernel)) (hts (.initialized "java/lang/IndexOutOfBoundsException") (by decide +kernel)) (by decide +kernel) hT (fun w h => hts w (by unfold wsX0_read; exact List.mem_cons_of_mem _ (List.mem_append_right _ h))) (by decide +kernel) (by decide +kernel) (hl.1.trans hml.symm) dX0_read_119 dX0_read_122 dX0_read_123 dX0_read_125 dX0_read_128 hout (Nat.le_of_ble_eq_true rfl) (Nat.le_of_ble_eq_true rfl) (Nat.le_of_ble_eq_true rfl) (Nat.le_of_ble_eq_true rfl) hlocks hP hK hD rfl hw
                · have hw := hw.2 c21
                  refine lv_iload_n hx hb dX0_read_90 rfl (lv_at hl 3 rfl) ?_
                  refine lv_bipush (v := 100) hx hb dX0_read_91 (by decide) ?_
                  refine lv_isub hx hb dX0_read_93 ?_
                  refine lv_istore (lv' := [(5, .int (v1 - 100)), (4, .int 1), (3, .int 1), (0, .ref h0), (1, .int v1), (2, .int v2)]) hx hb dX0_read_94 hl (by decide) rfl (fun ls hl => ?_)
                  refine lv_iload_n hx hb dX0_read_96 rfl (lv_at hl 5 rfl) ?_
                  refine lv_iconst (v := 2) hx hb dX0_read_97 (by decide) ?_
                  refine lv_icmp_ne (tgt := 111) hx hb dX0_read_98 (by decide) (fun c22 => ?_) (fun c22 => ?_)
                  · exact absurd c18 c22
                  ·
                    refine lv_aload_n hx hb dX0_read_101 rfl (lv_at hl 3 rfl) ?_
                    refine va_get (D := D) (ci := 0) (v := .ref a3) (C := RX0) (T := TX0) (N := 9) hx hb hts hin hown hK hP 0 rfl rfl 3 (by decide) (hts (.fieldLink RX0 20 "TideDepths" "observedTimes" "[J") (by decide +kernel)) (fun _ h9 => h9) rfl dX0_read_102 ?_
                    refine lv_iload hx hb dX0_read_105 (lv_at hl 0 rfl) ?_
                    obtain ⟨h23, hw⟩ := hw
                    refine va_lald hx hb hK hP 3 0 rfl rfl h23 dX0_read_107 ?_
                    refine lv_goto (tgt := 118) hx hb dX0_read_108 (by decide) ?_
                    refine W.widen (k := 1) (n := 6) (Nat.le_of_ble_eq_true rfl) (Nat.le_of_ble_eq_true rfl) ?_
                    exact vx_ret (W.lret (v := ((xOT u) ((v1 - 100)).toNatClampNeg)) hx hb hr (fun t ht hWm => ⟨⟨((xOT u) ((v1 - 100)).toNatClampNeg), u, rfl, hw, by rw [ht]; exact hP, va_K.moved hWm.alike hK, hD⟩, hS.F ht⟩) hS.2.2 dX0_read_118)
          · have hw := hw.2 c18
            refine lv_iload_n hx hb dX0_read_56 rfl (lv_at hl 3 rfl) ?_
            refine lv_iconst (v := 3) hx hb dX0_read_57 (by decide) ?_
            refine lv_icmp_ne (tgt := 65) hx hb dX0_read_58 (by decide) (fun c24 => ?_) (fun c24 => ?_)
            · have hw := hw.2 c24
              refine lv_iconst (v := 0) hx hb dX0_read_65 (by decide) ?_
              refine lv_istore (lv' := [(4, .int 0), (3, .int 1), (0, .ref h0), (1, .int v1), (2, .int v2)]) hx hb dX0_read_66 hl (by decide) rfl (fun ls hl => ?_)
              refine lv_iload hx hb dX0_read_68 (lv_at hl 0 rfl) ?_
              refine lv_if_eq (tgt := 119) hx hb dX0_read_70 (by decide) (fun c25 => ?_) (fun c25 => ?_)
              ·
                exact x0_throw (k := 3) (names := ["java/lang/RuntimeException", "java/lang/Exception"]) (text := "nothing such to read") hx hb hst hown (by decide +kernel) (by decide +kernel) (hts (.classLink RX0 143 "java/lang/IndexOutOfBoundsException") (by decide +kernel)) (hts (.initialized "java/lang/IndexOutOfBoundsException") (by decide +kernel)) (by decide +kernel) hT (fun w h => hts w (by unfold wsX0_read; exact List.mem_cons_of_mem _ (List.mem_append_right _ h))) (by decide +kernel) (by decide +kernel) (hl.1.trans hml.symm) dX0_read_119 dX0_read_122 dX0_read_123 dX0_read_125 dX0_read_128 hout (Nat.le_of_ble_eq_true rfl) (Nat.le_of_ble_eq_true rfl) (Nat.le_of_ble_eq_true rfl) (Nat.le_of_ble_eq_true rfl) hlocks hP hK hD rfl hw
              · exact absurd (by decide) c25
            · have hw := hw.1 c24
              refine lv_iconst (v := 1) hx hb dX0_read_61 (by decide) ?_
              refine lv_goto (tgt := 66) hx hb dX0_read_62 (by decide) ?_
              refine lv_istore (lv' := [(4, .int 1), (3, .int 1), (0, .ref h0), (1, .int v1), (2, .int v2)]) hx hb dX0_read_66 hl (by decide) rfl (fun ls hl => ?_)
              refine lv_iload hx hb dX0_read_68 (lv_at hl 0 rfl) ?_
              refine lv_if_eq (tgt := 119) hx hb dX0_read_70 (by decide) (fun c26 => ?_) (fun c26 => ?_)
              · exact absurd c26 (by decide)
              ·
                refine lv_iload_n hx hb dX0_read_73 rfl (lv_at hl 3 rfl) ?_
                refine lv_bipush (v := 100) hx hb dX0_read_74 (by decide) ?_
                refine lv_icmp_lt (tgt := 119) hx hb dX0_read_76 (by decide) (fun c27 => ?_) (fun c27 => ?_)
                · have hw := hw.1 c27
                  exact x0_throw (k := 3) (names := ["java/lang/RuntimeException", "java/lang/Exception"]) (text := "nothing such to read") hx hb hst hown (by decide +kernel) (by decide +kernel) (hts (.classLink RX0 143 "java/lang/IndexOutOfBoundsException") (by decide +kernel)) (hts (.initialized "java/lang/IndexOutOfBoundsException") (by decide +kernel)) (by decide +kernel) hT (fun w h => hts w (by unfold wsX0_read; exact List.mem_cons_of_mem _ (List.mem_append_right _ h))) (by decide +kernel) (by decide +kernel) (hl.1.trans hml.symm) dX0_read_119 dX0_read_122 dX0_read_123 dX0_read_125 dX0_read_128 hout (Nat.le_of_ble_eq_true rfl) (Nat.le_of_ble_eq_true rfl) (Nat.le_of_ble_eq_true rfl) (Nat.le_of_ble_eq_true rfl) hlocks hP hK hD rfl hw
                · have hw := hw.2 c27
                  refine lv_iload_n hx hb dX0_read_79 rfl (lv_at hl 3 rfl) ?_
                  refine lv_bipush (v := 100) hx hb dX0_read_80 (by decide) ?_
                  refine lv_isub hx hb dX0_read_82 ?_
                  refine lv_aload_n hx hb dX0_read_83 rfl (lv_at hl 2 rfl) ?_
                  refine va_get (D := D) (ci := 0) (v := .int (xNO u)) (C := RX0) (T := TX0) (N := 9) hx hb hts hin hown hK hP 0 rfl rfl 5 (by decide) (hts (.fieldLink RX0 26 "TideDepths" "observations" "I") (by decide +kernel)) (fun _ h9 => h9) rfl dX0_read_84 ?_
                  refine lv_icmp_ge (tgt := 119) hx hb dX0_read_87 (by decide) (fun c28 => ?_) (fun c28 => ?_)
                  · have hw := hw.1 c28
                    exact x0_throw (k := 3) (names := ["java/lang/RuntimeException", "java/lang/Exception"]) (text := "nothing such to read") hx hb hst hown (by decide +kernel) (by decide +kernel) (hts (.classLink RX0 143 "java/lang/IndexOutOfBoundsException") (by decide +kernel)) (hts (.initialized "java/lang/IndexOutOfBoundsException") (by decide +kernel)) (by decide +kernel) hT (fun w h => hts w (by unfold wsX0_read; exact List.mem_cons_of_mem _ (List.mem_append_right _ h))) (by decide +kernel) (by decide +kernel) (hl.1.trans hml.symm) dX0_read_119 dX0_read_122 dX0_read_123 dX0_read_125 dX0_read_128 hout (Nat.le_of_ble_eq_true rfl) (Nat.le_of_ble_eq_true rfl) (Nat.le_of_ble_eq_true rfl) (Nat.le_of_ble_eq_true rfl) hlocks hP hK hD rfl hw
                  · have hw := hw.2 c28
                    refine lv_iload_n hx hb dX0_read_90 rfl (lv_at hl 3 rfl) ?_
                    refine lv_bipush (v := 100) hx hb dX0_read_91 (by decide) ?_
                    refine lv_isub hx hb dX0_read_93 ?_
                    refine lv_istore (lv' := [(5, .int (v1 - 100)), (4, .int 1), (3, .int 1), (0, .ref h0), (1, .int v1), (2, .int v2)]) hx hb dX0_read_94 hl (by decide) rfl (fun ls hl => ?_)
                    refine lv_iload_n hx hb dX0_read_96 rfl (lv_at hl 5 rfl) ?_
                    refine lv_iconst (v := 2) hx hb dX0_read_97 (by decide) ?_
                    refine lv_icmp_ne (tgt := 111) hx hb dX0_read_98 (by decide) (fun c29 => ?_) (fun c29 => ?_)
                    ·
                      refine lv_aload_n hx hb dX0_read_111 rfl (lv_at hl 3 rfl) ?_
                      refine va_get (D := D) (ci := 0) (v := .ref a4) (C := RX0) (T := TX0) (N := 9) hx hb hts hin hown hK hP 0 rfl rfl 4 (by decide) (hts (.fieldLink RX0 23 "TideDepths" "differences" "[J") (by decide +kernel)) (fun _ h9 => h9) rfl dX0_read_112 ?_
                      refine lv_iload hx hb dX0_read_115 (lv_at hl 0 rfl) ?_
                      obtain ⟨h30, hw⟩ := hw
                      refine va_lald hx hb hK hP 4 0 rfl rfl h30 dX0_read_117 ?_
                      refine W.widen (k := 1) (n := 6) (Nat.le_of_ble_eq_true rfl) (Nat.le_of_ble_eq_true rfl) ?_
                      exact vx_ret (W.lret (v := ((xOD u) ((v1 - 100)).toNatClampNeg)) hx hb hr (fun t ht hWm => ⟨⟨((xOD u) ((v1 - 100)).toNatClampNeg), u, rfl, hw, by rw [ht]; exact hP, va_K.moved hWm.alike hK, hD⟩, hS.F ht⟩) hS.2.2 dX0_read_118)
                    · exact absurd c29 c18
        · have hw := hw.2 c17
          refine lv_iload_n hx hb dX0_read_31 rfl (lv_at hl 3 rfl) ?_
          refine lv_if_ne (tgt := 44) hx hb dX0_read_32 (by decide) (fun c31 => ?_) (fun c31 => ?_)
          · exact absurd c1 c31
          ·
            refine lv_aload_n hx hb dX0_read_35 rfl (lv_at hl 1 rfl) ?_
            refine va_get (D := D) (ci := 0) (v := .ref a1) (C := RX0) (T := TX0) (N := 9) hx hb hts hin hown hK hP 0 rfl rfl 0 (by decide) (hts (.fieldLink RX0 9 "TideDepths" "turnTimes" "[J") (by decide +kernel)) (fun _ h9 => h9) rfl dX0_read_36 ?_
            refine lv_iload_n hx hb dX0_read_39 rfl (lv_at hl 2 rfl) ?_
            obtain ⟨h32, hw⟩ := hw
            refine va_lald hx hb hK hP 1 0 rfl rfl h32 dX0_read_40 ?_
            refine lv_goto (tgt := 50) hx hb dX0_read_41 (by decide) ?_
            refine W.widen (k := 1) (n := 6) (Nat.le_of_ble_eq_true rfl) (Nat.le_of_ble_eq_true rfl) ?_
            exact vx_ret (W.lret (v := ((xTT u) (v1).toNatClampNeg)) hx hb hr (fun t ht hWm => ⟨⟨((xTT u) (v1).toNatClampNeg), u, rfl, hw, by rw [ht]; exact hP, va_K.moved hWm.alike hK, hD⟩, hS.F ht⟩) hS.2.2 dX0_read_50)
  · have hw := hw.2 c1
    refine lv_iload_n hx hb dX0_read_4 rfl (lv_at hl 2 rfl) ?_
    refine lv_iconst (v := 1) hx hb dX0_read_5 (by decide) ?_
    refine lv_icmp_ne (tgt := 13) hx hb dX0_read_6 (by decide) (fun c33 => ?_) (fun c33 => ?_)
    · have hw := hw.2 c33
      refine lv_iconst (v := 0) hx hb dX0_read_13 (by decide) ?_
      refine lv_istore_n (lv' := [(3, .int 0), (0, .ref h0), (1, .int v1), (2, .int v2)]) hx hb dX0_read_14 rfl hl (by decide) rfl (fun ls hl => ?_)
      refine lv_iload_n hx hb dX0_read_15 rfl (lv_at hl 0 rfl) ?_
      refine lv_if_eq (tgt := 51) hx hb dX0_read_16 (by decide) (fun c34 => ?_) (fun c34 => ?_)
      ·
        refine lv_iload_n hx hb dX0_read_51 rfl (lv_at hl 3 rfl) ?_
        refine lv_iconst (v := 2) hx hb dX0_read_52 (by decide) ?_
        refine lv_icmp_eq (tgt := 61) hx hb dX0_read_53 (by decide) (fun c35 => ?_) (fun c35 => ?_)
        · have hw := hw.1 c35
          refine lv_iconst (v := 1) hx hb dX0_read_61 (by decide) ?_
          refine lv_goto (tgt := 66) hx hb dX0_read_62 (by decide) ?_
          refine lv_istore (lv' := [(4, .int 1), (3, .int 0), (0, .ref h0), (1, .int v1), (2, .int v2)]) hx hb dX0_read_66 hl (by decide) rfl (fun ls hl => ?_)
          refine lv_iload hx hb dX0_read_68 (lv_at hl 0 rfl) ?_
          refine lv_if_eq (tgt := 119) hx hb dX0_read_70 (by decide) (fun c36 => ?_) (fun c36 => ?_)
          · exact absurd c36 (by decide)
          ·
            refine lv_iload_n hx hb dX0_read_73 rfl (lv_at hl 3 rfl) ?_
            refine lv_bipush (v := 100) hx hb dX0_read_74 (by decide) ?_
            refine lv_icmp_lt (tgt := 119) hx hb dX0_read_76 (by decide) (fun c37 => ?_) (fun c37 => ?_)
            · have hw := hw.1 c37
              exact x0_throw (k := 3) (names := ["java/lang/RuntimeException", "java/lang/Exception"]) (text := "nothing such to read") hx hb hst hown (by decide +kernel) (by decide +kernel) (hts (.classLink RX0 143 "java/lang/IndexOutOfBoundsException") (by decide +kernel)) (hts (.initialized "java/lang/IndexOutOfBoundsException") (by decide +kernel)) (by decide +kernel) hT (fun w h => hts w (by unfold wsX0_read; exact List.mem_cons_of_mem _ (List.mem_append_right _ h))) (by decide +kernel) (by decide +kernel) (hl.1.trans hml.symm) dX0_read_119 dX0_read_122 dX0_read_123 dX0_read_125 dX0_read_128 hout (Nat.le_of_ble_eq_true rfl) (Nat.le_of_ble_eq_true rfl) (Nat.le_of_ble_eq_true rfl) (Nat.le_of_ble_eq_true rfl) hlocks hP hK hD rfl hw
            · have hw := hw.2 c37
              refine lv_iload_n hx hb dX0_read_79 rfl (lv_at hl 3 rfl) ?_
              refine lv_bipush (v := 100) hx hb dX0_read_80 (by decide) ?_
              refine lv_isub hx hb dX0_read_82 ?_
              refine lv_aload_n hx hb dX0_read_83 rfl (lv_at hl 2 rfl) ?_
              refine va_get (D := D) (ci := 0) (v := .int (xNO u)) (C := RX0) (T := TX0) (N := 9) hx hb hts hin hown hK hP 0 rfl rfl 5 (by decide) (hts (.fieldLink RX0 26 "TideDepths" "observations" "I") (by decide +kernel)) (fun _ h9 => h9) rfl dX0_read_84 ?_
              refine lv_icmp_ge (tgt := 119) hx hb dX0_read_87 (by decide) (fun c38 => ?_) (fun c38 => ?_)
              · have hw := hw.1 c38
                exact x0_throw (k := 3) (names := ["java/lang/RuntimeException", "java/lang/Exception"]) (text := "nothing such to read") hx hb hst hown (by decide +kernel) (by decide +kernel) (hts (.classLink RX0 143 "java/lang/IndexOutOfBoundsException") (by decide +kernel)) (hts (.initialized "java/lang/IndexOutOfBoundsException") (by decide +kernel)) (by decide +kernel) hT (fun w h => hts w (by unfold wsX0_read; exact List.mem_cons_of_mem _ (List.mem_append_right _ h))) (by decide +kernel) (by decide +kernel) (hl.1.trans hml.symm) dX0_read_119 dX0_read_122 dX0_read_123 dX0_read_125 dX0_read_128 hout (Nat.le_of_ble_eq_true rfl) (Nat.le_of_ble_eq_true rfl) (Nat.le_of_ble_eq_true rfl) (Nat.le_of_ble_eq_true rfl) hlocks hP hK hD rfl hw
              · have hw := hw.2 c38
                refine lv_iload_n hx hb dX0_read_90 rfl (lv_at hl 3 rfl) ?_
                refine lv_bipush (v := 100) hx hb dX0_read_91 (by decide) ?_
                refine lv_isub hx hb dX0_read_93 ?_
                refine lv_istore (lv' := [(5, .int (v1 - 100)), (4, .int 1), (3, .int 0), (0, .ref h0), (1, .int v1), (2, .int v2)]) hx hb dX0_read_94 hl (by decide) rfl (fun ls hl => ?_)
                refine lv_iload_n hx hb dX0_read_96 rfl (lv_at hl 5 rfl) ?_
                refine lv_iconst (v := 2) hx hb dX0_read_97 (by decide) ?_
                refine lv_icmp_ne (tgt := 111) hx hb dX0_read_98 (by decide) (fun c39 => ?_) (fun c39 => ?_)
                · exact absurd c35 c39
                ·
                  refine lv_aload_n hx hb dX0_read_101 rfl (lv_at hl 3 rfl) ?_
                  refine va_get (D := D) (ci := 0) (v := .ref a3) (C := RX0) (T := TX0) (N := 9) hx hb hts hin hown hK hP 0 rfl rfl 3 (by decide) (hts (.fieldLink RX0 20 "TideDepths" "observedTimes" "[J") (by decide +kernel)) (fun _ h9 => h9) rfl dX0_read_102 ?_
                  refine lv_iload hx hb dX0_read_105 (lv_at hl 0 rfl) ?_
                  obtain ⟨h40, hw⟩ := hw
                  refine va_lald hx hb hK hP 3 0 rfl rfl h40 dX0_read_107 ?_
                  refine lv_goto (tgt := 118) hx hb dX0_read_108 (by decide) ?_
                  refine W.widen (k := 1) (n := 6) (Nat.le_of_ble_eq_true rfl) (Nat.le_of_ble_eq_true rfl) ?_
                  exact vx_ret (W.lret (v := ((xOT u) ((v1 - 100)).toNatClampNeg)) hx hb hr (fun t ht hWm => ⟨⟨((xOT u) ((v1 - 100)).toNatClampNeg), u, rfl, hw, by rw [ht]; exact hP, va_K.moved hWm.alike hK, hD⟩, hS.F ht⟩) hS.2.2 dX0_read_118)
        · have hw := hw.2 c35
          refine lv_iload_n hx hb dX0_read_56 rfl (lv_at hl 3 rfl) ?_
          refine lv_iconst (v := 3) hx hb dX0_read_57 (by decide) ?_
          refine lv_icmp_ne (tgt := 65) hx hb dX0_read_58 (by decide) (fun c41 => ?_) (fun c41 => ?_)
          · have hw := hw.2 c41
            refine lv_iconst (v := 0) hx hb dX0_read_65 (by decide) ?_
            refine lv_istore (lv' := [(4, .int 0), (3, .int 0), (0, .ref h0), (1, .int v1), (2, .int v2)]) hx hb dX0_read_66 hl (by decide) rfl (fun ls hl => ?_)
            refine lv_iload hx hb dX0_read_68 (lv_at hl 0 rfl) ?_
            refine lv_if_eq (tgt := 119) hx hb dX0_read_70 (by decide) (fun c42 => ?_) (fun c42 => ?_)
            ·
              exact x0_throw (k := 3) (names := ["java/lang/RuntimeException", "java/lang/Exception"]) (text := "nothing such to read") hx hb hst hown (by decide +kernel) (by decide +kernel) (hts (.classLink RX0 143 "java/lang/IndexOutOfBoundsException") (by decide +kernel)) (hts (.initialized "java/lang/IndexOutOfBoundsException") (by decide +kernel)) (by decide +kernel) hT (fun w h => hts w (by unfold wsX0_read; exact List.mem_cons_of_mem _ (List.mem_append_right _ h))) (by decide +kernel) (by decide +kernel) (hl.1.trans hml.symm) dX0_read_119 dX0_read_122 dX0_read_123 dX0_read_125 dX0_read_128 hout (Nat.le_of_ble_eq_true rfl) (Nat.le_of_ble_eq_true rfl) (Nat.le_of_ble_eq_true rfl) (Nat.le_of_ble_eq_true rfl) hlocks hP hK hD rfl hw
            · exact absurd (by decide) c42
          · have hw := hw.1 c41
            refine lv_iconst (v := 1) hx hb dX0_read_61 (by decide) ?_
            refine lv_goto (tgt := 66) hx hb dX0_read_62 (by decide) ?_
            refine lv_istore (lv' := [(4, .int 1), (3, .int 0), (0, .ref h0), (1, .int v1), (2, .int v2)]) hx hb dX0_read_66 hl (by decide) rfl (fun ls hl => ?_)
            refine lv_iload hx hb dX0_read_68 (lv_at hl 0 rfl) ?_
            refine lv_if_eq (tgt := 119) hx hb dX0_read_70 (by decide) (fun c43 => ?_) (fun c43 => ?_)
            · exact absurd c43 (by decide)
            ·
              refine lv_iload_n hx hb dX0_read_73 rfl (lv_at hl 3 rfl) ?_
              refine lv_bipush (v := 100) hx hb dX0_read_74 (by decide) ?_
              refine lv_icmp_lt (tgt := 119) hx hb dX0_read_76 (by decide) (fun c44 => ?_) (fun c44 => ?_)
              · have hw := hw.1 c44
                exact x0_throw (k := 3) (names := ["java/lang/RuntimeException", "java/lang/Exception"]) (text := "nothing such to read") hx hb hst hown (by decide +kernel) (by decide +kernel) (hts (.classLink RX0 143 "java/lang/IndexOutOfBoundsException") (by decide +kernel)) (hts (.initialized "java/lang/IndexOutOfBoundsException") (by decide +kernel)) (by decide +kernel) hT (fun w h => hts w (by unfold wsX0_read; exact List.mem_cons_of_mem _ (List.mem_append_right _ h))) (by decide +kernel) (by decide +kernel) (hl.1.trans hml.symm) dX0_read_119 dX0_read_122 dX0_read_123 dX0_read_125 dX0_read_128 hout (Nat.le_of_ble_eq_true rfl) (Nat.le_of_ble_eq_true rfl) (Nat.le_of_ble_eq_true rfl) (Nat.le_of_ble_eq_true rfl) hlocks hP hK hD rfl hw
              · have hw := hw.2 c44
                refine lv_iload_n hx hb dX0_read_79 rfl (lv_at hl 3 rfl) ?_
                refine lv_bipush (v := 100) hx hb dX0_read_80 (by decide) ?_
                refine lv_isub hx hb dX0_read_82 ?_
                refine lv_aload_n hx hb dX0_read_83 rfl (lv_at hl 2 rfl) ?_
                refine va_get (D := D) (ci := 0) (v := .int (xNO u)) (C := RX0) (T := TX0) (N := 9) hx hb hts hin hown hK hP 0 rfl rfl 5 (by decide) (hts (.fieldLink RX0 26 "TideDepths" "observations" "I") (by decide +kernel)) (fun _ h9 => h9) rfl dX0_read_84 ?_
                refine lv_icmp_ge (tgt := 119) hx hb dX0_read_87 (by decide) (fun c45 => ?_) (fun c45 => ?_)
                · have hw := hw.1 c45
                  exact x0_throw (k := 3) (names := ["java/lang/RuntimeException", "java/lang/Exception"]) (text := "nothing such to read") hx hb hst hown (by decide +kernel) (by decide +kernel) (hts (.classLink RX0 143 "java/lang/IndexOutOfBoundsException") (by decide +kernel)) (hts (.initialized "java/lang/IndexOutOfBoundsException") (by decide +kernel)) (by decide +kernel) hT (fun w h => hts w (by unfold wsX0_read; exact List.mem_cons_of_mem _ (List.mem_append_right _ h))) (by decide +kernel) (by decide +kernel) (hl.1.trans hml.symm) dX0_read_119 dX0_read_122 dX0_read_123 dX0_read_125 dX0_read_128 hout (Nat.le_of_ble_eq_true rfl) (Nat.le_of_ble_eq_true rfl) (Nat.le_of_ble_eq_true rfl) (Nat.le_of_ble_eq_true rfl) hlocks hP hK hD rfl hw
                · have hw := hw.2 c45
                  refine lv_iload_n hx hb dX0_read_90 rfl (lv_at hl 3 rfl) ?_
                  refine lv_bipush (v := 100) hx hb dX0_read_91 (by decide) ?_
                  refine lv_isub hx hb dX0_read_93 ?_
                  refine lv_istore (lv' := [(5, .int (v1 - 100)), (4, .int 1), (3, .int 0), (0, .ref h0), (1, .int v1), (2, .int v2)]) hx hb dX0_read_94 hl (by decide) rfl (fun ls hl => ?_)
                  refine lv_iload_n hx hb dX0_read_96 rfl (lv_at hl 5 rfl) ?_
                  refine lv_iconst (v := 2) hx hb dX0_read_97 (by decide) ?_
                  refine lv_icmp_ne (tgt := 111) hx hb dX0_read_98 (by decide) (fun c46 => ?_) (fun c46 => ?_)
                  ·
                    refine lv_aload_n hx hb dX0_read_111 rfl (lv_at hl 3 rfl) ?_
                    refine va_get (D := D) (ci := 0) (v := .ref a4) (C := RX0) (T := TX0) (N := 9) hx hb hts hin hown hK hP 0 rfl rfl 4 (by decide) (hts (.fieldLink RX0 23 "TideDepths" "differences" "[J") (by decide +kernel)) (fun _ h9 => h9) rfl dX0_read_112 ?_
                    refine lv_iload hx hb dX0_read_115 (lv_at hl 0 rfl) ?_
                    obtain ⟨h47, hw⟩ := hw
                    refine va_lald hx hb hK hP 4 0 rfl rfl h47 dX0_read_117 ?_
                    refine W.widen (k := 1) (n := 6) (Nat.le_of_ble_eq_true rfl) (Nat.le_of_ble_eq_true rfl) ?_
                    exact vx_ret (W.lret (v := ((xOD u) ((v1 - 100)).toNatClampNeg)) hx hb hr (fun t ht hWm => ⟨⟨((xOD u) ((v1 - 100)).toNatClampNeg), u, rfl, hw, by rw [ht]; exact hP, va_K.moved hWm.alike hK, hD⟩, hS.F ht⟩) hS.2.2 dX0_read_118)
                  · exact absurd c46 c35
      · exact absurd (by decide) c34
    · have hw := hw.1 c33
      refine lv_iconst (v := 1) hx hb dX0_read_9 (by decide) ?_
      refine lv_goto (tgt := 14) hx hb dX0_read_10 (by decide) ?_
      refine lv_istore_n (lv' := [(3, .int 1), (0, .ref h0), (1, .int v1), (2, .int v2)]) hx hb dX0_read_14 rfl hl (by decide) rfl (fun ls hl => ?_)
      refine lv_iload_n hx hb dX0_read_15 rfl (lv_at hl 0 rfl) ?_
      refine lv_if_eq (tgt := 51) hx hb dX0_read_16 (by decide) (fun c48 => ?_) (fun c48 => ?_)
      · exact absurd c48 (by decide)
      ·
        refine lv_iload_n hx hb dX0_read_19 rfl (lv_at hl 2 rfl) ?_
        refine lv_if_lt (tgt := 51) hx hb dX0_read_20 (by decide) (fun c49 => ?_) (fun c49 => ?_)
        · have hw := hw.1 c49
          refine lv_iload_n hx hb dX0_read_51 rfl (lv_at hl 3 rfl) ?_
          refine lv_iconst (v := 2) hx hb dX0_read_52 (by decide) ?_
          refine lv_icmp_eq (tgt := 61) hx hb dX0_read_53 (by decide) (fun c50 => ?_) (fun c50 => ?_)
          · have hw := hw.1 c50
            refine lv_iconst (v := 1) hx hb dX0_read_61 (by decide) ?_
            refine lv_goto (tgt := 66) hx hb dX0_read_62 (by decide) ?_
            refine lv_istore (lv' := [(4, .int 1), (3, .int 1), (0, .ref h0), (1, .int v1), (2, .int v2)]) hx hb dX0_read_66 hl (by decide) rfl (fun ls hl => ?_)
            refine lv_iload hx hb dX0_read_68 (lv_at hl 0 rfl) ?_
            refine lv_if_eq (tgt := 119) hx hb dX0_read_70 (by decide) (fun c51 => ?_) (fun c51 => ?_)
            · exact absurd c51 (by decide)
            ·
              refine lv_iload_n hx hb dX0_read_73 rfl (lv_at hl 3 rfl) ?_
              refine lv_bipush (v := 100) hx hb dX0_read_74 (by decide) ?_
              refine lv_icmp_lt (tgt := 119) hx hb dX0_read_76 (by decide) (fun c52 => ?_) (fun c52 => ?_)
              · have hw := hw.1 c52
                exact x0_throw (k := 3) (names := ["java/lang/RuntimeException", "java/lang/Exception"]) (text := "nothing such to read") hx hb hst hown (by decide +kernel) (by decide +kernel) (hts (.classLink RX0 143 "java/lang/IndexOutOfBoundsException") (by decide +kernel)) (hts (.initialized "java/lang/IndexOutOfBoundsException") (by decide +kernel)) (by decide +kernel) hT (fun w h => hts w (by unfold wsX0_read; exact List.mem_cons_of_mem _ (List.mem_append_right _ h))) (by decide +kernel) (by decide +kernel) (hl.1.trans hml.symm) dX0_read_119 dX0_read_122 dX0_read_123 dX0_read_125 dX0_read_128 hout (Nat.le_of_ble_eq_true rfl) (Nat.le_of_ble_eq_true rfl) (Nat.le_of_ble_eq_true rfl) (Nat.le_of_ble_eq_true rfl) hlocks hP hK hD rfl hw
              · have hw := hw.2 c52
                refine lv_iload_n hx hb dX0_read_79 rfl (lv_at hl 3 rfl) ?_
                refine lv_bipush (v := 100) hx hb dX0_read_80 (by decide) ?_
                refine lv_isub hx hb dX0_read_82 ?_
                refine lv_aload_n hx hb dX0_read_83 rfl (lv_at hl 2 rfl) ?_
                refine va_get (D := D) (ci := 0) (v := .int (xNO u)) (C := RX0) (T := TX0) (N := 9) hx hb hts hin hown hK hP 0 rfl rfl 5 (by decide) (hts (.fieldLink RX0 26 "TideDepths" "observations" "I") (by decide +kernel)) (fun _ h9 => h9) rfl dX0_read_84 ?_
                refine lv_icmp_ge (tgt := 119) hx hb dX0_read_87 (by decide) (fun c53 => ?_) (fun c53 => ?_)
                · have hw := hw.1 c53
                  exact x0_throw (k := 3) (names := ["java/lang/RuntimeException", "java/lang/Exception"]) (text := "nothing such to read") hx hb hst hown (by decide +kernel) (by decide +kernel) (hts (.classLink RX0 143 "java/lang/IndexOutOfBoundsException") (by decide +kernel)) (hts (.initialized "java/lang/IndexOutOfBoundsException") (by decide +kernel)) (by decide +kernel) hT (fun w h => hts w (by unfold wsX0_read; exact List.mem_cons_of_mem _ (List.mem_append_right _ h))) (by decide +kernel) (by decide +kernel) (hl.1.trans hml.symm) dX0_read_119 dX0_read_122 dX0_read_123 dX0_read_125 dX0_read_128 hout (Nat.le_of_ble_eq_true rfl) (Nat.le_of_ble_eq_true rfl) (Nat.le_of_ble_eq_true rfl) (Nat.le_of_ble_eq_true rfl) hlocks hP hK hD rfl hw
                · have hw := hw.2 c53
                  refine lv_iload_n hx hb dX0_read_90 rfl (lv_at hl 3 rfl) ?_
                  refine lv_bipush (v := 100) hx hb dX0_read_91 (by decide) ?_
                  refine lv_isub hx hb dX0_read_93 ?_
                  refine lv_istore (lv' := [(5, .int (v1 - 100)), (4, .int 1), (3, .int 1), (0, .ref h0), (1, .int v1), (2, .int v2)]) hx hb dX0_read_94 hl (by decide) rfl (fun ls hl => ?_)
                  refine lv_iload_n hx hb dX0_read_96 rfl (lv_at hl 5 rfl) ?_
                  refine lv_iconst (v := 2) hx hb dX0_read_97 (by decide) ?_
                  refine lv_icmp_ne (tgt := 111) hx hb dX0_read_98 (by decide) (fun c54 => ?_) (fun c54 => ?_)
                  · exact absurd c50 c54
                  ·
                    refine lv_aload_n hx hb dX0_read_101 rfl (lv_at hl 3 rfl) ?_
                    refine va_get (D := D) (ci := 0) (v := .ref a3) (C := RX0) (T := TX0) (N := 9) hx hb hts hin hown hK hP 0 rfl rfl 3 (by decide) (hts (.fieldLink RX0 20 "TideDepths" "observedTimes" "[J") (by decide +kernel)) (fun _ h9 => h9) rfl dX0_read_102 ?_
                    refine lv_iload hx hb dX0_read_105 (lv_at hl 0 rfl) ?_
                    obtain ⟨h55, hw⟩ := hw
                    refine va_lald hx hb hK hP 3 0 rfl rfl h55 dX0_read_107 ?_
                    refine lv_goto (tgt := 118) hx hb dX0_read_108 (by decide) ?_
                    refine W.widen (k := 1) (n := 6) (Nat.le_of_ble_eq_true rfl) (Nat.le_of_ble_eq_true rfl) ?_
                    exact vx_ret (W.lret (v := ((xOT u) ((v1 - 100)).toNatClampNeg)) hx hb hr (fun t ht hWm => ⟨⟨((xOT u) ((v1 - 100)).toNatClampNeg), u, rfl, hw, by rw [ht]; exact hP, va_K.moved hWm.alike hK, hD⟩, hS.F ht⟩) hS.2.2 dX0_read_118)
          · have hw := hw.2 c50
            refine lv_iload_n hx hb dX0_read_56 rfl (lv_at hl 3 rfl) ?_
            refine lv_iconst (v := 3) hx hb dX0_read_57 (by decide) ?_
            refine lv_icmp_ne (tgt := 65) hx hb dX0_read_58 (by decide) (fun c56 => ?_) (fun c56 => ?_)
            · have hw := hw.2 c56
              refine lv_iconst (v := 0) hx hb dX0_read_65 (by decide) ?_
              refine lv_istore (lv' := [(4, .int 0), (3, .int 1), (0, .ref h0), (1, .int v1), (2, .int v2)]) hx hb dX0_read_66 hl (by decide) rfl (fun ls hl => ?_)
              refine lv_iload hx hb dX0_read_68 (lv_at hl 0 rfl) ?_
              refine lv_if_eq (tgt := 119) hx hb dX0_read_70 (by decide) (fun c57 => ?_) (fun c57 => ?_)
              ·
                exact x0_throw (k := 3) (names := ["java/lang/RuntimeException", "java/lang/Exception"]) (text := "nothing such to read") hx hb hst hown (by decide +kernel) (by decide +kernel) (hts (.classLink RX0 143 "java/lang/IndexOutOfBoundsException") (by decide +kernel)) (hts (.initialized "java/lang/IndexOutOfBoundsException") (by decide +kernel)) (by decide +kernel) hT (fun w h => hts w (by unfold wsX0_read; exact List.mem_cons_of_mem _ (List.mem_append_right _ h))) (by decide +kernel) (by decide +kernel) (hl.1.trans hml.symm) dX0_read_119 dX0_read_122 dX0_read_123 dX0_read_125 dX0_read_128 hout (Nat.le_of_ble_eq_true rfl) (Nat.le_of_ble_eq_true rfl) (Nat.le_of_ble_eq_true rfl) (Nat.le_of_ble_eq_true rfl) hlocks hP hK hD rfl hw
              · exact absurd (by decide) c57
            · have hw := hw.1 c56
              refine lv_iconst (v := 1) hx hb dX0_read_61 (by decide) ?_
              refine lv_goto (tgt := 66) hx hb dX0_read_62 (by decide) ?_
              refine lv_istore (lv' := [(4, .int 1), (3, .int 1), (0, .ref h0), (1, .int v1), (2, .int v2)]) hx hb dX0_read_66 hl (by decide) rfl (fun ls hl => ?_)
              refine lv_iload hx hb dX0_read_68 (lv_at hl 0 rfl) ?_
              refine lv_if_eq (tgt := 119) hx hb dX0_read_70 (by decide) (fun c58 => ?_) (fun c58 => ?_)
              · exact absurd c58 (by decide)
              ·
                refine lv_iload_n hx hb dX0_read_73 rfl (lv_at hl 3 rfl) ?_
                refine lv_bipush (v := 100) hx hb dX0_read_74 (by decide) ?_
                refine lv_icmp_lt (tgt := 119) hx hb dX0_read_76 (by decide) (fun c59 => ?_) (fun c59 => ?_)
                · have hw := hw.1 c59
                  exact x0_throw (k := 3) (names := ["java/lang/RuntimeException", "java/lang/Exception"]) (text := "nothing such to read") hx hb hst hown (by decide +kernel) (by decide +kernel) (hts (.classLink RX0 143 "java/lang/IndexOutOfBoundsException") (by decide +kernel)) (hts (.initialized "java/lang/IndexOutOfBoundsException") (by decide +kernel)) (by decide +kernel) hT (fun w h => hts w (by unfold wsX0_read; exact List.mem_cons_of_mem _ (List.mem_append_right _ h))) (by decide +kernel) (by decide +kernel) (hl.1.trans hml.symm) dX0_read_119 dX0_read_122 dX0_read_123 dX0_read_125 dX0_read_128 hout (Nat.le_of_ble_eq_true rfl) (Nat.le_of_ble_eq_true rfl) (Nat.le_of_ble_eq_true rfl) (Nat.le_of_ble_eq_true rfl) hlocks hP hK hD rfl hw
                · have hw := hw.2 c59
                  refine lv_iload_n hx hb dX0_read_79 rfl (lv_at hl 3 rfl) ?_
                  refine lv_bipush (v := 100) hx hb dX0_read_80 (by decide) ?_
                  refine lv_isub hx hb dX0_read_82 ?_
                  refine lv_aload_n hx hb dX0_read_83 rfl (lv_at hl 2 rfl) ?_
                  refine va_get (D := D) (ci := 0) (v := .int (xNO u)) (C := RX0) (T := TX0) (N := 9) hx hb hts hin hown hK hP 0 rfl rfl 5 (by decide) (hts (.fieldLink RX0 26 "TideDepths" "observations" "I") (by decide +kernel)) (fun _ h9 => h9) rfl dX0_read_84 ?_
                  refine lv_icmp_ge (tgt := 119) hx hb dX0_read_87 (by decide) (fun c60 => ?_) (fun c60 => ?_)
                  · have hw := hw.1 c60
                    exact x0_throw (k := 3) (names := ["java/lang/RuntimeException", "java/lang/Exception"]) (text := "nothing such to read") hx hb hst hown (by decide +kernel) (by decide +kernel) (hts (.classLink RX0 143 "java/lang/IndexOutOfBoundsException") (by decide +kernel)) (hts (.initialized "java/lang/IndexOutOfBoundsException") (by decide +kernel)) (by decide +kernel) hT (fun w h => hts w (by unfold wsX0_read; exact List.mem_cons_of_mem _ (List.mem_append_right _ h))) (by decide +kernel) (by decide +kernel) (hl.1.trans hml.symm) dX0_read_119 dX0_read_122 dX0_read_123 dX0_read_125 dX0_read_128 hout (Nat.le_of_ble_eq_true rfl) (Nat.le_of_ble_eq_true rfl) (Nat.le_of_ble_eq_true rfl) (Nat.le_of_ble_eq_true rfl) hlocks hP hK hD rfl hw
                  · have hw := hw.2 c60
                    refine lv_iload_n hx hb dX0_read_90 rfl (lv_at hl 3 rfl) ?_
                    refine lv_bipush (v := 100) hx hb dX0_read_91 (by decide) ?_
                    refine lv_isub hx hb dX0_read_93 ?_
                    refine lv_istore (lv' := [(5, .int (v1 - 100)), (4, .int 1), (3, .int 1), (0, .ref h0), (1, .int v1), (2, .int v2)]) hx hb dX0_read_94 hl (by decide) rfl (fun ls hl => ?_)
                    refine lv_iload_n hx hb dX0_read_96 rfl (lv_at hl 5 rfl) ?_
                    refine lv_iconst (v := 2) hx hb dX0_read_97 (by decide) ?_
                    refine lv_icmp_ne (tgt := 111) hx hb dX0_read_98 (by decide) (fun c61 => ?_) (fun c61 => ?_)
                    ·
                      refine lv_aload_n hx hb dX0_read_111 rfl (lv_at hl 3 rfl) ?_
                      refine va_get (D := D) (ci := 0) (v := .ref a4) (C := RX0) (T := TX0) (N := 9) hx hb hts hin hown hK hP 0 rfl rfl 4 (by decide) (hts (.fieldLink RX0 23 "TideDepths" "differences" "[J") (by decide +kernel)) (fun _ h9 => h9) rfl dX0_read_112 ?_
                      refine lv_iload hx hb dX0_read_115 (lv_at hl 0 rfl) ?_
                      obtain ⟨h62, hw⟩ := hw
                      refine va_lald hx hb hK hP 4 0 rfl rfl h62 dX0_read_117 ?_
                      refine W.widen (k := 1) (n := 6) (Nat.le_of_ble_eq_true rfl) (Nat.le_of_ble_eq_true rfl) ?_
                      exact vx_ret (W.lret (v := ((xOD u) ((v1 - 100)).toNatClampNeg)) hx hb hr (fun t ht hWm => ⟨⟨((xOD u) ((v1 - 100)).toNatClampNeg), u, rfl, hw, by rw [ht]; exact hP, va_K.moved hWm.alike hK, hD⟩, hS.F ht⟩) hS.2.2 dX0_read_118)
                    · exact absurd c61 c50
        · have hw := hw.2 c49
          refine lv_iload_n hx hb dX0_read_23 rfl (lv_at hl 2 rfl) ?_
          refine lv_aload_n hx hb dX0_read_24 rfl (lv_at hl 1 rfl) ?_
          refine va_get (D := D) (ci := 0) (v := .int (xNT u)) (C := RX0) (T := TX0) (N := 9) hx hb hts hin hown hK hP 0 rfl rfl 2 (by decide) (hts (.fieldLink RX0 16 "TideDepths" "turns" "I") (by decide +kernel)) (fun _ h9 => h9) rfl dX0_read_25 ?_
          refine lv_icmp_ge (tgt := 51) hx hb dX0_read_28 (by decide) (fun c63 => ?_) (fun c63 => ?_)
          · have hw := hw.1 c63
            refine lv_iload_n hx hb dX0_read_51 rfl (lv_at hl 3 rfl) ?_
            refine lv_iconst (v := 2) hx hb dX0_read_52 (by decide) ?_
            refine lv_icmp_eq (tgt := 61) hx hb dX0_read_53 (by decide) (fun c64 => ?_) (fun c64 => ?_)
            · have hw := hw.1 c64
              refine lv_iconst (v := 1) hx hb dX0_read_61 (by decide) ?_
              refine lv_goto (tgt := 66) hx hb dX0_read_62 (by decide) ?_
              refine lv_istore (lv' := [(4, .int 1), (3, .int 1), (0, .ref h0), (1, .int v1), (2, .int v2)]) hx hb dX0_read_66 hl (by decide) rfl (fun ls hl => ?_)
              refine lv_iload hx hb dX0_read_68 (lv_at hl 0 rfl) ?_
              refine lv_if_eq (tgt := 119) hx hb dX0_read_70 (by decide) (fun c65 => ?_) (fun c65 => ?_)
              · exact absurd c65 (by decide)
              ·
                refine lv_iload_n hx hb dX0_read_73 rfl (lv_at hl 3 rfl) ?_
                refine lv_bipush (v := 100) hx hb dX0_read_74 (by decide) ?_
                refine lv_icmp_lt (tgt := 119) hx hb dX0_read_76 (by decide) (fun c66 => ?_) (fun c66 => ?_)
                · have hw := hw.1 c66
                  exact x0_throw (k := 3) (names := ["java/lang/RuntimeException", "java/lang/Exception"]) (text := "nothing such to read") hx hb hst hown (by decide +kernel) (by decide +kernel) (hts (.classLink RX0 143 "java/lang/IndexOutOfBoundsException") (by decide +kernel)) (hts (.initialized "java/lang/IndexOutOfBoundsException") (by decide +kernel)) (by decide +kernel) hT (fun w h => hts w (by unfold wsX0_read; exact List.mem_cons_of_mem _ (List.mem_append_right _ h))) (by decide +kernel) (by decide +kernel) (hl.1.trans hml.symm) dX0_read_119 dX0_read_122 dX0_read_123 dX0_read_125 dX0_read_128 hout (Nat.le_of_ble_eq_true rfl) (Nat.le_of_ble_eq_true rfl) (Nat.le_of_ble_eq_true rfl) (Nat.le_of_ble_eq_true rfl) hlocks hP hK hD rfl hw
                · have hw := hw.2 c66
                  refine lv_iload_n hx hb dX0_read_79 rfl (lv_at hl 3 rfl) ?_
                  refine lv_bipush (v := 100) hx hb dX0_read_80 (by decide) ?_
                  refine lv_isub hx hb dX0_read_82 ?_
                  refine lv_aload_n hx hb dX0_read_83 rfl (lv_at hl 2 rfl) ?_
                  refine va_get (D := D) (ci := 0) (v := .int (xNO u)) (C := RX0) (T := TX0) (N := 9) hx hb hts hin hown hK hP 0 rfl rfl 5 (by decide) (hts (.fieldLink RX0 26 "TideDepths" "observations" "I") (by decide +kernel)) (fun _ h9 => h9) rfl dX0_read_84 ?_
                  refine lv_icmp_ge (tgt := 119) hx hb dX0_read_87 (by decide) (fun c67 => ?_) (fun c67 => ?_)
                  · have hw := hw.1 c67
                    exact x0_throw (k := 3) (names := ["java/lang/RuntimeException", "java/lang/Exception"]) (text := "nothing such to read") hx hb hst hown (by decide +kernel) (by decide +kernel) (hts (.classLink RX0 143 "java/lang/IndexOutOfBoundsException") (by decide +kernel)) (hts (.initialized "java/lang/IndexOutOfBoundsException") (by decide +kernel)) (by decide +kernel) hT (fun w h => hts w (by unfold wsX0_read; exact List.mem_cons_of_mem _ (List.mem_append_right _ h))) (by decide +kernel) (by decide +kernel) (hl.1.trans hml.symm) dX0_read_119 dX0_read_122 dX0_read_123 dX0_read_125 dX0_read_128 hout (Nat.le_of_ble_eq_true rfl) (Nat.le_of_ble_eq_true rfl) (Nat.le_of_ble_eq_true rfl) (Nat.le_of_ble_eq_true rfl) hlocks hP hK hD rfl hw
                  · have hw := hw.2 c67
                    refine lv_iload_n hx hb dX0_read_90 rfl (lv_at hl 3 rfl) ?_
                    refine lv_bipush (v := 100) hx hb dX0_read_91 (by decide) ?_
                    refine lv_isub hx hb dX0_read_93 ?_
                    refine lv_istore (lv' := [(5, .int (v1 - 100)), (4, .int 1), (3, .int 1), (0, .ref h0), (1, .int v1), (2, .int v2)]) hx hb dX0_read_94 hl (by decide) rfl (fun ls hl => ?_)
                    refine lv_iload_n hx hb dX0_read_96 rfl (lv_at hl 5 rfl) ?_
                    refine lv_iconst (v := 2) hx hb dX0_read_97 (by decide) ?_
                    refine lv_icmp_ne (tgt := 111) hx hb dX0_read_98 (by decide) (fun c68 => ?_) (fun c68 => ?_)
                    · exact absurd c64 c68
                    ·
                      refine lv_aload_n hx hb dX0_read_101 rfl (lv_at hl 3 rfl) ?_
                      refine va_get (D := D) (ci := 0) (v := .ref a3) (C := RX0) (T := TX0) (N := 9) hx hb hts hin hown hK hP 0 rfl rfl 3 (by decide) (hts (.fieldLink RX0 20 "TideDepths" "observedTimes" "[J") (by decide +kernel)) (fun _ h9 => h9) rfl dX0_read_102 ?_
                      refine lv_iload hx hb dX0_read_105 (lv_at hl 0 rfl) ?_
                      obtain ⟨h69, hw⟩ := hw
                      refine va_lald hx hb hK hP 3 0 rfl rfl h69 dX0_read_107 ?_
                      refine lv_goto (tgt := 118) hx hb dX0_read_108 (by decide) ?_
                      refine W.widen (k := 1) (n := 6) (Nat.le_of_ble_eq_true rfl) (Nat.le_of_ble_eq_true rfl) ?_
                      exact vx_ret (W.lret (v := ((xOT u) ((v1 - 100)).toNatClampNeg)) hx hb hr (fun t ht hWm => ⟨⟨((xOT u) ((v1 - 100)).toNatClampNeg), u, rfl, hw, by rw [ht]; exact hP, va_K.moved hWm.alike hK, hD⟩, hS.F ht⟩) hS.2.2 dX0_read_118)
            · have hw := hw.2 c64
              refine lv_iload_n hx hb dX0_read_56 rfl (lv_at hl 3 rfl) ?_
              refine lv_iconst (v := 3) hx hb dX0_read_57 (by decide) ?_
              refine lv_icmp_ne (tgt := 65) hx hb dX0_read_58 (by decide) (fun c70 => ?_) (fun c70 => ?_)
              · have hw := hw.2 c70
                refine lv_iconst (v := 0) hx hb dX0_read_65 (by decide) ?_
                refine lv_istore (lv' := [(4, .int 0), (3, .int 1), (0, .ref h0), (1, .int v1), (2, .int v2)]) hx hb dX0_read_66 hl (by decide) rfl (fun ls hl => ?_)
                refine lv_iload hx hb dX0_read_68 (lv_at hl 0 rfl) ?_
                refine lv_if_eq (tgt := 119) hx hb dX0_read_70 (by decide) (fun c71 => ?_) (fun c71 => ?_)
                ·
                  exact x0_throw (k := 3) (names := ["java/lang/RuntimeException", "java/lang/Exception"]) (text := "nothing such to read") hx hb hst hown (by decide +kernel) (by decide +kernel) (hts (.classLink RX0 143 "java/lang/IndexOutOfBoundsException") (by decide +kernel)) (hts (.initialized "java/lang/IndexOutOfBoundsException") (by decide +kernel)) (by decide +kernel) hT (fun w h => hts w (by unfold wsX0_read; exact List.mem_cons_of_mem _ (List.mem_append_right _ h))) (by decide +kernel) (by decide +kernel) (hl.1.trans hml.symm) dX0_read_119 dX0_read_122 dX0_read_123 dX0_read_125 dX0_read_128 hout (Nat.le_of_ble_eq_true rfl) (Nat.le_of_ble_eq_true rfl) (Nat.le_of_ble_eq_true rfl) (Nat.le_of_ble_eq_true rfl) hlocks hP hK hD rfl hw
                · exact absurd (by decide) c71
              · have hw := hw.1 c70
                refine lv_iconst (v := 1) hx hb dX0_read_61 (by decide) ?_
                refine lv_goto (tgt := 66) hx hb dX0_read_62 (by decide) ?_
                refine lv_istore (lv' := [(4, .int 1), (3, .int 1), (0, .ref h0), (1, .int v1), (2, .int v2)]) hx hb dX0_read_66 hl (by decide) rfl (fun ls hl => ?_)
                refine lv_iload hx hb dX0_read_68 (lv_at hl 0 rfl) ?_
                refine lv_if_eq (tgt := 119) hx hb dX0_read_70 (by decide) (fun c72 => ?_) (fun c72 => ?_)
                · exact absurd c72 (by decide)
                ·
                  refine lv_iload_n hx hb dX0_read_73 rfl (lv_at hl 3 rfl) ?_
                  refine lv_bipush (v := 100) hx hb dX0_read_74 (by decide) ?_
                  refine lv_icmp_lt (tgt := 119) hx hb dX0_read_76 (by decide) (fun c73 => ?_) (fun c73 => ?_)
                  · have hw := hw.1 c73
                    exact x0_throw (k := 3) (names := ["java/lang/RuntimeException", "java/lang/Exception"]) (text := "nothing such to read") hx hb hst hown (by decide +kernel) (by decide +kernel) (hts (.classLink RX0 143 "java/lang/IndexOutOfBoundsException") (by decide +kernel)) (hts (.initialized "java/lang/IndexOutOfBoundsException") (by decide +kernel)) (by decide +kernel) hT (fun w h => hts w (by unfold wsX0_read; exact List.mem_cons_of_mem _ (List.mem_append_right _ h))) (by decide +kernel) (by decide +kernel) (hl.1.trans hml.symm) dX0_read_119 dX0_read_122 dX0_read_123 dX0_read_125 dX0_read_128 hout (Nat.le_of_ble_eq_true rfl) (Nat.le_of_ble_eq_true rfl) (Nat.le_of_ble_eq_true rfl) (Nat.le_of_ble_eq_true rfl) hlocks hP hK hD rfl hw
                  · have hw := hw.2 c73
                    refine lv_iload_n hx hb dX0_read_79 rfl (lv_at hl 3 rfl) ?_
                    refine lv_bipush (v := 100) hx hb dX0_read_80 (by decide) ?_
                    refine lv_isub hx hb dX0_read_82 ?_
                    refine lv_aload_n hx hb dX0_read_83 rfl (lv_at hl 2 rfl) ?_
                    refine va_get (D := D) (ci := 0) (v := .int (xNO u)) (C := RX0) (T := TX0) (N := 9) hx hb hts hin hown hK hP 0 rfl rfl 5 (by decide) (hts (.fieldLink RX0 26 "TideDepths" "observations" "I") (by decide +kernel)) (fun _ h9 => h9) rfl dX0_read_84 ?_
                    refine lv_icmp_ge (tgt := 119) hx hb dX0_read_87 (by decide) (fun c74 => ?_) (fun c74 => ?_)
                    · have hw := hw.1 c74
                      exact x0_throw (k := 3) (names := ["java/lang/RuntimeException", "java/lang/Exception"]) (text := "nothing such to read") hx hb hst hown (by decide +kernel) (by decide +kernel) (hts (.classLink RX0 143 "java/lang/IndexOutOfBoundsException") (by decide +kernel)) (hts (.initialized "java/lang/IndexOutOfBoundsException") (by decide +kernel)) (by decide +kernel) hT (fun w h => hts w (by unfold wsX0_read; exact List.mem_cons_of_mem _ (List.mem_append_right _ h))) (by decide +kernel) (by decide +kernel) (hl.1.trans hml.symm) dX0_read_119 dX0_read_122 dX0_read_123 dX0_read_125 dX0_read_128 hout (Nat.le_of_ble_eq_true rfl) (Nat.le_of_ble_eq_true rfl) (Nat.le_of_ble_eq_true rfl) (Nat.le_of_ble_eq_true rfl) hlocks hP hK hD rfl hw
                    · have hw := hw.2 c74
                      refine lv_iload_n hx hb dX0_read_90 rfl (lv_at hl 3 rfl) ?_
                      refine lv_bipush (v := 100) hx hb dX0_read_91 (by decide) ?_
                      refine lv_isub hx hb dX0_read_93 ?_
                      refine lv_istore (lv' := [(5, .int (v1 - 100)), (4, .int 1), (3, .int 1), (0, .ref h0), (1, .int v1), (2, .int v2)]) hx hb dX0_read_94 hl (by decide) rfl (fun ls hl => ?_)
                      refine lv_iload_n hx hb dX0_read_96 rfl (lv_at hl 5 rfl) ?_
                      refine lv_iconst (v := 2) hx hb dX0_read_97 (by decide) ?_
                      refine lv_icmp_ne (tgt := 111) hx hb dX0_read_98 (by decide) (fun c75 => ?_) (fun c75 => ?_)
                      ·
                        refine lv_aload_n hx hb dX0_read_111 rfl (lv_at hl 3 rfl) ?_
                        refine va_get (D := D) (ci := 0) (v := .ref a4) (C := RX0) (T := TX0) (N := 9) hx hb hts hin hown hK hP 0 rfl rfl 4 (by decide) (hts (.fieldLink RX0 23 "TideDepths" "differences" "[J") (by decide +kernel)) (fun _ h9 => h9) rfl dX0_read_112 ?_
                        refine lv_iload hx hb dX0_read_115 (lv_at hl 0 rfl) ?_
                        obtain ⟨h76, hw⟩ := hw
                        refine va_lald hx hb hK hP 4 0 rfl rfl h76 dX0_read_117 ?_
                        refine W.widen (k := 1) (n := 6) (Nat.le_of_ble_eq_true rfl) (Nat.le_of_ble_eq_true rfl) ?_
                        exact vx_ret (W.lret (v := ((xOD u) ((v1 - 100)).toNatClampNeg)) hx hb hr (fun t ht hWm => ⟨⟨((xOD u) ((v1 - 100)).toNatClampNeg), u, rfl, hw, by rw [ht]; exact hP, va_K.moved hWm.alike hK, hD⟩, hS.F ht⟩) hS.2.2 dX0_read_118)
                      · exact absurd c75 c64
          · have hw := hw.2 c63
            refine lv_iload_n hx hb dX0_read_31 rfl (lv_at hl 3 rfl) ?_
            refine lv_if_ne (tgt := 44) hx hb dX0_read_32 (by decide) (fun c77 => ?_) (fun c77 => ?_)
            ·
              refine lv_aload_n hx hb dX0_read_44 rfl (lv_at hl 1 rfl) ?_
              refine va_get (D := D) (ci := 0) (v := .ref a2) (C := RX0) (T := TX0) (N := 9) hx hb hts hin hown hK hP 0 rfl rfl 1 (by decide) (hts (.fieldLink RX0 13 "TideDepths" "turnHeights" "[J") (by decide +kernel)) (fun _ h9 => h9) rfl dX0_read_45 ?_
              refine lv_iload_n hx hb dX0_read_48 rfl (lv_at hl 2 rfl) ?_
              obtain ⟨h78, hw⟩ := hw
              refine va_lald hx hb hK hP 2 0 rfl rfl h78 dX0_read_49 ?_
              refine W.widen (k := 1) (n := 6) (Nat.le_of_ble_eq_true rfl) (Nat.le_of_ble_eq_true rfl) ?_
              exact vx_ret (W.lret (v := ((xTH u) (v1).toNatClampNeg)) hx hb hr (fun t ht hWm => ⟨⟨((xTH u) (v1).toNatClampNeg), u, rfl, hw, by rw [ht]; exact hP, va_K.moved hWm.alike hK, hD⟩, hS.F ht⟩) hS.2.2 dX0_read_50)
            · exact absurd c77 c1
