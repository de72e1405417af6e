def wX1_turn (post : Int32 → YS → Prop) (y : YS) (v1 : Int64) (v3 : Int64) : Prop := (wX1_in (fun r1 => ((r1 = 0 → (post 0 (1, (yNT y), (yNO y), (yNP y), (yT y), (yH y), (yO y), (yD y), (yW y), (yB y), (yC y), (yQ y)))) ∧ (¬ r1 = 0 → (wX1_isHeight (fun r5 => ((r5 = 0 → (post 0 (1, (yNT y), (yNO y), (yNP y), (yT y), (yH y), (yO y), (yD y), (yW y), (yB y), (yC y), (yQ y)))) ∧ (¬ r5 = 0 → (((yNT y) = 0 → (((yNT y) = 40 → (post 0 (2, (yNT y), (yNO y), (yNP y), (yT y), (yH y), (yO y), (yD y), (yW y), (yB y), (yC y), (yQ y)))) ∧ (¬ (yNT y) = 40 → (((yNT y) ≤ 0 → (vp_in (yNT y) 40 ∧ (vp_in (yNT y) 40 ∧ (post 1 (0, ((yNT y) + 1), (yNO y), (yNP y), (upd (yT y) ((yNT y)).toNatClampNeg (v1).toInt32), (upd (yH y) ((yNT y)).toNatClampNeg (v3).toInt32), (yO y), (yD y), (yW y), (yB y), (yC y), (yQ y)))))) ∧ (¬ (yNT y) ≤ 0 → (vp_in ((yNT y) - 1) 40 ∧ (((yNT y) ≤ 1 → (((yNT y) = 1 → ((v3 = (((yH y) (((yNT y) - 1)).toNatClampNeg)).toInt64 → (post 0 (0, (yNT y), (yNO y), (yNP y), (yT y), (yH y), (yO y), (yD y), (yW y), (yB y), (yC y), (yQ y)))) ∧ (¬ v3 = (((yH y) (((yNT y) - 1)).toNatClampNeg)).toInt64 → (vp_in (yNT y) 40 ∧ (vp_in (yNT y) 40 ∧ (post 1 (0, ((yNT y) + 1), (yNO y), (yNP y), (upd (yT y) ((yNT y)).toNatClampNeg (v1).toInt32), (upd (yH y) ((yNT y)).toNatClampNeg (v3).toInt32), (yO y), (yD y), (yW y), (yB y), (yC y), (yQ y)))))))) ∧ (¬ (yNT y) = 1 → ((v3 ≤ (((yH y) (((yNT y) - 1)).toNatClampNeg)).toInt64 → (post 0 (0, (yNT y), (yNO y), (yNP y), (yT y), (yH y), (yO y), (yD y), (yW y), (yB y), (yC y), (yQ y)))) ∧ (¬ v3 ≤ (((yH y) (((yNT y) - 1)).toNatClampNeg)).toInt64 → (vp_in (yNT y) 40 ∧ (vp_in (yNT y) 40 ∧ (post 1 (0, ((yNT y) + 1), (yNO y), (yNP y), (upd (yT y) ((yNT y)).toNatClampNeg (v1).toInt32), (upd (yH y) ((yNT y)).toNatClampNeg (v3).toInt32), (yO y), (yD y), (yW y), (yB y), (yC y), (yQ y)))))))))) ∧ (¬ (yNT y) ≤ 1 → (vp_in ((yNT y) - 2) 40 ∧ ((((yH y) (((yNT y) - 1)).toNatClampNeg) ≤ ((yH y) (((yNT y) - 2)).toNatClampNeg) → (((yNT y) = 1 → ((v3 = (((yH y) (((yNT y) - 1)).toNatClampNeg)).toInt64 → (post 0 (0, (yNT y), (yNO y), (yNP y), (yT y), (yH y), (yO y), (yD y), (yW y), (yB y), (yC y), (yQ y)))) ∧ (¬ v3 = (((yH y) (((yNT y) - 1)).toNatClampNeg)).toInt64 → (vp_in (yNT y) 40 ∧ (vp_in (yNT y) 40 ∧ (post 1 (0, ((yNT y) + 1), (yNO y), (yNP y), (upd (yT y) ((yNT y)).toNatClampNeg (v1).toInt32), (upd (yH y) ((yNT y)).toNatClampNeg (v3).toInt32), (yO y), (yD y), (yW y), (yB y), (yC y), (yQ y)))))))) ∧ (¬ (yNT y) = 1 → ((v3 ≤ (((yH y) (((yNT y) - 1)).toNatClampNeg)).toInt64 → (post 0 (0, (yNT y), (yNO y), (yNP y), (yT y), (yH y), (yO y), (yD y), (yW y), (yB y), (yC y), (yQ y)))) ∧ (¬ v3 ≤ (((yH y) (((yNT y) - 1)).toNatClampNeg)).toInt64 → (vp_in (yNT y) 40 ∧ (vp_in (yNT y) 40 ∧ (post 1 (0, ((yNT y) + 1), (yNO y), (yNP y), (upd (yT y) ((yNT y)).toNatClampNeg (v1).toInt32), (upd (yH y) ((yNT y)).toNatClampNeg (v3).toInt32), (yO y), (yD y), (yW y), (yB y), (yC y), (yQ y)))))))))) ∧ (¬ ((yH y) (((yNT y) - 1)).toNatClampNeg) ≤ ((yH y) (((yNT y) - 2)).toNatClampNeg) → (((yNT y) = 1 → ((v3 = (((yH y) (((yNT y) - 1)).toNatClampNeg)).toInt64 → (post 0 (0, (yNT y), (yNO y), (yNP y), (yT y), (yH y), (yO y), (yD y), (yW y), (yB y), (yC y), (yQ y)))) ∧ (¬ v3 = (((yH y) (((yNT y) - 1)).toNatClampNeg)).toInt64 → (vp_in (yNT y) 40 ∧ (vp_in (yNT y) 40 ∧ (post 1 (0, ((yNT y) + 1), (yNO y), (yNP y), (upd (yT y) ((yNT y)).toNatClampNeg (v1).toInt32), (upd (yH y) ((yNT y)).toNatClampNeg (v3).toInt32), (yO y), (yD y), (yW y), (yB y), (yC y), (yQ y)))))))) ∧ (¬ (yNT y) = 1 → (((((yH y) (((yNT y) - 1)).toNatClampNeg)).toInt64 ≤ v3 → (post 0 (0, (yNT y), (yNO y), (yNP y), (yT y), (yH y), (yO y), (yD y), (yW y), (yB y), (yC y), (yQ y)))) ∧ (¬ (((yH y) (((yNT y) - 1)).toNatClampNeg)).toInt64 ≤ v3 → (vp_in (yNT y) 40 ∧ (vp_in (yNT y) 40 ∧ (post 1 (0, ((yNT y) + 1), (yNO y), (yNP y), (upd (yT y) ((yNT y)).toNatClampNeg (v1).toInt32), (upd (yH y) ((yNT y)).toNatClampNeg (v3).toInt32), (yO y), (yD y), (yW y), (yB y), (yC y), (yQ y)))))))))))))))))))) ∧ (¬ (yNT y) = 0 → (((yNT y) ≤ 0 → ((v1 ≤ (((yT y) 0)).toInt64 → (post 0 (1, (yNT y), (yNO y), (yNP y), (yT y), (yH y), (yO y), (yD y), (yW y), (yB y), (yC y), (yQ y)))) ∧ (¬ v1 ≤ (((yT y) 0)).toInt64 → (((yNT y) = 40 → (post 0 (2, (yNT y), (yNO y), (yNP y), (yT y), (yH y), (yO y), (yD y), (yW y), (yB y), (yC y), (yQ y)))) ∧ (¬ (yNT y) = 40 → (vp_in (yNT y) 40 ∧ (vp_in (yNT y) 40 ∧ (post 1 (0, ((yNT y) + 1), (yNO y), (yNP y), (upd (yT y) ((yNT y)).toNatClampNeg (v1).toInt32), (upd (yH y) ((yNT y)).toNatClampNeg (v3).toInt32), (yO y), (yD y), (yW y), (yB y), (yC y), (yQ y)))))))))) ∧ (¬ (yNT y) ≤ 0 → (vp_in ((yNT y) - 1) 40 ∧ ((v1 ≤ (((yT y) (((yNT y) - 1)).toNatClampNeg)).toInt64 → (post 0 (1, (yNT y), (yNO y), (yNP y), (yT y), (yH y), (yO y), (yD y), (yW y), (yB y), (yC y), (yQ y)))) ∧ (¬ v1 ≤ (((yT y) (((yNT y) - 1)).toNatClampNeg)).toInt64 → (((yNT y) = 40 → (post 0 (2, (yNT y), (yNO y), (yNP y), (yT y), (yH y), (yO y), (yD y), (yW y), (yB y), (yC y), (yQ y)))) ∧ (¬ (yNT y) = 40 → (vp_in ((yNT y) - 1) 40 ∧ (((yNT y) ≤ 1 → (((yNT y) = 1 → ((v3 = (((yH y) (((yNT y) - 1)).toNatClampNeg)).toInt64 → (post 0 (0, (yNT y), (yNO y), (yNP y), (yT y), (yH y), (yO y), (yD y), (yW y), (yB y), (yC y), (yQ y)))) ∧ (¬ v3 = (((yH y) (((yNT y) - 1)).toNatClampNeg)).toInt64 → (vp_in (yNT y) 40 ∧ (vp_in (yNT y) 40 ∧ (post 1 (0, ((yNT y) + 1), (yNO y), (yNP y), (upd (yT y) ((yNT y)).toNatClampNeg (v1).toInt32), (upd (yH y) ((yNT y)).toNatClampNeg (v3).toInt32), (yO y), (yD y), (yW y), (yB y), (yC y), (yQ y)))))))) ∧ (¬ (yNT y) = 1 → ((v3 ≤ (((yH y) (((yNT y) - 1)).toNatClampNeg)).toInt64 → (post 0 (0, (yNT y), (yNO y), (yNP y), (yT y), (yH y), (yO y), (yD y), (yW y), (yB y), (yC y), (yQ y)))) ∧ (¬ v3 ≤ (((yH y) (((yNT y) - 1)).toNatClampNeg)).toInt64 → (vp_in (yNT y) 40 ∧ (vp_in (yNT y) 40 ∧ (post 1 (0, ((yNT y) + 1), (yNO y), (yNP y), (upd (yT y) ((yNT y)).toNatClampNeg (v1).toInt32), (upd (yH y) ((yNT y)).toNatClampNeg (v3).toInt32), (yO y), (yD y), (yW y), (yB y), (yC y), (yQ y)))))))))) ∧ (¬ (yNT y) ≤ 1 → (vp_in ((yNT y) - 2) 40 ∧ ((((yH y) (((yNT y) - 1)).toNatClampNeg) ≤ ((yH y) (((yNT y) - 2)).toNatClampNeg) → (((yNT y) = 1 → ((v3 = (((yH y) (((yNT y) - 1)).toNatClampNeg)).toInt64 → (post 0 (0, (yNT y), (yNO y), (yNP y), (yT y), (yH y), (yO y), (yD y), (yW y), (yB y), (yC y), (yQ y)))) ∧ (¬ v3 = (((yH y) (((yNT y) - 1)).toNatClampNeg)).toInt64 → (vp_in (yNT y) 40 ∧ (vp_in (yNT y) 40 ∧ (post 1 (0, ((yNT y) + 1), (yNO y), (yNP y), (upd (yT y) ((yNT y)).toNatClampNeg (v1).toInt32), (upd (yH y) ((yNT y)).toNatClampNeg (v3).toInt32), (yO y), (yD y), (yW y), (yB y), (yC y), (yQ y)))))))) ∧ (¬ (yNT y) = 1 → ((v3 ≤ (((yH y) (((yNT y) - 1)).toNatClampNeg)).toInt64 → (post 0 (0, (yNT y), (yNO y), (yNP y), (yT y), (yH y), (yO y), (yD y), (yW y), (yB y), (yC y), (yQ y)))) ∧ (¬ v3 ≤ (((yH y) (((yNT y) - 1)).toNatClampNeg)).toInt64 → (vp_in (yNT y) 40 ∧ (vp_in (yNT y) 40 ∧ (post 1 (0, ((yNT y) + 1), (yNO y), (yNP y), (upd (yT y) ((yNT y)).toNatClampNeg (v1).toInt32), (upd (yH y) ((yNT y)).toNatClampNeg (v3).toInt32), (yO y), (yD y), (yW y), (yB y), (yC y), (yQ y)))))))))) ∧ (¬ ((yH y) (((yNT y) - 1)).toNatClampNeg) ≤ ((yH y) (((yNT y) - 2)).toNatClampNeg) → (((yNT y) = 1 → ((v3 = (((yH y) (((yNT y) - 1)).toNatClampNeg)).toInt64 → (post 0 (0, (yNT y), (yNO y), (yNP y), (yT y), (yH y), (yO y), (yD y), (yW y), (yB y), (yC y), (yQ y)))) ∧ (¬ v3 = (((yH y) (((yNT y) - 1)).toNatClampNeg)).toInt64 → (vp_in (yNT y) 40 ∧ (vp_in (yNT y) 40 ∧ (post 1 (0, ((yNT y) + 1), (yNO y), (yNP y), (upd (yT y) ((yNT y)).toNatClampNeg (v1).toInt32), (upd (yH y) ((yNT y)).toNatClampNeg (v3).toInt32), (yO y), (yD y), (yW y), (yB y), (yC y), (yQ y)))))))) ∧ (¬ (yNT y) = 1 → (((((yH y) (((yNT y) - 1)).toNatClampNeg)).toInt64 ≤ v3 → (post 0 (0, (yNT y), (yNO y), (yNP y), (yT y), (yH y), (yO y), (yD y), (yW y), (yB y), (yC y), (yQ y)))) ∧ (¬ (((yH y) (((yNT y) - 1)).toNatClampNeg)).toInt64 ≤ v3 → (vp_in (yNT y) 40 ∧ (vp_in (yNT y) 40 ∧ (post 1 (0, ((yNT y) + 1), (yNO y), (yNP y), (upd (yT y) ((yNT y)).toNatClampNeg (v1).toInt32), (upd (yH y) ((yNT y)).toNatClampNeg (v3).toInt32), (yO y), (yD y), (yW y), (yB y), (yC y), (yQ y))))))))))))))))))))))))))) v3)))) v1 0 20000)

set_option maxHeartbeats 4000000 in
set_option maxRecDepth 100000 in
theorem mX1_turn (l : Launch) (D : va_G) (cI cJ : ClassId) (k0 b1 b2 b3 b4 b5 b6 b7 b8 sz : Nat) (y : YS) (v1 : Int64) (v3 : Int64) (post : Int32 → YS → Prop) : Met l yX1_turn wsX1_turn ({ frames := 2, cells := 0, slots := 0, locals := 46 } : Room) (va_Pc [.ref k0, .long v1, .long v3] (fun U => YE D cI cJ k0 b1 b2 b3 b4 b5 b6 b7 b8 sz y U ∧ wX1_turn post y v1 v3)) (va_Qi post (fun u9 t9 => YT D cI cJ k0 b1 b2 b3 b4 b5 b6 b7 b8 (va_A (x1W cI cJ k0 b1 b2 b3 b4 b5 b6 b7 b8 y) sz) u9 t9) (va_A (x1W cI cJ k0 b1 b2 b3 b4 b5 b6 b7 b8 y) sz)) 0 0 (va_A (x1W cI cJ k0 b1 b2 b3 b4 b5 b6 b7 b8 y) sz) := by
  refine Met.ofW (cc := cX1_turn) (maxL := 9) (ret := (some .int)) (by decide +kernel) rfl ?_
  intro p e s m args below meth c s₁ B hml hv
  obtain ⟨rfl, ⟨hsz, hP, hK, hD0⟩, hw⟩ := hv
  have hx := B.exec
  have hb := B.bytes
  have hr := B.returns
  have hts := atoms_spec (ws := wsX1_turn) B.pre
  have hown : s.vm.findClass RX1 = some m.cls := findClass_of_methodNamed B.named
  have hlocks := B.notSynchronized
  have hin : ∀ w ∈ u_ws RX1 TX1 12, w ∈ wsX1_turn := by decide +kernel
  subst hsz
  have hD := hD0.self (sz := s.heap.size)
  generalize hAe : va_A (x1W cI cJ k0 b1 b2 b3 b4 b5 b6 b7 b8 y) s.heap.size = A at hD ⊢
  have hS : va_S A s.heap s.heap [] := va_S.rf
  have hW : YW D cI cJ k0 b1 b2 b3 b4 b5 b6 b7 b8 y s s.heap := ⟨hP, hK⟩
  have hl := lv_entry ([.ref k0, .long v1, .long v3]) (n := 9) (Nat.le_of_ble_eq_true rfl)
  rw [lg_entry_eq]
  generalize (lg_sl ([.ref k0, .long v1, .long v3]) ++ List.replicate (9 - (lg_sl ([.ref k0, .long v1, .long v3])).length) Slot.unset).toArray = ls at hl ⊢
  have hl : lv_has ls 9 [(0, .ref k0), (1, .long v1), (3, .long v3)] := hl
  unfold wX1_turn at hw
  refine lv_lload_n hx hb dX1_turn_0 rfl (lv_at hl 1 rfl) ?_
  refine lv_lconst (v := 0) hx hb dX1_turn_1 (by decide) ?_
  refine lv_ldc2 (v := 20000) hx hb hown (hts (.constantLong RX1 68 (20000)) (by decide +kernel)) dX1_turn_2 ?_
  refine pc_Si (As := [.long v1, .long 0, .long 20000]) (rest := []) ⟨hx, hb, hml, hown, hts⟩ (mX1_in l v1 0 20000 _) (va_cwS 3 hts gX1_turn_X1_in rfl rfl rfl (by decide +kernel) ⟨Nat.le_of_ble_eq_true rfl, Nat.le_of_ble_eq_true rfl⟩) wK_bl (fun _ _ _ => hw) rfl hl.1 rfl (Nat.le_of_ble_eq_true rfl) dX1_turn_5 ⟨Nat.le_of_ble_eq_true rfl, Nat.le_of_ble_eq_true rfl⟩ (fun r1 hw => ?_)
  obtain ⟨z_r1, hw⟩ := hw
  refine lv_if_eq (tgt := 57) hx hb dX1_turn_8 (by decide) (fun c2 => ?_) (fun c2 => ?_)
  · have hw := hw.1 c2
    refine lv_iconst (v := 0) hx hb dX1_turn_57 (by decide) ?_
    refine lv_istore (lv' := [(5, .int 0), (0, .ref k0), (1, .long v1), (3, .long v3)]) hx hb dX1_turn_58 hl (by decide) rfl (fun ls hl => ?_)
    refine lv_aload_n hx hb dX1_turn_60 rfl (lv_at hl 1 rfl) ?_
    refine lv_iload hx hb dX1_turn_61 (lv_at hl 0 rfl) ?_
    refine lv_if_ne (tgt := 70) hx hb dX1_turn_63 (by decide) (fun c3 => ?_) (fun c3 => ?_)
    · exact absurd (by decide) c3
    ·
      refine lv_iconst (v := 1) hx hb dX1_turn_66 (by decide) ?_
      refine lv_goto (tgt := 84) hx hb dX1_turn_67 (by decide) ?_
      refine va_put (D := D) (ci := 1) (v := .int 1) (ty := .int) (C := RX1) (T := TX1) (N := 12) hx hb hts hin tyX1 tyX1_ok nmX1 hown hK hP hD hS 0 rfl rfl 0 (by decide) (hts (.fieldLink RX1 36 "TideDepthsModel" "thrown" "I") (by decide +kernel)) (fun _ h9 => h9) rfl (by decide +kernel) rfl rfl (Nat.le_of_ble_eq_true rfl) dX1_turn_84 (fun H locs hP hD hS => ?_)
      have hP : va_P D cls2 (x1W cI cJ k0 b1 b2 b3 b4 b5 b6 b7 b8 (1, (yNT y), (yNO y), (yNP y), (yT y), (yH y), (yO y), (yD y), (yW y), (yB y), (yC y), (yQ y))) H := hP
      have hD : va_D A (x1W cI cJ k0 b1 b2 b3 b4 b5 b6 b7 b8 (1, (yNT y), (yNO y), (yNP y), (yT y), (yH y), (yO y), (yD y), (yW y), (yB y), (yC y), (yQ y))) := hD
      have hW : YW D cI cJ k0 b1 b2 b3 b4 b5 b6 b7 b8 (1, (yNT y), (yNO y), (yNP y), (yT y), (yH y), (yO y), (yD y), (yW y), (yB y), (yC y), (yQ y)) s H := ⟨hP, hK⟩
      refine lv_aload_n hx hb dX1_turn_87 rfl (lv_at hl 1 rfl) ?_
      refine va_get (D := D) (ci := 1) (v := .int 1) (C := RX1) (T := TX1) (N := 12) hx hb hts hin hown hK hP 0 rfl rfl 0 (by decide) (hts (.fieldLink RX1 36 "TideDepthsModel" "thrown" "I") (by decide +kernel)) (fun _ h9 => h9) rfl dX1_turn_88 ?_
      refine lv_if_le (tgt := 96) hx hb dX1_turn_91 (by decide) (fun c4 => ?_) (fun c4 => ?_)
      · exact absurd c4 (by decide)
      ·
        refine lv_iconst (v := 0) hx hb dX1_turn_94 (by decide) ?_
        exact W.iret (v := 0) hx hb hr (fun t ht hWm => ⟨⟨0, (1, (yNT y), (yNO y), (yNP y), (yT y), (yH y), (yO y), (yD y), (yW y), (yB y), (yC y), (yQ y)), rfl, hw, by rw [ht]; exact hP, va_K.moved hWm.alike hK, hD⟩, hS.F ht⟩) hS.2.2 dX1_turn_95
  · have hw := hw.2 c2
    refine lv_lload_n hx hb dX1_turn_11 rfl (lv_at hl 2 rfl) ?_
    refine pc_Si (As := [.long v3]) (rest := []) ⟨hx, hb, hml, hown, hts⟩ (mX1_isHeight l v3 _) (va_cwS 1 hts gX1_turn_X1_isHeight rfl rfl rfl (by decide +kernel) ⟨Nat.le_of_ble_eq_true rfl, Nat.le_of_ble_eq_true rfl⟩) wK_bl (fun _ _ _ => hw) rfl hl.1 rfl (Nat.le_of_ble_eq_true rfl) dX1_turn_12 ⟨Nat.le_of_ble_eq_true rfl, Nat.le_of_ble_eq_true rfl⟩ (fun r5 hw => ?_)
    obtain ⟨z_r5, hw⟩ := hw
    refine lv_if_eq (tgt := 57) hx hb dX1_turn_15 (by decide) (fun c6 => ?_) (fun c6 => ?_)
    · have hw := hw.1 c6
      refine lv_iconst (v := 0) hx hb dX1_turn_57 (by decide) ?_
      refine lv_istore (lv' := [(5, .int 0), (0, .ref k0), (1, .long v1), (3, .long v3)]) hx hb dX1_turn_58 hl (by decide) rfl (fun ls hl => ?_)
      refine lv_aload_n hx hb dX1_turn_60 rfl (lv_at hl 1 rfl) ?_
      refine lv_iload hx hb dX1_turn_61 (lv_at hl 0 rfl) ?_
      refine lv_if_ne (tgt := 70) hx hb dX1_turn_63 (by decide) (fun c7 => ?_) (fun c7 => ?_)
      · exact absurd (by decide) c7
      ·
        refine lv_iconst (v := 1) hx hb dX1_turn_66 (by decide) ?_
        refine lv_goto (tgt := 84) hx hb dX1_turn_67 (by decide) ?_
        refine va_put (D := D) (ci := 1) (v := .int 1) (ty := .int) (C := RX1) (T := TX1) (N := 12) hx hb hts hin tyX1 tyX1_ok nmX1 hown hK hP hD hS 0 rfl rfl 0 (by decide) (hts (.fieldLink RX1 36 "TideDepthsModel" "thrown" "I") (by decide +kernel)) (fun _ h9 => h9) rfl (by decide +kernel) rfl rfl (Nat.le_of_ble_eq_true rfl) dX1_turn_84 (fun H locs hP hD hS => ?_)
        have hP : va_P D cls2 (x1W cI cJ k0 b1 b2 b3 b4 b5 b6 b7 b8 (1, (yNT y), (yNO y), (yNP y), (yT y), (yH y), (yO y), (yD y), (yW y), (yB y), (yC y), (yQ y))) H := hP
        have hD : va_D A (x1W cI cJ k0 b1 b2 b3 b4 b5 b6 b7 b8 (1, (yNT y), (yNO y), (yNP y), (yT y), (yH y), (yO y), (yD y), (yW y), (yB y), (yC y), (yQ y))) := hD
        have hW : YW D cI cJ k0 b1 b2 b3 b4 b5 b6 b7 b8 (1, (yNT y), (yNO y), (yNP y), (yT y), (yH y), (yO y), (yD y), (yW y), (yB y), (yC y), (yQ y)) s H := ⟨hP, hK⟩
        refine lv_aload_n hx hb dX1_turn_87 rfl (lv_at hl 1 rfl) ?_
        refine va_get (D := D) (ci := 1) (v := .int 1) (C := RX1) (T := TX1) (N := 12) hx hb hts hin hown hK hP 0 rfl rfl 0 (by decide) (hts (.fieldLink RX1 36 "TideDepthsModel" "thrown" "I") (by decide +kernel)) (fun _ h9 => h9) rfl dX1_turn_88 ?_
        refine lv_if_le (tgt := 96) hx hb dX1_turn_91 (by decide) (fun c8 => ?_) (fun c8 => ?_)
        · exact absurd c8 (by decide)
        ·
          refine lv_iconst (v := 0) hx hb dX1_turn_94 (by decide) ?_
          exact W.iret (v := 0) hx hb hr (fun t ht hWm => ⟨⟨0, (1, (yNT y), (yNO y), (yNP y), (yT y), (yH y), (yO y), (yD y), (yW y), (yB y), (yC y), (yQ y)), rfl, hw, by rw [ht]; exact hP, va_K.moved hWm.alike hK, hD⟩, hS.F ht⟩) hS.2.2 dX1_turn_95
    · have hw := hw.2 c6
      refine lv_aload_n hx hb dX1_turn_18 rfl (lv_at hl 0 rfl) ?_
      refine va_get (D := D) (ci := 1) (v := .int (yNT y)) (C := RX1) (T := TX1) (N := 12) hx hb hts hin hown hK hP 0 rfl rfl 1 (by decide) (hts (.fieldLink RX1 40 "TideDepthsModel" "turns" "I") (by decide +kernel)) (fun _ h9 => h9) rfl dX1_turn_19 ?_
      refine lv_if_eq (tgt := 53) hx hb dX1_turn_22 (by decide) (fun c9 => ?_) (fun c9 => ?_)
      · have hw := hw.1 c9
        refine lv_iconst (v := 1) hx hb dX1_turn_53 (by decide) ?_
        refine lv_goto (tgt := 58) hx hb dX1_turn_54 (by decide) ?_
        refine lv_istore (lv' := [(5, .int 1), (0, .ref k0), (1, .long v1), (3, .long v3)]) hx hb dX1_turn_58 hl (by decide) rfl (fun ls hl => ?_)
        refine lv_aload_n hx hb dX1_turn_60 rfl (lv_at hl 1 rfl) ?_
        refine lv_iload hx hb dX1_turn_61 (lv_at hl 0 rfl) ?_
        refine lv_if_ne (tgt := 70) hx hb dX1_turn_63 (by decide) (fun c10 => ?_) (fun c10 => ?_)
        ·
          refine lv_aload_n hx hb dX1_turn_70 rfl (lv_at hl 1 rfl) ?_
          refine va_get (D := D) (ci := 1) (v := .int (yNT y)) (C := RX1) (T := TX1) (N := 12) hx hb hts hin hown hK hP 0 rfl rfl 1 (by decide) (hts (.fieldLink RX1 40 "TideDepthsModel" "turns" "I") (by decide +kernel)) (fun _ h9 => h9) rfl dX1_turn_71 ?_
          refine lv_bipush (v := 40) hx hb dX1_turn_74 (by decide) ?_
          refine lv_icmp_ne (tgt := 83) hx hb dX1_turn_76 (by decide) (fun c11 => ?_) (fun c11 => ?_)
          · have hw := hw.2 c11
            refine lv_iconst (v := 0) hx hb dX1_turn_83 (by decide) ?_
            refine va_put (D := D) (ci := 1) (v := .int 0) (ty := .int) (C := RX1) (T := TX1) (N := 12) hx hb hts hin tyX1 tyX1_ok nmX1 hown hK hP hD hS 0 rfl rfl 0 (by decide) (hts (.fieldLink RX1 36 "TideDepthsModel" "thrown" "I") (by decide +kernel)) (fun _ h9 => h9) rfl (by decide +kernel) rfl rfl (Nat.le_of_ble_eq_true rfl) dX1_turn_84 (fun H locs hP hD hS => ?_)
            have hP : va_P D cls2 (x1W cI cJ k0 b1 b2 b3 b4 b5 b6 b7 b8 (0, (yNT y), (yNO y), (yNP y), (yT y), (yH y), (yO y), (yD y), (yW y), (yB y), (yC y), (yQ y))) H := hP
            have hD : va_D A (x1W cI cJ k0 b1 b2 b3 b4 b5 b6 b7 b8 (0, (yNT y), (yNO y), (yNP y), (yT y), (yH y), (yO y), (yD y), (yW y), (yB y), (yC y), (yQ y))) := hD
            have hW : YW D cI cJ k0 b1 b2 b3 b4 b5 b6 b7 b8 (0, (yNT y), (yNO y), (yNP y), (yT y), (yH y), (yO y), (yD y), (yW y), (yB y), (yC y), (yQ y)) s H := ⟨hP, hK⟩
            refine lv_aload_n hx hb dX1_turn_87 rfl (lv_at hl 1 rfl) ?_
            refine va_get (D := D) (ci := 1) (v := .int 0) (C := RX1) (T := TX1) (N := 12) hx hb hts hin hown hK hP 0 rfl rfl 0 (by decide) (hts (.fieldLink RX1 36 "TideDepthsModel" "thrown" "I") (by decide +kernel)) (fun _ h9 => h9) rfl dX1_turn_88 ?_
            refine lv_if_le (tgt := 96) hx hb dX1_turn_91 (by decide) (fun c12 => ?_) (fun c12 => ?_)
            ·
              refine lv_aload_n hx hb dX1_turn_96 rfl (lv_at hl 1 rfl) ?_
              refine va_get (D := D) (ci := 1) (v := .int (yNT y)) (C := RX1) (T := TX1) (N := 12) hx hb hts hin hown hK hP 0 rfl rfl 1 (by decide) (hts (.fieldLink RX1 40 "TideDepthsModel" "turns" "I") (by decide +kernel)) (fun _ h9 => h9) rfl dX1_turn_97 ?_
              refine lv_if_le (tgt := 226) hx hb dX1_turn_100 (by decide) (fun c13 => ?_) (fun c13 => ?_)
              · have hw := hw.1 c13
                refine lv_aload_n hx hb dX1_turn_226 rfl (lv_at hl 1 rfl) ?_
                refine va_get (D := D) (ci := 1) (v := .ref b1) (C := RX1) (T := TX1) (N := 12) hx hb hts hin hown hK hP 0 rfl rfl 4 (by decide) (hts (.fieldLink RX1 7 "TideDepthsModel" "turnTime" "[I") (by decide +kernel)) (fun _ h9 => h9) rfl dX1_turn_227 ?_
                refine lv_aload_n hx hb dX1_turn_230 rfl (lv_at hl 1 rfl) ?_
                refine va_get (D := D) (ci := 1) (v := .int (yNT y)) (C := RX1) (T := TX1) (N := 12) hx hb hts hin hown hK hP 0 rfl rfl 1 (by decide) (hts (.fieldLink RX1 40 "TideDepthsModel" "turns" "I") (by decide +kernel)) (fun _ h9 => h9) rfl dX1_turn_231 ?_
                refine lv_lload_n hx hb dX1_turn_234 rfl (lv_at hl 2 rfl) ?_
                refine lv_l2i (v := (v1).toInt32) hx hb dX1_turn_235 rfl ?_
                obtain ⟨h14, hw⟩ := hw
                refine va_iast hx hb hK hP hD hS 1 0 rfl rfl h14 dX1_turn_236 (fun H locs hP hD hS => ?_)
                have hP : va_P D cls2 (x1W cI cJ k0 b1 b2 b3 b4 b5 b6 b7 b8 (0, (yNT y), (yNO y), (yNP y), (upd (yT y) ((yNT y)).toNatClampNeg (v1).toInt32), (yH y), (yO y), (yD y), (yW y), (yB y), (yC y), (yQ y))) H := hP
                have hD : va_D A (x1W cI cJ k0 b1 b2 b3 b4 b5 b6 b7 b8 (0, (yNT y), (yNO y), (yNP y), (upd (yT y) ((yNT y)).toNatClampNeg (v1).toInt32), (yH y), (yO y), (yD y), (yW y), (yB y), (yC y), (yQ y))) := hD
                have hW : YW D cI cJ k0 b1 b2 b3 b4 b5 b6 b7 b8 (0, (yNT y), (yNO y), (yNP y), (upd (yT y) ((yNT y)).toNatClampNeg (v1).toInt32), (yH y), (yO y), (yD y), (yW y), (yB y), (yC y), (yQ y)) s H := ⟨hP, hK⟩
                refine lv_aload_n hx hb dX1_turn_237 rfl (lv_at hl 1 rfl) ?_
                refine va_get (D := D) (ci := 1) (v := .ref b2) (C := RX1) (T := TX1) (N := 12) hx hb hts hin hown hK hP 0 rfl rfl 5 (by decide) (hts (.fieldLink RX1 13 "TideDepthsModel" "turnHeight" "[I") (by decide +kernel)) (fun _ h9 => h9) rfl dX1_turn_238 ?_
                refine lv_aload_n hx hb dX1_turn_241 rfl (lv_at hl 1 rfl) ?_
                refine va_get (D := D) (ci := 1) (v := .int (yNT y)) (C := RX1) (T := TX1) (N := 12) hx hb hts hin hown hK hP 0 rfl rfl 1 (by decide) (hts (.fieldLink RX1 40 "TideDepthsModel" "turns" "I") (by decide +kernel)) (fun _ h9 => h9) rfl dX1_turn_242 ?_
                refine lv_lload_n hx hb dX1_turn_245 rfl (lv_at hl 3 rfl) ?_
                refine lv_l2i (v := (v3).toInt32) hx hb dX1_turn_246 rfl ?_
                obtain ⟨h15, hw⟩ := hw
                refine va_iast hx hb hK hP hD hS 2 0 rfl rfl h15 dX1_turn_247 (fun H locs hP hD hS => ?_)
                have hP : va_P D cls2 (x1W cI cJ k0 b1 b2 b3 b4 b5 b6 b7 b8 (0, (yNT y), (yNO y), (yNP y), (upd (yT y) ((yNT y)).toNatClampNeg (v1).toInt32), (upd (yH y) ((yNT y)).toNatClampNeg (v3).toInt32), (yO y), (yD y), (yW y), (yB y), (yC y), (yQ y))) H := hP
                have hD : va_D A (x1W cI cJ k0 b1 b2 b3 b4 b5 b6 b7 b8 (0, (yNT y), (yNO y), (yNP y), (upd (yT y) ((yNT y)).toNatClampNeg (v1).toInt32), (upd (yH y) ((yNT y)).toNatClampNeg (v3).toInt32), (yO y), (yD y), (yW y), (yB y), (yC y), (yQ y))) := hD
                have hW : YW D cI cJ k0 b1 b2 b3 b4 b5 b6 b7 b8 (0, (yNT y), (yNO y), (yNP y), (upd (yT y) ((yNT y)).toNatClampNeg (v1).toInt32), (upd (yH y) ((yNT y)).toNatClampNeg (v3).toInt32), (yO y), (yD y), (yW y), (yB y), (yC y), (yQ y)) s H := ⟨hP, hK⟩
                refine lv_aload_n hx hb dX1_turn_248 rfl (lv_at hl 1 rfl) ?_
                refine lv_dup hx hb dX1_turn_249 rfl ?_
                refine va_get (D := D) (ci := 1) (v := .int (yNT y)) (C := RX1) (T := TX1) (N := 12) hx hb hts hin hown hK hP 0 rfl rfl 1 (by decide) (hts (.fieldLink RX1 40 "TideDepthsModel" "turns" "I") (by decide +kernel)) (fun _ h9 => h9) rfl dX1_turn_250 ?_
                refine lv_iconst (v := 1) hx hb dX1_turn_253 (by decide) ?_
                refine lv_iadd hx hb dX1_turn_254 ?_
                refine va_put (D := D) (ci := 1) (v := .int ((yNT y) + 1)) (ty := .int) (C := RX1) (T := TX1) (N := 12) hx hb hts hin tyX1 tyX1_ok nmX1 hown hK hP hD hS 0 rfl rfl 1 (by decide) (hts (.fieldLink RX1 40 "TideDepthsModel" "turns" "I") (by decide +kernel)) (fun _ h9 => h9) rfl (by decide +kernel) rfl rfl (Nat.le_of_ble_eq_true rfl) dX1_turn_255 (fun H locs hP hD hS => ?_)
                have hP : va_P D cls2 (x1W cI cJ k0 b1 b2 b3 b4 b5 b6 b7 b8 (0, ((yNT y) + 1), (yNO y), (yNP y), (upd (yT y) ((yNT y)).toNatClampNeg (v1).toInt32), (upd (yH y) ((yNT y)).toNatClampNeg (v3).toInt32), (yO y), (yD y), (yW y), (yB y), (yC y), (yQ y))) H := hP
                have hD : va_D A (x1W cI cJ k0 b1 b2 b3 b4 b5 b6 b7 b8 (0, ((yNT y) + 1), (yNO y), (yNP y), (upd (yT y) ((yNT y)).toNatClampNeg (v1).toInt32), (upd (yH y) ((yNT y)).toNatClampNeg (v3).toInt32), (yO y), (yD y), (yW y), (yB y), (yC y), (yQ y))) := hD
                have hW : YW D cI cJ k0 b1 b2 b3 b4 b5 b6 b7 b8 (0, ((yNT y) + 1), (yNO y), (yNP y), (upd (yT y) ((yNT y)).toNatClampNeg (v1).toInt32), (upd (yH y) ((yNT y)).toNatClampNeg (v3).toInt32), (yO y), (yD y), (yW y), (yB y), (yC y), (yQ y)) s H := ⟨hP, hK⟩
                refine lv_iconst (v := 1) hx hb dX1_turn_258 (by decide) ?_
                exact W.iret (v := 1) hx hb hr (fun t ht hWm => ⟨⟨1, (0, ((yNT y) + 1), (yNO y), (yNP y), (upd (yT y) ((yNT y)).toNatClampNeg (v1).toInt32), (upd (yH y) ((yNT y)).toNatClampNeg (v3).toInt32), (yO y), (yD y), (yW y), (yB y), (yC y), (yQ y)), rfl, hw, by rw [ht]; exact hP, va_K.moved hWm.alike hK, hD⟩, hS.F ht⟩) hS.2.2 dX1_turn_259
              · have hw := hw.2 c13
                refine lv_aload_n hx hb dX1_turn_103 rfl (lv_at hl 1 rfl) ?_
                refine va_get (D := D) (ci := 1) (v := .ref b2) (C := RX1) (T := TX1) (N := 12) hx hb hts hin hown hK hP 0 rfl rfl 5 (by decide) (hts (.fieldLink RX1 13 "TideDepthsModel" "turnHeight" "[I") (by decide +kernel)) (fun _ h9 => h9) rfl dX1_turn_104 ?_
                refine lv_aload_n hx hb dX1_turn_107 rfl (lv_at hl 1 rfl) ?_
                refine va_get (D := D) (ci := 1) (v := .int (yNT y)) (C := RX1) (T := TX1) (N := 12) hx hb hts hin hown hK hP 0 rfl rfl 1 (by decide) (hts (.fieldLink RX1 40 "TideDepthsModel" "turns" "I") (by decide +kernel)) (fun _ h9 => h9) rfl dX1_turn_108 ?_
                refine lv_iconst (v := 1) hx hb dX1_turn_111 (by decide) ?_
                refine lv_isub hx hb dX1_turn_112 ?_
                obtain ⟨h16, hw⟩ := hw
                refine va_iald hx hb hK hP 2 0 rfl rfl h16 dX1_turn_113 ?_
                refine lv_istore (lv' := [(6, .int ((yH y) (((yNT y) - 1)).toNatClampNeg)), (5, .int 1), (0, .ref k0), (1, .long v1), (3, .long v3)]) hx hb dX1_turn_114 hl (by decide) rfl (fun ls hl => ?_)
                refine lv_aload_n hx hb dX1_turn_116 rfl (lv_at hl 2 rfl) ?_
                refine va_get (D := D) (ci := 1) (v := .int (yNT y)) (C := RX1) (T := TX1) (N := 12) hx hb hts hin hown hK hP 0 rfl rfl 1 (by decide) (hts (.fieldLink RX1 40 "TideDepthsModel" "turns" "I") (by decide +kernel)) (fun _ h9 => h9) rfl dX1_turn_117 ?_
                refine lv_iconst (v := 1) hx hb dX1_turn_120 (by decide) ?_
                refine lv_icmp_le (tgt := 156) hx hb dX1_turn_121 (by decide) (fun c17 => ?_) (fun c17 => ?_)
                · have hw := hw.1 c17
                  refine lv_iconst (v := 0) hx hb dX1_turn_156 (by decide) ?_
                  refine lv_istore (lv' := [(7, .int 0), (6, .int ((yH y) (((yNT y) - 1)).toNatClampNeg)), (5, .int 1), (0, .ref k0), (1, .long v1), (3, .long v3)]) hx hb dX1_turn_157 hl (by decide) rfl (fun ls hl => ?_)
                  refine lv_aload_n hx hb dX1_turn_159 rfl (lv_at hl 3 rfl) ?_
                  refine va_get (D := D) (ci := 1) (v := .int (yNT y)) (C := RX1) (T := TX1) (N := 12) hx hb hts hin hown hK hP 0 rfl rfl 1 (by decide) (hts (.fieldLink RX1 40 "TideDepthsModel" "turns" "I") (by decide +kernel)) (fun _ h9 => h9) rfl dX1_turn_160 ?_
                  refine lv_iconst (v := 1) hx hb dX1_turn_163 (by decide) ?_
                  refine lv_icmp_ne (tgt := 183) hx hb dX1_turn_164 (by decide) (fun c18 => ?_) (fun c18 => ?_)
                  · have hw := hw.2 c18
                    refine lv_iload hx hb dX1_turn_183 (lv_at hl 0 rfl) ?_
                    refine lv_if_eq (tgt := 204) hx hb dX1_turn_185 (by decide) (fun c19 => ?_) (fun c19 => ?_)
                    ·
                      refine lv_lload_n hx hb dX1_turn_204 rfl (lv_at hl 5 rfl) ?_
                      refine lv_iload hx hb dX1_turn_205 (lv_at hl 1 rfl) ?_
                      refine lv_i2l (v := (((yH y) (((yNT y) - 1)).toNatClampNeg)).toInt64) hx hb dX1_turn_207 rfl ?_
                      refine bl_le (tgt := 216) hx hb dX1_turn_208 dX1_turn_209 (by decide) (fun c20 => ?_) (fun c20 => ?_)
                      · have hw := hw.1 c20
                        refine lv_iconst (v := 0) hx hb dX1_turn_216 (by decide) ?_
                        refine lv_istore (lv' := [(8, .int 0), (7, .int 0), (6, .int ((yH y) (((yNT y) - 1)).toNatClampNeg)), (5, .int 1), (0, .ref k0), (1, .long v1), (3, .long v3)]) hx hb dX1_turn_217 hl (by decide) rfl (fun ls hl => ?_)
                        refine lv_iload hx hb dX1_turn_219 (lv_at hl 0 rfl) ?_
                        refine lv_if_ne (tgt := 226) hx hb dX1_turn_221 (by decide) (fun c21 => ?_) (fun c21 => ?_)
                        · exact absurd (by decide) c21
                        ·
                          refine lv_iconst (v := 0) hx hb dX1_turn_224 (by decide) ?_
                          exact W.iret (v := 0) hx hb hr (fun t ht hWm => ⟨⟨0, (0, (yNT y), (yNO y), (yNP y), (yT y), (yH y), (yO y), (yD y), (yW y), (yB y), (yC y), (yQ y)), rfl, hw, by rw [ht]; exact hP, va_K.moved hWm.alike hK, hD⟩, hS.F ht⟩) hS.2.2 dX1_turn_225
                      · have hw := hw.2 c20
                        refine lv_iconst (v := 1) hx hb dX1_turn_212 (by decide) ?_
                        refine lv_goto (tgt := 217) hx hb dX1_turn_213 (by decide) ?_
                        refine lv_istore (lv' := [(8, .int 1), (7, .int 0), (6, .int ((yH y) (((yNT y) - 1)).toNatClampNeg)), (5, .int 1), (0, .ref k0), (1, .long v1), (3, .long v3)]) hx hb dX1_turn_217 hl (by decide) rfl (fun ls hl => ?_)
                        refine lv_iload hx hb dX1_turn_219 (lv_at hl 0 rfl) ?_
                        refine lv_if_ne (tgt := 226) hx hb dX1_turn_221 (by decide) (fun c22 => ?_) (fun c22 => ?_)
                        ·
                          refine lv_aload_n hx hb dX1_turn_226 rfl (lv_at hl 4 rfl) ?_
                          refine va_get (D := D) (ci := 1) (v := .ref b1) (C := RX1) (T := TX1) (N := 12) hx hb hts hin hown hK hP 0 rfl rfl 4 (by decide) (hts (.fieldLink RX1 7 "TideDepthsModel" "turnTime" "[I") (by decide +kernel)) (fun _ h9 => h9) rfl dX1_turn_227 ?_
                          refine lv_aload_n hx hb dX1_turn_230 rfl (lv_at hl 4 rfl) ?_
                          refine va_get (D := D) (ci := 1) (v := .int (yNT y)) (C := RX1) (T := TX1) (N := 12) hx hb hts hin hown hK hP 0 rfl rfl 1 (by decide) (hts (.fieldLink RX1 40 "TideDepthsModel" "turns" "I") (by decide +kernel)) (fun _ h9 => h9) rfl dX1_turn_231 ?_
                          refine lv_lload_n hx hb dX1_turn_234 rfl (lv_at hl 5 rfl) ?_
                          refine lv_l2i (v := (v1).toInt32) hx hb dX1_turn_235 rfl ?_
                          obtain ⟨h23, hw⟩ := hw
                          refine va_iast hx hb hK hP hD hS 1 0 rfl rfl h23 dX1_turn_236 (fun H locs hP hD hS => ?_)
                          have hP : va_P D cls2 (x1W cI cJ k0 b1 b2 b3 b4 b5 b6 b7 b8 (0, (yNT y), (yNO y), (yNP y), (upd (yT y) ((yNT y)).toNatClampNeg (v1).toInt32), (yH y), (yO y), (yD y), (yW y), (yB y), (yC y), (yQ y))) H := hP
                          have hD : va_D A (x1W cI cJ k0 b1 b2 b3 b4 b5 b6 b7 b8 (0, (yNT y), (yNO y), (yNP y), (upd (yT y) ((yNT y)).toNatClampNeg (v1).toInt32), (yH y), (yO y), (yD y), (yW y), (yB y), (yC y), (yQ y))) := hD
                          have hW : YW D cI cJ k0 b1 b2 b3 b4 b5 b6 b7 b8 (0, (yNT y), (yNO y), (yNP y), (upd (yT y) ((yNT y)).toNatClampNeg (v1).toInt32), (yH y), (yO y), (yD y), (yW y), (yB y), (yC y), (yQ y)) s H := ⟨hP, hK⟩
                          refine lv_aload_n hx hb dX1_turn_237 rfl (lv_at hl 4 rfl) ?_
                          refine va_get (D := D) (ci := 1) (v := .ref b2) (C := RX1) (T := TX1) (N := 12) hx hb hts hin hown hK hP 0 rfl rfl 5 (by decide) (hts (.fieldLink RX1 13 "TideDepthsModel" "turnHeight" "[I") (by decide +kernel)) (fun _ h9 => h9) rfl dX1_turn_238 ?_
                          refine lv_aload_n hx hb dX1_turn_241 rfl (lv_at hl 4 rfl) ?_
                          refine va_get (D := D) (ci := 1) (v := .int (yNT y)) (C := RX1) (T := TX1) (N := 12) hx hb hts hin hown hK hP 0 rfl rfl 1 (by decide) (hts (.fieldLink RX1 40 "TideDepthsModel" "turns" "I") (by decide +kernel)) (fun _ h9 => h9) rfl dX1_turn_242 ?_
                          refine lv_lload_n hx hb dX1_turn_245 rfl (lv_at hl 6 rfl) ?_
                          refine lv_l2i (v := (v3).toInt32) hx hb dX1_turn_246 rfl ?_
                          obtain ⟨h24, hw⟩ := hw
                          refine va_iast hx hb hK hP hD hS 2 0 rfl rfl h24 dX1_turn_247 (fun H locs hP hD hS => ?_)
                          have hP : va_P D cls2 (x1W cI cJ k0 b1 b2 b3 b4 b5 b6 b7 b8 (0, (yNT y), (yNO y), (yNP y), (upd (yT y) ((yNT y)).toNatClampNeg (v1).toInt32), (upd (yH y) ((yNT y)).toNatClampNeg (v3).toInt32), (yO y), (yD y), (yW y), (yB y), (yC y), (yQ y))) H := hP
                          have hD : va_D A (x1W cI cJ k0 b1 b2 b3 b4 b5 b6 b7 b8 (0, (yNT y), (yNO y), (yNP y), (upd (yT y) ((yNT y)).toNatClampNeg (v1).toInt32), (upd (yH y) ((yNT y)).toNatClampNeg (v3).toInt32), (yO y), (yD y), (yW y), (yB y), (yC y), (yQ y))) := hD
                          have hW : YW D cI cJ k0 b1 b2 b3 b4 b5 b6 b7 b8 (0, (yNT y), (yNO y), (yNP y), (upd (yT y) ((yNT y)).toNatClampNeg (v1).toInt32), (upd (yH y) ((yNT y)).toNatClampNeg (v3).toInt32), (yO y), (yD y), (yW y), (yB y), (yC y), (yQ y)) s H := ⟨hP, hK⟩
                          refine lv_aload_n hx hb dX1_turn_248 rfl (lv_at hl 4 rfl) ?_
                          refine lv_dup hx hb dX1_turn_249 rfl ?_
                          refine va_get (D := D) (ci := 1) (v := .int (yNT y)) (C := RX1) (T := TX1) (N := 12) hx hb hts hin hown hK hP 0 rfl rfl 1 (by decide) (hts (.fieldLink RX1 40 "TideDepthsModel" "turns" "I") (by decide +kernel)) (fun _ h9 => h9) rfl dX1_turn_250 ?_
                          refine lv_iconst (v := 1) hx hb dX1_turn_253 (by decide) ?_
                          refine lv_iadd hx hb dX1_turn_254 ?_
                          refine va_put (D := D) (ci := 1) (v := .int ((yNT y) + 1)) (ty := .int) (C := RX1) (T := TX1) (N := 12) hx hb hts hin tyX1 tyX1_ok nmX1 hown hK hP hD hS 0 rfl rfl 1 (by decide) (hts (.fieldLink RX1 40 "TideDepthsModel" "turns" "I") (by decide +kernel)) (fun _ h9 => h9) rfl (by decide +kernel) rfl rfl (Nat.le_of_ble_eq_true rfl) dX1_turn_255 (fun H locs hP hD hS => ?_)
                          have hP : va_P D cls2 (x1W cI cJ k0 b1 b2 b3 b4 b5 b6 b7 b8 (0, ((yNT y) + 1), (yNO y), (yNP y), (upd (yT y) ((yNT y)).toNatClampNeg (v1).toInt32), (upd (yH y) ((yNT y)).toNatClampNeg (v3).toInt32), (yO y), (yD y), (yW y), (yB y), (yC y), (yQ y))) H := hP
                          have hD : va_D A (x1W cI cJ k0 b1 b2 b3 b4 b5 b6 b7 b8 (0, ((yNT y) + 1), (yNO y), (yNP y), (upd (yT y) ((yNT y)).toNatClampNeg (v1).toInt32), (upd (yH y) ((yNT y)).toNatClampNeg (v3).toInt32), (yO y), (yD y), (yW y), (yB y), (yC y), (yQ y))) := hD
                          have hW : YW D cI cJ k0 b1 b2 b3 b4 b5 b6 b7 b8 (0, ((yNT y) + 1), (yNO y), (yNP y), (upd (yT y) ((yNT y)).toNatClampNeg (v1).toInt32), (upd (yH y) ((yNT y)).toNatClampNeg (v3).toInt32), (yO y), (yD y), (yW y), (yB y), (yC y), (yQ y)) s H := ⟨hP, hK⟩
                          refine lv_iconst (v := 1) hx hb dX1_turn_258 (by decide) ?_
                          exact W.iret (v := 1) hx hb hr (fun t ht hWm => ⟨⟨1, (0, ((yNT y) + 1), (yNO y), (yNP y), (upd (yT y) ((yNT y)).toNatClampNeg (v1).toInt32), (upd (yH y) ((yNT y)).toNatClampNeg (v3).toInt32), (yO y), (yD y), (yW y), (yB y), (yC y), (yQ y)), rfl, hw, by rw [ht]; exact hP, va_K.moved hWm.alike hK, hD⟩, hS.F ht⟩) hS.2.2 dX1_turn_259
                        · exact absurd c22 (by decide)
                    · exact absurd (by decide) c19
                  · have hw := hw.1 c18
                    refine lv_lload_n hx hb dX1_turn_167 rfl (lv_at hl 5 rfl) ?_
                    refine lv_iload hx hb dX1_turn_168 (lv_at hl 1 rfl) ?_
                    refine lv_i2l (v := (((yH y) (((yNT y) - 1)).toNatClampNeg)).toInt64) hx hb dX1_turn_170 rfl ?_
                    refine bl_eq (tgt := 179) hx hb dX1_turn_171 dX1_turn_172 (by decide) (fun c25 => ?_) (fun c25 => ?_)
                    · have hw := hw.1 c25
                      refine lv_iconst (v := 0) hx hb dX1_turn_179 (by decide) ?_
                      refine lv_goto (tgt := 217) hx hb dX1_turn_180 (by decide) ?_
                      refine lv_istore (lv' := [(8, .int 0), (7, .int 0), (6, .int ((yH y) (((yNT y) - 1)).toNatClampNeg)), (5, .int 1), (0, .ref k0), (1, .long v1), (3, .long v3)]) hx hb dX1_turn_217 hl (by decide) rfl (fun ls hl => ?_)
                      refine lv_iload hx hb dX1_turn_219 (lv_at hl 0 rfl) ?_
                      refine lv_if_ne (tgt := 226) hx hb dX1_turn_221 (by decide) (fun c26 => ?_) (fun c26 => ?_)
                      · exact absurd (by decide) c26
                      ·
                        refine lv_iconst (v := 0) hx hb dX1_turn_224 (by decide) ?_
                        exact W.iret (v := 0) hx hb hr (fun t ht hWm => ⟨⟨0, (0, (yNT y), (yNO y), (yNP y), (yT y), (yH y), (yO y), (yD y), (yW y), (yB y), (yC y), (yQ y)), rfl, hw, by rw [ht]; exact hP, va_K.moved hWm.alike hK, hD⟩, hS.F ht⟩) hS.2.2 dX1_turn_225
                    · have hw := hw.2 c25
                      refine lv_iconst (v := 1) hx hb dX1_turn_175 (by decide) ?_
                      refine lv_goto (tgt := 217) hx hb dX1_turn_176 (by decide) ?_
                      refine lv_istore (lv' := [(8, .int 1), (7, .int 0), (6, .int ((yH y) (((yNT y) - 1)).toNatClampNeg)), (5, .int 1), (0, .ref k0), (1, .long v1), (3, .long v3)]) hx hb dX1_turn_217 hl (by decide) rfl (fun ls hl => ?_)
                      refine lv_iload hx hb dX1_turn_219 (lv_at hl 0 rfl) ?_
                      refine lv_if_ne (tgt := 226) hx hb dX1_turn_221 (by decide) (fun c27 => ?_) (fun c27 => ?_)
                      ·
                        refine lv_aload_n hx hb dX1_turn_226 rfl (lv_at hl 4 rfl) ?_
                        refine va_get (D := D) (ci := 1) (v := .ref b1) (C := RX1) (T := TX1) (N := 12) hx hb hts hin hown hK hP 0 rfl rfl 4 (by decide) (hts (.fieldLink RX1 7 "TideDepthsModel" "turnTime" "[I") (by decide +kernel)) (fun _ h9 => h9) rfl dX1_turn_227 ?_
                        refine lv_aload_n hx hb dX1_turn_230 rfl (lv_at hl 4 rfl) ?_
                        refine va_get (D := D) (ci := 1) (v := .int (yNT y)) (C := RX1) (T := TX1) (N := 12) hx hb hts hin hown hK hP 0 rfl rfl 1 (by decide) (hts (.fieldLink RX1 40 "TideDepthsModel" "turns" "I") (by decide +kernel)) (fun _ h9 => h9) rfl dX1_turn_231 ?_
                        refine lv_lload_n hx hb dX1_turn_234 rfl (lv_at hl 5 rfl) ?_
                        refine lv_l2i (v := (v1).toInt32) hx hb dX1_turn_235 rfl ?_
                        obtain ⟨h28, hw⟩ := hw
                        refine va_iast hx hb hK hP hD hS 1 0 rfl rfl h28 dX1_turn_236 (fun H locs hP hD hS => ?_)
                        have hP : va_P D cls2 (x1W cI cJ k0 b1 b2 b3 b4 b5 b6 b7 b8 (0, (yNT y), (yNO y), (yNP y), (upd (yT y) ((yNT y)).toNatClampNeg (v1).toInt32), (yH y), (yO y), (yD y), (yW y), (yB y), (yC y), (yQ y))) H := hP
                        have hD : va_D A (x1W cI cJ k0 b1 b2 b3 b4 b5 b6 b7 b8 (0, (yNT y), (yNO y), (yNP y), (upd (yT y) ((yNT y)).toNatClampNeg (v1).toInt32), (yH y), (yO y), (yD y), (yW y), (yB y), (yC y), (yQ y))) := hD
                        have hW : YW D cI cJ k0 b1 b2 b3 b4 b5 b6 b7 b8 (0, (yNT y), (yNO y), (yNP y), (upd (yT y) ((yNT y)).toNatClampNeg (v1).toInt32), (yH y), (yO y), (yD y), (yW y), (yB y), (yC y), (yQ y)) s H := ⟨hP, hK⟩
                        refine lv_aload_n hx hb dX1_turn_237 rfl (lv_at hl 4 rfl) ?_
                        refine va_get (D := D) (ci := 1) (v := .ref b2) (C := RX1) (T := TX1) (N := 12) hx hb hts hin hown hK hP 0 rfl rfl 5 (by decide) (hts (.fieldLink RX1 13 "TideDepthsModel" "turnHeight" "[I") (by decide +kernel)) (fun _ h9 => h9) rfl dX1_turn_238 ?_
                        refine lv_aload_n hx hb dX1_turn_241 rfl (lv_at hl 4 rfl) ?_
                        refine va_get (D := D) (ci := 1) (v := .int (yNT y)) (C := RX1) (T := TX1) (N := 12) hx hb hts hin hown hK hP 0 rfl rfl 1 (by decide) (hts (.fieldLink RX1 40 "TideDepthsModel" "turns" "I") (by decide +kernel)) (fun _ h9 => h9) rfl dX1_turn_242 ?_
                        refine lv_lload_n hx hb dX1_turn_245 rfl (lv_at hl 6 rfl) ?_
                        refine lv_l2i (v := (v3).toInt32) hx hb dX1_turn_246 rfl ?_
                        obtain ⟨h29, hw⟩ := hw
                        refine va_iast hx hb hK hP hD hS 2 0 rfl rfl h29 dX1_turn_247 (fun H locs hP hD hS => ?_)
                        have hP : va_P D cls2 (x1W cI cJ k0 b1 b2 b3 b4 b5 b6 b7 b8 (0, (yNT y), (yNO y), (yNP y), (upd (yT y) ((yNT y)).toNatClampNeg (v1).toInt32), (upd (yH y) ((yNT y)).toNatClampNeg (v3).toInt32), (yO y), (yD y), (yW y), (yB y), (yC y), (yQ y))) H := hP
                        have hD : va_D A (x1W cI cJ k0 b1 b2 b3 b4 b5 b6 b7 b8 (0, (yNT y), (yNO y), (yNP y), (upd (yT y) ((yNT y)).toNatClampNeg (v1).toInt32), (upd (yH y) ((yNT y)).toNatClampNeg (v3).toInt32), (yO y), (yD y), (yW y), (yB y), (yC y), (yQ y))) := hD
                        have hW : YW D cI cJ k0 b1 b2 b3 b4 b5 b6 b7 b8 (0, (yNT y), (yNO y), (yNP y), (upd (yT y) ((yNT y)).toNatClampNeg (v1).toInt32), (upd (yH y) ((yNT y)).toNatClampNeg (v3).toInt32), (yO y), (yD y), (yW y), (yB y), (yC y), (yQ y)) s H := ⟨hP, hK⟩
                        refine lv_aload_n hx hb dX1_turn_248 rfl (lv_at hl 4 rfl) ?_
                        refine lv_dup hx hb dX1_turn_249 rfl ?_
                        refine va_get (D := D) (ci := 1) (v := .int (yNT y)) (C := RX1) (T := TX1) (N := 12) hx hb hts hin hown hK hP 0 rfl rfl 1 (by decide) (hts (.fieldLink RX1 40 "TideDepthsModel" "turns" "I") (by decide +kernel)) (fun _ h9 => h9) rfl dX1_turn_250 ?_
                        refine lv_iconst (v := 1) hx hb dX1_turn_253 (by decide) ?_
                        refine lv_iadd hx hb dX1_turn_254 ?_
                        refine va_put (D := D) (ci := 1) (v := .int ((yNT y) + 1)) (ty := .int) (C := RX1) (T := TX1) (N := 12) hx hb hts hin tyX1 tyX1_ok nmX1 hown hK hP hD hS 0 rfl rfl 1 (by decide) (hts (.fieldLink RX1 40 "TideDepthsModel" "turns" "I") (by decide +kernel)) (fun _ h9 => h9) rfl (by decide +kernel) rfl rfl (Nat.le_of_ble_eq_true rfl) dX1_turn_255 (fun H locs hP hD hS => ?_)
                        have hP : va_P D cls2 (x1W cI cJ k0 b1 b2 b3 b4 b5 b6 b7 b8 (0, ((yNT y) + 1), (yNO y), (yNP y), (upd (yT y) ((yNT y)).toNatClampNeg (v1).toInt32), (upd (yH y) ((yNT y)).toNatClampNeg (v3).toInt32), (yO y), (yD y), (yW y), (yB y), (yC y), (yQ y))) H := hP
                        have hD : va_D A (x1W cI cJ k0 b1 b2 b3 b4 b5 b6 b7 b8 (0, ((yNT y) + 1), (yNO y), (yNP y), (upd (yT y) ((yNT y)).toNatClampNeg (v1).toInt32), (upd (yH y) ((yNT y)).toNatClampNeg (v3).toInt32), (yO y), (yD y), (yW y), (yB y), (yC y), (yQ y))) := hD
                        have hW : YW D cI cJ k0 b1 b2 b3 b4 b5 b6 b7 b8 (0, ((yNT y) + 1), (yNO y), (yNP y), (upd (yT y) ((yNT y)).toNatClampNeg (v1).toInt32), (upd (yH y) ((yNT y)).toNatClampNeg (v3).toInt32), (yO y), (yD y), (yW y), (yB y), (yC y), (yQ y)) s H := ⟨hP, hK⟩
                        refine lv_iconst (v := 1) hx hb dX1_turn_258 (by decide) ?_
                        exact W.iret (v := 1) hx hb hr (fun t ht hWm => ⟨⟨1, (0, ((yNT y) + 1), (yNO y), (yNP y), (upd (yT y) ((yNT y)).toNatClampNeg (v1).toInt32), (upd (yH y) ((yNT y)).toNatClampNeg (v3).toInt32), (yO y), (yD y), (yW y), (yB y), (yC y), (yQ y)), rfl, hw, by rw [ht]; exact hP, va_K.moved hWm.alike hK, hD⟩, hS.F ht⟩) hS.2.2 dX1_turn_259
                      · exact absurd c27 (by decide)
                · have hw := hw.2 c17
                  refine lv_iload hx hb dX1_turn_124 (lv_at hl 0 rfl) ?_
                  refine lv_aload_n hx hb dX1_turn_126 rfl (lv_at hl 2 rfl) ?_
                  refine va_get (D := D) (ci := 1) (v := .ref b2) (C := RX1) (T := TX1) (N := 12) hx hb hts hin hown hK hP 0 rfl rfl 5 (by decide) (hts (.fieldLink RX1 13 "TideDepthsModel" "turnHeight" "[I") (by decide +kernel)) (fun _ h9 => h9) rfl dX1_turn_127 ?_
                  refine lv_aload_n hx hb dX1_turn_130 rfl (lv_at hl 2 rfl) ?_
                  refine va_get (D := D) (ci := 1) (v := .int (yNT y)) (C := RX1) (T := TX1) (N := 12) hx hb hts hin hown hK hP 0 rfl rfl 1 (by decide) (hts (.fieldLink RX1 40 "TideDepthsModel" "turns" "I") (by decide +kernel)) (fun _ h9 => h9) rfl dX1_turn_131 ?_
                  refine lv_iconst (v := 1) hx hb dX1_turn_134 (by decide) ?_
                  refine lv_icmp_le (tgt := 147) hx hb dX1_turn_135 (by decide) (fun c30 => ?_) (fun c30 => ?_)
                  · exact absurd c30 c17
                  ·
                    refine lv_aload_n hx hb dX1_turn_138 rfl (lv_at hl 2 rfl) ?_
                    refine va_get (D := D) (ci := 1) (v := .int (yNT y)) (C := RX1) (T := TX1) (N := 12) hx hb hts hin hown hK hP 0 rfl rfl 1 (by decide) (hts (.fieldLink RX1 40 "TideDepthsModel" "turns" "I") (by decide +kernel)) (fun _ h9 => h9) rfl dX1_turn_139 ?_
                    refine lv_iconst (v := 2) hx hb dX1_turn_142 (by decide) ?_
                    refine lv_isub hx hb dX1_turn_143 ?_
                    refine lv_goto (tgt := 148) hx hb dX1_turn_144 (by decide) ?_
                    obtain ⟨h31, hw⟩ := hw
                    refine va_iald hx hb hK hP 2 0 rfl rfl h31 dX1_turn_148 ?_
                    refine lv_icmp_le (tgt := 156) hx hb dX1_turn_149 (by decide) (fun c32 => ?_) (fun c32 => ?_)
                    · have hw := hw.1 c32
                      refine lv_iconst (v := 0) hx hb dX1_turn_156 (by decide) ?_
                      refine lv_istore (lv' := [(7, .int 0), (6, .int ((yH y) (((yNT y) - 1)).toNatClampNeg)), (5, .int 1), (0, .ref k0), (1, .long v1), (3, .long v3)]) hx hb dX1_turn_157 hl (by decide) rfl (fun ls hl => ?_)
                      refine lv_aload_n hx hb dX1_turn_159 rfl (lv_at hl 3 rfl) ?_
                      refine va_get (D := D) (ci := 1) (v := .int (yNT y)) (C := RX1) (T := TX1) (N := 12) hx hb hts hin hown hK hP 0 rfl rfl 1 (by decide) (hts (.fieldLink RX1 40 "TideDepthsModel" "turns" "I") (by decide +kernel)) (fun _ h9 => h9) rfl dX1_turn_160 ?_
                      refine lv_iconst (v := 1) hx hb dX1_turn_163 (by decide) ?_
                      refine lv_icmp_ne (tgt := 183) hx hb dX1_turn_164 (by decide) (fun c33 => ?_) (fun c33 => ?_)
                      · have hw := hw.2 c33
                        refine lv_iload hx hb dX1_turn_183 (lv_at hl 0 rfl) ?_
                        refine lv_if_eq (tgt := 204) hx hb dX1_turn_185 (by decide) (fun c34 => ?_) (fun c34 => ?_)
                        ·
                          refine lv_lload_n hx hb dX1_turn_204 rfl (lv_at hl 5 rfl) ?_
                          refine lv_iload hx hb dX1_turn_205 (lv_at hl 1 rfl) ?_
                          refine lv_i2l (v := (((yH y) (((yNT y) - 1)).toNatClampNeg)).toInt64) hx hb dX1_turn_207 rfl ?_
                          refine bl_le (tgt := 216) hx hb dX1_turn_208 dX1_turn_209 (by decide) (fun c35 => ?_) (fun c35 => ?_)
                          · have hw := hw.1 c35
                            refine lv_iconst (v := 0) hx hb dX1_turn_216 (by decide) ?_
                            refine lv_istore (lv' := [(8, .int 0), (7, .int 0), (6, .int ((yH y) (((yNT y) - 1)).toNatClampNeg)), (5, .int 1), (0, .ref k0), (1, .long v1), (3, .long v3)]) hx hb dX1_turn_217 hl (by decide) rfl (fun ls hl => ?_)
                            refine lv_iload hx hb dX1_turn_219 (lv_at hl 0 rfl) ?_
                            refine lv_if_ne (tgt := 226) hx hb dX1_turn_221 (by decide) (fun c36 => ?_) (fun c36 => ?_)
                            · exact absurd (by decide) c36
                            ·
                              refine lv_iconst (v := 0) hx hb dX1_turn_224 (by decide) ?_
                              exact W.iret (v := 0) hx hb hr (fun t ht hWm => ⟨⟨0, (0, (yNT y), (yNO y), (yNP y), (yT y), (yH y), (yO y), (yD y), (yW y), (yB y), (yC y), (yQ y)), rfl, hw, by rw [ht]; exact hP, va_K.moved hWm.alike hK, hD⟩, hS.F ht⟩) hS.2.2 dX1_turn_225
                          · have hw := hw.2 c35
                            refine lv_iconst (v := 1) hx hb dX1_turn_212 (by decide) ?_
                            refine lv_goto (tgt := 217) hx hb dX1_turn_213 (by decide) ?_
                            refine lv_istore (lv' := [(8, .int 1), (7, .int 0), (6, .int ((yH y) (((yNT y) - 1)).toNatClampNeg)), (5, .int 1), (0, .ref k0), (1, .long v1), (3, .long v3)]) hx hb dX1_turn_217 hl (by decide) rfl (fun ls hl => ?_)
                            refine lv_iload hx hb dX1_turn_219 (lv_at hl 0 rfl) ?_
                            refine lv_if_ne (tgt := 226) hx hb dX1_turn_221 (by decide) (fun c37 => ?_) (fun c37 => ?_)
                            ·
                              refine lv_aload_n hx hb dX1_turn_226 rfl (lv_at hl 4 rfl) ?_
                              refine va_get (D := D) (ci := 1) (v := .ref b1) (C := RX1) (T := TX1) (N := 12) hx hb hts hin hown hK hP 0 rfl rfl 4 (by decide) (hts (.fieldLink RX1 7 "TideDepthsModel" "turnTime" "[I") (by decide +kernel)) (fun _ h9 => h9) rfl dX1_turn_227 ?_
                              refine lv_aload_n hx hb dX1_turn_230 rfl (lv_at hl 4 rfl) ?_
                              refine va_get (D := D) (ci := 1) (v := .int (yNT y)) (C := RX1) (T := TX1) (N := 12) hx hb hts hin hown hK hP 0 rfl rfl 1 (by decide) (hts (.fieldLink RX1 40 "TideDepthsModel" "turns" "I") (by decide +kernel)) (fun _ h9 => h9) rfl dX1_turn_231 ?_
                              refine lv_lload_n hx hb dX1_turn_234 rfl (lv_at hl 5 rfl) ?_
                              refine lv_l2i (v := (v1).toInt32) hx hb dX1_turn_235 rfl ?_
                              obtain ⟨h38, hw⟩ := hw
                              refine va_iast hx hb hK hP hD hS 1 0 rfl rfl h38 dX1_turn_236 (fun H locs hP hD hS => ?_)
                              have hP : va_P D cls2 (x1W cI cJ k0 b1 b2 b3 b4 b5 b6 b7 b8 (0, (yNT y), (yNO y), (yNP y), (upd (yT y) ((yNT y)).toNatClampNeg (v1).toInt32), (yH y), (yO y), (yD y), (yW y), (yB y), (yC y), (yQ y))) H := hP
                              have hD : va_D A (x1W cI cJ k0 b1 b2 b3 b4 b5 b6 b7 b8 (0, (yNT y), (yNO y), (yNP y), (upd (yT y) ((yNT y)).toNatClampNeg (v1).toInt32), (yH y), (yO y), (yD y), (yW y), (yB y), (yC y), (yQ y))) := hD
                              have hW : YW D cI cJ k0 b1 b2 b3 b4 b5 b6 b7 b8 (0, (yNT y), (yNO y), (yNP y), (upd (yT y) ((yNT y)).toNatClampNeg (v1).toInt32), (yH y), (yO y), (yD y), (yW y), (yB y), (yC y), (yQ y)) s H := ⟨hP, hK⟩
                              refine lv_aload_n hx hb dX1_turn_237 rfl (lv_at hl 4 rfl) ?_
                              refine va_get (D := D) (ci := 1) (v := .ref b2) (C := RX1) (T := TX1) (N := 12) hx hb hts hin hown hK hP 0 rfl rfl 5 (by decide) (hts (.fieldLink RX1 13 "TideDepthsModel" "turnHeight" "[I") (by decide +kernel)) (fun _ h9 => h9) rfl dX1_turn_238 ?_
                              refine lv_aload_n hx hb dX1_turn_241 rfl (lv_at hl 4 rfl) ?_
                              refine va_get (D := D) (ci := 1) (v := .int (yNT y)) (C := RX1) (T := TX1) (N := 12) hx hb hts hin hown hK hP 0 rfl rfl 1 (by decide) (hts (.fieldLink RX1 40 "TideDepthsModel" "turns" "I") (by decide +kernel)) (fun _ h9 => h9) rfl dX1_turn_242 ?_
                              refine lv_lload_n hx hb dX1_turn_245 rfl (lv_at hl 6 rfl) ?_
                              refine lv_l2i (v := (v3).toInt32) hx hb dX1_turn_246 rfl ?_
                              obtain ⟨h39, hw⟩ := hw
                              refine va_iast hx hb hK hP hD hS 2 0 rfl rfl h39 dX1_turn_247 (fun H locs hP hD hS => ?_)
                              have hP : va_P D cls2 (x1W cI cJ k0 b1 b2 b3 b4 b5 b6 b7 b8 (0, (yNT y), (yNO y), (yNP y), (upd (yT y) ((yNT y)).toNatClampNeg (v1).toInt32), (upd (yH y) ((yNT y)).toNatClampNeg (v3).toInt32), (yO y), (yD y), (yW y), (yB y), (yC y), (yQ y))) H := hP
                              have hD : va_D A (x1W cI cJ k0 b1 b2 b3 b4 b5 b6 b7 b8 (0, (yNT y), (yNO y), (yNP y), (upd (yT y) ((yNT y)).toNatClampNeg (v1).toInt32), (upd (yH y) ((yNT y)).toNatClampNeg (v3).toInt32), (yO y), (yD y), (yW y), (yB y), (yC y), (yQ y))) := hD
                              have hW : YW D cI cJ k0 b1 b2 b3 b4 b5 b6 b7 b8 (0, (yNT y), (yNO y), (yNP y), (upd (yT y) ((yNT y)).toNatClampNeg (v1).toInt32), (upd (yH y) ((yNT y)).toNatClampNeg (v3).toInt32), (yO y), (yD y), (yW y), (yB y), (yC y), (yQ y)) s H := ⟨hP, hK⟩
                              refine lv_aload_n hx hb dX1_turn_248 rfl (lv_at hl 4 rfl) ?_
                              refine lv_dup hx hb dX1_turn_249 rfl ?_
                              refine va_get (D := D) (ci := 1) (v := .int (yNT y)) (C := RX1) (T := TX1) (N := 12) hx hb hts hin hown hK hP 0 rfl rfl 1 (by decide) (hts (.fieldLink RX1 40 "TideDepthsModel" "turns" "I") (by decide +kernel)) (fun _ h9 => h9) rfl dX1_turn_250 ?_
                              refine lv_iconst (v := 1) hx hb dX1_turn_253 (by decide) ?_
                              refine lv_iadd hx hb dX1_turn_254 ?_
                              refine va_put (D := D) (ci := 1) (v := .int ((yNT y) + 1)) (ty := .int) (C := RX1) (T := TX1) (N := 12) hx hb hts hin tyX1 tyX1_ok nmX1 hown hK hP hD hS 0 rfl rfl 1 (by decide) (hts (.fieldLink RX1 40 "TideDepthsModel" "turns" "I") (by decide +kernel)) (fun _ h9 => h9) rfl (by decide +kernel) rfl rfl (Nat.le_of_ble_eq_true rfl) dX1_turn_255 (fun H locs hP hD hS => ?_)
                              have hP : va_P D cls2 (x1W cI cJ k0 b1 b2 b3 b4 b5 b6 b7 b8 (0, ((yNT y) + 1), (yNO y), (yNP y), (upd (yT y) ((yNT y)).toNatClampNeg (v1).toInt32), (upd (yH y) ((yNT y)).toNatClampNeg (v3).toInt32), (yO y), (yD y), (yW y), (yB y), (yC y), (yQ y))) H := hP
                              have hD : va_D A (x1W cI cJ k0 b1 b2 b3 b4 b5 b6 b7 b8 (0, ((yNT y) + 1), (yNO y), (yNP y), (upd (yT y) ((yNT y)).toNatClampNeg (v1).toInt32), (upd (yH y) ((yNT y)).toNatClampNeg (v3).toInt32), (yO y), (yD y), (yW y), (yB y), (yC y), (yQ y))) := hD
                              have hW : YW D cI cJ k0 b1 b2 b3 b4 b5 b6 b7 b8 (0, ((yNT y) + 1), (yNO y), (yNP y), (upd (yT y) ((yNT y)).toNatClampNeg (v1).toInt32), (upd (yH y) ((yNT y)).toNatClampNeg (v3).toInt32), (yO y), (yD y), (yW y), (yB y), (yC y), (yQ y)) s H := ⟨hP, hK⟩
                              refine lv_iconst (v := 1) hx hb dX1_turn_258 (by decide) ?_
                              exact W.iret (v := 1) hx hb hr (fun t ht hWm => ⟨⟨1, (0, ((yNT y) + 1), (yNO y), (yNP y), (upd (yT y) ((yNT y)).toNatClampNeg (v1).toInt32), (upd (yH y) ((yNT y)).toNatClampNeg (v3).toInt32), (yO y), (yD y), (yW y), (yB y), (yC y), (yQ y)), rfl, hw, by rw [ht]; exact hP, va_K.moved hWm.alike hK, hD⟩, hS.F ht⟩) hS.2.2 dX1_turn_259
                            · exact absurd c37 (by decide)
                        · exact absurd (by decide) c34
                      · have hw := hw.1 c33
                        refine lv_lload_n hx hb dX1_turn_167 rfl (lv_at hl 5 rfl) ?_
                        refine lv_iload hx hb dX1_turn_168 (lv_at hl 1 rfl) ?_
                        refine lv_i2l (v := (((yH y) (((yNT y) - 1)).toNatClampNeg)).toInt64) hx hb dX1_turn_170 rfl ?_
                        refine bl_eq (tgt := 179) hx hb dX1_turn_171 dX1_turn_172 (by decide) (fun c40 => ?_) (fun c40 => ?_)
                        · have hw := hw.1 c40
                          refine lv_iconst (v := 0) hx hb dX1_turn_179 (by decide) ?_
                          refine lv_goto (tgt := 217) hx hb dX1_turn_180 (by decide) ?_
                          refine lv_istore (lv' := [(8, .int 0), (7, .int 0), (6, .int ((yH y) (((yNT y) - 1)).toNatClampNeg)), (5, .int 1), (0, .ref k0), (1, .long v1), (3, .long v3)]) hx hb dX1_turn_217 hl (by decide) rfl (fun ls hl => ?_)
                          refine lv_iload hx hb dX1_turn_219 (lv_at hl 0 rfl) ?_
                          refine lv_if_ne (tgt := 226) hx hb dX1_turn_221 (by decide) (fun c41 => ?_) (fun c41 => ?_)
                          · exact absurd (by decide) c41
                          ·
                            refine lv_iconst (v := 0) hx hb dX1_turn_224 (by decide) ?_
                            exact W.iret (v := 0) hx hb hr (fun t ht hWm => ⟨⟨0, (0, (yNT y), (yNO y), (yNP y), (yT y), (yH y), (yO y), (yD y), (yW y), (yB y), (yC y), (yQ y)), rfl, hw, by rw [ht]; exact hP, va_K.moved hWm.alike hK, hD⟩, hS.F ht⟩) hS.2.2 dX1_turn_225
                        · have hw := hw.2 c40
                          refine lv_iconst (v := 1) hx hb dX1_turn_175 (by decide) ?_
                          refine lv_goto (tgt := 217) hx hb dX1_turn_176 (by decide) ?_
                          refine lv_istore (lv' := [(8, .int 1), (7, .int 0), (6, .int ((yH y) (((yNT y) - 1)).toNatClampNeg)), (5, .int 1), (0, .ref k0), (1, .long v1), (3, .long v3)]) hx hb dX1_turn_217 hl (by decide) rfl (fun ls hl => ?_)
                          refine lv_iload hx hb dX1_turn_219 (lv_at hl 0 rfl) ?_
                          refine lv_if_ne (tgt := 226) hx hb dX1_turn_221 (by decide) (fun c42 => ?_) (fun c42 => ?_)
                          ·
                            refine lv_aload_n hx hb dX1_turn_226 rfl (lv_at hl 4 rfl) ?_
                            refine va_get (D := D) (ci := 1) (v := .ref b1) (C := RX1) (T := TX1) (N := 12) hx hb hts hin hown hK hP 0 rfl rfl 4 (by decide) (hts (.fieldLink RX1 7 "TideDepthsModel" "turnTime" "[I") (by decide +kernel)) (fun _ h9 => h9) rfl dX1_turn_227 ?_
                            refine lv_aload_n hx hb dX1_turn_230 rfl (lv_at hl 4 rfl) ?_
                            refine va_get (D := D) (ci := 1) (v := .int (yNT y)) (C := RX1) (T := TX1) (N := 12) hx hb hts hin hown hK hP 0 rfl rfl 1 (by decide) (hts (.fieldLink RX1 40 "TideDepthsModel" "turns" "I") (by decide +kernel)) (fun _ h9 => h9) rfl dX1_turn_231 ?_
                            refine lv_lload_n hx hb dX1_turn_234 rfl (lv_at hl 5 rfl) ?_
                            refine lv_l2i (v := (v1).toInt32) hx hb dX1_turn_235 rfl ?_
                            obtain ⟨h43, hw⟩ := hw
                            refine va_iast hx hb hK hP hD hS 1 0 rfl rfl h43 dX1_turn_236 (fun H locs hP hD hS => ?_)
                            have hP : va_P D cls2 (x1W cI cJ k0 b1 b2 b3 b4 b5 b6 b7 b8 (0, (yNT y), (yNO y), (yNP y), (upd (yT y) ((yNT y)).toNatClampNeg (v1).toInt32), (yH y), (yO y), (yD y), (yW y), (yB y), (yC y), (yQ y))) H := hP
                            have hD : va_D A (x1W cI cJ k0 b1 b2 b3 b4 b5 b6 b7 b8 (0, (yNT y), (yNO y), (yNP y), (upd (yT y) ((yNT y)).toNatClampNeg (v1).toInt32), (yH y), (yO y), (yD y), (yW y), (yB y), (yC y), (yQ y))) := hD
                            have hW : YW D cI cJ k0 b1 b2 b3 b4 b5 b6 b7 b8 (0, (yNT y), (yNO y), (yNP y), (upd (yT y) ((yNT y)).toNatClampNeg (v1).toInt32), (yH y), (yO y), (yD y), (yW y), (yB y), (yC y), (yQ y)) s H := ⟨hP, hK⟩
                            refine lv_aload_n hx hb dX1_turn_237 rfl (lv_at hl 4 rfl) ?_
                            refine va_get (D := D) (ci := 1) (v := .ref b2) (C := RX1) (T := TX1) (N := 12) hx hb hts hin hown hK hP 0 rfl rfl 5 (by decide) (hts (.fieldLink RX1 13 "TideDepthsModel" "turnHeight" "[I") (by decide +kernel)) (fun _ h9 => h9) rfl dX1_turn_238 ?_
                            refine lv_aload_n hx hb dX1_turn_241 rfl (lv_at hl 4 rfl) ?_
                            refine va_get (D := D) (ci := 1) (v := .int (yNT y)) (C := RX1) (T := TX1) (N := 12) hx hb hts hin hown hK hP 0 rfl rfl 1 (by decide) (hts (.fieldLink RX1 40 "TideDepthsModel" "turns" "I") (by decide +kernel)) (fun _ h9 => h9) rfl dX1_turn_242 ?_
                            refine lv_lload_n hx hb dX1_turn_245 rfl (lv_at hl 6 rfl) ?_
                            refine lv_l2i (v := (v3).toInt32) hx hb dX1_turn_246 rfl ?_
                            obtain ⟨h44, hw⟩ := hw
                            refine va_iast hx hb hK hP hD hS 2 0 rfl rfl h44 dX1_turn_247 (fun H locs hP hD hS => ?_)
                            have hP : va_P D cls2 (x1W cI cJ k0 b1 b2 b3 b4 b5 b6 b7 b8 (0, (yNT y), (yNO y), (yNP y), (upd (yT y) ((yNT y)).toNatClampNeg (v1).toInt32), (upd (yH y) ((yNT y)).toNatClampNeg (v3).toInt32), (yO y), (yD y), (yW y), (yB y), (yC y), (yQ y))) H := hP
                            have hD : va_D A (x1W cI cJ k0 b1 b2 b3 b4 b5 b6 b7 b8 (0, (yNT y), (yNO y), (yNP y), (upd (yT y) ((yNT y)).toNatClampNeg (v1).toInt32), (upd (yH y) ((yNT y)).toNatClampNeg (v3).toInt32), (yO y), (yD y), (yW y), (yB y), (yC y), (yQ y))) := hD
                            have hW : YW D cI cJ k0 b1 b2 b3 b4 b5 b6 b7 b8 (0, (yNT y), (yNO y), (yNP y), (upd (yT y) ((yNT y)).toNatClampNeg (v1).toInt32), (upd (yH y) ((yNT y)).toNatClampNeg (v3).toInt32), (yO y), (yD y), (yW y), (yB y), (yC y), (yQ y)) s H := ⟨hP, hK⟩
                            refine lv_aload_n hx hb dX1_turn_248 rfl (lv_at hl 4 rfl) ?_
                            refine lv_dup hx hb dX1_turn_249 rfl ?_
                            refine va_get (D := D) (ci := 1) (v := .int (yNT y)) (C := RX1) (T := TX1) (N := 12) hx hb hts hin hown hK hP 0 rfl rfl 1 (by decide) (hts (.fieldLink RX1 40 "TideDepthsModel" "turns" "I") (by decide +kernel)) (fun _ h9 => h9) rfl dX1_turn_250 ?_
                            refine lv_iconst (v := 1) hx hb dX1_turn_253 (by decide) ?_
                            refine lv_iadd hx hb dX1_turn_254 ?_
                            refine va_put (D := D) (ci := 1) (v := .int ((yNT y) + 1)) (ty := .int) (C := RX1) (T := TX1) (N := 12) hx hb hts hin tyX1 tyX1_ok nmX1 hown hK hP hD hS 0 rfl rfl 1 (by decide) (hts (.fieldLink RX1 40 "TideDepthsModel" "turns" "I") (by decide +kernel)) (fun _ h9 => h9) rfl (by decide +kernel) rfl rfl (Nat.le_of_ble_eq_true rfl) dX1_turn_255 (fun H locs hP hD hS => ?_)
                            have hP : va_P D cls2 (x1W cI cJ k0 b1 b2 b3 b4 b5 b6 b7 b8 (0, ((yNT y) + 1), (yNO y), (yNP y), (upd (yT y) ((yNT y)).toNatClampNeg (v1).toInt32), (upd (yH y) ((yNT y)).toNatClampNeg (v3).toInt32), (yO y), (yD y), (yW y), (yB y), (yC y), (yQ y))) H := hP
                            have hD : va_D A (x1W cI cJ k0 b1 b2 b3 b4 b5 b6 b7 b8 (0, ((yNT y) + 1), (yNO y), (yNP y), (upd (yT y) ((yNT y)).toNatClampNeg (v1).toInt32), (upd (yH y) ((yNT y)).toNatClampNeg (v3).toInt32), (yO y), (yD y), (yW y), (yB y), (yC y), (yQ y))) := hD
                            have hW : YW D cI cJ k0 b1 b2 b3 b4 b5 b6 b7 b8 (0, ((yNT y) + 1), (yNO y), (yNP y), (upd (yT y) ((yNT y)).toNatClampNeg (v1).toInt32), (upd (yH y) ((yNT y)).toNatClampNeg (v3).toInt32), (yO y), (yD y), (yW y), (yB y), (yC y), (yQ y)) s H := ⟨hP, hK⟩
                            refine lv_iconst (v := 1) hx hb dX1_turn_258 (by decide) ?_
                            exact W.iret (v := 1) hx hb hr (fun t ht hWm => ⟨⟨1, (0, ((yNT y) + 1), (yNO y), (yNP y), (upd (yT y) ((yNT y)).toNatClampNeg (v1).toInt32), (upd (yH y) ((yNT y)).toNatClampNeg (v3).toInt32), (yO y), (yD y), (yW y), (yB y), (yC y), (yQ y)), rfl, hw, by rw [ht]; exact hP, va_K.moved hWm.alike hK, hD⟩, hS.F ht⟩) hS.2.2 dX1_turn_259
                          · exact absurd c42 (by decide)
                    · have hw := hw.2 c32
                      refine lv_iconst (v := 1) hx hb dX1_turn_152 (by decide) ?_
                      refine lv_goto (tgt := 157) hx hb dX1_turn_153 (by decide) ?_
                      refine lv_istore (lv' := [(7, .int 1), (6, .int ((yH y) (((yNT y) - 1)).toNatClampNeg)), (5, .int 1), (0, .ref k0), (1, .long v1), (3, .long v3)]) hx hb dX1_turn_157 hl (by decide) rfl (fun ls hl => ?_)
                      refine lv_aload_n hx hb dX1_turn_159 rfl (lv_at hl 3 rfl) ?_
                      refine va_get (D := D) (ci := 1) (v := .int (yNT y)) (C := RX1) (T := TX1) (N := 12) hx hb hts hin hown hK hP 0 rfl rfl 1 (by decide) (hts (.fieldLink RX1 40 "TideDepthsModel" "turns" "I") (by decide +kernel)) (fun _ h9 => h9) rfl dX1_turn_160 ?_
                      refine lv_iconst (v := 1) hx hb dX1_turn_163 (by decide) ?_
                      refine lv_icmp_ne (tgt := 183) hx hb dX1_turn_164 (by decide) (fun c45 => ?_) (fun c45 => ?_)
                      · have hw := hw.2 c45
                        refine lv_iload hx hb dX1_turn_183 (lv_at hl 0 rfl) ?_
                        refine lv_if_eq (tgt := 204) hx hb dX1_turn_185 (by decide) (fun c46 => ?_) (fun c46 => ?_)
                        · exact absurd c46 (by decide)
                        ·
                          refine lv_lload_n hx hb dX1_turn_188 rfl (lv_at hl 5 rfl) ?_
                          refine lv_iload hx hb dX1_turn_189 (lv_at hl 1 rfl) ?_
                          refine lv_i2l (v := (((yH y) (((yNT y) - 1)).toNatClampNeg)).toInt64) hx hb dX1_turn_191 rfl ?_
                          refine bl_ge (tgt := 200) hx hb dX1_turn_192 dX1_turn_193 (by decide) (fun c47 => ?_) (fun c47 => ?_)
                          · have hw := hw.1 c47
                            refine lv_iconst (v := 0) hx hb dX1_turn_200 (by decide) ?_
                            refine lv_goto (tgt := 217) hx hb dX1_turn_201 (by decide) ?_
                            refine lv_istore (lv' := [(8, .int 0), (7, .int 1), (6, .int ((yH y) (((yNT y) - 1)).toNatClampNeg)), (5, .int 1), (0, .ref k0), (1, .long v1), (3, .long v3)]) hx hb dX1_turn_217 hl (by decide) rfl (fun ls hl => ?_)
                            refine lv_iload hx hb dX1_turn_219 (lv_at hl 0 rfl) ?_
                            refine lv_if_ne (tgt := 226) hx hb dX1_turn_221 (by decide) (fun c48 => ?_) (fun c48 => ?_)
                            · exact absurd (by decide) c48
                            ·
                              refine lv_iconst (v := 0) hx hb dX1_turn_224 (by decide) ?_
                              exact W.iret (v := 0) hx hb hr (fun t ht hWm => ⟨⟨0, (0, (yNT y), (yNO y), (yNP y), (yT y), (yH y), (yO y), (yD y), (yW y), (yB y), (yC y), (yQ y)), rfl, hw, by rw [ht]; exact hP, va_K.moved hWm.alike hK, hD⟩, hS.F ht⟩) hS.2.2 dX1_turn_225
                          · have hw := hw.2 c47
                            refine lv_iconst (v := 1) hx hb dX1_turn_196 (by decide) ?_
                            refine lv_goto (tgt := 217) hx hb dX1_turn_197 (by decide) ?_
                            refine lv_istore (lv' := [(8, .int 1), (7, .int 1), (6, .int ((yH y) (((yNT y) - 1)).toNatClampNeg)), (5, .int 1), (0, .ref k0), (1, .long v1), (3, .long v3)]) hx hb dX1_turn_217 hl (by decide) rfl (fun ls hl => ?_)
                            refine lv_iload hx hb dX1_turn_219 (lv_at hl 0 rfl) ?_
                            refine lv_if_ne (tgt := 226) hx hb dX1_turn_221 (by decide) (fun c49 => ?_) (fun c49 => ?_)
                            ·
                              refine lv_aload_n hx hb dX1_turn_226 rfl (lv_at hl 4 rfl) ?_
                              refine va_get (D := D) (ci := 1) (v := .ref b1) (C := RX1) (T := TX1) (N := 12) hx hb hts hin hown hK hP 0 rfl rfl 4 (by decide) (hts (.fieldLink RX1 7 "TideDepthsModel" "turnTime" "[I") (by decide +kernel)) (fun _ h9 => h9) rfl dX1_turn_227 ?_
                              refine lv_aload_n hx hb dX1_turn_230 rfl (lv_at hl 4 rfl) ?_
                              refine va_get (D := D) (ci := 1) (v := .int (yNT y)) (C := RX1) (T := TX1) (N := 12) hx hb hts hin hown hK hP 0 rfl rfl 1 (by decide) (hts (.fieldLink RX1 40 "TideDepthsModel" "turns" "I") (by decide +kernel)) (fun _ h9 => h9) rfl dX1_turn_231 ?_
                              refine lv_lload_n hx hb dX1_turn_234 rfl (lv_at hl 5 rfl) ?_
                              refine lv_l2i (v := (v1).toInt32) hx hb dX1_turn_235 rfl ?_
                              obtain ⟨h50, hw⟩ := hw
                              refine va_iast hx hb hK hP hD hS 1 0 rfl rfl h50 dX1_turn_236 (fun H locs hP hD hS => ?_)
                              have hP : va_P D cls2 (x1W cI cJ k0 b1 b2 b3 b4 b5 b6 b7 b8 (0, (yNT y), (yNO y), (yNP y), (upd (yT y) ((yNT y)).toNatClampNeg (v1).toInt32), (yH y), (yO y), (yD y), (yW y), (yB y), (yC y), (yQ y))) H := hP
                              have hD : va_D A (x1W cI cJ k0 b1 b2 b3 b4 b5 b6 b7 b8 (0, (yNT y), (yNO y), (yNP y), (upd (yT y) ((yNT y)).toNatClampNeg (v1).toInt32), (yH y), (yO y), (yD y), (yW y), (yB y), (yC y), (yQ y))) := hD
                              have hW : YW D cI cJ k0 b1 b2 b3 b4 b5 b6 b7 b8 (0, (yNT y), (yNO y), (yNP y), (upd (yT y) ((yNT y)).toNatClampNeg (v1).toInt32), (yH y), (yO y), (yD y), (yW y), (yB y), (yC y), (yQ y)) s H := ⟨hP, hK⟩
                              refine lv_aload_n hx hb dX1_turn_237 rfl (lv_at hl 4 rfl) ?_
                              refine va_get (D := D) (ci := 1) (v := .ref b2) (C := RX1) (T := TX1) (N := 12) hx hb hts hin hown hK hP 0 rfl rfl 5 (by decide) (hts (.fieldLink RX1 13 "TideDepthsModel" "turnHeight" "[I") (by decide +kernel)) (fun _ h9 => h9) rfl dX1_turn_238 ?_
                              refine lv_aload_n hx hb dX1_turn_241 rfl (lv_at hl 4 rfl) ?_
                              refine va_get (D := D) (ci := 1) (v := .int (yNT y)) (C := RX1) (T := TX1) (N := 12) hx hb hts hin hown hK hP 0 rfl rfl 1 (by decide) (hts (.fieldLink RX1 40 "TideDepthsModel" "turns" "I") (by decide +kernel)) (fun _ h9 => h9) rfl dX1_turn_242 ?_
                              refine lv_lload_n hx hb dX1_turn_245 rfl (lv_at hl 6 rfl) ?_
                              refine lv_l2i (v := (v3).toInt32) hx hb dX1_turn_246 rfl ?_
                              obtain ⟨h51, hw⟩ := hw
                              refine va_iast hx hb hK hP hD hS 2 0 rfl rfl h51 dX1_turn_247 (fun H locs hP hD hS => ?_)
                              have hP : va_P D cls2 (x1W cI cJ k0 b1 b2 b3 b4 b5 b6 b7 b8 (0, (yNT y), (yNO y), (yNP y), (upd (yT y) ((yNT y)).toNatClampNeg (v1).toInt32), (upd (yH y) ((yNT y)).toNatClampNeg (v3).toInt32), (yO y), (yD y), (yW y), (yB y), (yC y), (yQ y))) H := hP
                              have hD : va_D A (x1W cI cJ k0 b1 b2 b3 b4 b5 b6 b7 b8 (0, (yNT y), (yNO y), (yNP y), (upd (yT y) ((yNT y)).toNatClampNeg (v1).toInt32), (upd (yH y) ((yNT y)).toNatClampNeg (v3).toInt32), (yO y), (yD y), (yW y), (yB y), (yC y), (yQ y))) := hD
                              have hW : YW D cI cJ k0 b1 b2 b3 b4 b5 b6 b7 b8 (0, (yNT y), (yNO y), (yNP y), (upd (yT y) ((yNT y)).toNatClampNeg (v1).toInt32), (upd (yH y) ((yNT y)).toNatClampNeg (v3).toInt32), (yO y), (yD y), (yW y), (yB y), (yC y), (yQ y)) s H := ⟨hP, hK⟩
                              refine lv_aload_n hx hb dX1_turn_248 rfl (lv_at hl 4 rfl) ?_
                              refine lv_dup hx hb dX1_turn_249 rfl ?_
                              refine va_get (D := D) (ci := 1) (v := .int (yNT y)) (C := RX1) (T := TX1) (N := 12) hx hb hts hin hown hK hP 0 rfl rfl 1 (by decide) (hts (.fieldLink RX1 40 "TideDepthsModel" "turns" "I") (by decide +kernel)) (fun _ h9 => h9) rfl dX1_turn_250 ?_
                              refine lv_iconst (v := 1) hx hb dX1_turn_253 (by decide) ?_
                              refine lv_iadd hx hb dX1_turn_254 ?_
                              refine va_put (D := D) (ci := 1) (v := .int ((yNT y) + 1)) (ty := .int) (C := RX1) (T := TX1) (N := 12) hx hb hts hin tyX1 tyX1_ok nmX1 hown hK hP hD hS 0 rfl rfl 1 (by decide) (hts (.fieldLink RX1 40 "TideDepthsModel" "turns" "I") (by decide +kernel)) (fun _ h9 => h9) rfl (by decide +kernel) rfl rfl (Nat.le_of_ble_eq_true rfl) dX1_turn_255 (fun H locs hP hD hS => ?_)
                              have hP : va_P D cls2 (x1W cI cJ k0 b1 b2 b3 b4 b5 b6 b7 b8 (0, ((yNT y) + 1), (yNO y), (yNP y), (upd (yT y) ((yNT y)).toNatClampNeg (v1).toInt32), (upd (yH y) ((yNT y)).toNatClampNeg (v3).toInt32), (yO y), (yD y), (yW y), (yB y), (yC y), (yQ y))) H := hP
                              have hD : va_D A (x1W cI cJ k0 b1 b2 b3 b4 b5 b6 b7 b8 (0, ((yNT y) + 1), (yNO y), (yNP y), (upd (yT y) ((yNT y)).toNatClampNeg (v1).toInt32), (upd (yH y) ((yNT y)).toNatClampNeg (v3).toInt32), (yO y), (yD y), (yW y), (yB y), (yC y), (yQ y))) := hD
                              have hW : YW D cI cJ k0 b1 b2 b3 b4 b5 b6 b7 b8 (0, ((yNT y) + 1), (yNO y), (yNP y), (upd (yT y) ((yNT y)).toNatClampNeg (v1).toInt32), (upd (yH y) ((yNT y)).toNatClampNeg (v3).toInt32), (yO y), (yD y), (yW y), (yB y), (yC y), (yQ y)) s H := ⟨hP, hK⟩
                              refine lv_iconst (v := 1) hx hb dX1_turn_258 (by decide) ?_
                              exact W.iret (v := 1) hx hb hr (fun t ht hWm => ⟨⟨1, (0, ((yNT y) + 1), (yNO y), (yNP y), (upd (yT y) ((yNT y)).toNatClampNeg (v1).toInt32), (upd (yH y) ((yNT y)).toNatClampNeg (v3).toInt32), (yO y), (yD y), (yW y), (yB y), (yC y), (yQ y)), rfl, hw, by rw [ht]; exact hP, va_K.moved hWm.alike hK, hD⟩, hS.F ht⟩) hS.2.2 dX1_turn_259
                            · exact absurd c49 (by decide)
                      · have hw := hw.1 c45
                        refine lv_lload_n hx hb dX1_turn_167 rfl (lv_at hl 5 rfl) ?_
                        refine lv_iload hx hb dX1_turn_168 (lv_at hl 1 rfl) ?_
                        refine lv_i2l (v := (((yH y) (((yNT y) - 1)).toNatClampNeg)).toInt64) hx hb dX1_turn_170 rfl ?_
                        refine bl_eq (tgt := 179) hx hb dX1_turn_171 dX1_turn_172 (by decide) (fun c52 => ?_) (fun c52 => ?_)
                        · have hw := hw.1 c52
                          refine lv_iconst (v := 0) hx hb dX1_turn_179 (by decide) ?_
                          refine lv_goto (tgt := 217) hx hb dX1_turn_180 (by decide) ?_
                          refine lv_istore (lv' := [(8, .int 0), (7, .int 1), (6, .int ((yH y) (((yNT y) - 1)).toNatClampNeg)), (5, .int 1), (0, .ref k0), (1, .long v1), (3, .long v3)]) hx hb dX1_turn_217 hl (by decide) rfl (fun ls hl => ?_)
                          refine lv_iload hx hb dX1_turn_219 (lv_at hl 0 rfl) ?_
                          refine lv_if_ne (tgt := 226) hx hb dX1_turn_221 (by decide) (fun c53 => ?_) (fun c53 => ?_)
                          · exact absurd (by decide) c53
                          ·
                            refine lv_iconst (v := 0) hx hb dX1_turn_224 (by decide) ?_
                            exact W.iret (v := 0) hx hb hr (fun t ht hWm => ⟨⟨0, (0, (yNT y), (yNO y), (yNP y), (yT y), (yH y), (yO y), (yD y), (yW y), (yB y), (yC y), (yQ y)), rfl, hw, by rw [ht]; exact hP, va_K.moved hWm.alike hK, hD⟩, hS.F ht⟩) hS.2.2 dX1_turn_225
                        · have hw := hw.2 c52
                          refine lv_iconst (v := 1) hx hb dX1_turn_175 (by decide) ?_
                          refine lv_goto (tgt := 217) hx hb dX1_turn_176 (by decide) ?_
                          refine lv_istore (lv' := [(8, .int 1), (7, .int 1), (6, .int ((yH y) (((yNT y) - 1)).toNatClampNeg)), (5, .int 1), (0, .ref k0), (1, .long v1), (3, .long v3)]) hx hb dX1_turn_217 hl (by decide) rfl (fun ls hl => ?_)
                          refine lv_iload hx hb dX1_turn_219 (lv_at hl 0 rfl) ?_
                          refine lv_if_ne (tgt := 226) hx hb dX1_turn_221 (by decide) (fun c54 => ?_) (fun c54 => ?_)
                          ·
                            refine lv_aload_n hx hb dX1_turn_226 rfl (lv_at hl 4 rfl) ?_
                            refine va_get (D := D) (ci := 1) (v := .ref b1) (C := RX1) (T := TX1) (N := 12) hx hb hts hin hown hK hP 0 rfl rfl 4 (by decide) (hts (.fieldLink RX1 7 "TideDepthsModel" "turnTime" "[I") (by decide +kernel)) (fun _ h9 => h9) rfl dX1_turn_227 ?_
                            refine lv_aload_n hx hb dX1_turn_230 rfl (lv_at hl 4 rfl) ?_
                            refine va_get (D := D) (ci := 1) (v := .int (yNT y)) (C := RX1) (T := TX1) (N := 12) hx hb hts hin hown hK hP 0 rfl rfl 1 (by decide) (hts (.fieldLink RX1 40 "TideDepthsModel" "turns" "I") (by decide +kernel)) (fun _ h9 => h9) rfl dX1_turn_231 ?_
                            refine lv_lload_n hx hb dX1_turn_234 rfl (lv_at hl 5 rfl) ?_
                            refine lv_l2i (v := (v1).toInt32) hx hb dX1_turn_235 rfl ?_
                            obtain ⟨h55, hw⟩ := hw
                            refine va_iast hx hb hK hP hD hS 1 0 rfl rfl h55 dX1_turn_236 (fun H locs hP hD hS => ?_)
                            have hP : va_P D cls2 (x1W cI cJ k0 b1 b2 b3 b4 b5 b6 b7 b8 (0, (yNT y), (yNO y), (yNP y), (upd (yT y) ((yNT y)).toNatClampNeg (v1).toInt32), (yH y), (yO y), (yD y), (yW y), (yB y), (yC y), (yQ y))) H := hP
                            have hD : va_D A (x1W cI cJ k0 b1 b2 b3 b4 b5 b6 b7 b8 (0, (yNT y), (yNO y), (yNP y), (upd (yT y) ((yNT y)).toNatClampNeg (v1).toInt32), (yH y), (yO y), (yD y), (yW y), (yB y), (yC y), (yQ y))) := hD
                            have hW : YW D cI cJ k0 b1 b2 b3 b4 b5 b6 b7 b8 (0, (yNT y), (yNO y), (yNP y), (upd (yT y) ((yNT y)).toNatClampNeg (v1).toInt32), (yH y), (yO y), (yD y), (yW y), (yB y), (yC y), (yQ y)) s H := ⟨hP, hK⟩
                            refine lv_aload_n hx hb dX1_turn_237 rfl (lv_at hl 4 rfl) ?_
                            refine va_get (D := D) (ci := 1) (v := .ref b2) (C := RX1) (T := TX1) (N := 12) hx hb hts hin hown hK hP 0 rfl rfl 5 (by decide) (hts (.fieldLink RX1 13 "TideDepthsModel" "turnHeight" "[I") (by decide +kernel)) (fun _ h9 => h9) rfl dX1_turn_238 ?_
                            refine lv_aload_n hx hb dX1_turn_241 rfl (lv_at hl 4 rfl) ?_
                            refine va_get (D := D) (ci := 1) (v := .int (yNT y)) (C := RX1) (T := TX1) (N := 12) hx hb hts hin hown hK hP 0 rfl rfl 1 (by decide) (hts (.fieldLink RX1 40 "TideDepthsModel" "turns" "I") (by decide +kernel)) (fun _ h9 => h9) rfl dX1_turn_242 ?_
                            refine lv_lload_n hx hb dX1_turn_245 rfl (lv_at hl 6 rfl) ?_
                            refine lv_l2i (v := (v3).toInt32) hx hb dX1_turn_246 rfl ?_
                            obtain ⟨h56, hw⟩ := hw
                            refine va_iast hx hb hK hP hD hS 2 0 rfl rfl h56 dX1_turn_247 (fun H locs hP hD hS => ?_)
                            have hP : va_P D cls2 (x1W cI cJ k0 b1 b2 b3 b4 b5 b6 b7 b8 (0, (yNT y), (yNO y), (yNP y), (upd (yT y) ((yNT y)).toNatClampNeg (v1).toInt32), (upd (yH y) ((yNT y)).toNatClampNeg (v3).toInt32), (yO y), (yD y), (yW y), (yB y), (yC y), (yQ y))) H := hP
                            have hD : va_D A (x1W cI cJ k0 b1 b2 b3 b4 b5 b6 b7 b8 (0, (yNT y), (yNO y), (yNP y), (upd (yT y) ((yNT y)).toNatClampNeg (v1).toInt32), (upd (yH y) ((yNT y)).toNatClampNeg (v3).toInt32), (yO y), (yD y), (yW y), (yB y), (yC y), (yQ y))) := hD
                            have hW : YW D cI cJ k0 b1 b2 b3 b4 b5 b6 b7 b8 (0, (yNT y), (yNO y), (yNP y), (upd (yT y) ((yNT y)).toNatClampNeg (v1).toInt32), (upd (yH y) ((yNT y)).toNatClampNeg (v3).toInt32), (yO y), (yD y), (yW y), (yB y), (yC y), (yQ y)) s H := ⟨hP, hK⟩
                            refine lv_aload_n hx hb dX1_turn_248 rfl (lv_at hl 4 rfl) ?_
                            refine lv_dup hx hb dX1_turn_249 rfl ?_
                            refine va_get (D := D) (ci := 1) (v := .int (yNT y)) (C := RX1) (T := TX1) (N := 12) hx hb hts hin hown hK hP 0 rfl rfl 1 (by decide) (hts (.fieldLink RX1 40 "TideDepthsModel" "turns" "I") (by decide +kernel)) (fun _ h9 => h9) rfl dX1_turn_250 ?_
                            refine lv_iconst (v := 1) hx hb dX1_turn_253 (by decide) ?_
                            refine lv_iadd hx hb dX1_turn_254 ?_
                            refine va_put (D := D) (ci := 1) (v := .int ((yNT y) + 1)) (ty := .int) (C := RX1) (T := TX1) (N := 12) hx hb hts hin tyX1 tyX1_ok nmX1 hown hK hP hD hS 0 rfl rfl 1 (by decide) (hts (.fieldLink RX1 40 "TideDepthsModel" "turns" "I") (by decide +kernel)) (fun _ h9 => h9) rfl (by decide +kernel) rfl rfl (Nat.le_of_ble_eq_true rfl) dX1_turn_255 (fun H locs hP hD hS => ?_)
                            have hP : va_P D cls2 (x1W cI cJ k0 b1 b2 b3 b4 b5 b6 b7 b8 (0, ((yNT y) + 1), (yNO y), (yNP y), (upd (yT y) ((yNT y)).toNatClampNeg (v1).toInt32), (upd (yH y) ((yNT y)).toNatClampNeg (v3).toInt32), (yO y), (yD y), (yW y), (yB y), (yC y), (yQ y))) H := hP
                            have hD : va_D A (x1W cI cJ k0 b1 b2 b3 b4 b5 b6 b7 b8 (0, ((yNT y) + 1), (yNO y), (yNP y), (upd (yT y) ((yNT y)).toNatClampNeg (v1).toInt32), (upd (yH y) ((yNT y)).toNatClampNeg (v3).toInt32), (yO y), (yD y), (yW y), (yB y), (yC y), (yQ y))) := hD
                            have hW : YW D cI cJ k0 b1 b2 b3 b4 b5 b6 b7 b8 (0, ((yNT y) + 1), (yNO y), (yNP y), (upd (yT y) ((yNT y)).toNatClampNeg (v1).toInt32), (upd (yH y) ((yNT y)).toNatClampNeg (v3).toInt32), (yO y), (yD y), (yW y), (yB y), (yC y), (yQ y)) s H := ⟨hP, hK⟩
                            refine lv_iconst (v := 1) hx hb dX1_turn_258 (by decide) ?_
                            exact W.iret (v := 1) hx hb hr (fun t ht hWm => ⟨⟨1, (0, ((yNT y) + 1), (yNO y), (yNP y), (upd (yT y) ((yNT y)).toNatClampNeg (v1).toInt32), (upd (yH y) ((yNT y)).toNatClampNeg (v3).toInt32), (yO y), (yD y), (yW y), (yB y), (yC y), (yQ y)), rfl, hw, by rw [ht]; exact hP, va_K.moved hWm.alike hK, hD⟩, hS.F ht⟩) hS.2.2 dX1_turn_259
                          · exact absurd c54 (by decide)
            · exact absurd (by decide) c12
          · have hw := hw.1 c11
            refine lv_iconst (v := 2) hx hb dX1_turn_79 (by decide) ?_
            refine lv_goto (tgt := 84) hx hb dX1_turn_80 (by decide) ?_
            refine va_put (D := D) (ci := 1) (v := .int 2) (ty := .int) (C := RX1) (T := TX1) (N := 12) hx hb hts hin tyX1 tyX1_ok nmX1 hown hK hP hD hS 0 rfl rfl 0 (by decide) (hts (.fieldLink RX1 36 "TideDepthsModel" "thrown" "I") (by decide +kernel)) (fun _ h9 => h9) rfl (by decide +kernel) rfl rfl (Nat.le_of_ble_eq_true rfl) dX1_turn_84 (fun H locs hP hD hS => ?_)
            have hP : va_P D cls2 (x1W cI cJ k0 b1 b2 b3 b4 b5 b6 b7 b8 (2, (yNT y), (yNO y), (yNP y), (yT y), (yH y), (yO y), (yD y), (yW y), (yB y), (yC y), (yQ y))) H := hP
            have hD : va_D A (x1W cI cJ k0 b1 b2 b3 b4 b5 b6 b7 b8 (2, (yNT y), (yNO y), (yNP y), (yT y), (yH y), (yO y), (yD y), (yW y), (yB y), (yC y), (yQ y))) := hD
            have hW : YW D cI cJ k0 b1 b2 b3 b4 b5 b6 b7 b8 (2, (yNT y), (yNO y), (yNP y), (yT y), (yH y), (yO y), (yD y), (yW y), (yB y), (yC y), (yQ y)) s H := ⟨hP, hK⟩
            refine lv_aload_n hx hb dX1_turn_87 rfl (lv_at hl 1 rfl) ?_
            refine va_get (D := D) (ci := 1) (v := .int 2) (C := RX1) (T := TX1) (N := 12) hx hb hts hin hown hK hP 0 rfl rfl 0 (by decide) (hts (.fieldLink RX1 36 "TideDepthsModel" "thrown" "I") (by decide +kernel)) (fun _ h9 => h9) rfl dX1_turn_88 ?_
            refine lv_if_le (tgt := 96) hx hb dX1_turn_91 (by decide) (fun c57 => ?_) (fun c57 => ?_)
            · exact absurd c57 (by decide)
            ·
              refine lv_iconst (v := 0) hx hb dX1_turn_94 (by decide) ?_
              exact W.iret (v := 0) hx hb hr (fun t ht hWm => ⟨⟨0, (2, (yNT y), (yNO y), (yNP y), (yT y), (yH y), (yO y), (yD y), (yW y), (yB y), (yC y), (yQ y)), rfl, hw, by rw [ht]; exact hP, va_K.moved hWm.alike hK, hD⟩, hS.F ht⟩) hS.2.2 dX1_turn_95
        · exact absurd c10 (by decide)
      · have hw := hw.2 c9
        refine lv_lload_n hx hb dX1_turn_25 rfl (lv_at hl 1 rfl) ?_
        refine lv_aload_n hx hb dX1_turn_26 rfl (lv_at hl 0 rfl) ?_
        refine va_get (D := D) (ci := 1) (v := .ref b1) (C := RX1) (T := TX1) (N := 12) hx hb hts hin hown hK hP 0 rfl rfl 4 (by decide) (hts (.fieldLink RX1 7 "TideDepthsModel" "turnTime" "[I") (by decide +kernel)) (fun _ h9 => h9) rfl dX1_turn_27 ?_
        refine lv_aload_n hx hb dX1_turn_30 rfl (lv_at hl 0 rfl) ?_
        refine va_get (D := D) (ci := 1) (v := .int (yNT y)) (C := RX1) (T := TX1) (N := 12) hx hb hts hin hown hK hP 0 rfl rfl 1 (by decide) (hts (.fieldLink RX1 40 "TideDepthsModel" "turns" "I") (by decide +kernel)) (fun _ h9 => h9) rfl dX1_turn_31 ?_
        refine lv_if_le (tgt := 46) hx hb dX1_turn_34 (by decide) (fun c58 => ?_) (fun c58 => ?_)
        · have hw := hw.1 c58
          refine lv_iconst (v := 0) hx hb dX1_turn_46 (by decide) ?_
          refine va_iald hx hb hK hP 1 0 rfl rfl (by unfold vp_in; decide) dX1_turn_47 ?_
          rw [show Int32.toNatClampNeg 0 = 0 from by decide]
          refine lv_i2l (v := (((yT y) 0)).toInt64) hx hb dX1_turn_48 rfl ?_
          refine bl_le (tgt := 57) hx hb dX1_turn_49 dX1_turn_50 (by decide) (fun c59 => ?_) (fun c59 => ?_)
          · have hw := hw.1 c59
            refine lv_iconst (v := 0) hx hb dX1_turn_57 (by decide) ?_
            refine lv_istore (lv' := [(5, .int 0), (0, .ref k0), (1, .long v1), (3, .long v3)]) hx hb dX1_turn_58 hl (by decide) rfl (fun ls hl => ?_)
            refine lv_aload_n hx hb dX1_turn_60 rfl (lv_at hl 1 rfl) ?_
            refine lv_iload hx hb dX1_turn_61 (lv_at hl 0 rfl) ?_
            refine lv_if_ne (tgt := 70) hx hb dX1_turn_63 (by decide) (fun c60 => ?_) (fun c60 => ?_)
            · exact absurd (by decide) c60
            ·
              refine lv_iconst (v := 1) hx hb dX1_turn_66 (by decide) ?_
              refine lv_goto (tgt := 84) hx hb dX1_turn_67 (by decide) ?_
              refine va_put (D := D) (ci := 1) (v := .int 1) (ty := .int) (C := RX1) (T := TX1) (N := 12) hx hb hts hin tyX1 tyX1_ok nmX1 hown hK hP hD hS 0 rfl rfl 0 (by decide) (hts (.fieldLink RX1 36 "TideDepthsModel" "thrown" "I") (by decide +kernel)) (fun _ h9 => h9) rfl (by decide +kernel) rfl rfl (Nat.le_of_ble_eq_true rfl) dX1_turn_84 (fun H locs hP hD hS => ?_)
              have hP : va_P D cls2 (x1W cI cJ k0 b1 b2 b3 b4 b5 b6 b7 b8 (1, (yNT y), (yNO y), (yNP y), (yT y), (yH y), (yO y), (yD y), (yW y), (yB y), (yC y), (yQ y))) H := hP
              have hD : va_D A (x1W cI cJ k0 b1 b2 b3 b4 b5 b6 b7 b8 (1, (yNT y), (yNO y), (yNP y), (yT y), (yH y), (yO y), (yD y), (yW y), (yB y), (yC y), (yQ y))) := hD
              have hW : YW D cI cJ k0 b1 b2 b3 b4 b5 b6 b7 b8 (1, (yNT y), (yNO y), (yNP y), (yT y), (yH y), (yO y), (yD y), (yW y), (yB y), (yC y), (yQ y)) s H := ⟨hP, hK⟩
              refine lv_aload_n hx hb dX1_turn_87 rfl (lv_at hl 1 rfl) ?_
              refine va_get (D := D) (ci := 1) (v := .int 1) (C := RX1) (T := TX1) (N := 12) hx hb hts hin hown hK hP 0 rfl rfl 0 (by decide) (hts (.fieldLink RX1 36 "TideDepthsModel" "thrown" "I") (by decide +kernel)) (fun _ h9 => h9) rfl dX1_turn_88 ?_
              refine lv_if_le (tgt := 96) hx hb dX1_turn_91 (by decide) (fun c61 => ?_) (fun c61 => ?_)
              · exact absurd c61 (by decide)
              ·
                refine lv_iconst (v := 0) hx hb dX1_turn_94 (by decide) ?_
                exact W.iret (v := 0) hx hb hr (fun t ht hWm => ⟨⟨0, (1, (yNT y), (yNO y), (yNP y), (yT y), (yH y), (yO y), (yD y), (yW y), (yB y), (yC y), (yQ y)), rfl, hw, by rw [ht]; exact hP, va_K.moved hWm.alike hK, hD⟩, hS.F ht⟩) hS.2.2 dX1_turn_95
          · have hw := hw.2 c59
            refine lv_iconst (v := 1) hx hb dX1_turn_53 (by decide) ?_
            refine lv_goto (tgt := 58) hx hb dX1_turn_54 (by decide) ?_
            refine lv_istore (lv' := [(5, .int 1), (0, .ref k0), (1, .long v1), (3, .long v3)]) hx hb dX1_turn_58 hl (by decide) rfl (fun ls hl => ?_)
            refine lv_aload_n hx hb dX1_turn_60 rfl (lv_at hl 1 rfl) ?_
            refine lv_iload hx hb dX1_turn_61 (lv_at hl 0 rfl) ?_
            refine lv_if_ne (tgt := 70) hx hb dX1_turn_63 (by decide) (fun c62 => ?_) (fun c62 => ?_)
            ·
              refine lv_aload_n hx hb dX1_turn_70 rfl (lv_at hl 1 rfl) ?_
              refine va_get (D := D) (ci := 1) (v := .int (yNT y)) (C := RX1) (T := TX1) (N := 12) hx hb hts hin hown hK hP 0 rfl rfl 1 (by decide) (hts (.fieldLink RX1 40 "TideDepthsModel" "turns" "I") (by decide +kernel)) (fun _ h9 => h9) rfl dX1_turn_71 ?_
              refine lv_bipush (v := 40) hx hb dX1_turn_74 (by decide) ?_
              refine lv_icmp_ne (tgt := 83) hx hb dX1_turn_76 (by decide) (fun c63 => ?_) (fun c63 => ?_)
              · have hw := hw.2 c63
                refine lv_iconst (v := 0) hx hb dX1_turn_83 (by decide) ?_
                refine va_put (D := D) (ci := 1) (v := .int 0) (ty := .int) (C := RX1) (T := TX1) (N := 12) hx hb hts hin tyX1 tyX1_ok nmX1 hown hK hP hD hS 0 rfl rfl 0 (by decide) (hts (.fieldLink RX1 36 "TideDepthsModel" "thrown" "I") (by decide +kernel)) (fun _ h9 => h9) rfl (by decide +kernel) rfl rfl (Nat.le_of_ble_eq_true rfl) dX1_turn_84 (fun H locs hP hD hS => ?_)
                have hP : va_P D cls2 (x1W cI cJ k0 b1 b2 b3 b4 b5 b6 b7 b8 (0, (yNT y), (yNO y), (yNP y), (yT y), (yH y), (yO y), (yD y), (yW y), (yB y), (yC y), (yQ y))) H := hP
                have hD : va_D A (x1W cI cJ k0 b1 b2 b3 b4 b5 b6 b7 b8 (0, (yNT y), (yNO y), (yNP y), (yT y), (yH y), (yO y), (yD y), (yW y), (yB y), (yC y), (yQ y))) := hD
                have hW : YW D cI cJ k0 b1 b2 b3 b4 b5 b6 b7 b8 (0, (yNT y), (yNO y), (yNP y), (yT y), (yH y), (yO y), (yD y), (yW y), (yB y), (yC y), (yQ y)) s H := ⟨hP, hK⟩
                refine lv_aload_n hx hb dX1_turn_87 rfl (lv_at hl 1 rfl) ?_
                refine va_get (D := D) (ci := 1) (v := .int 0) (C := RX1) (T := TX1) (N := 12) hx hb hts hin hown hK hP 0 rfl rfl 0 (by decide) (hts (.fieldLink RX1 36 "TideDepthsModel" "thrown" "I") (by decide +kernel)) (fun _ h9 => h9) rfl dX1_turn_88 ?_
                refine lv_if_le (tgt := 96) hx hb dX1_turn_91 (by decide) (fun c64 => ?_) (fun c64 => ?_)
                ·
                  refine lv_aload_n hx hb dX1_turn_96 rfl (lv_at hl 1 rfl) ?_
                  refine va_get (D := D) (ci := 1) (v := .int (yNT y)) (C := RX1) (T := TX1) (N := 12) hx hb hts hin hown hK hP 0 rfl rfl 1 (by decide) (hts (.fieldLink RX1 40 "TideDepthsModel" "turns" "I") (by decide +kernel)) (fun _ h9 => h9) rfl dX1_turn_97 ?_
                  refine lv_if_le (tgt := 226) hx hb dX1_turn_100 (by decide) (fun c65 => ?_) (fun c65 => ?_)
                  ·
                    refine lv_aload_n hx hb dX1_turn_226 rfl (lv_at hl 1 rfl) ?_
                    refine va_get (D := D) (ci := 1) (v := .ref b1) (C := RX1) (T := TX1) (N := 12) hx hb hts hin hown hK hP 0 rfl rfl 4 (by decide) (hts (.fieldLink RX1 7 "TideDepthsModel" "turnTime" "[I") (by decide +kernel)) (fun _ h9 => h9) rfl dX1_turn_227 ?_
                    refine lv_aload_n hx hb dX1_turn_230 rfl (lv_at hl 1 rfl) ?_
                    refine va_get (D := D) (ci := 1) (v := .int (yNT y)) (C := RX1) (T := TX1) (N := 12) hx hb hts hin hown hK hP 0 rfl rfl 1 (by decide) (hts (.fieldLink RX1 40 "TideDepthsModel" "turns" "I") (by decide +kernel)) (fun _ h9 => h9) rfl dX1_turn_231 ?_
                    refine lv_lload_n hx hb dX1_turn_234 rfl (lv_at hl 2 rfl) ?_
                    refine lv_l2i (v := (v1).toInt32) hx hb dX1_turn_235 rfl ?_
                    obtain ⟨h66, hw⟩ := hw
                    refine va_iast hx hb hK hP hD hS 1 0 rfl rfl h66 dX1_turn_236 (fun H locs hP hD hS => ?_)
                    have hP : va_P D cls2 (x1W cI cJ k0 b1 b2 b3 b4 b5 b6 b7 b8 (0, (yNT y), (yNO y), (yNP y), (upd (yT y) ((yNT y)).toNatClampNeg (v1).toInt32), (yH y), (yO y), (yD y), (yW y), (yB y), (yC y), (yQ y))) H := hP
                    have hD : va_D A (x1W cI cJ k0 b1 b2 b3 b4 b5 b6 b7 b8 (0, (yNT y), (yNO y), (yNP y), (upd (yT y) ((yNT y)).toNatClampNeg (v1).toInt32), (yH y), (yO y), (yD y), (yW y), (yB y), (yC y), (yQ y))) := hD
                    have hW : YW D cI cJ k0 b1 b2 b3 b4 b5 b6 b7 b8 (0, (yNT y), (yNO y), (yNP y), (upd (yT y) ((yNT y)).toNatClampNeg (v1).toInt32), (yH y), (yO y), (yD y), (yW y), (yB y), (yC y), (yQ y)) s H := ⟨hP, hK⟩
                    refine lv_aload_n hx hb dX1_turn_237 rfl (lv_at hl 1 rfl) ?_
                    refine va_get (D := D) (ci := 1) (v := .ref b2) (C := RX1) (T := TX1) (N := 12) hx hb hts hin hown hK hP 0 rfl rfl 5 (by decide) (hts (.fieldLink RX1 13 "TideDepthsModel" "turnHeight" "[I") (by decide +kernel)) (fun _ h9 => h9) rfl dX1_turn_238 ?_
                    refine lv_aload_n hx hb dX1_turn_241 rfl (lv_at hl 1 rfl) ?_
                    refine va_get (D := D) (ci := 1) (v := .int (yNT y)) (C := RX1) (T := TX1) (N := 12) hx hb hts hin hown hK hP 0 rfl rfl 1 (by decide) (hts (.fieldLink RX1 40 "TideDepthsModel" "turns" "I") (by decide +kernel)) (fun _ h9 => h9) rfl dX1_turn_242 ?_
                    refine lv_lload_n hx hb dX1_turn_245 rfl (lv_at hl 3 rfl) ?_
                    refine lv_l2i (v := (v3).toInt32) hx hb dX1_turn_246 rfl ?_
                    obtain ⟨h67, hw⟩ := hw
                    refine va_iast hx hb hK hP hD hS 2 0 rfl rfl h67 dX1_turn_247 (fun H locs hP hD hS => ?_)
                    have hP : va_P D cls2 (x1W cI cJ k0 b1 b2 b3 b4 b5 b6 b7 b8 (0, (yNT y), (yNO y), (yNP y), (upd (yT y) ((yNT y)).toNatClampNeg (v1).toInt32), (upd (yH y) ((yNT y)).toNatClampNeg (v3).toInt32), (yO y), (yD y), (yW y), (yB y), (yC y), (yQ y))) H := hP
                    have hD : va_D A (x1W cI cJ k0 b1 b2 b3 b4 b5 b6 b7 b8 (0, (yNT y), (yNO y), (yNP y), (upd (yT y) ((yNT y)).toNatClampNeg (v1).toInt32), (upd (yH y) ((yNT y)).toNatClampNeg (v3).toInt32), (yO y), (yD y), (yW y), (yB y), (yC y), (yQ y))) := hD
                    have hW : YW D cI cJ k0 b1 b2 b3 b4 b5 b6 b7 b8 (0, (yNT y), (yNO y), (yNP y), (upd (yT y) ((yNT y)).toNatClampNeg (v1).toInt32), (upd (yH y) ((yNT y)).toNatClampNeg (v3).toInt32), (yO y), (yD y), (yW y), (yB y), (yC y), (yQ y)) s H := ⟨hP, hK⟩
                    refine lv_aload_n hx hb dX1_turn_248 rfl (lv_at hl 1 rfl) ?_
                    refine lv_dup hx hb dX1_turn_249 rfl ?_
                    refine va_get (D := D) (ci := 1) (v := .int (yNT y)) (C := RX1) (T := TX1) (N := 12) hx hb hts hin hown hK hP 0 rfl rfl 1 (by decide) (hts (.fieldLink RX1 40 "TideDepthsModel" "turns" "I") (by decide +kernel)) (fun _ h9 => h9) rfl dX1_turn_250 ?_
                    refine lv_iconst (v := 1) hx hb dX1_turn_253 (by decide) ?_
                    refine lv_iadd hx hb dX1_turn_254 ?_
                    refine va_put (D := D) (ci := 1) (v := .int ((yNT y) + 1)) (ty := .int) (C := RX1) (T := TX1) (N := 12) hx hb hts hin tyX1 tyX1_ok nmX1 hown hK hP hD hS 0 rfl rfl 1 (by decide) (hts (.fieldLink RX1 40 "TideDepthsModel" "turns" "I") (by decide +kernel)) (fun _ h9 => h9) rfl (by decide +kernel) rfl rfl (Nat.le_of_ble_eq_true rfl) dX1_turn_255 (fun H locs hP hD hS => ?_)
                    have hP : va_P D cls2 (x1W cI cJ k0 b1 b2 b3 b4 b5 b6 b7 b8 (0, ((yNT y) + 1), (yNO y), (yNP y), (upd (yT y) ((yNT y)).toNatClampNeg (v1).toInt32), (upd (yH y) ((yNT y)).toNatClampNeg (v3).toInt32), (yO y), (yD y), (yW y), (yB y), (yC y), (yQ y))) H := hP
                    have hD : va_D A (x1W cI cJ k0 b1 b2 b3 b4 b5 b6 b7 b8 (0, ((yNT y) + 1), (yNO y), (yNP y), (upd (yT y) ((yNT y)).toNatClampNeg (v1).toInt32), (upd (yH y) ((yNT y)).toNatClampNeg (v3).toInt32), (yO y), (yD y), (yW y), (yB y), (yC y), (yQ y))) := hD
                    have hW : YW D cI cJ k0 b1 b2 b3 b4 b5 b6 b7 b8 (0, ((yNT y) + 1), (yNO y), (yNP y), (upd (yT y) ((yNT y)).toNatClampNeg (v1).toInt32), (upd (yH y) ((yNT y)).toNatClampNeg (v3).toInt32), (yO y), (yD y), (yW y), (yB y), (yC y), (yQ y)) s H := ⟨hP, hK⟩
                    refine lv_iconst (v := 1) hx hb dX1_turn_258 (by decide) ?_
                    exact W.iret (v := 1) hx hb hr (fun t ht hWm => ⟨⟨1, (0, ((yNT y) + 1), (yNO y), (yNP y), (upd (yT y) ((yNT y)).toNatClampNeg (v1).toInt32), (upd (yH y) ((yNT y)).toNatClampNeg (v3).toInt32), (yO y), (yD y), (yW y), (yB y), (yC y), (yQ y)), rfl, hw, by rw [ht]; exact hP, va_K.moved hWm.alike hK, hD⟩, hS.F ht⟩) hS.2.2 dX1_turn_259
                  · exact absurd c58 c65
                · exact absurd (by decide) c64
              · have hw := hw.1 c63
                refine lv_iconst (v := 2) hx hb dX1_turn_79 (by decide) ?_
                refine lv_goto (tgt := 84) hx hb dX1_turn_80 (by decide) ?_
                refine va_put (D := D) (ci := 1) (v := .int 2) (ty := .int) (C := RX1) (T := TX1) (N := 12) hx hb hts hin tyX1 tyX1_ok nmX1 hown hK hP hD hS 0 rfl rfl 0 (by decide) (hts (.fieldLink RX1 36 "TideDepthsModel" "thrown" "I") (by decide +kernel)) (fun _ h9 => h9) rfl (by decide +kernel) rfl rfl (Nat.le_of_ble_eq_true rfl) dX1_turn_84 (fun H locs hP hD hS => ?_)
                have hP : va_P D cls2 (x1W cI cJ k0 b1 b2 b3 b4 b5 b6 b7 b8 (2, (yNT y), (yNO y), (yNP y), (yT y), (yH y), (yO y), (yD y), (yW y), (yB y), (yC y), (yQ y))) H := hP
                have hD : va_D A (x1W cI cJ k0 b1 b2 b3 b4 b5 b6 b7 b8 (2, (yNT y), (yNO y), (yNP y), (yT y), (yH y), (yO y), (yD y), (yW y), (yB y), (yC y), (yQ y))) := hD
                have hW : YW D cI cJ k0 b1 b2 b3 b4 b5 b6 b7 b8 (2, (yNT y), (yNO y), (yNP y), (yT y), (yH y), (yO y), (yD y), (yW y), (yB y), (yC y), (yQ y)) s H := ⟨hP, hK⟩
                refine lv_aload_n hx hb dX1_turn_87 rfl (lv_at hl 1 rfl) ?_
                refine va_get (D := D) (ci := 1) (v := .int 2) (C := RX1) (T := TX1) (N := 12) hx hb hts hin hown hK hP 0 rfl rfl 0 (by decide) (hts (.fieldLink RX1 36 "TideDepthsModel" "thrown" "I") (by decide +kernel)) (fun _ h9 => h9) rfl dX1_turn_88 ?_
                refine lv_if_le (tgt := 96) hx hb dX1_turn_91 (by decide) (fun c68 => ?_) (fun c68 => ?_)
                · exact absurd c68 (by decide)
                ·
                  refine lv_iconst (v := 0) hx hb dX1_turn_94 (by decide) ?_
                  exact W.iret (v := 0) hx hb hr (fun t ht hWm => ⟨⟨0, (2, (yNT y), (yNO y), (yNP y), (yT y), (yH y), (yO y), (yD y), (yW y), (yB y), (yC y), (yQ y)), rfl, hw, by rw [ht]; exact hP, va_K.moved hWm.alike hK, hD⟩, hS.F ht⟩) hS.2.2 dX1_turn_95
            · exact absurd c62 (by decide)
        · have hw := hw.2 c58
          refine lv_aload_n hx hb dX1_turn_37 rfl (lv_at hl 0 rfl) ?_
          refine va_get (D := D) (ci := 1) (v := .int (yNT y)) (C := RX1) (T := TX1) (N := 12) hx hb hts hin hown hK hP 0 rfl rfl 1 (by decide) (hts (.fieldLink RX1 40 "TideDepthsModel" "turns" "I") (by decide +kernel)) (fun _ h9 => h9) rfl dX1_turn_38 ?_
          refine lv_iconst (v := 1) hx hb dX1_turn_41 (by decide) ?_
          refine lv_isub hx hb dX1_turn_42 ?_
          refine lv_goto (tgt := 47) hx hb dX1_turn_43 (by decide) ?_
          obtain ⟨h69, hw⟩ := hw
          refine va_iald hx hb hK hP 1 0 rfl rfl h69 dX1_turn_47 ?_
          refine lv_i2l (v := (((yT y) (((yNT y) - 1)).toNatClampNeg)).toInt64) hx hb dX1_turn_48 rfl ?_
          refine bl_le (tgt := 57) hx hb dX1_turn_49 dX1_turn_50 (by decide) (fun c70 => ?_) (fun c70 => ?_)
          · have hw := hw.1 c70
            refine lv_iconst (v := 0) hx hb dX1_turn_57 (by decide) ?_
            refine lv_istore (lv' := [(5, .int 0), (0, .ref k0), (1, .long v1), (3, .long v3)]) hx hb dX1_turn_58 hl (by decide) rfl (fun ls hl => ?_)
            refine lv_aload_n hx hb dX1_turn_60 rfl (lv_at hl 1 rfl) ?_
            refine lv_iload hx hb dX1_turn_61 (lv_at hl 0 rfl) ?_
            refine lv_if_ne (tgt := 70) hx hb dX1_turn_63 (by decide) (fun c71 => ?_) (fun c71 => ?_)
            · exact absurd (by decide) c71
            ·
              refine lv_iconst (v := 1) hx hb dX1_turn_66 (by decide) ?_
              refine lv_goto (tgt := 84) hx hb dX1_turn_67 (by decide) ?_
              refine va_put (D := D) (ci := 1) (v := .int 1) (ty := .int) (C := RX1) (T := TX1) (N := 12) hx hb hts hin tyX1 tyX1_ok nmX1 hown hK hP hD hS 0 rfl rfl 0 (by decide) (hts (.fieldLink RX1 36 "TideDepthsModel" "thrown" "I") (by decide +kernel)) (fun _ h9 => h9) rfl (by decide +kernel) rfl rfl (Nat.le_of_ble_eq_true rfl) dX1_turn_84 (fun H locs hP hD hS => ?_)
              have hP : va_P D cls2 (x1W cI cJ k0 b1 b2 b3 b4 b5 b6 b7 b8 (1, (yNT y), (yNO y), (yNP y), (yT y), (yH y), (yO y), (yD y), (yW y), (yB y), (yC y), (yQ y))) H := hP
              have hD : va_D A (x1W cI cJ k0 b1 b2 b3 b4 b5 b6 b7 b8 (1, (yNT y), (yNO y), (yNP y), (yT y), (yH y), (yO y), (yD y), (yW y), (yB y), (yC y), (yQ y))) := hD
              have hW : YW D cI cJ k0 b1 b2 b3 b4 b5 b6 b7 b8 (1, (yNT y), (yNO y), (yNP y), (yT y), (yH y), (yO y), (yD y), (yW y), (yB y), (yC y), (yQ y)) s H := ⟨hP, hK⟩
              refine lv_aload_n hx hb dX1_turn_87 rfl (lv_at hl 1 rfl) ?_
              refine va_get (D := D) (ci := 1) (v := .int 1) (C := RX1) (T := TX1) (N := 12) hx hb hts hin hown hK hP 0 rfl rfl 0 (by decide) (hts (.fieldLink RX1 36 "TideDepthsModel" "thrown" "I") (by decide +kernel)) (fun _ h9 => h9) rfl dX1_turn_88 ?_
              refine lv_if_le (tgt := 96) hx hb dX1_turn_91 (by decide) (fun c72 => ?_) (fun c72 => ?_)
              · exact absurd c72 (by decide)
              ·
                refine lv_iconst (v := 0) hx hb dX1_turn_94 (by decide) ?_
                exact W.iret (v := 0) hx hb hr (fun t ht hWm => ⟨⟨0, (1, (yNT y), (yNO y), (yNP y), (yT y), (yH y), (yO y), (yD y), (yW y), (yB y), (yC y), (yQ y)), rfl, hw, by rw [ht]; exact hP, va_K.moved hWm.alike hK, hD⟩, hS.F ht⟩) hS.2.2 dX1_turn_95
          · have hw := hw.2 c70
            refine lv_iconst (v := 1) hx hb dX1_turn_53 (by decide) ?_
            refine lv_goto (tgt := 58) hx hb dX1_turn_54 (by decide) ?_
            refine lv_istore (lv' := [(5, .int 1), (0, .ref k0), (1, .long v1), (3, .long v3)]) hx hb dX1_turn_58 hl (by decide) rfl (fun ls hl => ?_)
            refine lv_aload_n hx hb dX1_turn_60 rfl (lv_at hl 1 rfl) ?_
            refine lv_iload hx hb dX1_turn_61 (lv_at hl 0 rfl) ?_
            refine lv_if_ne (tgt := 70) hx hb dX1_turn_63 (by decide) (fun c73 => ?_) (fun c73 => ?_)
            ·
              refine lv_aload_n hx hb dX1_turn_70 rfl (lv_at hl 1 rfl) ?_
              refine va_get (D := D) (ci := 1) (v := .int (yNT y)) (C := RX1) (T := TX1) (N := 12) hx hb hts hin hown hK hP 0 rfl rfl 1 (by decide) (hts (.fieldLink RX1 40 "TideDepthsModel" "turns" "I") (by decide +kernel)) (fun _ h9 => h9) rfl dX1_turn_71 ?_
              refine lv_bipush (v := 40) hx hb dX1_turn_74 (by decide) ?_
              refine lv_icmp_ne (tgt := 83) hx hb dX1_turn_76 (by decide) (fun c74 => ?_) (fun c74 => ?_)
              · have hw := hw.2 c74
                refine lv_iconst (v := 0) hx hb dX1_turn_83 (by decide) ?_
                refine va_put (D := D) (ci := 1) (v := .int 0) (ty := .int) (C := RX1) (T := TX1) (N := 12) hx hb hts hin tyX1 tyX1_ok nmX1 hown hK hP hD hS 0 rfl rfl 0 (by decide) (hts (.fieldLink RX1 36 "TideDepthsModel" "thrown" "I") (by decide +kernel)) (fun _ h9 => h9) rfl (by decide +kernel) rfl rfl (Nat.le_of_ble_eq_true rfl) dX1_turn_84 (fun H locs hP hD hS => ?_)
                have hP : va_P D cls2 (x1W cI cJ k0 b1 b2 b3 b4 b5 b6 b7 b8 (0, (yNT y), (yNO y), (yNP y), (yT y), (yH y), (yO y), (yD y), (yW y), (yB y), (yC y), (yQ y))) H := hP
                have hD : va_D A (x1W cI cJ k0 b1 b2 b3 b4 b5 b6 b7 b8 (0, (yNT y), (yNO y), (yNP y), (yT y), (yH y), (yO y), (yD y), (yW y), (yB y), (yC y), (yQ y))) := hD
                have hW : YW D cI cJ k0 b1 b2 b3 b4 b5 b6 b7 b8 (0, (yNT y), (yNO y), (yNP y), (yT y), (yH y), (yO y), (yD y), (yW y), (yB y), (yC y), (yQ y)) s H := ⟨hP, hK⟩
                refine lv_aload_n hx hb dX1_turn_87 rfl (lv_at hl 1 rfl) ?_
                refine va_get (D := D) (ci := 1) (v := .int 0) (C := RX1) (T := TX1) (N := 12) hx hb hts hin hown hK hP 0 rfl rfl 0 (by decide) (hts (.fieldLink RX1 36 "TideDepthsModel" "thrown" "I") (by decide +kernel)) (fun _ h9 => h9) rfl dX1_turn_88 ?_
                refine lv_if_le (tgt := 96) hx hb dX1_turn_91 (by decide) (fun c75 => ?_) (fun c75 => ?_)
                ·
                  refine lv_aload_n hx hb dX1_turn_96 rfl (lv_at hl 1 rfl) ?_
                  refine va_get (D := D) (ci := 1) (v := .int (yNT y)) (C := RX1) (T := TX1) (N := 12) hx hb hts hin hown hK hP 0 rfl rfl 1 (by decide) (hts (.fieldLink RX1 40 "TideDepthsModel" "turns" "I") (by decide +kernel)) (fun _ h9 => h9) rfl dX1_turn_97 ?_
                  refine lv_if_le (tgt := 226) hx hb dX1_turn_100 (by decide) (fun c76 => ?_) (fun c76 => ?_)
                  · exact absurd c76 c58
                  ·
                    refine lv_aload_n hx hb dX1_turn_103 rfl (lv_at hl 1 rfl) ?_
                    refine va_get (D := D) (ci := 1) (v := .ref b2) (C := RX1) (T := TX1) (N := 12) hx hb hts hin hown hK hP 0 rfl rfl 5 (by decide) (hts (.fieldLink RX1 13 "TideDepthsModel" "turnHeight" "[I") (by decide +kernel)) (fun _ h9 => h9) rfl dX1_turn_104 ?_
                    refine lv_aload_n hx hb dX1_turn_107 rfl (lv_at hl 1 rfl) ?_
                    refine va_get (D := D) (ci := 1) (v := .int (yNT y)) (C := RX1) (T := TX1) (N := 12) hx hb hts hin hown hK hP 0 rfl rfl 1 (by decide) (hts (.fieldLink RX1 40 "TideDepthsModel" "turns" "I") (by decide +kernel)) (fun _ h9 => h9) rfl dX1_turn_108 ?_
                    refine lv_iconst (v := 1) hx hb dX1_turn_111 (by decide) ?_
                    refine lv_isub hx hb dX1_turn_112 ?_
                    obtain ⟨h77, hw⟩ := hw
                    refine va_iald hx hb hK hP 2 0 rfl rfl h77 dX1_turn_113 ?_
                    refine lv_istore (lv' := [(6, .int ((yH y) (((yNT y) - 1)).toNatClampNeg)), (5, .int 1), (0, .ref k0), (1, .long v1), (3, .long v3)]) hx hb dX1_turn_114 hl (by decide) rfl (fun ls hl => ?_)
                    refine lv_aload_n hx hb dX1_turn_116 rfl (lv_at hl 2 rfl) ?_
                    refine va_get (D := D) (ci := 1) (v := .int (yNT y)) (C := RX1) (T := TX1) (N := 12) hx hb hts hin hown hK hP 0 rfl rfl 1 (by decide) (hts (.fieldLink RX1 40 "TideDepthsModel" "turns" "I") (by decide +kernel)) (fun _ h9 => h9) rfl dX1_turn_117 ?_
                    refine lv_iconst (v := 1) hx hb dX1_turn_120 (by decide) ?_
                    refine lv_icmp_le (tgt := 156) hx hb dX1_turn_121 (by decide) (fun c78 => ?_) (fun c78 => ?_)
                    · have hw := hw.1 c78
                      refine lv_iconst (v := 0) hx hb dX1_turn_156 (by decide) ?_
                      refine lv_istore (lv' := [(7, .int 0), (6, .int ((yH y) (((yNT y) - 1)).toNatClampNeg)), (5, .int 1), (0, .ref k0), (1, .long v1), (3, .long v3)]) hx hb dX1_turn_157 hl (by decide) rfl (fun ls hl => ?_)
                      refine lv_aload_n hx hb dX1_turn_159 rfl (lv_at hl 3 rfl) ?_
                      refine va_get (D := D) (ci := 1) (v := .int (yNT y)) (C := RX1) (T := TX1) (N := 12) hx hb hts hin hown hK hP 0 rfl rfl 1 (by decide) (hts (.fieldLink RX1 40 "TideDepthsModel" "turns" "I") (by decide +kernel)) (fun _ h9 => h9) rfl dX1_turn_160 ?_
                      refine lv_iconst (v := 1) hx hb dX1_turn_163 (by decide) ?_
                      refine lv_icmp_ne (tgt := 183) hx hb dX1_turn_164 (by decide) (fun c79 => ?_) (fun c79 => ?_)
                      · have hw := hw.2 c79
                        refine lv_iload hx hb dX1_turn_183 (lv_at hl 0 rfl) ?_
                        refine lv_if_eq (tgt := 204) hx hb dX1_turn_185 (by decide) (fun c80 => ?_) (fun c80 => ?_)
                        ·
                          refine lv_lload_n hx hb dX1_turn_204 rfl (lv_at hl 5 rfl) ?_
                          refine lv_iload hx hb dX1_turn_205 (lv_at hl 1 rfl) ?_
                          refine lv_i2l (v := (((yH y) (((yNT y) - 1)).toNatClampNeg)).toInt64) hx hb dX1_turn_207 rfl ?_
                          refine bl_le (tgt := 216) hx hb dX1_turn_208 dX1_turn_209 (by decide) (fun c81 => ?_) (fun c81 => ?_)
                          · have hw := hw.1 c81
                            refine lv_iconst (v := 0) hx hb dX1_turn_216 (by decide) ?_
                            refine lv_istore (lv' := [(8, .int 0), (7, .int 0), (6, .int ((yH y) (((yNT y) - 1)).toNatClampNeg)), (5, .int 1), (0, .ref k0), (1, .long v1), (3, .long v3)]) hx hb dX1_turn_217 hl (by decide) rfl (fun ls hl => ?_)
                            refine lv_iload hx hb dX1_turn_219 (lv_at hl 0 rfl) ?_
                            refine lv_if_ne (tgt := 226) hx hb dX1_turn_221 (by decide) (fun c82 => ?_) (fun c82 => ?_)
                            · exact absurd (by decide) c82
                            ·
                              refine lv_iconst (v := 0) hx hb dX1_turn_224 (by decide) ?_
                              exact W.iret (v := 0) hx hb hr (fun t ht hWm => ⟨⟨0, (0, (yNT y), (yNO y), (yNP y), (yT y), (yH y), (yO y), (yD y), (yW y), (yB y), (yC y), (yQ y)), rfl, hw, by rw [ht]; exact hP, va_K.moved hWm.alike hK, hD⟩, hS.F ht⟩) hS.2.2 dX1_turn_225
                          · have hw := hw.2 c81
                            refine lv_iconst (v := 1) hx hb dX1_turn_212 (by decide) ?_
                            refine lv_goto (tgt := 217) hx hb dX1_turn_213 (by decide) ?_
                            refine lv_istore (lv' := [(8, .int 1), (7, .int 0), (6, .int ((yH y) (((yNT y) - 1)).toNatClampNeg)), (5, .int 1), (0, .ref k0), (1, .long v1), (3, .long v3)]) hx hb dX1_turn_217 hl (by decide) rfl (fun ls hl => ?_)
                            refine lv_iload hx hb dX1_turn_219 (lv_at hl 0 rfl) ?_
                            refine lv_if_ne (tgt := 226) hx hb dX1_turn_221 (by decide) (fun c83 => ?_) (fun c83 => ?_)
                            ·
                              refine lv_aload_n hx hb dX1_turn_226 rfl (lv_at hl 4 rfl) ?_
                              refine va_get (D := D) (ci := 1) (v := .ref b1) (C := RX1) (T := TX1) (N := 12) hx hb hts hin hown hK hP 0 rfl rfl 4 (by decide) (hts (.fieldLink RX1 7 "TideDepthsModel" "turnTime" "[I") (by decide +kernel)) (fun _ h9 => h9) rfl dX1_turn_227 ?_
                              refine lv_aload_n hx hb dX1_turn_230 rfl (lv_at hl 4 rfl) ?_
                              refine va_get (D := D) (ci := 1) (v := .int (yNT y)) (C := RX1) (T := TX1) (N := 12) hx hb hts hin hown hK hP 0 rfl rfl 1 (by decide) (hts (.fieldLink RX1 40 "TideDepthsModel" "turns" "I") (by decide +kernel)) (fun _ h9 => h9) rfl dX1_turn_231 ?_
                              refine lv_lload_n hx hb dX1_turn_234 rfl (lv_at hl 5 rfl) ?_
                              refine lv_l2i (v := (v1).toInt32) hx hb dX1_turn_235 rfl ?_
                              obtain ⟨h84, hw⟩ := hw
                              refine va_iast hx hb hK hP hD hS 1 0 rfl rfl h84 dX1_turn_236 (fun H locs hP hD hS => ?_)
                              have hP : va_P D cls2 (x1W cI cJ k0 b1 b2 b3 b4 b5 b6 b7 b8 (0, (yNT y), (yNO y), (yNP y), (upd (yT y) ((yNT y)).toNatClampNeg (v1).toInt32), (yH y), (yO y), (yD y), (yW y), (yB y), (yC y), (yQ y))) H := hP
                              have hD : va_D A (x1W cI cJ k0 b1 b2 b3 b4 b5 b6 b7 b8 (0, (yNT y), (yNO y), (yNP y), (upd (yT y) ((yNT y)).toNatClampNeg (v1).toInt32), (yH y), (yO y), (yD y), (yW y), (yB y), (yC y), (yQ y))) := hD
                              have hW : YW D cI cJ k0 b1 b2 b3 b4 b5 b6 b7 b8 (0, (yNT y), (yNO y), (yNP y), (upd (yT y) ((yNT y)).toNatClampNeg (v1).toInt32), (yH y), (yO y), (yD y), (yW y), (yB y), (yC y), (yQ y)) s H := ⟨hP, hK⟩
                              refine lv_aload_n hx hb dX1_turn_237 rfl (lv_at hl 4 rfl) ?_
                              refine va_get (D := D) (ci := 1) (v := .ref b2) (C := RX1) (T := TX1) (N := 12) hx hb hts hin hown hK hP 0 rfl rfl 5 (by decide) (hts (.fieldLink RX1 13 "TideDepthsModel" "turnHeight" "[I") (by decide +kernel)) (fun _ h9 => h9) rfl dX1_turn_238 ?_
                              refine lv_aload_n hx hb dX1_turn_241 rfl (lv_at hl 4 rfl) ?_
                              refine va_get (D := D) (ci := 1) (v := .int (yNT y)) (C := RX1) (T := TX1) (N := 12) hx hb hts hin hown hK hP 0 rfl rfl 1 (by decide) (hts (.fieldLink RX1 40 "TideDepthsModel" "turns" "I") (by decide +kernel)) (fun _ h9 => h9) rfl dX1_turn_242 ?_
                              refine lv_lload_n hx hb dX1_turn_245 rfl (lv_at hl 6 rfl) ?_
                              refine lv_l2i (v := (v3).toInt32) hx hb dX1_turn_246 rfl ?_
                              obtain ⟨h85, hw⟩ := hw
                              refine va_iast hx hb hK hP hD hS 2 0 rfl rfl h85 dX1_turn_247 (fun H locs hP hD hS => ?_)
                              have hP : va_P D cls2 (x1W cI cJ k0 b1 b2 b3 b4 b5 b6 b7 b8 (0, (yNT y), (yNO y), (yNP y), (upd (yT y) ((yNT y)).toNatClampNeg (v1).toInt32), (upd (yH y) ((yNT y)).toNatClampNeg (v3).toInt32), (yO y), (yD y), (yW y), (yB y), (yC y), (yQ y))) H := hP
                              have hD : va_D A (x1W cI cJ k0 b1 b2 b3 b4 b5 b6 b7 b8 (0, (yNT y), (yNO y), (yNP y), (upd (yT y) ((yNT y)).toNatClampNeg (v1).toInt32), (upd (yH y) ((yNT y)).toNatClampNeg (v3).toInt32), (yO y), (yD y), (yW y), (yB y), (yC y), (yQ y))) := hD
                              have hW : YW D cI cJ k0 b1 b2 b3 b4 b5 b6 b7 b8 (0, (yNT y), (yNO y), (yNP y), (upd (yT y) ((yNT y)).toNatClampNeg (v1).toInt32), (upd (yH y) ((yNT y)).toNatClampNeg (v3).toInt32), (yO y), (yD y), (yW y), (yB y), (yC y), (yQ y)) s H := ⟨hP, hK⟩
                              refine lv_aload_n hx hb dX1_turn_248 rfl (lv_at hl 4 rfl) ?_
                              refine lv_dup hx hb dX1_turn_249 rfl ?_
                              refine va_get (D := D) (ci := 1) (v := .int (yNT y)) (C := RX1) (T := TX1) (N := 12) hx hb hts hin hown hK hP 0 rfl rfl 1 (by decide) (hts (.fieldLink RX1 40 "TideDepthsModel" "turns" "I") (by decide +kernel)) (fun _ h9 => h9) rfl dX1_turn_250 ?_
                              refine lv_iconst (v := 1) hx hb dX1_turn_253 (by decide) ?_
                              refine lv_iadd hx hb dX1_turn_254 ?_
                              refine va_put (D := D) (ci := 1) (v := .int ((yNT y) + 1)) (ty := .int) (C := RX1) (T := TX1) (N := 12) hx hb hts hin tyX1 tyX1_ok nmX1 hown hK hP hD hS 0 rfl rfl 1 (by decide) (hts (.fieldLink RX1 40 "TideDepthsModel" "turns" "I") (by decide +kernel)) (fun _ h9 => h9) rfl (by decide +kernel) rfl rfl (Nat.le_of_ble_eq_true rfl) dX1_turn_255 (fun H locs hP hD hS => ?_)
                              have hP : va_P D cls2 (x1W cI cJ k0 b1 b2 b3 b4 b5 b6 b7 b8 (0, ((yNT y) + 1), (yNO y), (yNP y), (upd (yT y) ((yNT y)).toNatClampNeg (v1).toInt32), (upd (yH y) ((yNT y)).toNatClampNeg (v3).toInt32), (yO y), (yD y), (yW y), (yB y), (yC y), (yQ y))) H := hP
                              have hD : va_D A (x1W cI cJ k0 b1 b2 b3 b4 b5 b6 b7 b8 (0, ((yNT y) + 1), (yNO y), (yNP y), (upd (yT y) ((yNT y)).toNatClampNeg (v1).toInt32), (upd (yH y) ((yNT y)).toNatClampNeg (v3).toInt32), (yO y), (yD y), (yW y), (yB y), (yC y), (yQ y))) := hD
                              have hW : YW D cI cJ k0 b1 b2 b3 b4 b5 b6 b7 b8 (0, ((yNT y) + 1), (yNO y), (yNP y), (upd (yT y) ((yNT y)).toNatClampNeg (v1).toInt32), (upd (yH y) ((yNT y)).toNatClampNeg (v3).toInt32), (yO y), (yD y), (yW y), (yB y), (yC y), (yQ y)) s H := ⟨hP, hK⟩
                              refine lv_iconst (v := 1) hx hb dX1_turn_258 (by decide) ?_
                              exact W.iret (v := 1) hx hb hr (fun t ht hWm => ⟨⟨1, (0, ((yNT y) + 1), (yNO y), (yNP y), (upd (yT y) ((yNT y)).toNatClampNeg (v1).toInt32), (upd (yH y) ((yNT y)).toNatClampNeg (v3).toInt32), (yO y), (yD y), (yW y), (yB y), (yC y), (yQ y)), rfl, hw, by rw [ht]; exact hP, va_K.moved hWm.alike hK, hD⟩, hS.F ht⟩) hS.2.2 dX1_turn_259
                            · exact absurd c83 (by decide)
                        · exact absurd (by decide) c80
                      · have hw := hw.1 c79
                        refine lv_lload_n hx hb dX1_turn_167 rfl (lv_at hl 5 rfl) ?_
                        refine lv_iload hx hb dX1_turn_168 (lv_at hl 1 rfl) ?_
                        refine lv_i2l (v := (((yH y) (((yNT y) - 1)).toNatClampNeg)).toInt64) hx hb dX1_turn_170 rfl ?_
                        refine bl_eq (tgt := 179) hx hb dX1_turn_171 dX1_turn_172 (by decide) (fun c86 => ?_) (fun c86 => ?_)
                        · have hw := hw.1 c86
                          refine lv_iconst (v := 0) hx hb dX1_turn_179 (by decide) ?_
                          refine lv_goto (tgt := 217) hx hb dX1_turn_180 (by decide) ?_
                          refine lv_istore (lv' := [(8, .int 0), (7, .int 0), (6, .int ((yH y) (((yNT y) - 1)).toNatClampNeg)), (5, .int 1), (0, .ref k0), (1, .long v1), (3, .long v3)]) hx hb dX1_turn_217 hl (by decide) rfl (fun ls hl => ?_)
                          refine lv_iload hx hb dX1_turn_219 (lv_at hl 0 rfl) ?_
                          refine lv_if_ne (tgt := 226) hx hb dX1_turn_221 (by decide) (fun c87 => ?_) (fun c87 => ?_)
                          · exact absurd (by decide) c87
                          ·
                            refine lv_iconst (v := 0) hx hb dX1_turn_224 (by decide) ?_
                            exact W.iret (v := 0) hx hb hr (fun t ht hWm => ⟨⟨0, (0, (yNT y), (yNO y), (yNP y), (yT y), (yH y), (yO y), (yD y), (yW y), (yB y), (yC y), (yQ y)), rfl, hw, by rw [ht]; exact hP, va_K.moved hWm.alike hK, hD⟩, hS.F ht⟩) hS.2.2 dX1_turn_225
                        · have hw := hw.2 c86
                          refine lv_iconst (v := 1) hx hb dX1_turn_175 (by decide) ?_
                          refine lv_goto (tgt := 217) hx hb dX1_turn_176 (by decide) ?_
                          refine lv_istore (lv' := [(8, .int 1), (7, .int 0), (6, .int ((yH y) (((yNT y) - 1)).toNatClampNeg)), (5, .int 1), (0, .ref k0), (1, .long v1), (3, .long v3)]) hx hb dX1_turn_217 hl (by decide) rfl (fun ls hl => ?_)
                          refine lv_iload hx hb dX1_turn_219 (lv_at hl 0 rfl) ?_
                          refine lv_if_ne (tgt := 226) hx hb dX1_turn_221 (by decide) (fun c88 => ?_) (fun c88 => ?_)
                          ·
                            refine lv_aload_n hx hb dX1_turn_226 rfl (lv_at hl 4 rfl) ?_
                            refine va_get (D := D) (ci := 1) (v := .ref b1) (C := RX1) (T := TX1) (N := 12) hx hb hts hin hown hK hP 0 rfl rfl 4 (by decide) (hts (.fieldLink RX1 7 "TideDepthsModel" "turnTime" "[I") (by decide +kernel)) (fun _ h9 => h9) rfl dX1_turn_227 ?_
                            refine lv_aload_n hx hb dX1_turn_230 rfl (lv_at hl 4 rfl) ?_
                            refine va_get (D := D) (ci := 1) (v := .int (yNT y)) (C := RX1) (T := TX1) (N := 12) hx hb hts hin hown hK hP 0 rfl rfl 1 (by decide) (hts (.fieldLink RX1 40 "TideDepthsModel" "turns" "I") (by decide +kernel)) (fun _ h9 => h9) rfl dX1_turn_231 ?_
                            refine lv_lload_n hx hb dX1_turn_234 rfl (lv_at hl 5 rfl) ?_
                            refine lv_l2i (v := (v1).toInt32) hx hb dX1_turn_235 rfl ?_
                            obtain ⟨h89, hw⟩ := hw
                            refine va_iast hx hb hK hP hD hS 1 0 rfl rfl h89 dX1_turn_236 (fun H locs hP hD hS => ?_)
                            have hP : va_P D cls2 (x1W cI cJ k0 b1 b2 b3 b4 b5 b6 b7 b8 (0, (yNT y), (yNO y), (yNP y), (upd (yT y) ((yNT y)).toNatClampNeg (v1).toInt32), (yH y), (yO y), (yD y), (yW y), (yB y), (yC y), (yQ y))) H := hP
                            have hD : va_D A (x1W cI cJ k0 b1 b2 b3 b4 b5 b6 b7 b8 (0, (yNT y), (yNO y), (yNP y), (upd (yT y) ((yNT y)).toNatClampNeg (v1).toInt32), (yH y), (yO y), (yD y), (yW y), (yB y), (yC y), (yQ y))) := hD
                            have hW : YW D cI cJ k0 b1 b2 b3 b4 b5 b6 b7 b8 (0, (yNT y), (yNO y), (yNP y), (upd (yT y) ((yNT y)).toNatClampNeg (v1).toInt32), (yH y), (yO y), (yD y), (yW y), (yB y), (yC y), (yQ y)) s H := ⟨hP, hK⟩
                            refine lv_aload_n hx hb dX1_turn_237 rfl (lv_at hl 4 rfl) ?_
                            refine va_get (D := D) (ci := 1) (v := .ref b2) (C := RX1) (T := TX1) (N := 12) hx hb hts hin hown hK hP 0 rfl rfl 5 (by decide) (hts (.fieldLink RX1 13 "TideDepthsModel" "turnHeight" "[I") (by decide +kernel)) (fun _ h9 => h9) rfl dX1_turn_238 ?_
                            refine lv_aload_n hx hb dX1_turn_241 rfl (lv_at hl 4 rfl) ?_
                            refine va_get (D := D) (ci := 1) (v := .int (yNT y)) (C := RX1) (T := TX1) (N := 12) hx hb hts hin hown hK hP 0 rfl rfl 1 (by decide) (hts (.fieldLink RX1 40 "TideDepthsModel" "turns" "I") (by decide +kernel)) (fun _ h9 => h9) rfl dX1_turn_242 ?_
                            refine lv_lload_n hx hb dX1_turn_245 rfl (lv_at hl 6 rfl) ?_
                            refine lv_l2i (v := (v3).toInt32) hx hb dX1_turn_246 rfl ?_
                            obtain ⟨h90, hw⟩ := hw
                            refine va_iast hx hb hK hP hD hS 2 0 rfl rfl h90 dX1_turn_247 (fun H locs hP hD hS => ?_)
                            have hP : va_P D cls2 (x1W cI cJ k0 b1 b2 b3 b4 b5 b6 b7 b8 (0, (yNT y), (yNO y), (yNP y), (upd (yT y) ((yNT y)).toNatClampNeg (v1).toInt32), (upd (yH y) ((yNT y)).toNatClampNeg (v3).toInt32), (yO y), (yD y), (yW y), (yB y), (yC y), (yQ y))) H := hP
                            have hD : va_D A (x1W cI cJ k0 b1 b2 b3 b4 b5 b6 b7 b8 (0, (yNT y), (yNO y), (yNP y), (upd (yT y) ((yNT y)).toNatClampNeg (v1).toInt32), (upd (yH y) ((yNT y)).toNatClampNeg (v3).toInt32), (yO y), (yD y), (yW y), (yB y), (yC y), (yQ y))) := hD
                            have hW : YW D cI cJ k0 b1 b2 b3 b4 b5 b6 b7 b8 (0, (yNT y), (yNO y), (yNP y), (upd (yT y) ((yNT y)).toNatClampNeg (v1).toInt32), (upd (yH y) ((yNT y)).toNatClampNeg (v3).toInt32), (yO y), (yD y), (yW y), (yB y), (yC y), (yQ y)) s H := ⟨hP, hK⟩
                            refine lv_aload_n hx hb dX1_turn_248 rfl (lv_at hl 4 rfl) ?_
                            refine lv_dup hx hb dX1_turn_249 rfl ?_
                            refine va_get (D := D) (ci := 1) (v := .int (yNT y)) (C := RX1) (T := TX1) (N := 12) hx hb hts hin hown hK hP 0 rfl rfl 1 (by decide) (hts (.fieldLink RX1 40 "TideDepthsModel" "turns" "I") (by decide +kernel)) (fun _ h9 => h9) rfl dX1_turn_250 ?_
                            refine lv_iconst (v := 1) hx hb dX1_turn_253 (by decide) ?_
                            refine lv_iadd hx hb dX1_turn_254 ?_
                            refine va_put (D := D) (ci := 1) (v := .int ((yNT y) + 1)) (ty := .int) (C := RX1) (T := TX1) (N := 12) hx hb hts hin tyX1 tyX1_ok nmX1 hown hK hP hD hS 0 rfl rfl 1 (by decide) (hts (.fieldLink RX1 40 "TideDepthsModel" "turns" "I") (by decide +kernel)) (fun _ h9 => h9) rfl (by decide +kernel) rfl rfl (Nat.le_of_ble_eq_true rfl) dX1_turn_255 (fun H locs hP hD hS => ?_)
                            have hP : va_P D cls2 (x1W cI cJ k0 b1 b2 b3 b4 b5 b6 b7 b8 (0, ((yNT y) + 1), (yNO y), (yNP y), (upd (yT y) ((yNT y)).toNatClampNeg (v1).toInt32), (upd (yH y) ((yNT y)).toNatClampNeg (v3).toInt32), (yO y), (yD y), (yW y), (yB y), (yC y), (yQ y))) H := hP
                            have hD : va_D A (x1W cI cJ k0 b1 b2 b3 b4 b5 b6 b7 b8 (0, ((yNT y) + 1), (yNO y), (yNP y), (upd (yT y) ((yNT y)).toNatClampNeg (v1).toInt32), (upd (yH y) ((yNT y)).toNatClampNeg (v3).toInt32), (yO y), (yD y), (yW y), (yB y), (yC y), (yQ y))) := hD
                            have hW : YW D cI cJ k0 b1 b2 b3 b4 b5 b6 b7 b8 (0, ((yNT y) + 1), (yNO y), (yNP y), (upd (yT y) ((yNT y)).toNatClampNeg (v1).toInt32), (upd (yH y) ((yNT y)).toNatClampNeg (v3).toInt32), (yO y), (yD y), (yW y), (yB y), (yC y), (yQ y)) s H := ⟨hP, hK⟩
                            refine lv_iconst (v := 1) hx hb dX1_turn_258 (by decide) ?_
                            exact W.iret (v := 1) hx hb hr (fun t ht hWm => ⟨⟨1, (0, ((yNT y) + 1), (yNO y), (yNP y), (upd (yT y) ((yNT y)).toNatClampNeg (v1).toInt32), (upd (yH y) ((yNT y)).toNatClampNeg (v3).toInt32), (yO y), (yD y), (yW y), (yB y), (yC y), (yQ y)), rfl, hw, by rw [ht]; exact hP, va_K.moved hWm.alike hK, hD⟩, hS.F ht⟩) hS.2.2 dX1_turn_259
                          · exact absurd c88 (by decide)
                    · have hw := hw.2 c78
                      refine lv_iload hx hb dX1_turn_124 (lv_at hl 0 rfl) ?_
                      refine lv_aload_n hx hb dX1_turn_126 rfl (lv_at hl 2 rfl) ?_
                      refine va_get (D := D) (ci := 1) (v := .ref b2) (C := RX1) (T := TX1) (N := 12) hx hb hts hin hown hK hP 0 rfl rfl 5 (by decide) (hts (.fieldLink RX1 13 "TideDepthsModel" "turnHeight" "[I") (by decide +kernel)) (fun _ h9 => h9) rfl dX1_turn_127 ?_
                      refine lv_aload_n hx hb dX1_turn_130 rfl (lv_at hl 2 rfl) ?_
                      refine va_get (D := D) (ci := 1) (v := .int (yNT y)) (C := RX1) (T := TX1) (N := 12) hx hb hts hin hown hK hP 0 rfl rfl 1 (by decide) (hts (.fieldLink RX1 40 "TideDepthsModel" "turns" "I") (by decide +kernel)) (fun _ h9 => h9) rfl dX1_turn_131 ?_
                      refine lv_iconst (v := 1) hx hb dX1_turn_134 (by decide) ?_
                      refine lv_icmp_le (tgt := 147) hx hb dX1_turn_135 (by decide) (fun c91 => ?_) (fun c91 => ?_)
                      · exact absurd c91 c78
                      ·
                        refine lv_aload_n hx hb dX1_turn_138 rfl (lv_at hl 2 rfl) ?_
                        refine va_get (D := D) (ci := 1) (v := .int (yNT y)) (C := RX1) (T := TX1) (N := 12) hx hb hts hin hown hK hP 0 rfl rfl 1 (by decide) (hts (.fieldLink RX1 40 "TideDepthsModel" "turns" "I") (by decide +kernel)) (fun _ h9 => h9) rfl dX1_turn_139 ?_
                        refine lv_iconst (v := 2) hx hb dX1_turn_142 (by decide) ?_
                        refine lv_isub hx hb dX1_turn_143 ?_
                        refine lv_goto (tgt := 148) hx hb dX1_turn_144 (by decide) ?_
                        obtain ⟨h92, hw⟩ := hw
                        refine va_iald hx hb hK hP 2 0 rfl rfl h92 dX1_turn_148 ?_
                        refine lv_icmp_le (tgt := 156) hx hb dX1_turn_149 (by decide) (fun c93 => ?_) (fun c93 => ?_)
                        · have hw := hw.1 c93
                          refine lv_iconst (v := 0) hx hb dX1_turn_156 (by decide) ?_
                          refine lv_istore (lv' := [(7, .int 0), (6, .int ((yH y) (((yNT y) - 1)).toNatClampNeg)), (5, .int 1), (0, .ref k0), (1, .long v1), (3, .long v3)]) hx hb dX1_turn_157 hl (by decide) rfl (fun ls hl => ?_)
                          refine lv_aload_n hx hb dX1_turn_159 rfl (lv_at hl 3 rfl) ?_
                          refine va_get (D := D) (ci := 1) (v := .int (yNT y)) (C := RX1) (T := TX1) (N := 12) hx hb hts hin hown hK hP 0 rfl rfl 1 (by decide) (hts (.fieldLink RX1 40 "TideDepthsModel" "turns" "I") (by decide +kernel)) (fun _ h9 => h9) rfl dX1_turn_160 ?_
                          refine lv_iconst (v := 1) hx hb dX1_turn_163 (by decide) ?_
                          refine lv_icmp_ne (tgt := 183) hx hb dX1_turn_164 (by decide) (fun c94 => ?_) (fun c94 => ?_)
                          · have hw := hw.2 c94
                            refine lv_iload hx hb dX1_turn_183 (lv_at hl 0 rfl) ?_
                            refine lv_if_eq (tgt := 204) hx hb dX1_turn_185 (by decide) (fun c95 => ?_) (fun c95 => ?_)
                            ·
                              refine lv_lload_n hx hb dX1_turn_204 rfl (lv_at hl 5 rfl) ?_
                              refine lv_iload hx hb dX1_turn_205 (lv_at hl 1 rfl) ?_
                              refine lv_i2l (v := (((yH y) (((yNT y) - 1)).toNatClampNeg)).toInt64) hx hb dX1_turn_207 rfl ?_
                              refine bl_le (tgt := 216) hx hb dX1_turn_208 dX1_turn_209 (by decide) (fun c96 => ?_) (fun c96 => ?_)
                              · have hw := hw.1 c96
                                refine lv_iconst (v := 0) hx hb dX1_turn_216 (by decide) ?_
                                refine lv_istore (lv' := [(8, .int 0), (7, .int 0), (6, .int ((yH y) (((yNT y) - 1)).toNatClampNeg)), (5, .int 1), (0, .ref k0), (1, .long v1), (3, .long v3)]) hx hb dX1_turn_217 hl (by decide) rfl (fun ls hl => ?_)
                                refine lv_iload hx hb dX1_turn_219 (lv_at hl 0 rfl) ?_
                                refine lv_if_ne (tgt := 226) hx hb dX1_turn_221 (by decide) (fun c97 => ?_) (fun c97 => ?_)
                                · exact absurd (by decide) c97
                                ·
                                  refine lv_iconst (v := 0) hx hb dX1_turn_224 (by decide) ?_
                                  exact W.iret (v := 0) hx hb hr (fun t ht hWm => ⟨⟨0, (0, (yNT y), (yNO y), (yNP y), (yT y), (yH y), (yO y), (yD y), (yW y), (yB y), (yC y), (yQ y)), rfl, hw, by rw [ht]; exact hP, va_K.moved hWm.alike hK, hD⟩, hS.F ht⟩) hS.2.2 dX1_turn_225
                              · have hw := hw.2 c96
                                refine lv_iconst (v := 1) hx hb dX1_turn_212 (by decide) ?_
                                refine lv_goto (tgt := 217) hx hb dX1_turn_213 (by decide) ?_
                                refine lv_istore (lv' := [(8, .int 1), (7, .int 0), (6, .int ((yH y) (((yNT y) - 1)).toNatClampNeg)), (5, .int 1), (0, .ref k0), (1, .long v1), (3, .long v3)]) hx hb dX1_turn_217 hl (by decide) rfl (fun ls hl => ?_)
                                refine lv_iload hx hb dX1_turn_219 (lv_at hl 0 rfl) ?_
                                refine lv_if_ne (tgt := 226) hx hb dX1_turn_221 (by decide) (fun c98 => ?_) (fun c98 => ?_)
                                ·
                                  refine lv_aload_n hx hb dX1_turn_226 rfl (lv_at hl 4 rfl) ?_
                                  refine va_get (D := D) (ci := 1) (v := .ref b1) (C := RX1) (T := TX1) (N := 12) hx hb hts hin hown hK hP 0 rfl rfl 4 (by decide) (hts (.fieldLink RX1 7 "TideDepthsModel" "turnTime" "[I") (by decide +kernel)) (fun _ h9 => h9) rfl dX1_turn_227 ?_
                                  refine lv_aload_n hx hb dX1_turn_230 rfl (lv_at hl 4 rfl) ?_
                                  refine va_get (D := D) (ci := 1) (v := .int (yNT y)) (C := RX1) (T := TX1) (N := 12) hx hb hts hin hown hK hP 0 rfl rfl 1 (by decide) (hts (.fieldLink RX1 40 "TideDepthsModel" "turns" "I") (by decide +kernel)) (fun _ h9 => h9) rfl dX1_turn_231 ?_
                                  refine lv_lload_n hx hb dX1_turn_234 rfl (lv_at hl 5 rfl) ?_
                                  refine lv_l2i (v := (v1).toInt32) hx hb dX1_turn_235 rfl ?_
                                  obtain ⟨h99, hw⟩ := hw
                                  refine va_iast hx hb hK hP hD hS 1 0 rfl rfl h99 dX1_turn_236 (fun H locs hP hD hS => ?_)
                                  have hP : va_P D cls2 (x1W cI cJ k0 b1 b2 b3 b4 b5 b6 b7 b8 (0, (yNT y), (yNO y), (yNP y), (upd (yT y) ((yNT y)).toNatClampNeg (v1).toInt32), (yH y), (yO y), (yD y), (yW y), (yB y), (yC y), (yQ y))) H := hP
                                  have hD : va_D A (x1W cI cJ k0 b1 b2 b3 b4 b5 b6 b7 b8 (0, (yNT y), (yNO y), (yNP y), (upd (yT y) ((yNT y)).toNatClampNeg (v1).toInt32), (yH y), (yO y), (yD y), (yW y), (yB y), (yC y), (yQ y))) := hD
                                  have hW : YW D cI cJ k0 b1 b2 b3 b4 b5 b6 b7 b8 (0, (yNT y), (yNO y), (yNP y), (upd (yT y) ((yNT y)).toNatClampNeg (v1).toInt32), (yH y), (yO y), (yD y), (yW y), (yB y), (yC y), (yQ y)) s H := ⟨hP, hK⟩
                                  refine lv_aload_n hx hb dX1_turn_237 rfl (lv_at hl 4 rfl) ?_
                                  refine va_get (D := D) (ci := 1) (v := .ref b2) (C := RX1) (T := TX1) (N := 12) hx hb hts hin hown hK hP 0 rfl rfl 5 (by decide) (hts (.fieldLink RX1 13 "TideDepthsModel" "turnHeight" "[I") (by decide +kernel)) (fun _ h9 => h9) rfl dX1_turn_238 ?_
                                  refine lv_aload_n hx hb dX1_turn_241 rfl (lv_at hl 4 rfl) ?_
                                  refine va_get (D := D) (ci := 1) (v := .int (yNT y)) (C := RX1) (T := TX1) (N := 12) hx hb hts hin hown hK hP 0 rfl rfl 1 (by decide) (hts (.fieldLink RX1 40 "TideDepthsModel" "turns" "I") (by decide +kernel)) (fun _ h9 => h9) rfl dX1_turn_242 ?_
                                  refine lv_lload_n hx hb dX1_turn_245 rfl (lv_at hl 6 rfl) ?_
                                  refine lv_l2i (v := (v3).toInt32) hx hb dX1_turn_246 rfl ?_
                                  obtain ⟨h100, hw⟩ := hw
                                  refine va_iast hx hb hK hP hD hS 2 0 rfl rfl h100 dX1_turn_247 (fun H locs hP hD hS => ?_)
                                  have hP : va_P D cls2 (x1W cI cJ k0 b1 b2 b3 b4 b5 b6 b7 b8 (0, (yNT y), (yNO y), (yNP y), (upd (yT y) ((yNT y)).toNatClampNeg (v1).toInt32), (upd (yH y) ((yNT y)).toNatClampNeg (v3).toInt32), (yO y), (yD y), (yW y), (yB y), (yC y), (yQ y))) H := hP
                                  have hD : va_D A (x1W cI cJ k0 b1 b2 b3 b4 b5 b6 b7 b8 (0, (yNT y), (yNO y), (yNP y), (upd (yT y) ((yNT y)).toNatClampNeg (v1).toInt32), (upd (yH y) ((yNT y)).toNatClampNeg (v3).toInt32), (yO y), (yD y), (yW y), (yB y), (yC y), (yQ y))) := hD
                                  have hW : YW D cI cJ k0 b1 b2 b3 b4 b5 b6 b7 b8 (0, (yNT y), (yNO y), (yNP y), (upd (yT y) ((yNT y)).toNatClampNeg (v1).toInt32), (upd (yH y) ((yNT y)).toNatClampNeg (v3).toInt32), (yO y), (yD y), (yW y), (yB y), (yC y), (yQ y)) s H := ⟨hP, hK⟩
                                  refine lv_aload_n hx hb dX1_turn_248 rfl (lv_at hl 4 rfl) ?_
                                  refine lv_dup hx hb dX1_turn_249 rfl ?_
                                  refine va_get (D := D) (ci := 1) (v := .int (yNT y)) (C := RX1) (T := TX1) (N := 12) hx hb hts hin hown hK hP 0 rfl rfl 1 (by decide) (hts (.fieldLink RX1 40 "TideDepthsModel" "turns" "I") (by decide +kernel)) (fun _ h9 => h9) rfl dX1_turn_250 ?_
                                  refine lv_iconst (v := 1) hx hb dX1_turn_253 (by decide) ?_
                                  refine lv_iadd hx hb dX1_turn_254 ?_
                                  refine va_put (D := D) (ci := 1) (v := .int ((yNT y) + 1)) (ty := .int) (C := RX1) (T := TX1) (N := 12) hx hb hts hin tyX1 tyX1_ok nmX1 hown hK hP hD hS 0 rfl rfl 1 (by decide) (hts (.fieldLink RX1 40 "TideDepthsModel" "turns" "I") (by decide +kernel)) (fun _ h9 => h9) rfl (by decide +kernel) rfl rfl (Nat.le_of_ble_eq_true rfl) dX1_turn_255 (fun H locs hP hD hS => ?_)
                                  have hP : va_P D cls2 (x1W cI cJ k0 b1 b2 b3 b4 b5 b6 b7 b8 (0, ((yNT y) + 1), (yNO y), (yNP y), (upd (yT y) ((yNT y)).toNatClampNeg (v1).toInt32), (upd (yH y) ((yNT y)).toNatClampNeg (v3).toInt32), (yO y), (yD y), (yW y), (yB y), (yC y), (yQ y))) H := hP
                                  have hD : va_D A (x1W cI cJ k0 b1 b2 b3 b4 b5 b6 b7 b8 (0, ((yNT y) + 1), (yNO y), (yNP y), (upd (yT y) ((yNT y)).toNatClampNeg (v1).toInt32), (upd (yH y) ((yNT y)).toNatClampNeg (v3).toInt32), (yO y), (yD y), (yW y), (yB y), (yC y), (yQ y))) := hD
                                  have hW : YW D cI cJ k0 b1 b2 b3 b4 b5 b6 b7 b8 (0, ((yNT y) + 1), (yNO y), (yNP y), (upd (yT y) ((yNT y)).toNatClampNeg (v1).toInt32), (upd (yH y) ((yNT y)).toNatClampNeg (v3).toInt32), (yO y), (yD y), (yW y), (yB y), (yC y), (yQ y)) s H := ⟨hP, hK⟩
                                  refine lv_iconst (v := 1) hx hb dX1_turn_258 (by decide) ?_
                                  exact W.iret (v := 1) hx hb hr (fun t ht hWm => ⟨⟨1, (0, ((yNT y) + 1), (yNO y), (yNP y), (upd (yT y) ((yNT y)).toNatClampNeg (v1).toInt32), (upd (yH y) ((yNT y)).toNatClampNeg (v3).toInt32), (yO y), (yD y), (yW y), (yB y), (yC y), (yQ y)), rfl, hw, by rw [ht]; exact hP, va_K.moved hWm.alike hK, hD⟩, hS.F ht⟩) hS.2.2 dX1_turn_259
                                · exact absurd c98 (by decide)
                            · exact absurd (by decide) c95
                          · have hw := hw.1 c94
                            refine lv_lload_n hx hb dX1_turn_167 rfl (lv_at hl 5 rfl) ?_
                            refine lv_iload hx hb dX1_turn_168 (lv_at hl 1 rfl) ?_
                            refine lv_i2l (v := (((yH y) (((yNT y) - 1)).toNatClampNeg)).toInt64) hx hb dX1_turn_170 rfl ?_
                            refine bl_eq (tgt := 179) hx hb dX1_turn_171 dX1_turn_172 (by decide) (fun c101 => ?_) (fun c101 => ?_)
                            · have hw := hw.1 c101
                              refine lv_iconst (v := 0) hx hb dX1_turn_179 (by decide) ?_
                              refine lv_goto (tgt := 217) hx hb dX1_turn_180 (by decide) ?_
                              refine lv_istore (lv' := [(8, .int 0), (7, .int 0), (6, .int ((yH y) (((yNT y) - 1)).toNatClampNeg)), (5, .int 1), (0, .ref k0), (1, .long v1), (3, .long v3)]) hx hb dX1_turn_217 hl (by decide) rfl (fun ls hl => ?_)
                              refine lv_iload hx hb dX1_turn_219 (lv_at hl 0 rfl) ?_
                              refine lv_if_ne (tgt := 226) hx hb dX1_turn_221 (by decide) (fun c102 => ?_) (fun c102 => ?_)
                              · exact absurd (by decide) c102
                              ·
                                refine lv_iconst (v := 0) hx hb dX1_turn_224 (by decide) ?_
                                exact W.iret (v := 0) hx hb hr (fun t ht hWm => ⟨⟨0, (0, (yNT y), (yNO y), (yNP y), (yT y), (yH y), (yO y), (yD y), (yW y), (yB y), (yC y), (yQ y)), rfl, hw, by rw [ht]; exact hP, va_K.moved hWm.alike hK, hD⟩, hS.F ht⟩) hS.2.2 dX1_turn_225
                            · have hw := hw.2 c101
                              refine lv_iconst (v := 1) hx hb dX1_turn_175 (by decide) ?_
                              refine lv_goto (tgt := 217) hx hb dX1_turn_176 (by decide) ?_
                              refine lv_istore (lv' := [(8, .int 1), (7, .int 0), (6, .int ((yH y) (((yNT y) - 1)).toNatClampNeg)), (5, .int 1), (0, .ref k0), (1, .long v1), (3, .long v3)]) hx hb dX1_turn_217 hl (by decide) rfl (fun ls hl => ?_)
                              refine lv_iload hx hb dX1_turn_219 (lv_at hl 0 rfl) ?_
                              refine lv_if_ne (tgt := 226) hx hb dX1_turn_221 (by decide) (fun c103 => ?_) (fun c103 => ?_)
                              ·
                                refine lv_aload_n hx hb dX1_turn_226 rfl (lv_at hl 4 rfl) ?_
                                refine va_get (D := D) (ci := 1) (v := .ref b1) (C := RX1) (T := TX1) (N := 12) hx hb hts hin hown hK hP 0 rfl rfl 4 (by decide) (hts (.fieldLink RX1 7 "TideDepthsModel" "turnTime" "[I") (by decide +kernel)) (fun _ h9 => h9) rfl dX1_turn_227 ?_
                                refine lv_aload_n hx hb dX1_turn_230 rfl (lv_at hl 4 rfl) ?_
                                refine va_get (D := D) (ci := 1) (v := .int (yNT y)) (C := RX1) (T := TX1) (N := 12) hx hb hts hin hown hK hP 0 rfl rfl 1 (by decide) (hts (.fieldLink RX1 40 "TideDepthsModel" "turns" "I") (by decide +kernel)) (fun _ h9 => h9) rfl dX1_turn_231 ?_
                                refine lv_lload_n hx hb dX1_turn_234 rfl (lv_at hl 5 rfl) ?_
                                refine lv_l2i (v := (v1).toInt32) hx hb dX1_turn_235 rfl ?_
                                obtain ⟨h104, hw⟩ := hw
                                refine va_iast hx hb hK hP hD hS 1 0 rfl rfl h104 dX1_turn_236 (fun H locs hP hD hS => ?_)
                                have hP : va_P D cls2 (x1W cI cJ k0 b1 b2 b3 b4 b5 b6 b7 b8 (0, (yNT y), (yNO y), (yNP y), (upd (yT y) ((yNT y)).toNatClampNeg (v1).toInt32), (yH y), (yO y), (yD y), (yW y), (yB y), (yC y), (yQ y))) H := hP
                                have hD : va_D A (x1W cI cJ k0 b1 b2 b3 b4 b5 b6 b7 b8 (0, (yNT y), (yNO y), (yNP y), (upd (yT y) ((yNT y)).toNatClampNeg (v1).toInt32), (yH y), (yO y), (yD y), (yW y), (yB y), (yC y), (yQ y))) := hD
                                have hW : YW D cI cJ k0 b1 b2 b3 b4 b5 b6 b7 b8 (0, (yNT y), (yNO y), (yNP y), (upd (yT y) ((yNT y)).toNatClampNeg (v1).toInt32), (yH y), (yO y), (yD y), (yW y), (yB y), (yC y), (yQ y)) s H := ⟨hP, hK⟩
                                refine lv_aload_n hx hb dX1_turn_237 rfl (lv_at hl 4 rfl) ?_
                                refine va_get (D := D) (ci := 1) (v := .ref b2) (C := RX1) (T := TX1) (N := 12) hx hb hts hin hown hK hP 0 rfl rfl 5 (by decide) (hts (.fieldLink RX1 13 "TideDepthsModel" "turnHeight" "[I") (by decide +kernel)) (fun _ h9 => h9) rfl dX1_turn_238 ?_
                                refine lv_aload_n hx hb dX1_turn_241 rfl (lv_at hl 4 rfl) ?_
                                refine va_get (D := D) (ci := 1) (v := .int (yNT y)) (C := RX1) (T := TX1) (N := 12) hx hb hts hin hown hK hP 0 rfl rfl 1 (by decide) (hts (.fieldLink RX1 40 "TideDepthsModel" "turns" "I") (by decide +kernel)) (fun _ h9 => h9) rfl dX1_turn_242 ?_
                                refine lv_lload_n hx hb dX1_turn_245 rfl (lv_at hl 6 rfl) ?_
                                refine lv_l2i (v := (v3).toInt32) hx hb dX1_turn_246 rfl ?_
                                obtain ⟨h105, hw⟩ := hw
                                refine va_iast hx hb hK hP hD hS 2 0 rfl rfl h105 dX1_turn_247 (fun H locs hP hD hS => ?_)
                                have hP : va_P D cls2 (x1W cI cJ k0 b1 b2 b3 b4 b5 b6 b7 b8 (0, (yNT y), (yNO y), (yNP y), (upd (yT y) ((yNT y)).toNatClampNeg (v1).toInt32), (upd (yH y) ((yNT y)).toNatClampNeg (v3).toInt32), (yO y), (yD y), (yW y), (yB y), (yC y), (yQ y))) H := hP
                                have hD : va_D A (x1W cI cJ k0 b1 b2 b3 b4 b5 b6 b7 b8 (0, (yNT y), (yNO y), (yNP y), (upd (yT y) ((yNT y)).toNatClampNeg (v1).toInt32), (upd (yH y) ((yNT y)).toNatClampNeg (v3).toInt32), (yO y), (yD y), (yW y), (yB y), (yC y), (yQ y))) := hD
                                have hW : YW D cI cJ k0 b1 b2 b3 b4 b5 b6 b7 b8 (0, (yNT y), (yNO y), (yNP y), (upd (yT y) ((yNT y)).toNatClampNeg (v1).toInt32), (upd (yH y) ((yNT y)).toNatClampNeg (v3).toInt32), (yO y), (yD y), (yW y), (yB y), (yC y), (yQ y)) s H := ⟨hP, hK⟩
                                refine lv_aload_n hx hb dX1_turn_248 rfl (lv_at hl 4 rfl) ?_
                                refine lv_dup hx hb dX1_turn_249 rfl ?_
                                refine va_get (D := D) (ci := 1) (v := .int (yNT y)) (C := RX1) (T := TX1) (N := 12) hx hb hts hin hown hK hP 0 rfl rfl 1 (by decide) (hts (.fieldLink RX1 40 "TideDepthsModel" "turns" "I") (by decide +kernel)) (fun _ h9 => h9) rfl dX1_turn_250 ?_
                                refine lv_iconst (v := 1) hx hb dX1_turn_253 (by decide) ?_
                                refine lv_iadd hx hb dX1_turn_254 ?_
                                refine va_put (D := D) (ci := 1) (v := .int ((yNT y) + 1)) (ty := .int) (C := RX1) (T := TX1) (N := 12) hx hb hts hin tyX1 tyX1_ok nmX1 hown hK hP hD hS 0 rfl rfl 1 (by decide) (hts (.fieldLink RX1 40 "TideDepthsModel" "turns" "I") (by decide +kernel)) (fun _ h9 => h9) rfl (by decide +kernel) rfl rfl (Nat.le_of_ble_eq_true rfl) dX1_turn_255 (fun H locs hP hD hS => ?_)
                                have hP : va_P D cls2 (x1W cI cJ k0 b1 b2 b3 b4 b5 b6 b7 b8 (0, ((yNT y) + 1), (yNO y), (yNP y), (upd (yT y) ((yNT y)).toNatClampNeg (v1).toInt32), (upd (yH y) ((yNT y)).toNatClampNeg (v3).toInt32), (yO y), (yD y), (yW y), (yB y), (yC y), (yQ y))) H := hP
                                have hD : va_D A (x1W cI cJ k0 b1 b2 b3 b4 b5 b6 b7 b8 (0, ((yNT y) + 1), (yNO y), (yNP y), (upd (yT y) ((yNT y)).toNatClampNeg (v1).toInt32), (upd (yH y) ((yNT y)).toNatClampNeg (v3).toInt32), (yO y), (yD y), (yW y), (yB y), (yC y), (yQ y))) := hD
                                have hW : YW D cI cJ k0 b1 b2 b3 b4 b5 b6 b7 b8 (0, ((yNT y) + 1), (yNO y), (yNP y), (upd (yT y) ((yNT y)).toNatClampNeg (v1).toInt32), (upd (yH y) ((yNT y)).toNatClampNeg (v3).toInt32), (yO y), (yD y), (yW y), (yB y), (yC y), (yQ y)) s H := ⟨hP, hK⟩
                                refine lv_iconst (v := 1) hx hb dX1_turn_258 (by decide) ?_
                                exact W.iret (v := 1) hx hb hr (fun t ht hWm => ⟨⟨1, (0, ((yNT y) + 1), (yNO y), (yNP y), (upd (yT y) ((yNT y)).toNatClampNeg (v1).toInt32), (upd (yH y) ((yNT y)).toNatClampNeg (v3).toInt32), (yO y), (yD y), (yW y), (yB y), (yC y), (yQ y)), rfl, hw, by rw [ht]; exact hP, va_K.moved hWm.alike hK, hD⟩, hS.F ht⟩) hS.2.2 dX1_turn_259
                              · exact absurd c103 (by decide)
                        · have hw := hw.2 c93
                          refine lv_iconst (v := 1) hx hb dX1_turn_152 (by decide) ?_
                          refine lv_goto (tgt := 157) hx hb dX1_turn_153 (by decide) ?_
                          refine lv_istore (lv' := [(7, .int 1), (6, .int ((yH y) (((yNT y) - 1)).toNatClampNeg)), (5, .int 1), (0, .ref k0), (1, .long v1), (3, .long v3)]) hx hb dX1_turn_157 hl (by decide) rfl (fun ls hl => ?_)
                          refine lv_aload_n hx hb dX1_turn_159 rfl (lv_at hl 3 rfl) ?_
                          refine va_get (D := D) (ci := 1) (v := .int (yNT y)) (C := RX1) (T := TX1) (N := 12) hx hb hts hin hown hK hP 0 rfl rfl 1 (by decide) (hts (.fieldLink RX1 40 "TideDepthsModel" "turns" "I") (by decide +kernel)) (fun _ h9 => h9) rfl dX1_turn_160 ?_
                          refine lv_iconst (v := 1) hx hb dX1_turn_163 (by decide) ?_
                          refine lv_icmp_ne (tgt := 183) hx hb dX1_turn_164 (by decide) (fun c106 => ?_) (fun c106 => ?_)
                          · have hw := hw.2 c106
                            refine lv_iload hx hb dX1_turn_183 (lv_at hl 0 rfl) ?_
                            refine lv_if_eq (tgt := 204) hx hb dX1_turn_185 (by decide) (fun c107 => ?_) (fun c107 => ?_)
                            · exact absurd c107 (by decide)
                            ·
                              refine lv_lload_n hx hb dX1_turn_188 rfl (lv_at hl 5 rfl) ?_
                              refine lv_iload hx hb dX1_turn_189 (lv_at hl 1 rfl) ?_
                              refine lv_i2l (v := (((yH y) (((yNT y) - 1)).toNatClampNeg)).toInt64) hx hb dX1_turn_191 rfl ?_
                              refine bl_ge (tgt := 200) hx hb dX1_turn_192 dX1_turn_193 (by decide) (fun c108 => ?_) (fun c108 => ?_)
                              · have hw := hw.1 c108
                                refine lv_iconst (v := 0) hx hb dX1_turn_200 (by decide) ?_
                                refine lv_goto (tgt := 217) hx hb dX1_turn_201 (by decide) ?_
                                refine lv_istore (lv' := [(8, .int 0), (7, .int 1), (6, .int ((yH y) (((yNT y) - 1)).toNatClampNeg)), (5, .int 1), (0, .ref k0), (1, .long v1), (3, .long v3)]) hx hb dX1_turn_217 hl (by decide) rfl (fun ls hl => ?_)
                                refine lv_iload hx hb dX1_turn_219 (lv_at hl 0 rfl) ?_
                                refine lv_if_ne (tgt := 226) hx hb dX1_turn_221 (by decide) (fun c109 => ?_) (fun c109 => ?_)
                                · exact absurd (by decide) c109
                                ·
                                  refine lv_iconst (v := 0) hx hb dX1_turn_224 (by decide) ?_
                                  exact W.iret (v := 0) hx hb hr (fun t ht hWm => ⟨⟨0, (0, (yNT y), (yNO y), (yNP y), (yT y), (yH y), (yO y), (yD y), (yW y), (yB y), (yC y), (yQ y)), rfl, hw, by rw [ht]; exact hP, va_K.moved hWm.alike hK, hD⟩, hS.F ht⟩) hS.2.2 dX1_turn_225
                              · have hw := hw.2 c108
                                refine lv_iconst (v := 1) hx hb dX1_turn_196 (by decide) ?_
                                refine lv_goto (tgt := 217) hx hb dX1_turn_197 (by decide) ?_
                                refine lv_istore (lv' := [(8, .int 1), (7, .int 1), (6, .int ((yH y) (((yNT y) - 1)).toNatClampNeg)), (5, .int 1), (0, .ref k0), (1, .long v1), (3, .long v3)]) hx hb dX1_turn_217 hl (by decide) rfl (fun ls hl => ?_)
                                refine lv_iload hx hb dX1_turn_219 (lv_at hl 0 rfl) ?_
                                refine lv_if_ne (tgt := 226) hx hb dX1_turn_221 (by decide) (fun c110 => ?_) (fun c110 => ?_)
                                ·
                                  refine lv_aload_n hx hb dX1_turn_226 rfl (lv_at hl 4 rfl) ?_
                                  refine va_get (D := D) (ci := 1) (v := .ref b1) (C := RX1) (T := TX1) (N := 12) hx hb hts hin hown hK hP 0 rfl rfl 4 (by decide) (hts (.fieldLink RX1 7 "TideDepthsModel" "turnTime" "[I") (by decide +kernel)) (fun _ h9 => h9) rfl dX1_turn_227 ?_
                                  refine lv_aload_n hx hb dX1_turn_230 rfl (lv_at hl 4 rfl) ?_
                                  refine va_get (D := D) (ci := 1) (v := .int (yNT y)) (C := RX1) (T := TX1) (N := 12) hx hb hts hin hown hK hP 0 rfl rfl 1 (by decide) (hts (.fieldLink RX1 40 "TideDepthsModel" "turns" "I") (by decide +kernel)) (fun _ h9 => h9) rfl dX1_turn_231 ?_
                                  refine lv_lload_n hx hb dX1_turn_234 rfl (lv_at hl 5 rfl) ?_
                                  refine lv_l2i (v := (v1).toInt32) hx hb dX1_turn_235 rfl ?_
                                  obtain ⟨h111, hw⟩ := hw
                                  refine va_iast hx hb hK hP hD hS 1 0 rfl rfl h111 dX1_turn_236 (fun H locs hP hD hS => ?_)
                                  have hP : va_P D cls2 (x1W cI cJ k0 b1 b2 b3 b4 b5 b6 b7 b8 (0, (yNT y), (yNO y), (yNP y), (upd (yT y) ((yNT y)).toNatClampNeg (v1).toInt32), (yH y), (yO y), (yD y), (yW y), (yB y), (yC y), (yQ y))) H := hP
                                  have hD : va_D A (x1W cI cJ k0 b1 b2 b3 b4 b5 b6 b7 b8 (0, (yNT y), (yNO y), (yNP y), (upd (yT y) ((yNT y)).toNatClampNeg (v1).toInt32), (yH y), (yO y), (yD y), (yW y), (yB y), (yC y), (yQ y))) := hD
                                  have hW : YW D cI cJ k0 b1 b2 b3 b4 b5 b6 b7 b8 (0, (yNT y), (yNO y), (yNP y), (upd (yT y) ((yNT y)).toNatClampNeg (v1).toInt32), (yH y), (yO y), (yD y), (yW y), (yB y), (yC y), (yQ y)) s H := ⟨hP, hK⟩
                                  refine lv_aload_n hx hb dX1_turn_237 rfl (lv_at hl 4 rfl) ?_
                                  refine va_get (D := D) (ci := 1) (v := .ref b2) (C := RX1) (T := TX1) (N := 12) hx hb hts hin hown hK hP 0 rfl rfl 5 (by decide) (hts (.fieldLink RX1 13 "TideDepthsModel" "turnHeight" "[I") (by decide +kernel)) (fun _ h9 => h9) rfl dX1_turn_238 ?_
                                  refine lv_aload_n hx hb dX1_turn_241 rfl (lv_at hl 4 rfl) ?_
                                  refine va_get (D := D) (ci := 1) (v := .int (yNT y)) (C := RX1) (T := TX1) (N := 12) hx hb hts hin hown hK hP 0 rfl rfl 1 (by decide) (hts (.fieldLink RX1 40 "TideDepthsModel" "turns" "I") (by decide +kernel)) (fun _ h9 => h9) rfl dX1_turn_242 ?_
                                  refine lv_lload_n hx hb dX1_turn_245 rfl (lv_at hl 6 rfl) ?_
                                  refine lv_l2i (v := (v3).toInt32) hx hb dX1_turn_246 rfl ?_
                                  obtain ⟨h112, hw⟩ := hw
                                  refine va_iast hx hb hK hP hD hS 2 0 rfl rfl h112 dX1_turn_247 (fun H locs hP hD hS => ?_)
                                  have hP : va_P D cls2 (x1W cI cJ k0 b1 b2 b3 b4 b5 b6 b7 b8 (0, (yNT y), (yNO y), (yNP y), (upd (yT y) ((yNT y)).toNatClampNeg (v1).toInt32), (upd (yH y) ((yNT y)).toNatClampNeg (v3).toInt32), (yO y), (yD y), (yW y), (yB y), (yC y), (yQ y))) H := hP
                                  have hD : va_D A (x1W cI cJ k0 b1 b2 b3 b4 b5 b6 b7 b8 (0, (yNT y), (yNO y), (yNP y), (upd (yT y) ((yNT y)).toNatClampNeg (v1).toInt32), (upd (yH y) ((yNT y)).toNatClampNeg (v3).toInt32), (yO y), (yD y), (yW y), (yB y), (yC y), (yQ y))) := hD
                                  have hW : YW D cI cJ k0 b1 b2 b3 b4 b5 b6 b7 b8 (0, (yNT y), (yNO y), (yNP y), (upd (yT y) ((yNT y)).toNatClampNeg (v1).toInt32), (upd (yH y) ((yNT y)).toNatClampNeg (v3).toInt32), (yO y), (yD y), (yW y), (yB y), (yC y), (yQ y)) s H := ⟨hP, hK⟩
                                  refine lv_aload_n hx hb dX1_turn_248 rfl (lv_at hl 4 rfl) ?_
                                  refine lv_dup hx hb dX1_turn_249 rfl ?_
                                  refine va_get (D := D) (ci := 1) (v := .int (yNT y)) (C := RX1) (T := TX1) (N := 12) hx hb hts hin hown hK hP 0 rfl rfl 1 (by decide) (hts (.fieldLink RX1 40 "TideDepthsModel" "turns" "I") (by decide +kernel)) (fun _ h9 => h9) rfl dX1_turn_250 ?_
                                  refine lv_iconst (v := 1) hx hb dX1_turn_253 (by decide) ?_
                                  refine lv_iadd hx hb dX1_turn_254 ?_
                                  refine va_put (D := D) (ci := 1) (v := .int ((yNT y) + 1)) (ty := .int) (C := RX1) (T := TX1) (N := 12) hx hb hts hin tyX1 tyX1_ok nmX1 hown hK hP hD hS 0 rfl rfl 1 (by decide) (hts (.fieldLink RX1 40 "TideDepthsModel" "turns" "I") (by decide +kernel)) (fun _ h9 => h9) rfl (by decide +kernel) rfl rfl (Nat.le_of_ble_eq_true rfl) dX1_turn_255 (fun H locs hP hD hS => ?_)
                                  have hP : va_P D cls2 (x1W cI cJ k0 b1 b2 b3 b4 b5 b6 b7 b8 (0, ((yNT y) + 1), (yNO y), (yNP y), (upd (yT y) ((yNT y)).toNatClampNeg (v1).toInt32), (upd (yH y) ((yNT y)).toNatClampNeg (v3).toInt32), (yO y), (yD y), (yW y), (yB y), (yC y), (yQ y))) H := hP
                                  have hD : va_D A (x1W cI cJ k0 b1 b2 b3 b4 b5 b6 b7 b8 (0, ((yNT y) + 1), (yNO y), (yNP y), (upd (yT y) ((yNT y)).toNatClampNeg (v1).toInt32), (upd (yH y) ((yNT y)).toNatClampNeg (v3).toInt32), (yO y), (yD y), (yW y), (yB y), (yC y), (yQ y))) := hD
                                  have hW : YW D cI cJ k0 b1 b2 b3 b4 b5 b6 b7 b8 (0, ((yNT y) + 1), (yNO y), (yNP y), (upd (yT y) ((yNT y)).toNatClampNeg (v1).toInt32), (upd (yH y) ((yNT y)).toNatClampNeg (v3).toInt32), (yO y), (yD y), (yW y), (yB y), (yC y), (yQ y)) s H := ⟨hP, hK⟩
                                  refine lv_iconst (v := 1) hx hb dX1_turn_258 (by decide) ?_
                                  exact W.iret (v := 1) hx hb hr (fun t ht hWm => ⟨⟨1, (0, ((yNT y) + 1), (yNO y), (yNP y), (upd (yT y) ((yNT y)).toNatClampNeg (v1).toInt32), (upd (yH y) ((yNT y)).toNatClampNeg (v3).toInt32), (yO y), (yD y), (yW y), (yB y), (yC y), (yQ y)), rfl, hw, by rw [ht]; exact hP, va_K.moved hWm.alike hK, hD⟩, hS.F ht⟩) hS.2.2 dX1_turn_259
                                · exact absurd c110 (by decide)
                          · have hw := hw.1 c106
                            refine lv_lload_n hx hb dX1_turn_167 rfl (lv_at hl 5 rfl) ?_
                            refine lv_iload hx hb dX1_turn_168 (lv_at hl 1 rfl) ?_
                            refine lv_i2l (v := (((yH y) (((yNT y) - 1)).toNatClampNeg)).toInt64) hx hb dX1_turn_170 rfl ?_
                            refine bl_eq (tgt := 179) hx hb dX1_turn_171 dX1_turn_172 (by decide) (fun c113 => ?_) (fun c113 => ?_)
                            · have hw := hw.1 c113
                              refine lv_iconst (v := 0) hx hb dX1_turn_179 (by decide) ?_
                              refine lv_goto (tgt := 217) hx hb dX1_turn_180 (by decide) ?_
                              refine lv_istore (lv' := [(8, .int 0), (7, .int 1), (6, .int ((yH y) (((yNT y) - 1)).toNatClampNeg)), (5, .int 1), (0, .ref k0), (1, .long v1), (3, .long v3)]) hx hb dX1_turn_217 hl (by decide) rfl (fun ls hl => ?_)
                              refine lv_iload hx hb dX1_turn_219 (lv_at hl 0 rfl) ?_
                              refine lv_if_ne (tgt := 226) hx hb dX1_turn_221 (by decide) (fun c114 => ?_) (fun c114 => ?_)
                              · exact absurd (by decide) c114
                              ·
                                refine lv_iconst (v := 0) hx hb dX1_turn_224 (by decide) ?_
                                exact W.iret (v := 0) hx hb hr (fun t ht hWm => ⟨⟨0, (0, (yNT y), (yNO y), (yNP y), (yT y), (yH y), (yO y), (yD y), (yW y), (yB y), (yC y), (yQ y)), rfl, hw, by rw [ht]; exact hP, va_K.moved hWm.alike hK, hD⟩, hS.F ht⟩) hS.2.2 dX1_turn_225
                            · have hw := hw.2 c113
                              refine lv_iconst (v := 1) hx hb dX1_turn_175 (by decide) ?_
                              refine lv_goto (tgt := 217) hx hb dX1_turn_176 (by decide) ?_
                              refine lv_istore (lv' := [(8, .int 1), (7, .int 1), (6, .int ((yH y) (((yNT y) - 1)).toNatClampNeg)), (5, .int 1), (0, .ref k0), (1, .long v1), (3, .long v3)]) hx hb dX1_turn_217 hl (by decide) rfl (fun ls hl => ?_)
                              refine lv_iload hx hb dX1_turn_219 (lv_at hl 0 rfl) ?_
                              refine lv_if_ne (tgt := 226) hx hb dX1_turn_221 (by decide) (fun c115 => ?_) (fun c115 => ?_)
                              ·
                                refine lv_aload_n hx hb dX1_turn_226 rfl (lv_at hl 4 rfl) ?_
                                refine va_get (D := D) (ci := 1) (v := .ref b1) (C := RX1) (T := TX1) (N := 12) hx hb hts hin hown hK hP 0 rfl rfl 4 (by decide) (hts (.fieldLink RX1 7 "TideDepthsModel" "turnTime" "[I") (by decide +kernel)) (fun _ h9 => h9) rfl dX1_turn_227 ?_
                                refine lv_aload_n hx hb dX1_turn_230 rfl (lv_at hl 4 rfl) ?_
                                refine va_get (D := D) (ci := 1) (v := .int (yNT y)) (C := RX1) (T := TX1) (N := 12) hx hb hts hin hown hK hP 0 rfl rfl 1 (by decide) (hts (.fieldLink RX1 40 "TideDepthsModel" "turns" "I") (by decide +kernel)) (fun _ h9 => h9) rfl dX1_turn_231 ?_
                                refine lv_lload_n hx hb dX1_turn_234 rfl (lv_at hl 5 rfl) ?_
                                refine lv_l2i (v := (v1).toInt32) hx hb dX1_turn_235 rfl ?_
                                obtain ⟨h116, hw⟩ := hw
                                refine va_iast hx hb hK hP hD hS 1 0 rfl rfl h116 dX1_turn_236 (fun H locs hP hD hS => ?_)
                                have hP : va_P D cls2 (x1W cI cJ k0 b1 b2 b3 b4 b5 b6 b7 b8 (0, (yNT y), (yNO y), (yNP y), (upd (yT y) ((yNT y)).toNatClampNeg (v1).toInt32), (yH y), (yO y), (yD y), (yW y), (yB y), (yC y), (yQ y))) H := hP
                                have hD : va_D A (x1W cI cJ k0 b1 b2 b3 b4 b5 b6 b7 b8 (0, (yNT y), (yNO y), (yNP y), (upd (yT y) ((yNT y)).toNatClampNeg (v1).toInt32), (yH y), (yO y), (yD y), (yW y), (yB y), (yC y), (yQ y))) := hD
                                have hW : YW D cI cJ k0 b1 b2 b3 b4 b5 b6 b7 b8 (0, (yNT y), (yNO y), (yNP y), (upd (yT y) ((yNT y)).toNatClampNeg (v1).toInt32), (yH y), (yO y), (yD y), (yW y), (yB y), (yC y), (yQ y)) s H := ⟨hP, hK⟩
                                refine lv_aload_n hx hb dX1_turn_237 rfl (lv_at hl 4 rfl) ?_
                                refine va_get (D := D) (ci := 1) (v := .ref b2) (C := RX1) (T := TX1) (N := 12) hx hb hts hin hown hK hP 0 rfl rfl 5 (by decide) (hts (.fieldLink RX1 13 "TideDepthsModel" "turnHeight" "[I") (by decide +kernel)) (fun _ h9 => h9) rfl dX1_turn_238 ?_
                                refine lv_aload_n hx hb dX1_turn_241 rfl (lv_at hl 4 rfl) ?_
                                refine va_get (D := D) (ci := 1) (v := .int (yNT y)) (C := RX1) (T := TX1) (N := 12) hx hb hts hin hown hK hP 0 rfl rfl 1 (by decide) (hts (.fieldLink RX1 40 "TideDepthsModel" "turns" "I") (by decide +kernel)) (fun _ h9 => h9) rfl dX1_turn_242 ?_
                                refine lv_lload_n hx hb dX1_turn_245 rfl (lv_at hl 6 rfl) ?_
                                refine lv_l2i (v := (v3).toInt32) hx hb dX1_turn_246 rfl ?_
                                obtain ⟨h117, hw⟩ := hw
                                refine va_iast hx hb hK hP hD hS 2 0 rfl rfl h117 dX1_turn_247 (fun H locs hP hD hS => ?_)
                                have hP : va_P D cls2 (x1W cI cJ k0 b1 b2 b3 b4 b5 b6 b7 b8 (0, (yNT y), (yNO y), (yNP y), (upd (yT y) ((yNT y)).toNatClampNeg (v1).toInt32), (upd (yH y) ((yNT y)).toNatClampNeg (v3).toInt32), (yO y), (yD y), (yW y), (yB y), (yC y), (yQ y))) H := hP
                                have hD : va_D A (x1W cI cJ k0 b1 b2 b3 b4 b5 b6 b7 b8 (0, (yNT y), (yNO y), (yNP y), (upd (yT y) ((yNT y)).toNatClampNeg (v1).toInt32), (upd (yH y) ((yNT y)).toNatClampNeg (v3).toInt32), (yO y), (yD y), (yW y), (yB y), (yC y), (yQ y))) := hD
                                have hW : YW D cI cJ k0 b1 b2 b3 b4 b5 b6 b7 b8 (0, (yNT y), (yNO y), (yNP y), (upd (yT y) ((yNT y)).toNatClampNeg (v1).toInt32), (upd (yH y) ((yNT y)).toNatClampNeg (v3).toInt32), (yO y), (yD y), (yW y), (yB y), (yC y), (yQ y)) s H := ⟨hP, hK⟩
                                refine lv_aload_n hx hb dX1_turn_248 rfl (lv_at hl 4 rfl) ?_
                                refine lv_dup hx hb dX1_turn_249 rfl ?_
                                refine va_get (D := D) (ci := 1) (v := .int (yNT y)) (C := RX1) (T := TX1) (N := 12) hx hb hts hin hown hK hP 0 rfl rfl 1 (by decide) (hts (.fieldLink RX1 40 "TideDepthsModel" "turns" "I") (by decide +kernel)) (fun _ h9 => h9) rfl dX1_turn_250 ?_
                                refine lv_iconst (v := 1) hx hb dX1_turn_253 (by decide) ?_
                                refine lv_iadd hx hb dX1_turn_254 ?_
                                refine va_put (D := D) (ci := 1) (v := .int ((yNT y) + 1)) (ty := .int) (C := RX1) (T := TX1) (N := 12) hx hb hts hin tyX1 tyX1_ok nmX1 hown hK hP hD hS 0 rfl rfl 1 (by decide) (hts (.fieldLink RX1 40 "TideDepthsModel" "turns" "I") (by decide +kernel)) (fun _ h9 => h9) rfl (by decide +kernel) rfl rfl (Nat.le_of_ble_eq_true rfl) dX1_turn_255 (fun H locs hP hD hS => ?_)
                                have hP : va_P D cls2 (x1W cI cJ k0 b1 b2 b3 b4 b5 b6 b7 b8 (0, ((yNT y) + 1), (yNO y), (yNP y), (upd (yT y) ((yNT y)).toNatClampNeg (v1).toInt32), (upd (yH y) ((yNT y)).toNatClampNeg (v3).toInt32), (yO y), (yD y), (yW y), (yB y), (yC y), (yQ y))) H := hP
                                have hD : va_D A (x1W cI cJ k0 b1 b2 b3 b4 b5 b6 b7 b8 (0, ((yNT y) + 1), (yNO y), (yNP y), (upd (yT y) ((yNT y)).toNatClampNeg (v1).toInt32), (upd (yH y) ((yNT y)).toNatClampNeg (v3).toInt32), (yO y), (yD y), (yW y), (yB y), (yC y), (yQ y))) := hD
                                have hW : YW D cI cJ k0 b1 b2 b3 b4 b5 b6 b7 b8 (0, ((yNT y) + 1), (yNO y), (yNP y), (upd (yT y) ((yNT y)).toNatClampNeg (v1).toInt32), (upd (yH y) ((yNT y)).toNatClampNeg (v3).toInt32), (yO y), (yD y), (yW y), (yB y), (yC y), (yQ y)) s H := ⟨hP, hK⟩
                                refine lv_iconst (v := 1) hx hb dX1_turn_258 (by decide) ?_
                                exact W.iret (v := 1) hx hb hr (fun t ht hWm => ⟨⟨1, (0, ((yNT y) + 1), (yNO y), (yNP y), (upd (yT y) ((yNT y)).toNatClampNeg (v1).toInt32), (upd (yH y) ((yNT y)).toNatClampNeg (v3).toInt32), (yO y), (yD y), (yW y), (yB y), (yC y), (yQ y)), rfl, hw, by rw [ht]; exact hP, va_K.moved hWm.alike hK, hD⟩, hS.F ht⟩) hS.2.2 dX1_turn_259
                              · exact absurd c115 (by decide)
                · exact absurd (by decide) c75
              · have hw := hw.1 c74
                refine lv_iconst (v := 2) hx hb dX1_turn_79 (by decide) ?_
                refine lv_goto (tgt := 84) hx hb dX1_turn_80 (by decide) ?_
                refine va_put (D := D) (ci := 1) (v := .int 2) (ty := .int) (C := RX1) (T := TX1) (N := 12) hx hb hts hin tyX1 tyX1_ok nmX1 hown hK hP hD hS 0 rfl rfl 0 (by decide) (hts (.fieldLink RX1 36 "TideDepthsModel" "thrown" "I") (by decide +kernel)) (fun _ h9 => h9) rfl (by decide +kernel) rfl rfl (Nat.le_of_ble_eq_true rfl) dX1_turn_84 (fun H locs hP hD hS => ?_)
                have hP : va_P D cls2 (x1W cI cJ k0 b1 b2 b3 b4 b5 b6 b7 b8 (2, (yNT y), (yNO y), (yNP y), (yT y), (yH y), (yO y), (yD y), (yW y), (yB y), (yC y), (yQ y))) H := hP
                have hD : va_D A (x1W cI cJ k0 b1 b2 b3 b4 b5 b6 b7 b8 (2, (yNT y), (yNO y), (yNP y), (yT y), (yH y), (yO y), (yD y), (yW y), (yB y), (yC y), (yQ y))) := hD
                have hW : YW D cI cJ k0 b1 b2 b3 b4 b5 b6 b7 b8 (2, (yNT y), (yNO y), (yNP y), (yT y), (yH y), (yO y), (yD y), (yW y), (yB y), (yC y), (yQ y)) s H := ⟨hP, hK⟩
                refine lv_aload_n hx hb dX1_turn_87 rfl (lv_at hl 1 rfl) ?_
                refine va_get (D := D) (ci := 1) (v := .int 2) (C := RX1) (T := TX1) (N := 12) hx hb hts hin hown hK hP 0 rfl rfl 0 (by decide) (hts (.fieldLink RX1 36 "TideDepthsModel" "thrown" "I") (by decide +kernel)) (fun _ h9 => h9) rfl dX1_turn_88 ?_
                refine lv_if_le (tgt := 96) hx hb dX1_turn_91 (by decide) (fun c118 => ?_) (fun c118 => ?_)
                · exact absurd c118 (by decide)
                ·
                  refine lv_iconst (v := 0) hx hb dX1_turn_94 (by decide) ?_
                  exact W.iret (v := 0) hx hb hr (fun t ht hWm => ⟨⟨0, (2, (yNT y), (yNO y), (yNP y), (yT y), (yH y), (yO y), (yD y), (yW y), (yB y), (yC y), (yQ y)), rfl, hw, by rw [ht]; exact hP, va_K.moved hWm.alike hK, hD⟩, hS.F ht⟩) hS.2.2 dX1_turn_95
            · exact absurd c73 (by decide)

def wX1_height (post : Int64 → YS → Prop) (y : YS) (v1 : Int64) : Prop := (wX1_isInTable (fun r1 => ((r1 = 0 → (post 0 (1, (yNT y), (yNO y), (yNP y), (yT y), (yH y), (yO y), (yD y), (yW y), (yB y), (yC y), (yQ y)))) ∧ (¬ r1 = 0 → (wX1_heightAt (fun r5 => (post r5 (0, (yNT y), (yNO y), (yNP y), (yT y), (yH y), (yO y), (yD y), (yW y), (yB y), (yC y), (yQ y)))) (0, (yNT y), (yNO y), (yNP y), (yT y), (yH y), (yO y), (yD y), (yW y), (yB y), (yC y), (yQ y)) (v1).toInt32)))) y v1)

set_option maxHeartbeats 4000000 in
set_option maxRecDepth 100000 in
theorem mX1_height (l : Launch) (D : va_G) (cI cJ : ClassId) (k0 b1 b2 b3 b4 b5 b6 b7 b8 sz : Nat) (y : YS) (v1 : Int64) (post : Int64 → YS → Prop) : Met l yX1_height wsX1_height ({ frames := 3, cells := 0, slots := 0, locals := 79 } : Room) (va_Pc [.ref k0, .long v1] (fun U => YE D cI cJ k0 b1 b2 b3 b4 b5 b6 b7 b8 sz y U ∧ wX1_height post y v1)) (va_Ql post (fun u9 t9 => YT D cI cJ k0 b1 b2 b3 b4 b5 b6 b7 b8 (va_A (x1W cI cJ k0 b1 b2 b3 b4 b5 b6 b7 b8 y) sz) u9 t9) (va_A (x1W cI cJ k0 b1 b2 b3 b4 b5 b6 b7 b8 y) sz)) 0 0 (va_A (x1W cI cJ k0 b1 b2 b3 b4 b5 b6 b7 b8 y) sz) := by
  refine Met.ofW (cc := cX1_height) (maxL := 3) (ret := (some .long)) (by decide +kernel) rfl ?_
  intro p e s m args below meth c s₁ B hml hv
  obtain ⟨rfl, ⟨hsz, hP, hK, hD0⟩, hw⟩ := hv
  have hx := B.exec
  have hb := B.bytes
  have hr := B.returns
  have hts := atoms_spec (ws := wsX1_height) B.pre
  have hown : s.vm.findClass RX1 = some m.cls := findClass_of_methodNamed B.named
  have hlocks := B.notSynchronized
  have hin : ∀ w ∈ u_ws RX1 TX1 12, w ∈ wsX1_height := by decide +kernel
  subst hsz
  have hD := hD0.self (sz := s.heap.size)
  generalize hAe : va_A (x1W cI cJ k0 b1 b2 b3 b4 b5 b6 b7 b8 y) s.heap.size = A at hD ⊢
  have hS : va_S A s.heap s.heap [] := va_S.rf
  have hW : YW D cI cJ k0 b1 b2 b3 b4 b5 b6 b7 b8 y s s.heap := ⟨hP, hK⟩
  have hl := lv_entry ([.ref k0, .long v1]) (n := 3) (Nat.le_of_ble_eq_true rfl)
  rw [lg_entry_eq]
  generalize (lg_sl ([.ref k0, .long v1]) ++ List.replicate (3 - (lg_sl ([.ref k0, .long v1])).length) Slot.unset).toArray = ls at hl ⊢
  have hl : lv_has ls 3 [(0, .ref k0), (1, .long v1)] := hl
  unfold wX1_height at hw
  refine lv_aload_n hx hb dX1_height_0 rfl (lv_at hl 0 rfl) ?_
  refine lv_aload_n hx hb dX1_height_1 rfl (lv_at hl 0 rfl) ?_
  refine lv_lload_n hx hb dX1_height_2 rfl (lv_at hl 1 rfl) ?_
  refine pc_Vi (As := [.long v1]) (rest := [.ref k0]) ⟨hx, hb, hml, hown, hts⟩ (mX1_isInTable l D cI cJ k0 b1 b2 b3 b4 b5 b6 b7 b8 y v1 _) (cwV 1 hts gX1_height_X1_isInTable rfl rfl rfl (by decide +kernel) ⟨Nat.le_of_ble_eq_true rfl, Nat.le_of_ble_eq_true rfl⟩) (wY_rc hW) wY_bl (wY_in hW hw) rfl hl.1 rfl (Nat.le_of_ble_eq_true rfl) dX1_height_3 ⟨Nat.le_of_ble_eq_true rfl, Nat.le_of_ble_eq_true rfl⟩ (fun r1 hw => ?_)
  obtain ⟨z_r1, hw⟩ := hw
  refine lv_if_eq (tgt := 13) hx hb dX1_height_6 (by decide) (fun c2 => ?_) (fun c2 => ?_)
  · have hw := hw.1 c2
    refine lv_iconst (v := 1) hx hb dX1_height_13 (by decide) ?_
    refine va_put (D := D) (ci := 1) (v := .int 1) (ty := .int) (C := RX1) (T := TX1) (N := 12) hx hb hts hin tyX1 tyX1_ok nmX1 hown hK hP hD hS 0 rfl rfl 0 (by decide) (hts (.fieldLink RX1 36 "TideDepthsModel" "thrown" "I") (by decide +kernel)) (fun _ h9 => h9) rfl (by decide +kernel) rfl rfl (Nat.le_of_ble_eq_true rfl) dX1_height_14 (fun H locs hP hD hS => ?_)
    have hP : va_P D cls2 (x1W cI cJ k0 b1 b2 b3 b4 b5 b6 b7 b8 (1, (yNT y), (yNO y), (yNP y), (yT y), (yH y), (yO y), (yD y), (yW y), (yB y), (yC y), (yQ y))) H := hP
    have hD : va_D A (x1W cI cJ k0 b1 b2 b3 b4 b5 b6 b7 b8 (1, (yNT y), (yNO y), (yNP y), (yT y), (yH y), (yO y), (yD y), (yW y), (yB y), (yC y), (yQ y))) := hD
    have hW : YW D cI cJ k0 b1 b2 b3 b4 b5 b6 b7 b8 (1, (yNT y), (yNO y), (yNP y), (yT y), (yH y), (yO y), (yD y), (yW y), (yB y), (yC y), (yQ y)) s H := ⟨hP, hK⟩
    refine lv_aload_n hx hb dX1_height_17 rfl (lv_at hl 0 rfl) ?_
    refine va_get (D := D) (ci := 1) (v := .int 1) (C := RX1) (T := TX1) (N := 12) hx hb hts hin hown hK hP 0 rfl rfl 0 (by decide) (hts (.fieldLink RX1 36 "TideDepthsModel" "thrown" "I") (by decide +kernel)) (fun _ h9 => h9) rfl dX1_height_18 ?_
    refine lv_if_le (tgt := 28) hx hb dX1_height_21 (by decide) (fun c3 => ?_) (fun c3 => ?_)
    · exact absurd c3 (by decide)
    ·
      refine lv_lconst (v := 0) hx hb dX1_height_24 (by decide) ?_
      refine lv_goto (tgt := 34) hx hb dX1_height_25 (by decide) ?_
      exact W.lret (v := 0) hx hb hr (fun t ht hWm => ⟨⟨0, (1, (yNT y), (yNO y), (yNP y), (yT y), (yH y), (yO y), (yD y), (yW y), (yB y), (yC y), (yQ y)), rfl, hw, by rw [ht]; exact hP, va_K.moved hWm.alike hK, hD⟩, hS.F ht⟩) hS.2.2 dX1_height_34
  · have hw := hw.2 c2
    refine lv_iconst (v := 0) hx hb dX1_height_9 (by decide) ?_
    refine lv_goto (tgt := 14) hx hb dX1_height_10 (by decide) ?_
    refine va_put (D := D) (ci := 1) (v := .int 0) (ty := .int) (C := RX1) (T := TX1) (N := 12) hx hb hts hin tyX1 tyX1_ok nmX1 hown hK hP hD hS 0 rfl rfl 0 (by decide) (hts (.fieldLink RX1 36 "TideDepthsModel" "thrown" "I") (by decide +kernel)) (fun _ h9 => h9) rfl (by decide +kernel) rfl rfl (Nat.le_of_ble_eq_true rfl) dX1_height_14 (fun H locs hP hD hS => ?_)
    have hP : va_P D cls2 (x1W cI cJ k0 b1 b2 b3 b4 b5 b6 b7 b8 (0, (yNT y), (yNO y), (yNP y), (yT y), (yH y), (yO y), (yD y), (yW y), (yB y), (yC y), (yQ y))) H := hP
    have hD : va_D A (x1W cI cJ k0 b1 b2 b3 b4 b5 b6 b7 b8 (0, (yNT y), (yNO y), (yNP y), (yT y), (yH y), (yO y), (yD y), (yW y), (yB y), (yC y), (yQ y))) := hD
    have hW : YW D cI cJ k0 b1 b2 b3 b4 b5 b6 b7 b8 (0, (yNT y), (yNO y), (yNP y), (yT y), (yH y), (yO y), (yD y), (yW y), (yB y), (yC y), (yQ y)) s H := ⟨hP, hK⟩
    refine lv_aload_n hx hb dX1_height_17 rfl (lv_at hl 0 rfl) ?_
    refine va_get (D := D) (ci := 1) (v := .int 0) (C := RX1) (T := TX1) (N := 12) hx hb hts hin hown hK hP 0 rfl rfl 0 (by decide) (hts (.fieldLink RX1 36 "TideDepthsModel" "thrown" "I") (by decide +kernel)) (fun _ h9 => h9) rfl dX1_height_18 ?_
    refine lv_if_le (tgt := 28) hx hb dX1_height_21 (by decide) (fun c4 => ?_) (fun c4 => ?_)
    ·
      refine lv_aload_n hx hb dX1_height_28 rfl (lv_at hl 0 rfl) ?_
      refine lv_lload_n hx hb dX1_height_29 rfl (lv_at hl 1 rfl) ?_
      refine lv_l2i (v := (v1).toInt32) hx hb dX1_height_30 rfl ?_
      refine pc_Vl (As := [.int (v1).toInt32]) (rest := []) ⟨hx, hb, hml, hown, hts⟩ (mX1_heightAt l D cI cJ k0 b1 b2 b3 b4 b5 b6 b7 b8 (0, (yNT y), (yNO y), (yNP y), (yT y), (yH y), (yO y), (yD y), (yW y), (yB y), (yC y), (yQ y)) (v1).toInt32 _) (cwV 1 hts gX1_height_X1_heightAt rfl rfl rfl (by decide +kernel) ⟨Nat.le_of_ble_eq_true rfl, Nat.le_of_ble_eq_true rfl⟩) (wY_rc hW) wY_bl (wY_in hW hw) rfl hl.1 rfl (Nat.le_of_ble_eq_true rfl) dX1_height_31 ⟨Nat.le_of_ble_eq_true rfl, Nat.le_of_ble_eq_true rfl⟩ (fun r5 hw => ?_)
      exact W.lret (v := r5) hx hb hr (fun t ht hWm => ⟨⟨r5, (0, (yNT y), (yNO y), (yNP y), (yT y), (yH y), (yO y), (yD y), (yW y), (yB y), (yC y), (yQ y)), rfl, hw, by rw [ht]; exact hP, va_K.moved hWm.alike hK, hD⟩, hS.F ht⟩) hS.2.2 dX1_height_34
    · exact absurd (by decide) c4

def wX1_observe (post : Int32 → YS → Prop) (y : YS) (v1 : Int64) (v3 : Int64) : Prop := (wX1_isInTable (fun r1 => ((r1 = 0 → (post 0 (1, (yNT y), (yNO y), (yNP y), (yT y), (yH y), (yO y), (yD y), (yW y), (yB y), (yC y), (yQ y)))) ∧ (¬ r1 = 0 → (((yNO y) = 0 → (wX1_isHeight (fun r6 => ((r6 = 0 → (post 0 (1, (yNT y), (yNO y), (yNP y), (yT y), (yH y), (yO y), (yD y), (yW y), (yB y), (yC y), (yQ y)))) ∧ (¬ r6 = 0 → (((yNO y) = 16 → (post 0 (2, (yNT y), (yNO y), (yNP y), (yT y), (yH y), (yO y), (yD y), (yW y), (yB y), (yC y), (yQ y)))) ∧ (¬ (yNO y) = 16 → (vp_in (yNO y) 16 ∧ (wX1_tableHeight (fun r14 => (vp_in (yNO y) 16 ∧ (post ((yNO y) + 1) (0, (yNT y), ((yNO y) + 1), (yNP y), (yT y), (yH y), (upd (yO y) ((yNO y)).toNatClampNeg (v1).toInt32), (vp_updL (yD y) ((yNO y)).toNatClampNeg (v3 - r14)), (yW y), (yB y), (yC y), (yQ y))))) (0, (yNT y), (yNO y), (yNP y), (yT y), (yH y), (upd (yO y) ((yNO y)).toNatClampNeg (v1).toInt32), (yD y), (yW y), (yB y), (yC y), (yQ y)) (v1).toInt32))))))) v3)) ∧ (¬ (yNO y) = 0 → (((yNO y) ≤ 0 → ((v1 < (((yO y) 0)).toInt64 → (post 0 (1, (yNT y), (yNO y), (yNP y), (yT y), (yH y), (yO y), (yD y), (yW y), (yB y), (yC y), (yQ y)))) ∧ (¬ v1 < (((yO y) 0)).toInt64 → (wX1_isHeight (fun r21 => ((r21 = 0 → (post 0 (1, (yNT y), (yNO y), (yNP y), (yT y), (yH y), (yO y), (yD y), (yW y), (yB y), (yC y), (yQ y)))) ∧ (¬ r21 = 0 → (((yNO y) = 16 → (post 0 (2, (yNT y), (yNO y), (yNP y), (yT y), (yH y), (yO y), (yD y), (yW y), (yB y), (yC y), (yQ y)))) ∧ (¬ (yNO y) = 16 → (vp_in (yNO y) 16 ∧ (wX1_tableHeight (fun r29 => (vp_in (yNO y) 16 ∧ (post ((yNO y) + 1) (0, (yNT y), ((yNO y) + 1), (yNP y), (yT y), (yH y), (upd (yO y) ((yNO y)).toNatClampNeg (v1).toInt32), (vp_updL (yD y) ((yNO y)).toNatClampNeg (v3 - r29)), (yW y), (yB y), (yC y), (yQ y))))) (0, (yNT y), (yNO y), (yNP y), (yT y), (yH y), (upd (yO y) ((yNO y)).toNatClampNeg (v1).toInt32), (yD y), (yW y), (yB y), (yC y), (yQ y)) (v1).toInt32))))))) v3)))) ∧ (¬ (yNO y) ≤ 0 → (vp_in ((yNO y) - 1) 16 ∧ ((v1 < (((yO y) (((yNO y) - 1)).toNatClampNeg)).toInt64 → (post 0 (1, (yNT y), (yNO y), (yNP y), (yT y), (yH y), (yO y), (yD y), (yW y), (yB y), (yC y), (yQ y)))) ∧ (¬ v1 < (((yO y) (((yNO y) - 1)).toNatClampNeg)).toInt64 → (wX1_isHeight (fun r36 => ((r36 = 0 → (post 0 (1, (yNT y), (yNO y), (yNP y), (yT y), (yH y), (yO y), (yD y), (yW y), (yB y), (yC y), (yQ y)))) ∧ (¬ r36 = 0 → (((yNO y) = 16 → (post 0 (2, (yNT y), (yNO y), (yNP y), (yT y), (yH y), (yO y), (yD y), (yW y), (yB y), (yC y), (yQ y)))) ∧ (¬ (yNO y) = 16 → (vp_in (yNO y) 16 ∧ (wX1_tableHeight (fun r44 => (vp_in (yNO y) 16 ∧ (post ((yNO y) + 1) (0, (yNT y), ((yNO y) + 1), (yNP y), (yT y), (yH y), (upd (yO y) ((yNO y)).toNatClampNeg (v1).toInt32), (vp_updL (yD y) ((yNO y)).toNatClampNeg (v3 - r44)), (yW y), (yB y), (yC y), (yQ y))))) (0, (yNT y), (yNO y), (yNP y), (yT y), (yH y), (upd (yO y) ((yNO y)).toNatClampNeg (v1).toInt32), (yD y), (yW y), (yB y), (yC y), (yQ y)) (v1).toInt32))))))) v3))))))))))) y v1)

set_option maxHeartbeats 4000000 in
set_option maxRecDepth 100000 in
theorem mX1_observe (l : Launch) (D : va_G) (cI cJ : ClassId) (k0 b1 b2 b3 b4 b5 b6 b7 b8 sz : Nat) (y : YS) (v1 : Int64) (v3 : Int64) (post : Int32 → YS → Prop) : Met l yX1_observe wsX1_observe ({ frames := 2, cells := 0, slots := 0, locals := 54 } : Room) (va_Pc [.ref k0, .long v1, .long v3] (fun U => YE D cI cJ k0 b1 b2 b3 b4 b5 b6 b7 b8 sz y U ∧ wX1_observe post y v1 v3)) (va_Qi post (fun u9 t9 => YT D cI cJ k0 b1 b2 b3 b4 b5 b6 b7 b8 (va_A (x1W cI cJ k0 b1 b2 b3 b4 b5 b6 b7 b8 y) sz) u9 t9) (va_A (x1W cI cJ k0 b1 b2 b3 b4 b5 b6 b7 b8 y) sz)) 0 0 (va_A (x1W cI cJ k0 b1 b2 b3 b4 b5 b6 b7 b8 y) sz) := by
  refine Met.ofW (cc := cX1_observe) (maxL := 6) (ret := (some .int)) (by decide +kernel) rfl ?_
  intro p e s m args below meth c s₁ B hml hv
  obtain ⟨rfl, ⟨hsz, hP, hK, hD0⟩, hw⟩ := hv
  have hx := B.exec
  have hb := B.bytes
  have hr := B.returns
  have hts := atoms_spec (ws := wsX1_observe) B.pre
  have hown : s.vm.findClass RX1 = some m.cls := findClass_of_methodNamed B.named
  have hlocks := B.notSynchronized
  have hin : ∀ w ∈ u_ws RX1 TX1 12, w ∈ wsX1_observe := by decide +kernel
  subst hsz
  have hD := hD0.self (sz := s.heap.size)
  generalize hAe : va_A (x1W cI cJ k0 b1 b2 b3 b4 b5 b6 b7 b8 y) s.heap.size = A at hD ⊢
  have hS : va_S A s.heap s.heap [] := va_S.rf
  have hW : YW D cI cJ k0 b1 b2 b3 b4 b5 b6 b7 b8 y s s.heap := ⟨hP, hK⟩
  have hl := lv_entry ([.ref k0, .long v1, .long v3]) (n := 6) (Nat.le_of_ble_eq_true rfl)
  rw [lg_entry_eq]
  generalize (lg_sl ([.ref k0, .long v1, .long v3]) ++ List.replicate (6 - (lg_sl ([.ref k0, .long v1, .long v3])).length) Slot.unset).toArray = ls at hl ⊢
  have hl : lv_has ls 6 [(0, .ref k0), (1, .long v1), (3, .long v3)] := hl
  unfold wX1_observe at hw
  refine lv_aload_n hx hb dX1_observe_0 rfl (lv_at hl 0 rfl) ?_
  refine lv_lload_n hx hb dX1_observe_1 rfl (lv_at hl 1 rfl) ?_
  refine pc_Vi (As := [.long v1]) (rest := []) ⟨hx, hb, hml, hown, hts⟩ (mX1_isInTable l D cI cJ k0 b1 b2 b3 b4 b5 b6 b7 b8 y v1 _) (cwV 1 hts gX1_observe_X1_isInTable rfl rfl rfl (by decide +kernel) ⟨Nat.le_of_ble_eq_true rfl, Nat.le_of_ble_eq_true rfl⟩) (wY_rc hW) wY_bl (wY_in hW hw) rfl hl.1 rfl (Nat.le_of_ble_eq_true rfl) dX1_observe_2 ⟨Nat.le_of_ble_eq_true rfl, Nat.le_of_ble_eq_true rfl⟩ (fun r1 hw => ?_)
  obtain ⟨z_r1, hw⟩ := hw
  refine lv_if_eq (tgt := 54) hx hb dX1_observe_5 (by decide) (fun c2 => ?_) (fun c2 => ?_)
  · have hw := hw.1 c2
    refine lv_iconst (v := 0) hx hb dX1_observe_54 (by decide) ?_
    refine lv_istore (lv' := [(5, .int 0), (0, .ref k0), (1, .long v1), (3, .long v3)]) hx hb dX1_observe_55 hl (by decide) rfl (fun ls hl => ?_)
    refine lv_aload_n hx hb dX1_observe_57 rfl (lv_at hl 1 rfl) ?_
    refine lv_iload hx hb dX1_observe_58 (lv_at hl 0 rfl) ?_
    refine lv_if_ne (tgt := 67) hx hb dX1_observe_60 (by decide) (fun c3 => ?_) (fun c3 => ?_)
    · exact absurd (by decide) c3
    ·
      refine lv_iconst (v := 1) hx hb dX1_observe_63 (by decide) ?_
      refine lv_goto (tgt := 81) hx hb dX1_observe_64 (by decide) ?_
      refine va_put (D := D) (ci := 1) (v := .int 1) (ty := .int) (C := RX1) (T := TX1) (N := 12) hx hb hts hin tyX1 tyX1_ok nmX1 hown hK hP hD hS 0 rfl rfl 0 (by decide) (hts (.fieldLink RX1 36 "TideDepthsModel" "thrown" "I") (by decide +kernel)) (fun _ h9 => h9) rfl (by decide +kernel) rfl rfl (Nat.le_of_ble_eq_true rfl) dX1_observe_81 (fun H locs hP hD hS => ?_)
      have hP : va_P D cls2 (x1W cI cJ k0 b1 b2 b3 b4 b5 b6 b7 b8 (1, (yNT y), (yNO y), (yNP y), (yT y), (yH y), (yO y), (yD y), (yW y), (yB y), (yC y), (yQ y))) H := hP
      have hD : va_D A (x1W cI cJ k0 b1 b2 b3 b4 b5 b6 b7 b8 (1, (yNT y), (yNO y), (yNP y), (yT y), (yH y), (yO y), (yD y), (yW y), (yB y), (yC y), (yQ y))) := hD
      have hW : YW D cI cJ k0 b1 b2 b3 b4 b5 b6 b7 b8 (1, (yNT y), (yNO y), (yNP y), (yT y), (yH y), (yO y), (yD y), (yW y), (yB y), (yC y), (yQ y)) s H := ⟨hP, hK⟩
      refine lv_aload_n hx hb dX1_observe_84 rfl (lv_at hl 1 rfl) ?_
      refine va_get (D := D) (ci := 1) (v := .int 1) (C := RX1) (T := TX1) (N := 12) hx hb hts hin hown hK hP 0 rfl rfl 0 (by decide) (hts (.fieldLink RX1 36 "TideDepthsModel" "thrown" "I") (by decide +kernel)) (fun _ h9 => h9) rfl dX1_observe_85 ?_
      refine lv_if_le (tgt := 93) hx hb dX1_observe_88 (by decide) (fun c4 => ?_) (fun c4 => ?_)
      · exact absurd c4 (by decide)
      ·
        refine lv_iconst (v := 0) hx hb dX1_observe_91 (by decide) ?_
        exact W.iret (v := 0) hx hb hr (fun t ht hWm => ⟨⟨0, (1, (yNT y), (yNO y), (yNP y), (yT y), (yH y), (yO y), (yD y), (yW y), (yB y), (yC y), (yQ y)), rfl, hw, by rw [ht]; exact hP, va_K.moved hWm.alike hK, hD⟩, hS.F ht⟩) hS.2.2 dX1_observe_92
  · have hw := hw.2 c2
    refine lv_aload_n hx hb dX1_observe_8 rfl (lv_at hl 0 rfl) ?_
    refine va_get (D := D) (ci := 1) (v := .int (yNO y)) (C := RX1) (T := TX1) (N := 12) hx hb hts hin hown hK hP 0 rfl rfl 2 (by decide) (hts (.fieldLink RX1 59 "TideDepthsModel" "observations" "I") (by decide +kernel)) (fun _ h9 => h9) rfl dX1_observe_9 ?_
    refine lv_if_eq (tgt := 43) hx hb dX1_observe_12 (by decide) (fun c5 => ?_) (fun c5 => ?_)
    · have hw := hw.1 c5
      refine lv_lload_n hx hb dX1_observe_43 rfl (lv_at hl 2 rfl) ?_
      refine pc_Si (As := [.long v3]) (rest := []) ⟨hx, hb, hml, hown, hts⟩ (mX1_isHeight l v3 _) (va_cwS 1 hts gX1_observe_X1_isHeight rfl rfl rfl (by decide +kernel) ⟨Nat.le_of_ble_eq_true rfl, Nat.le_of_ble_eq_true rfl⟩) wK_bl (fun _ _ _ => hw) rfl hl.1 rfl (Nat.le_of_ble_eq_true rfl) dX1_observe_44 ⟨Nat.le_of_ble_eq_true rfl, Nat.le_of_ble_eq_true rfl⟩ (fun r6 hw => ?_)
      obtain ⟨z_r6, hw⟩ := hw
      refine lv_if_eq (tgt := 54) hx hb dX1_observe_47 (by decide) (fun c7 => ?_) (fun c7 => ?_)
      · have hw := hw.1 c7
        refine lv_iconst (v := 0) hx hb dX1_observe_54 (by decide) ?_
        refine lv_istore (lv' := [(5, .int 0), (0, .ref k0), (1, .long v1), (3, .long v3)]) hx hb dX1_observe_55 hl (by decide) rfl (fun ls hl => ?_)
        refine lv_aload_n hx hb dX1_observe_57 rfl (lv_at hl 1 rfl) ?_
        refine lv_iload hx hb dX1_observe_58 (lv_at hl 0 rfl) ?_
        refine lv_if_ne (tgt := 67) hx hb dX1_observe_60 (by decide) (fun c8 => ?_) (fun c8 => ?_)
        · exact absurd (by decide) c8
        ·
          refine lv_iconst (v := 1) hx hb dX1_observe_63 (by decide) ?_
          refine lv_goto (tgt := 81) hx hb dX1_observe_64 (by decide) ?_
          refine va_put (D := D) (ci := 1) (v := .int 1) (ty := .int) (C := RX1) (T := TX1) (N := 12) hx hb hts hin tyX1 tyX1_ok nmX1 hown hK hP hD hS 0 rfl rfl 0 (by decide) (hts (.fieldLink RX1 36 "TideDepthsModel" "thrown" "I") (by decide +kernel)) (fun _ h9 => h9) rfl (by decide +kernel) rfl rfl (Nat.le_of_ble_eq_true rfl) dX1_observe_81 (fun H locs hP hD hS => ?_)
          have hP : va_P D cls2 (x1W cI cJ k0 b1 b2 b3 b4 b5 b6 b7 b8 (1, (yNT y), (yNO y), (yNP y), (yT y), (yH y), (yO y), (yD y), (yW y), (yB y), (yC y), (yQ y))) H := hP
          have hD : va_D A (x1W cI cJ k0 b1 b2 b3 b4 b5 b6 b7 b8 (1, (yNT y), (yNO y), (yNP y), (yT y), (yH y), (yO y), (yD y), (yW y), (yB y), (yC y), (yQ y))) := hD
          have hW : YW D cI cJ k0 b1 b2 b3 b4 b5 b6 b7 b8 (1, (yNT y), (yNO y), (yNP y), (yT y), (yH y), (yO y), (yD y), (yW y), (yB y), (yC y), (yQ y)) s H := ⟨hP, hK⟩
          refine lv_aload_n hx hb dX1_observe_84 rfl (lv_at hl 1 rfl) ?_
          refine va_get (D := D) (ci := 1) (v := .int 1) (C := RX1) (T := TX1) (N := 12) hx hb hts hin hown hK hP 0 rfl rfl 0 (by decide) (hts (.fieldLink RX1 36 "TideDepthsModel" "thrown" "I") (by decide +kernel)) (fun _ h9 => h9) rfl dX1_observe_85 ?_
          refine lv_if_le (tgt := 93) hx hb dX1_observe_88 (by decide) (fun c9 => ?_) (fun c9 => ?_)
          · exact absurd c9 (by decide)
          ·
            refine lv_iconst (v := 0) hx hb dX1_observe_91 (by decide) ?_
            exact W.iret (v := 0) hx hb hr (fun t ht hWm => ⟨⟨0, (1, (yNT y), (yNO y), (yNP y), (yT y), (yH y), (yO y), (yD y), (yW y), (yB y), (yC y), (yQ y)), rfl, hw, by rw [ht]; exact hP, va_K.moved hWm.alike hK, hD⟩, hS.F ht⟩) hS.2.2 dX1_observe_92
      · have hw := hw.2 c7
        refine lv_iconst (v := 1) hx hb dX1_observe_50 (by decide) ?_
        refine lv_goto (tgt := 55) hx hb dX1_observe_51 (by decide) ?_
        refine lv_istore (lv' := [(5, .int 1), (0, .ref k0), (1, .long v1), (3, .long v3)]) hx hb dX1_observe_55 hl (by decide) rfl (fun ls hl => ?_)
        refine lv_aload_n hx hb dX1_observe_57 rfl (lv_at hl 1 rfl) ?_
        refine lv_iload hx hb dX1_observe_58 (lv_at hl 0 rfl) ?_
        refine lv_if_ne (tgt := 67) hx hb dX1_observe_60 (by decide) (fun c10 => ?_) (fun c10 => ?_)
        ·
          refine lv_aload_n hx hb dX1_observe_67 rfl (lv_at hl 1 rfl) ?_
          refine va_get (D := D) (ci := 1) (v := .int (yNO y)) (C := RX1) (T := TX1) (N := 12) hx hb hts hin hown hK hP 0 rfl rfl 2 (by decide) (hts (.fieldLink RX1 59 "TideDepthsModel" "observations" "I") (by decide +kernel)) (fun _ h9 => h9) rfl dX1_observe_68 ?_
          refine lv_bipush (v := 16) hx hb dX1_observe_71 (by decide) ?_
          refine lv_icmp_ne (tgt := 80) hx hb dX1_observe_73 (by decide) (fun c11 => ?_) (fun c11 => ?_)
          · have hw := hw.2 c11
            refine lv_iconst (v := 0) hx hb dX1_observe_80 (by decide) ?_
            refine va_put (D := D) (ci := 1) (v := .int 0) (ty := .int) (C := RX1) (T := TX1) (N := 12) hx hb hts hin tyX1 tyX1_ok nmX1 hown hK hP hD hS 0 rfl rfl 0 (by decide) (hts (.fieldLink RX1 36 "TideDepthsModel" "thrown" "I") (by decide +kernel)) (fun _ h9 => h9) rfl (by decide +kernel) rfl rfl (Nat.le_of_ble_eq_true rfl) dX1_observe_81 (fun H locs hP hD hS => ?_)
            have hP : va_P D cls2 (x1W cI cJ k0 b1 b2 b3 b4 b5 b6 b7 b8 (0, (yNT y), (yNO y), (yNP y), (yT y), (yH y), (yO y), (yD y), (yW y), (yB y), (yC y), (yQ y))) H := hP
            have hD : va_D A (x1W cI cJ k0 b1 b2 b3 b4 b5 b6 b7 b8 (0, (yNT y), (yNO y), (yNP y), (yT y), (yH y), (yO y), (yD y), (yW y), (yB y), (yC y), (yQ y))) := hD
            have hW : YW D cI cJ k0 b1 b2 b3 b4 b5 b6 b7 b8 (0, (yNT y), (yNO y), (yNP y), (yT y), (yH y), (yO y), (yD y), (yW y), (yB y), (yC y), (yQ y)) s H := ⟨hP, hK⟩
            refine lv_aload_n hx hb dX1_observe_84 rfl (lv_at hl 1 rfl) ?_
            refine va_get (D := D) (ci := 1) (v := .int 0) (C := RX1) (T := TX1) (N := 12) hx hb hts hin hown hK hP 0 rfl rfl 0 (by decide) (hts (.fieldLink RX1 36 "TideDepthsModel" "thrown" "I") (by decide +kernel)) (fun _ h9 => h9) rfl dX1_observe_85 ?_
            refine lv_if_le (tgt := 93) hx hb dX1_observe_88 (by decide) (fun c12 => ?_) (fun c12 => ?_)
            ·
              refine lv_aload_n hx hb dX1_observe_93 rfl (lv_at hl 1 rfl) ?_
              refine va_get (D := D) (ci := 1) (v := .ref b3) (C := RX1) (T := TX1) (N := 12) hx hb hts hin hown hK hP 0 rfl rfl 6 (by decide) (hts (.fieldLink RX1 16 "TideDepthsModel" "seenTime" "[I") (by decide +kernel)) (fun _ h9 => h9) rfl dX1_observe_94 ?_
              refine lv_aload_n hx hb dX1_observe_97 rfl (lv_at hl 1 rfl) ?_
              refine va_get (D := D) (ci := 1) (v := .int (yNO y)) (C := RX1) (T := TX1) (N := 12) hx hb hts hin hown hK hP 0 rfl rfl 2 (by decide) (hts (.fieldLink RX1 59 "TideDepthsModel" "observations" "I") (by decide +kernel)) (fun _ h9 => h9) rfl dX1_observe_98 ?_
              refine lv_lload_n hx hb dX1_observe_101 rfl (lv_at hl 2 rfl) ?_
              refine lv_l2i (v := (v1).toInt32) hx hb dX1_observe_102 rfl ?_
              obtain ⟨h13, hw⟩ := hw
              refine va_iast hx hb hK hP hD hS 3 0 rfl rfl h13 dX1_observe_103 (fun H locs hP hD hS => ?_)
              have hP : va_P D cls2 (x1W cI cJ k0 b1 b2 b3 b4 b5 b6 b7 b8 (0, (yNT y), (yNO y), (yNP y), (yT y), (yH y), (upd (yO y) ((yNO y)).toNatClampNeg (v1).toInt32), (yD y), (yW y), (yB y), (yC y), (yQ y))) H := hP
              have hD : va_D A (x1W cI cJ k0 b1 b2 b3 b4 b5 b6 b7 b8 (0, (yNT y), (yNO y), (yNP y), (yT y), (yH y), (upd (yO y) ((yNO y)).toNatClampNeg (v1).toInt32), (yD y), (yW y), (yB y), (yC y), (yQ y))) := hD
              have hW : YW D cI cJ k0 b1 b2 b3 b4 b5 b6 b7 b8 (0, (yNT y), (yNO y), (yNP y), (yT y), (yH y), (upd (yO y) ((yNO y)).toNatClampNeg (v1).toInt32), (yD y), (yW y), (yB y), (yC y), (yQ y)) s H := ⟨hP, hK⟩
              refine lv_aload_n hx hb dX1_observe_104 rfl (lv_at hl 1 rfl) ?_
              refine va_get (D := D) (ci := 1) (v := .ref b4) (C := RX1) (T := TX1) (N := 12) hx hb hts hin hown hK hP 0 rfl rfl 7 (by decide) (hts (.fieldLink RX1 19 "TideDepthsModel" "difference" "[J") (by decide +kernel)) (fun _ h9 => h9) rfl dX1_observe_105 ?_
              refine lv_aload_n hx hb dX1_observe_108 rfl (lv_at hl 1 rfl) ?_
              refine va_get (D := D) (ci := 1) (v := .int (yNO y)) (C := RX1) (T := TX1) (N := 12) hx hb hts hin hown hK hP 0 rfl rfl 2 (by decide) (hts (.fieldLink RX1 59 "TideDepthsModel" "observations" "I") (by decide +kernel)) (fun _ h9 => h9) rfl dX1_observe_109 ?_
              refine lv_lload_n hx hb dX1_observe_112 rfl (lv_at hl 3 rfl) ?_
              refine lv_aload_n hx hb dX1_observe_113 rfl (lv_at hl 1 rfl) ?_
              refine lv_lload_n hx hb dX1_observe_114 rfl (lv_at hl 2 rfl) ?_
              refine lv_l2i (v := (v1).toInt32) hx hb dX1_observe_115 rfl ?_
              refine pc_Vl (As := [.int (v1).toInt32]) (rest := [.long v3, .int (yNO y), .ref b4]) ⟨hx, hb, hml, hown, hts⟩ (mX1_tableHeight l D cI cJ k0 b1 b2 b3 b4 b5 b6 b7 b8 (0, (yNT y), (yNO y), (yNP y), (yT y), (yH y), (upd (yO y) ((yNO y)).toNatClampNeg (v1).toInt32), (yD y), (yW y), (yB y), (yC y), (yQ y)) (v1).toInt32 _) (cwV 1 hts gX1_observe_X1_tableHeight rfl rfl rfl (by decide +kernel) ⟨Nat.le_of_ble_eq_true rfl, Nat.le_of_ble_eq_true rfl⟩) (wY_rc hW) wY_bl (wY_in hW hw) rfl hl.1 rfl (Nat.le_of_ble_eq_true rfl) dX1_observe_116 ⟨Nat.le_of_ble_eq_true rfl, Nat.le_of_ble_eq_true rfl⟩ (fun r14 hw => ?_)
              refine lv_lsub hx hb dX1_observe_119 ?_
              obtain ⟨h15, hw⟩ := hw
              refine va_last hx hb hK hP hD hS 4 1 rfl rfl h15 dX1_observe_120 (fun H locs hP hD hS => ?_)
              have hP : va_P D cls2 (x1W cI cJ k0 b1 b2 b3 b4 b5 b6 b7 b8 (0, (yNT y), (yNO y), (yNP y), (yT y), (yH y), (upd (yO y) ((yNO y)).toNatClampNeg (v1).toInt32), (vp_updL (yD y) ((yNO y)).toNatClampNeg (v3 - r14)), (yW y), (yB y), (yC y), (yQ y))) H := hP
              have hD : va_D A (x1W cI cJ k0 b1 b2 b3 b4 b5 b6 b7 b8 (0, (yNT y), (yNO y), (yNP y), (yT y), (yH y), (upd (yO y) ((yNO y)).toNatClampNeg (v1).toInt32), (vp_updL (yD y) ((yNO y)).toNatClampNeg (v3 - r14)), (yW y), (yB y), (yC y), (yQ y))) := hD
              have hW : YW D cI cJ k0 b1 b2 b3 b4 b5 b6 b7 b8 (0, (yNT y), (yNO y), (yNP y), (yT y), (yH y), (upd (yO y) ((yNO y)).toNatClampNeg (v1).toInt32), (vp_updL (yD y) ((yNO y)).toNatClampNeg (v3 - r14)), (yW y), (yB y), (yC y), (yQ y)) s H := ⟨hP, hK⟩
              refine lv_aload_n hx hb dX1_observe_121 rfl (lv_at hl 1 rfl) ?_
              refine lv_dup hx hb dX1_observe_122 rfl ?_
              refine va_get (D := D) (ci := 1) (v := .int (yNO y)) (C := RX1) (T := TX1) (N := 12) hx hb hts hin hown hK hP 0 rfl rfl 2 (by decide) (hts (.fieldLink RX1 59 "TideDepthsModel" "observations" "I") (by decide +kernel)) (fun _ h9 => h9) rfl dX1_observe_123 ?_
              refine lv_iconst (v := 1) hx hb dX1_observe_126 (by decide) ?_
              refine lv_iadd hx hb dX1_observe_127 ?_
              refine va_put (D := D) (ci := 1) (v := .int ((yNO y) + 1)) (ty := .int) (C := RX1) (T := TX1) (N := 12) hx hb hts hin tyX1 tyX1_ok nmX1 hown hK hP hD hS 0 rfl rfl 2 (by decide) (hts (.fieldLink RX1 59 "TideDepthsModel" "observations" "I") (by decide +kernel)) (fun _ h9 => h9) rfl (by decide +kernel) rfl rfl (Nat.le_of_ble_eq_true rfl) dX1_observe_128 (fun H locs hP hD hS => ?_)
              have hP : va_P D cls2 (x1W cI cJ k0 b1 b2 b3 b4 b5 b6 b7 b8 (0, (yNT y), ((yNO y) + 1), (yNP y), (yT y), (yH y), (upd (yO y) ((yNO y)).toNatClampNeg (v1).toInt32), (vp_updL (yD y) ((yNO y)).toNatClampNeg (v3 - r14)), (yW y), (yB y), (yC y), (yQ y))) H := hP
              have hD : va_D A (x1W cI cJ k0 b1 b2 b3 b4 b5 b6 b7 b8 (0, (yNT y), ((yNO y) + 1), (yNP y), (yT y), (yH y), (upd (yO y) ((yNO y)).toNatClampNeg (v1).toInt32), (vp_updL (yD y) ((yNO y)).toNatClampNeg (v3 - r14)), (yW y), (yB y), (yC y), (yQ y))) := hD
              have hW : YW D cI cJ k0 b1 b2 b3 b4 b5 b6 b7 b8 (0, (yNT y), ((yNO y) + 1), (yNP y), (yT y), (yH y), (upd (yO y) ((yNO y)).toNatClampNeg (v1).toInt32), (vp_updL (yD y) ((yNO y)).toNatClampNeg (v3 - r14)), (yW y), (yB y), (yC y), (yQ y)) s H := ⟨hP, hK⟩
              refine lv_aload_n hx hb dX1_observe_131 rfl (lv_at hl 1 rfl) ?_
              refine va_get (D := D) (ci := 1) (v := .int ((yNO y) + 1)) (C := RX1) (T := TX1) (N := 12) hx hb hts hin hown hK hP 0 rfl rfl 2 (by decide) (hts (.fieldLink RX1 59 "TideDepthsModel" "observations" "I") (by decide +kernel)) (fun _ h9 => h9) rfl dX1_observe_132 ?_
              exact W.iret (v := ((yNO y) + 1)) hx hb hr (fun t ht hWm => ⟨⟨((yNO y) + 1), (0, (yNT y), ((yNO y) + 1), (yNP y), (yT y), (yH y), (upd (yO y) ((yNO y)).toNatClampNeg (v1).toInt32), (vp_updL (yD y) ((yNO y)).toNatClampNeg (v3 - r14)), (yW y), (yB y), (yC y), (yQ y)), rfl, hw, by rw [ht]; exact hP, va_K.moved hWm.alike hK, hD⟩, hS.F ht⟩) hS.2.2 dX1_observe_135
            · exact absurd (by decide) c12
          · have hw := hw.1 c11
            refine lv_iconst (v := 2) hx hb dX1_observe_76 (by decide) ?_
            refine lv_goto (tgt := 81) hx hb dX1_observe_77 (by decide) ?_
            refine va_put (D := D) (ci := 1) (v := .int 2) (ty := .int) (C := RX1) (T := TX1) (N := 12) hx hb hts hin tyX1 tyX1_ok nmX1 hown hK hP hD hS 0 rfl rfl 0 (by decide) (hts (.fieldLink RX1 36 "TideDepthsModel" "thrown" "I") (by decide +kernel)) (fun _ h9 => h9) rfl (by decide +kernel) rfl rfl (Nat.le_of_ble_eq_true rfl) dX1_observe_81 (fun H locs hP hD hS => ?_)
            have hP : va_P D cls2 (x1W cI cJ k0 b1 b2 b3 b4 b5 b6 b7 b8 (2, (yNT y), (yNO y), (yNP y), (yT y), (yH y), (yO y), (yD y), (yW y), (yB y), (yC y), (yQ y))) H := hP
            have hD : va_D A (x1W cI cJ k0 b1 b2 b3 b4 b5 b6 b7 b8 (2, (yNT y), (yNO y), (yNP y), (yT y), (yH y), (yO y), (yD y), (yW y), (yB y), (yC y), (yQ y))) := hD
            have hW : YW D cI cJ k0 b1 b2 b3 b4 b5 b6 b7 b8 (2, (yNT y), (yNO y), (yNP y), (yT y), (yH y), (yO y), (yD y), (yW y), (yB y), (yC y), (yQ y)) s H := ⟨hP, hK⟩
            refine lv_aload_n hx hb dX1_observe_84 rfl (lv_at hl 1 rfl) ?_
            refine va_get (D := D) (ci := 1) (v := .int 2) (C := RX1) (T := TX1) (N := 12) hx hb hts hin hown hK hP 0 rfl rfl 0 (by decide) (hts (.fieldLink RX1 36 "TideDepthsModel" "thrown" "I") (by decide +kernel)) (fun _ h9 => h9) rfl dX1_observe_85 ?_
            refine lv_if_le (tgt := 93) hx hb dX1_observe_88 (by decide) (fun c16 => ?_) (fun c16 => ?_)
            · exact absurd c16 (by decide)
            ·
              refine lv_iconst (v := 0) hx hb dX1_observe_91 (by decide) ?_
              exact W.iret (v := 0) hx hb hr (fun t ht hWm => ⟨⟨0, (2, (yNT y), (yNO y), (yNP y), (yT y), (yH y), (yO y), (yD y), (yW y), (yB y), (yC y), (yQ y)), rfl, hw, by rw [ht]; exact hP, va_K.moved hWm.alike hK, hD⟩, hS.F ht⟩) hS.2.2 dX1_observe_92
        · exact absurd c10 (by decide)
    · have hw := hw.2 c5
      refine lv_lload_n hx hb dX1_observe_15 rfl (lv_at hl 1 rfl) ?_
      refine lv_aload_n hx hb dX1_observe_16 rfl (lv_at hl 0 rfl) ?_
      refine va_get (D := D) (ci := 1) (v := .ref b3) (C := RX1) (T := TX1) (N := 12) hx hb hts hin hown hK hP 0 rfl rfl 6 (by decide) (hts (.fieldLink RX1 16 "TideDepthsModel" "seenTime" "[I") (by decide +kernel)) (fun _ h9 => h9) rfl dX1_observe_17 ?_
      refine lv_aload_n hx hb dX1_observe_20 rfl (lv_at hl 0 rfl) ?_
      refine va_get (D := D) (ci := 1) (v := .int (yNO y)) (C := RX1) (T := TX1) (N := 12) hx hb hts hin hown hK hP 0 rfl rfl 2 (by decide) (hts (.fieldLink RX1 59 "TideDepthsModel" "observations" "I") (by decide +kernel)) (fun _ h9 => h9) rfl dX1_observe_21 ?_
      refine lv_if_le (tgt := 36) hx hb dX1_observe_24 (by decide) (fun c17 => ?_) (fun c17 => ?_)
      · have hw := hw.1 c17
        refine lv_iconst (v := 0) hx hb dX1_observe_36 (by decide) ?_
        refine va_iald hx hb hK hP 3 0 rfl rfl (by unfold vp_in; decide) dX1_observe_37 ?_
        rw [show Int32.toNatClampNeg 0 = 0 from by decide]
        refine lv_i2l (v := (((yO y) 0)).toInt64) hx hb dX1_observe_38 rfl ?_
        refine bl_lt (tgt := 54) hx hb dX1_observe_39 dX1_observe_40 (by decide) (fun c18 => ?_) (fun c18 => ?_)
        · have hw := hw.1 c18
          refine lv_iconst (v := 0) hx hb dX1_observe_54 (by decide) ?_
          refine lv_istore (lv' := [(5, .int 0), (0, .ref k0), (1, .long v1), (3, .long v3)]) hx hb dX1_observe_55 hl (by decide) rfl (fun ls hl => ?_)
          refine lv_aload_n hx hb dX1_observe_57 rfl (lv_at hl 1 rfl) ?_
          refine lv_iload hx hb dX1_observe_58 (lv_at hl 0 rfl) ?_
          refine lv_if_ne (tgt := 67) hx hb dX1_observe_60 (by decide) (fun c19 => ?_) (fun c19 => ?_)
          · exact absurd (by decide) c19
          ·
            refine lv_iconst (v := 1) hx hb dX1_observe_63 (by decide) ?_
            refine lv_goto (tgt := 81) hx hb dX1_observe_64 (by decide) ?_
            refine va_put (D := D) (ci := 1) (v := .int 1) (ty := .int) (C := RX1) (T := TX1) (N := 12) hx hb hts hin tyX1 tyX1_ok nmX1 hown hK hP hD hS 0 rfl rfl 0 (by decide) (hts (.fieldLink RX1 36 "TideDepthsModel" "thrown" "I") (by decide +kernel)) (fun _ h9 => h9) rfl (by decide +kernel) rfl rfl (Nat.le_of_ble_eq_true rfl) dX1_observe_81 (fun H locs hP hD hS => ?_)
            have hP : va_P D cls2 (x1W cI cJ k0 b1 b2 b3 b4 b5 b6 b7 b8 (1, (yNT y), (yNO y), (yNP y), (yT y), (yH y), (yO y), (yD y), (yW y), (yB y), (yC y), (yQ y))) H := hP
            have hD : va_D A (x1W cI cJ k0 b1 b2 b3 b4 b5 b6 b7 b8 (1, (yNT y), (yNO y), (yNP y), (yT y), (yH y), (yO y), (yD y), (yW y), (yB y), (yC y), (yQ y))) := hD
            have hW : YW D cI cJ k0 b1 b2 b3 b4 b5 b6 b7 b8 (1, (yNT y), (yNO y), (yNP y), (yT y), (yH y), (yO y), (yD y), (yW y), (yB y), (yC y), (yQ y)) s H := ⟨hP, hK⟩
            refine lv_aload_n hx hb dX1_observe_84 rfl (lv_at hl 1 rfl) ?_
            refine va_get (D := D) (ci := 1) (v := .int 1) (C := RX1) (T := TX1) (N := 12) hx hb hts hin hown hK hP 0 rfl rfl 0 (by decide) (hts (.fieldLink RX1 36 "TideDepthsModel" "thrown" "I") (by decide +kernel)) (fun _ h9 => h9) rfl dX1_observe_85 ?_
            refine lv_if_le (tgt := 93) hx hb dX1_observe_88 (by decide) (fun c20 => ?_) (fun c20 => ?_)
            · exact absurd c20 (by decide)
            ·
              refine lv_iconst (v := 0) hx hb dX1_observe_91 (by decide) ?_
              exact W.iret (v := 0) hx hb hr (fun t ht hWm => ⟨⟨0, (1, (yNT y), (yNO y), (yNP y), (yT y), (yH y), (yO y), (yD y), (yW y), (yB y), (yC y), (yQ y)), rfl, hw, by rw [ht]; exact hP, va_K.moved hWm.alike hK, hD⟩, hS.F ht⟩) hS.2.2 dX1_observe_92
        · have hw := hw.2 c18
          refine lv_lload_n hx hb dX1_observe_43 rfl (lv_at hl 2 rfl) ?_
          refine pc_Si (As := [.long v3]) (rest := []) ⟨hx, hb, hml, hown, hts⟩ (mX1_isHeight l v3 _) (va_cwS 1 hts gX1_observe_X1_isHeight rfl rfl rfl (by decide +kernel) ⟨Nat.le_of_ble_eq_true rfl, Nat.le_of_ble_eq_true rfl⟩) wK_bl (fun _ _ _ => hw) rfl hl.1 rfl (Nat.le_of_ble_eq_true rfl) dX1_observe_44 ⟨Nat.le_of_ble_eq_true rfl, Nat.le_of_ble_eq_true rfl⟩ (fun r21 hw => ?_)
          obtain ⟨z_r21, hw⟩ := hw
          refine lv_if_eq (tgt := 54) hx hb dX1_observe_47 (by decide) (fun c22 => ?_) (fun c22 => ?_)
          · have hw := hw.1 c22
            refine lv_iconst (v := 0) hx hb dX1_observe_54 (by decide) ?_
            refine lv_istore (lv' := [(5, .int 0), (0, .ref k0), (1, .long v1), (3, .long v3)]) hx hb dX1_observe_55 hl (by decide) rfl (fun ls hl => ?_)
            refine lv_aload_n hx hb dX1_observe_57 rfl (lv_at hl 1 rfl) ?_
            refine lv_iload hx hb dX1_observe_58 (lv_at hl 0 rfl) ?_
            refine lv_if_ne (tgt := 67) hx hb dX1_observe_60 (by decide) (fun c23 => ?_) (fun c23 => ?_)
            · exact absurd (by decide) c23
            ·
              refine lv_iconst (v := 1) hx hb dX1_observe_63 (by decide) ?_
              refine lv_goto (tgt := 81) hx hb dX1_observe_64 (by decide) ?_
              refine va_put (D := D) (ci := 1) (v := .int 1) (ty := .int) (C := RX1) (T := TX1) (N := 12) hx hb hts hin tyX1 tyX1_ok nmX1 hown hK hP hD hS 0 rfl rfl 0 (by decide) (hts (.fieldLink RX1 36 "TideDepthsModel" "thrown" "I") (by decide +kernel)) (fun _ h9 => h9) rfl (by decide +kernel) rfl rfl (Nat.le_of_ble_eq_true rfl) dX1_observe_81 (fun H locs hP hD hS => ?_)
              have hP : va_P D cls2 (x1W cI cJ k0 b1 b2 b3 b4 b5 b6 b7 b8 (1, (yNT y), (yNO y), (yNP y), (yT y), (yH y), (yO y), (yD y), (yW y), (yB y), (yC y), (yQ y))) H := hP
              have hD : va_D A (x1W cI cJ k0 b1 b2 b3 b4 b5 b6 b7 b8 (1, (yNT y), (yNO y), (yNP y), (yT y), (yH y), (yO y), (yD y), (yW y), (yB y), (yC y), (yQ y))) := hD
              have hW : YW D cI cJ k0 b1 b2 b3 b4 b5 b6 b7 b8 (1, (yNT y), (yNO y), (yNP y), (yT y), (yH y), (yO y), (yD y), (yW y), (yB y), (yC y), (yQ y)) s H := ⟨hP, hK⟩
              refine lv_aload_n hx hb dX1_observe_84 rfl (lv_at hl 1 rfl) ?_
              refine va_get (D := D) (ci := 1) (v := .int 1) (C := RX1) (T := TX1) (N := 12) hx hb hts hin hown hK hP 0 rfl rfl 0 (by decide) (hts (.fieldLink RX1 36 "TideDepthsModel" "thrown" "I") (by decide +kernel)) (fun _ h9 => h9) rfl dX1_observe_85 ?_
              refine lv_if_le (tgt := 93) hx hb dX1_observe_88 (by decide) (fun c24 => ?_) (fun c24 => ?_)
              · exact absurd c24 (by decide)
              ·
                refine lv_iconst (v := 0) hx hb dX1_observe_91 (by decide) ?_
                exact W.iret (v := 0) hx hb hr (fun t ht hWm => ⟨⟨0, (1, (yNT y), (yNO y), (yNP y), (yT y), (yH y), (yO y), (yD y), (yW y), (yB y), (yC y), (yQ y)), rfl, hw, by rw [ht]; exact hP, va_K.moved hWm.alike hK, hD⟩, hS.F ht⟩) hS.2.2 dX1_observe_92
          · have hw := hw.2 c22
            refine lv_iconst (v := 1) hx hb dX1_observe_50 (by decide) ?_
            refine lv_goto (tgt := 55) hx hb dX1_observe_51 (by decide) ?_
            refine lv_istore (lv' := [(5, .int 1), (0, .ref k0), (1, .long v1), (3, .long v3)]) hx hb dX1_observe_55 hl (by decide) rfl (fun ls hl => ?_)
            refine lv_aload_n hx hb dX1_observe_57 rfl (lv_at hl 1 rfl) ?_
            refine lv_iload hx hb dX1_observe_58 (lv_at hl 0 rfl) ?_
            refine lv_if_ne (tgt := 67) hx hb dX1_observe_60 (by decide) (fun c25 => ?_) (fun c25 => ?_)
            ·
              refine lv_aload_n hx hb dX1_observe_67 rfl (lv_at hl 1 rfl) ?_
              refine va_get (D := D) (ci := 1) (v := .int (yNO y)) (C := RX1) (T := TX1) (N := 12) hx hb hts hin hown hK hP 0 rfl rfl 2 (by decide) (hts (.fieldLink RX1 59 "TideDepthsModel" "observations" "I") (by decide +kernel)) (fun _ h9 => h9) rfl dX1_observe_68 ?_
              refine lv_bipush (v := 16) hx hb dX1_observe_71 (by decide) ?_
              refine lv_icmp_ne (tgt := 80) hx hb dX1_observe_73 (by decide) (fun c26 => ?_) (fun c26 => ?_)
              · have hw := hw.2 c26
                refine lv_iconst (v := 0) hx hb dX1_observe_80 (by decide) ?_
                refine va_put (D := D) (ci := 1) (v := .int 0) (ty := .int) (C := RX1) (T := TX1) (N := 12) hx hb hts hin tyX1 tyX1_ok nmX1 hown hK hP hD hS 0 rfl rfl 0 (by decide) (hts (.fieldLink RX1 36 "TideDepthsModel" "thrown" "I") (by decide +kernel)) (fun _ h9 => h9) rfl (by decide +kernel) rfl rfl (Nat.le_of_ble_eq_true rfl) dX1_observe_81 (fun H locs hP hD hS => ?_)
                have hP : va_P D cls2 (x1W cI cJ k0 b1 b2 b3 b4 b5 b6 b7 b8 (0, (yNT y), (yNO y), (yNP y), (yT y), (yH y), (yO y), (yD y), (yW y), (yB y), (yC y), (yQ y))) H := hP
                have hD : va_D A (x1W cI cJ k0 b1 b2 b3 b4 b5 b6 b7 b8 (0, (yNT y), (yNO y), (yNP y), (yT y), (yH y), (yO y), (yD y), (yW y), (yB y), (yC y), (yQ y))) := hD
                have hW : YW D cI cJ k0 b1 b2 b3 b4 b5 b6 b7 b8 (0, (yNT y), (yNO y), (yNP y), (yT y), (yH y), (yO y), (yD y), (yW y), (yB y), (yC y), (yQ y)) s H := ⟨hP, hK⟩
                refine lv_aload_n hx hb dX1_observe_84 rfl (lv_at hl 1 rfl) ?_
                refine va_get (D := D) (ci := 1) (v := .int 0) (C := RX1) (T := TX1) (N := 12) hx hb hts hin hown hK hP 0 rfl rfl 0 (by decide) (hts (.fieldLink RX1 36 "TideDepthsModel" "thrown" "I") (by decide +kernel)) (fun _ h9 => h9) rfl dX1_observe_85 ?_
                refine lv_if_le (tgt := 93) hx hb dX1_observe_88 (by decide) (fun c27 => ?_) (fun c27 => ?_)
                ·
                  refine lv_aload_n hx hb dX1_observe_93 rfl (lv_at hl 1 rfl) ?_
                  refine va_get (D := D) (ci := 1) (v := .ref b3) (C := RX1) (T := TX1) (N := 12) hx hb hts hin hown hK hP 0 rfl rfl 6 (by decide) (hts (.fieldLink RX1 16 "TideDepthsModel" "seenTime" "[I") (by decide +kernel)) (fun _ h9 => h9) rfl dX1_observe_94 ?_
                  refine lv_aload_n hx hb dX1_observe_97 rfl (lv_at hl 1 rfl) ?_
                  refine va_get (D := D) (ci := 1) (v := .int (yNO y)) (C := RX1) (T := TX1) (N := 12) hx hb hts hin hown hK hP 0 rfl rfl 2 (by decide) (hts (.fieldLink RX1 59 "TideDepthsModel" "observations" "I") (by decide +kernel)) (fun _ h9 => h9) rfl dX1_observe_98 ?_
                  refine lv_lload_n hx hb dX1_observe_101 rfl (lv_at hl 2 rfl) ?_
                  refine lv_l2i (v := (v1).toInt32) hx hb dX1_observe_102 rfl ?_
                  obtain ⟨h28, hw⟩ := hw
                  refine va_iast hx hb hK hP hD hS 3 0 rfl rfl h28 dX1_observe_103 (fun H locs hP hD hS => ?_)
                  have hP : va_P D cls2 (x1W cI cJ k0 b1 b2 b3 b4 b5 b6 b7 b8 (0, (yNT y), (yNO y), (yNP y), (yT y), (yH y), (upd (yO y) ((yNO y)).toNatClampNeg (v1).toInt32), (yD y), (yW y), (yB y), (yC y), (yQ y))) H := hP
                  have hD : va_D A (x1W cI cJ k0 b1 b2 b3 b4 b5 b6 b7 b8 (0, (yNT y), (yNO y), (yNP y), (yT y), (yH y), (upd (yO y) ((yNO y)).toNatClampNeg (v1).toInt32), (yD y), (yW y), (yB y), (yC y), (yQ y))) := hD
                  have hW : YW D cI cJ k0 b1 b2 b3 b4 b5 b6 b7 b8 (0, (yNT y), (yNO y), (yNP y), (yT y), (yH y), (upd (yO y) ((yNO y)).toNatClampNeg (v1).toInt32), (yD y), (yW y), (yB y), (yC y), (yQ y)) s H := ⟨hP, hK⟩
                  refine lv_aload_n hx hb dX1_observe_104 rfl (lv_at hl 1 rfl) ?_
                  refine va_get (D := D) (ci := 1) (v := .ref b4) (C := RX1) (T := TX1) (N := 12) hx hb hts hin hown hK hP 0 rfl rfl 7 (by decide) (hts (.fieldLink RX1 19 "TideDepthsModel" "difference" "[J") (by decide +kernel)) (fun _ h9 => h9) rfl dX1_observe_105 ?_
                  refine lv_aload_n hx hb dX1_observe_108 rfl (lv_at hl 1 rfl) ?_
                  refine va_get (D := D) (ci := 1) (v := .int (yNO y)) (C := RX1) (T := TX1) (N := 12) hx hb hts hin hown hK hP 0 rfl rfl 2 (by decide) (hts (.fieldLink RX1 59 "TideDepthsModel" "observations" "I") (by decide +kernel)) (fun _ h9 => h9) rfl dX1_observe_109 ?_
                  refine lv_lload_n hx hb dX1_observe_112 rfl (lv_at hl 3 rfl) ?_
                  refine lv_aload_n hx hb dX1_observe_113 rfl (lv_at hl 1 rfl) ?_
                  refine lv_lload_n hx hb dX1_observe_114 rfl (lv_at hl 2 rfl) ?_
                  refine lv_l2i (v := (v1).toInt32) hx hb dX1_observe_115 rfl ?_
                  refine pc_Vl (As := [.int (v1).toInt32]) (rest := [.long v3, .int (yNO y), .ref b4]) ⟨hx, hb, hml, hown, hts⟩ (mX1_tableHeight l D cI cJ k0 b1 b2 b3 b4 b5 b6 b7 b8 (0, (yNT y), (yNO y), (yNP y), (yT y), (yH y), (upd (yO y) ((yNO y)).toNatClampNeg (v1).toInt32), (yD y), (yW y), (yB y), (yC y), (yQ y)) (v1).toInt32 _) (cwV 1 hts gX1_observe_X1_tableHeight rfl rfl rfl (by decide +kernel) ⟨Nat.le_of_ble_eq_true rfl, Nat.le_of_ble_eq_true rfl⟩) (wY_rc hW) wY_bl (wY_in hW hw) rfl hl.1 rfl (Nat.le_of_ble_eq_true rfl) dX1_observe_116 ⟨Nat.le_of_ble_eq_true rfl, Nat.le_of_ble_eq_true rfl⟩ (fun r29 hw => ?_)
                  refine lv_lsub hx hb dX1_observe_119 ?_
                  obtain ⟨h30, hw⟩ := hw
                  refine va_last hx hb hK hP hD hS 4 1 rfl rfl h30 dX1_observe_120 (fun H locs hP hD hS => ?_)
                  have hP : va_P D cls2 (x1W cI cJ k0 b1 b2 b3 b4 b5 b6 b7 b8 (0, (yNT y), (yNO y), (yNP y), (yT y), (yH y), (upd (yO y) ((yNO y)).toNatClampNeg (v1).toInt32), (vp_updL (yD y) ((yNO y)).toNatClampNeg (v3 - r29)), (yW y), (yB y), (yC y), (yQ y))) H := hP
                  have hD : va_D A (x1W cI cJ k0 b1 b2 b3 b4 b5 b6 b7 b8 (0, (yNT y), (yNO y), (yNP y), (yT y), (yH y), (upd (yO y) ((yNO y)).toNatClampNeg (v1).toInt32), (vp_updL (yD y) ((yNO y)).toNatClampNeg (v3 - r29)), (yW y), (yB y), (yC y), (yQ y))) := hD
                  have hW : YW D cI cJ k0 b1 b2 b3 b4 b5 b6 b7 b8 (0, (yNT y), (yNO y), (yNP y), (yT y), (yH y), (upd (yO y) ((yNO y)).toNatClampNeg (v1).toInt32), (vp_updL (yD y) ((yNO y)).toNatClampNeg (v3 - r29)), (yW y), (yB y), (yC y), (yQ y)) s H := ⟨hP, hK⟩
                  refine lv_aload_n hx hb dX1_observe_121 rfl (lv_at hl 1 rfl) ?_
                  refine lv_dup hx hb dX1_observe_122 rfl ?_
                  refine va_get (D := D) (ci := 1) (v := .int (yNO y)) (C := RX1) (T := TX1) (N := 12) hx hb hts hin hown hK hP 0 rfl rfl 2 (by decide) (hts (.fieldLink RX1 59 "TideDepthsModel" "observations" "I") (by decide +kernel)) (fun _ h9 => h9) rfl dX1_observe_123 ?_
                  refine lv_iconst (v := 1) hx hb dX1_observe_126 (by decide) ?_
                  refine lv_iadd hx hb dX1_observe_127 ?_
                  refine va_put (D := D) (ci := 1) (v := .int ((yNO y) + 1)) (ty := .int) (C := RX1) (T := TX1) (N := 12) hx hb hts hin tyX1 tyX1_ok nmX1 hown hK hP hD hS 0 rfl rfl 2 (by decide) (hts (.fieldLink RX1 59 "TideDepthsModel" "observations" "I") (by decide +kernel)) (fun _ h9 => h9) rfl (by decide +kernel) rfl rfl (Nat.le_of_ble_eq_true rfl) dX1_observe_128 (fun H locs hP hD hS => ?_)
                  have hP : va_P D cls2 (x1W cI cJ k0 b1 b2 b3 b4 b5 b6 b7 b8 (0, (yNT y), ((yNO y) + 1), (yNP y), (yT y), (yH y), (upd (yO y) ((yNO y)).toNatClampNeg (v1).toInt32), (vp_updL (yD y) ((yNO y)).toNatClampNeg (v3 - r29)), (yW y), (yB y), (yC y), (yQ y))) H := hP
                  have hD : va_D A (x1W cI cJ k0 b1 b2 b3 b4 b5 b6 b7 b8 (0, (yNT y), ((yNO y) + 1), (yNP y), (yT y), (yH y), (upd (yO y) ((yNO y)).toNatClampNeg (v1).toInt32), (vp_updL (yD y) ((yNO y)).toNatClampNeg (v3 - r29)), (yW y), (yB y), (yC y), (yQ y))) := hD
                  have hW : YW D cI cJ k0 b1 b2 b3 b4 b5 b6 b7 b8 (0, (yNT y), ((yNO y) + 1), (yNP y), (yT y), (yH y), (upd (yO y) ((yNO y)).toNatClampNeg (v1).toInt32), (vp_updL (yD y) ((yNO y)).toNatClampNeg (v3 - r29)), (yW y), (yB y), (yC y), (yQ y)) s H := ⟨hP, hK⟩
                  refine lv_aload_n hx hb dX1_observe_131 rfl (lv_at hl 1 rfl) ?_
                  refine va_get (D := D) (ci := 1) (v := .int ((yNO y) + 1)) (C := RX1) (T := TX1) (N := 12) hx hb hts hin hown hK hP 0 rfl rfl 2 (by decide) (hts (.fieldLink RX1 59 "TideDepthsModel" "observations" "I") (by decide +kernel)) (fun _ h9 => h9) rfl dX1_observe_132 ?_
                  exact W.iret (v := ((yNO y) + 1)) hx hb hr (fun t ht hWm => ⟨⟨((yNO y) + 1), (0, (yNT y), ((yNO y) + 1), (yNP y), (yT y), (yH y), (upd (yO y) ((yNO y)).toNatClampNeg (v1).toInt32), (vp_updL (yD y) ((yNO y)).toNatClampNeg (v3 - r29)), (yW y), (yB y), (yC y), (yQ y)), rfl, hw, by rw [ht]; exact hP, va_K.moved hWm.alike hK, hD⟩, hS.F ht⟩) hS.2.2 dX1_observe_135
                · exact absurd (by decide) c27
              · have hw := hw.1 c26
                refine lv_iconst (v := 2) hx hb dX1_observe_76 (by decide) ?_
                refine lv_goto (tgt := 81) hx hb dX1_observe_77 (by decide) ?_
                refine va_put (D := D) (ci := 1) (v := .int 2) (ty := .int) (C := RX1) (T := TX1) (N := 12) hx hb hts hin tyX1 tyX1_ok nmX1 hown hK hP hD hS 0 rfl rfl 0 (by decide) (hts (.fieldLink RX1 36 "TideDepthsModel" "thrown" "I") (by decide +kernel)) (fun _ h9 => h9) rfl (by decide +kernel) rfl rfl (Nat.le_of_ble_eq_true rfl) dX1_observe_81 (fun H locs hP hD hS => ?_)
                have hP : va_P D cls2 (x1W cI cJ k0 b1 b2 b3 b4 b5 b6 b7 b8 (2, (yNT y), (yNO y), (yNP y), (yT y), (yH y), (yO y), (yD y), (yW y), (yB y), (yC y), (yQ y))) H := hP
                have hD : va_D A (x1W cI cJ k0 b1 b2 b3 b4 b5 b6 b7 b8 (2, (yNT y), (yNO y), (yNP y), (yT y), (yH y), (yO y), (yD y), (yW y), (yB y), (yC y), (yQ y))) := hD
                have hW : YW D cI cJ k0 b1 b2 b3 b4 b5 b6 b7 b8 (2, (yNT y), (yNO y), (yNP y), (yT y), (yH y), (yO y), (yD y), (yW y), (yB y), (yC y), (yQ y)) s H := ⟨hP, hK⟩
                refine lv_aload_n hx hb dX1_observe_84 rfl (lv_at hl 1 rfl) ?_
                refine va_get (D := D) (ci := 1) (v := .int 2) (C := RX1) (T := TX1) (N := 12) hx hb hts hin hown hK hP 0 rfl rfl 0 (by decide) (hts (.fieldLink RX1 36 "TideDepthsModel" "thrown" "I") (by decide +kernel)) (fun _ h9 => h9) rfl dX1_observe_85 ?_
                refine lv_if_le (tgt := 93) hx hb dX1_observe_88 (by decide) (fun c31 => ?_) (fun c31 => ?_)
                · exact absurd c31 (by decide)
                ·
                  refine lv_iconst (v := 0) hx hb dX1_observe_91 (by decide) ?_
                  exact W.iret (v := 0) hx hb hr (fun t ht hWm => ⟨⟨0, (2, (yNT y), (yNO y), (yNP y), (yT y), (yH y), (yO y), (yD y), (yW y), (yB y), (yC y), (yQ y)), rfl, hw, by rw [ht]; exact hP, va_K.moved hWm.alike hK, hD⟩, hS.F ht⟩) hS.2.2 dX1_observe_92
            · exact absurd c25 (by decide)
      · have hw := hw.2 c17
        refine lv_aload_n hx hb dX1_observe_27 rfl (lv_at hl 0 rfl) ?_
        refine va_get (D := D) (ci := 1) (v := .int (yNO y)) (C := RX1) (T := TX1) (N := 12) hx hb hts hin hown hK hP 0 rfl rfl 2 (by decide) (hts (.fieldLink RX1 59 "TideDepthsModel" "observations" "I") (by decide +kernel)) (fun _ h9 => h9) rfl dX1_observe_28 ?_
        refine lv_iconst (v := 1) hx hb dX1_observe_31 (by decide) ?_
        refine lv_isub hx hb dX1_observe_32 ?_
        refine lv_goto (tgt := 37) hx hb dX1_observe_33 (by decide) ?_
        obtain ⟨h32, hw⟩ := hw
        refine va_iald hx hb hK hP 3 0 rfl rfl h32 dX1_observe_37 ?_
        refine lv_i2l (v := (((yO y) (((yNO y) - 1)).toNatClampNeg)).toInt64) hx hb dX1_observe_38 rfl ?_
        refine bl_lt (tgt := 54) hx hb dX1_observe_39 dX1_observe_40 (by decide) (fun c33 => ?_) (fun c33 => ?_)
        · have hw := hw.1 c33
          refine lv_iconst (v := 0) hx hb dX1_observe_54 (by decide) ?_
          refine lv_istore (lv' := [(5, .int 0), (0, .ref k0), (1, .long v1), (3, .long v3)]) hx hb dX1_observe_55 hl (by decide) rfl (fun ls hl => ?_)
          refine lv_aload_n hx hb dX1_observe_57 rfl (lv_at hl 1 rfl) ?_
          refine lv_iload hx hb dX1_observe_58 (lv_at hl 0 rfl) ?_
          refine lv_if_ne (tgt := 67) hx hb dX1_observe_60 (by decide) (fun c34 => ?_) (fun c34 => ?_)
          · exact absurd (by decide) c34
          ·
            refine lv_iconst (v := 1) hx hb dX1_observe_63 (by decide) ?_
            refine lv_goto (tgt := 81) hx hb dX1_observe_64 (by decide) ?_
            refine va_put (D := D) (ci := 1) (v := .int 1) (ty := .int) (C := RX1) (T := TX1) (N := 12) hx hb hts hin tyX1 tyX1_ok nmX1 hown hK hP hD hS 0 rfl rfl 0 (by decide) (hts (.fieldLink RX1 36 "TideDepthsModel" "thrown" "I") (by decide +kernel)) (fun _ h9 => h9) rfl (by decide +kernel) rfl rfl (Nat.le_of_ble_eq_true rfl) dX1_observe_81 (fun H locs hP hD hS => ?_)
            have hP : va_P D cls2 (x1W cI cJ k0 b1 b2 b3 b4 b5 b6 b7 b8 (1, (yNT y), (yNO y), (yNP y), (yT y), (yH y), (yO y), (yD y), (yW y), (yB y), (yC y), (yQ y))) H := hP
            have hD : va_D A (x1W cI cJ k0 b1 b2 b3 b4 b5 b6 b7 b8 (1, (yNT y), (yNO y), (yNP y), (yT y), (yH y), (yO y), (yD y), (yW y), (yB y), (yC y), (yQ y))) := hD
            have hW : YW D cI cJ k0 b1 b2 b3 b4 b5 b6 b7 b8 (1, (yNT y), (yNO y), (yNP y), (yT y), (yH y), (yO y), (yD y), (yW y), (yB y), (yC y), (yQ y)) s H := ⟨hP, hK⟩
            refine lv_aload_n hx hb dX1_observe_84 rfl (lv_at hl 1 rfl) ?_
            refine va_get (D := D) (ci := 1) (v := .int 1) (C := RX1) (T := TX1) (N := 12) hx hb hts hin hown hK hP 0 rfl rfl 0 (by decide) (hts (.fieldLink RX1 36 "TideDepthsModel" "thrown" "I") (by decide +kernel)) (fun _ h9 => h9) rfl dX1_observe_85 ?_
            refine lv_if_le (tgt := 93) hx hb dX1_observe_88 (by decide) (fun c35 => ?_) (fun c35 => ?_)
            · exact absurd c35 (by decide)
            ·
              refine lv_iconst (v := 0) hx hb dX1_observe_91 (by decide) ?_
              exact W.iret (v := 0) hx hb hr (fun t ht hWm => ⟨⟨0, (1, (yNT y), (yNO y), (yNP y), (yT y), (yH y), (yO y), (yD y), (yW y), (yB y), (yC y), (yQ y)), rfl, hw, by rw [ht]; exact hP, va_K.moved hWm.alike hK, hD⟩, hS.F ht⟩) hS.2.2 dX1_observe_92
        · have hw := hw.2 c33
          refine lv_lload_n hx hb dX1_observe_43 rfl (lv_at hl 2 rfl) ?_
          refine pc_Si (As := [.long v3]) (rest := []) ⟨hx, hb, hml, hown, hts⟩ (mX1_isHeight l v3 _) (va_cwS 1 hts gX1_observe_X1_isHeight rfl rfl rfl (by decide +kernel) ⟨Nat.le_of_ble_eq_true rfl, Nat.le_of_ble_eq_true rfl⟩) wK_bl (fun _ _ _ => hw) rfl hl.1 rfl (Nat.le_of_ble_eq_true rfl) dX1_observe_44 ⟨Nat.le_of_ble_eq_true rfl, Nat.le_of_ble_eq_true rfl⟩ (fun r36 hw => ?_)
          obtain ⟨z_r36, hw⟩ := hw
          refine lv_if_eq (tgt := 54) hx hb dX1_observe_47 (by decide) (fun c37 => ?_) (fun c37 => ?_)
          · have hw := hw.1 c37
            refine lv_iconst (v := 0) hx hb dX1_observe_54 (by decide) ?_
            refine lv_istore (lv' := [(5, .int 0), (0, .ref k0), (1, .long v1), (3, .long v3)]) hx hb dX1_observe_55 hl (by decide) rfl (fun ls hl => ?_)
            refine lv_aload_n hx hb dX1_observe_57 rfl (lv_at hl 1 rfl) ?_
            refine lv_iload hx hb dX1_observe_58 (lv_at hl 0 rfl) ?_
            refine lv_if_ne (tgt := 67) hx hb dX1_observe_60 (by decide) (fun c38 => ?_) (fun c38 => ?_)
            · exact absurd (by decide) c38
            ·
              refine lv_iconst (v := 1) hx hb dX1_observe_63 (by decide) ?_
              refine lv_goto (tgt := 81) hx hb dX1_observe_64 (by decide) ?_
              refine va_put (D := D) (ci := 1) (v := .int 1) (ty := .int) (C := RX1) (T := TX1) (N := 12) hx hb hts hin tyX1 tyX1_ok nmX1 hown hK hP hD hS 0 rfl rfl 0 (by decide) (hts (.fieldLink RX1 36 "TideDepthsModel" "thrown" "I") (by decide +kernel)) (fun _ h9 => h9) rfl (by decide +kernel) rfl rfl (Nat.le_of_ble_eq_true rfl) dX1_observe_81 (fun H locs hP hD hS => ?_)
              have hP : va_P D cls2 (x1W cI cJ k0 b1 b2 b3 b4 b5 b6 b7 b8 (1, (yNT y), (yNO y), (yNP y), (yT y), (yH y), (yO y), (yD y), (yW y), (yB y), (yC y), (yQ y))) H := hP
              have hD : va_D A (x1W cI cJ k0 b1 b2 b3 b4 b5 b6 b7 b8 (1, (yNT y), (yNO y), (yNP y), (yT y), (yH y), (yO y), (yD y), (yW y), (yB y), (yC y), (yQ y))) := hD
              have hW : YW D cI cJ k0 b1 b2 b3 b4 b5 b6 b7 b8 (1, (yNT y), (yNO y), (yNP y), (yT y), (yH y), (yO y), (yD y), (yW y), (yB y), (yC y), (yQ y)) s H := ⟨hP, hK⟩
              refine lv_aload_n hx hb dX1_observe_84 rfl (lv_at hl 1 rfl) ?_
              refine va_get (D := D) (ci := 1) (v := .int 1) (C := RX1) (T := TX1) (N := 12) hx hb hts hin hown hK hP 0 rfl rfl 0 (by decide) (hts (.fieldLink RX1 36 "TideDepthsModel" "thrown" "I") (by decide +kernel)) (fun _ h9 => h9) rfl dX1_observe_85 ?_
              refine lv_if_le (tgt := 93) hx hb dX1_observe_88 (by decide) (fun c39 => ?_) (fun c39 => ?_)
              · exact absurd c39 (by decide)
              ·
                refine lv_iconst (v := 0) hx hb dX1_observe_91 (by decide) ?_
                exact W.iret (v := 0) hx hb hr (fun t ht hWm => ⟨⟨0, (1, (yNT y), (yNO y), (yNP y), (yT y), (yH y), (yO y), (yD y), (yW y), (yB y), (yC y), (yQ y)), rfl, hw, by rw [ht]; exact hP, va_K.moved hWm.alike hK, hD⟩, hS.F ht⟩) hS.2.2 dX1_observe_92
          · have hw := hw.2 c37
            refine lv_iconst (v := 1) hx hb dX1_observe_50 (by decide) ?_
            refine lv_goto (tgt := 55) hx hb dX1_observe_51 (by decide) ?_
            refine lv_istore (lv' := [(5, .int 1), (0, .ref k0), (1, .long v1), (3, .long v3)]) hx hb dX1_observe_55 hl (by decide) rfl (fun ls hl => ?_)
            refine lv_aload_n hx hb dX1_observe_57 rfl (lv_at hl 1 rfl) ?_
            refine lv_iload hx hb dX1_observe_58 (lv_at hl 0 rfl) ?_
            refine lv_if_ne (tgt := 67) hx hb dX1_observe_60 (by decide) (fun c40 => ?_) (fun c40 => ?_)
            ·
              refine lv_aload_n hx hb dX1_observe_67 rfl (lv_at hl 1 rfl) ?_
              refine va_get (D := D) (ci := 1) (v := .int (yNO y)) (C := RX1) (T := TX1) (N := 12) hx hb hts hin hown hK hP 0 rfl rfl 2 (by decide) (hts (.fieldLink RX1 59 "TideDepthsModel" "observations" "I") (by decide +kernel)) (fun _ h9 => h9) rfl dX1_observe_68 ?_
              refine lv_bipush (v := 16) hx hb dX1_observe_71 (by decide) ?_
              refine lv_icmp_ne (tgt := 80) hx hb dX1_observe_73 (by decide) (fun c41 => ?_) (fun c41 => ?_)
              · have hw := hw.2 c41
                refine lv_iconst (v := 0) hx hb dX1_observe_80 (by decide) ?_
                refine va_put (D := D) (ci := 1) (v := .int 0) (ty := .int) (C := RX1) (T := TX1) (N := 12) hx hb hts hin tyX1 tyX1_ok nmX1 hown hK hP hD hS 0 rfl rfl 0 (by decide) (hts (.fieldLink RX1 36 "TideDepthsModel" "thrown" "I") (by decide +kernel)) (fun _ h9 => h9) rfl (by decide +kernel) rfl rfl (Nat.le_of_ble_eq_true rfl) dX1_observe_81 (fun H locs hP hD hS => ?_)
                have hP : va_P D cls2 (x1W cI cJ k0 b1 b2 b3 b4 b5 b6 b7 b8 (0, (yNT y), (yNO y), (yNP y), (yT y), (yH y), (yO y), (yD y), (yW y), (yB y), (yC y), (yQ y))) H := hP
                have hD : va_D A (x1W cI cJ k0 b1 b2 b3 b4 b5 b6 b7 b8 (0, (yNT y), (yNO y), (yNP y), (yT y), (yH y), (yO y), (yD y), (yW y), (yB y), (yC y), (yQ y))) := hD
                have hW : YW D cI cJ k0 b1 b2 b3 b4 b5 b6 b7 b8 (0, (yNT y), (yNO y), (yNP y), (yT y), (yH y), (yO y), (yD y), (yW y), (yB y), (yC y), (yQ y)) s H := ⟨hP, hK⟩
                refine lv_aload_n hx hb dX1_observe_84 rfl (lv_at hl 1 rfl) ?_
                refine va_get (D := D) (ci := 1) (v := .int 0) (C := RX1) (T := TX1) (N := 12) hx hb hts hin hown hK hP 0 rfl rfl 0 (by decide) (hts (.fieldLink RX1 36 "TideDepthsModel" "thrown" "I") (by decide +kernel)) (fun _ h9 => h9) rfl dX1_observe_85 ?_
                refine lv_if_le (tgt := 93) hx hb dX1_observe_88 (by decide) (fun c42 => ?_) (fun c42 => ?_)
                ·
                  refine lv_aload_n hx hb dX1_observe_93 rfl (lv_at hl 1 rfl) ?_
                  refine va_get (D := D) (ci := 1) (v := .ref b3) (C := RX1) (T := TX1) (N := 12) hx hb hts hin hown hK hP 0 rfl rfl 6 (by decide) (hts (.fieldLink RX1 16 "TideDepthsModel" "seenTime" "[I") (by decide +kernel)) (fun _ h9 => h9) rfl dX1_observe_94 ?_
                  refine lv_aload_n hx hb dX1_observe_97 rfl (lv_at hl 1 rfl) ?_
                  refine va_get (D := D) (ci := 1) (v := .int (yNO y)) (C := RX1) (T := TX1) (N := 12) hx hb hts hin hown hK hP 0 rfl rfl 2 (by decide) (hts (.fieldLink RX1 59 "TideDepthsModel" "observations" "I") (by decide +kernel)) (fun _ h9 => h9) rfl dX1_observe_98 ?_
                  refine lv_lload_n hx hb dX1_observe_101 rfl (lv_at hl 2 rfl) ?_
                  refine lv_l2i (v := (v1).toInt32) hx hb dX1_observe_102 rfl ?_
                  obtain ⟨h43, hw⟩ := hw
                  refine va_iast hx hb hK hP hD hS 3 0 rfl rfl h43 dX1_observe_103 (fun H locs hP hD hS => ?_)
                  have hP : va_P D cls2 (x1W cI cJ k0 b1 b2 b3 b4 b5 b6 b7 b8 (0, (yNT y), (yNO y), (yNP y), (yT y), (yH y), (upd (yO y) ((yNO y)).toNatClampNeg (v1).toInt32), (yD y), (yW y), (yB y), (yC y), (yQ y))) H := hP
                  have hD : va_D A (x1W cI cJ k0 b1 b2 b3 b4 b5 b6 b7 b8 (0, (yNT y), (yNO y), (yNP y), (yT y), (yH y), (upd (yO y) ((yNO y)).toNatClampNeg (v1).toInt32), (yD y), (yW y), (yB y), (yC y), (yQ y))) := hD
                  have hW : YW D cI cJ k0 b1 b2 b3 b4 b5 b6 b7 b8 (0, (yNT y), (yNO y), (yNP y), (yT y), (yH y), (upd (yO y) ((yNO y)).toNatClampNeg (v1).toInt32), (yD y), (yW y), (yB y), (yC y), (yQ y)) s H := ⟨hP, hK⟩
                  refine lv_aload_n hx hb dX1_observe_104 rfl (lv_at hl 1 rfl) ?_
                  refine va_get (D := D) (ci := 1) (v := .ref b4) (C := RX1) (T := TX1) (N := 12) hx hb hts hin hown hK hP 0 rfl rfl 7 (by decide) (hts (.fieldLink RX1 19 "TideDepthsModel" "difference" "[J") (by decide +kernel)) (fun _ h9 => h9) rfl dX1_observe_105 ?_
                  refine lv_aload_n hx hb dX1_observe_108 rfl (lv_at hl 1 rfl) ?_
                  refine va_get (D := D) (ci := 1) (v := .int (yNO y)) (C := RX1) (T := TX1) (N := 12) hx hb hts hin hown hK hP 0 rfl rfl 2 (by decide) (hts (.fieldLink RX1 59 "TideDepthsModel" "observations" "I") (by decide +kernel)) (fun _ h9 => h9) rfl dX1_observe_109 ?_
                  refine lv_lload_n hx hb dX1_observe_112 rfl (lv_at hl 3 rfl) ?_
                  refine lv_aload_n hx hb dX1_observe_113 rfl (lv_at hl 1 rfl) ?_
                  refine lv_lload_n hx hb dX1_observe_114 rfl (lv_at hl 2 rfl) ?_
                  refine lv_l2i (v := (v1).toInt32) hx hb dX1_observe_115 rfl ?_
                  refine pc_Vl (As := [.int (v1).toInt32]) (rest := [.long v3, .int (yNO y), .ref b4]) ⟨hx, hb, hml, hown, hts⟩ (mX1_tableHeight l D cI cJ k0 b1 b2 b3 b4 b5 b6 b7 b8 (0, (yNT y), (yNO y), (yNP y), (yT y), (yH y), (upd (yO y) ((yNO y)).toNatClampNeg (v1).toInt32), (yD y), (yW y), (yB y), (yC y), (yQ y)) (v1).toInt32 _) (cwV 1 hts gX1_observe_X1_tableHeight rfl rfl rfl (by decide +kernel) ⟨Nat.le_of_ble_eq_true rfl, Nat.le_of_ble_eq_true rfl⟩) (wY_rc hW) wY_bl (wY_in hW hw) rfl hl.1 rfl (Nat.le_of_ble_eq_true rfl) dX1_observe_116 ⟨Nat.le_of_ble_eq_true rfl, Nat.le_of_ble_eq_true rfl⟩ (fun r44 hw => ?_)
                  refine lv_lsub hx hb dX1_observe_119 ?_
                  obtain ⟨h45, hw⟩ := hw
                  refine va_last hx hb hK hP hD hS 4 1 rfl rfl h45 dX1_observe_120 (fun H locs hP hD hS => ?_)
                  have hP : va_P D cls2 (x1W cI cJ k0 b1 b2 b3 b4 b5 b6 b7 b8 (0, (yNT y), (yNO y), (yNP y), (yT y), (yH y), (upd (yO y) ((yNO y)).toNatClampNeg (v1).toInt32), (vp_updL (yD y) ((yNO y)).toNatClampNeg (v3 - r44)), (yW y), (yB y), (yC y), (yQ y))) H := hP
                  have hD : va_D A (x1W cI cJ k0 b1 b2 b3 b4 b5 b6 b7 b8 (0, (yNT y), (yNO y), (yNP y), (yT y), (yH y), (upd (yO y) ((yNO y)).toNatClampNeg (v1).toInt32), (vp_updL (yD y) ((yNO y)).toNatClampNeg (v3 - r44)), (yW y), (yB y), (yC y), (yQ y))) := hD
                  have hW : YW D cI cJ k0 b1 b2 b3 b4 b5 b6 b7 b8 (0, (yNT y), (yNO y), (yNP y), (yT y), (yH y), (upd (yO y) ((yNO y)).toNatClampNeg (v1).toInt32), (vp_updL (yD y) ((yNO y)).toNatClampNeg (v3 - r44)), (yW y), (yB y), (yC y), (yQ y)) s H := ⟨hP, hK⟩
                  refine lv_aload_n hx hb dX1_observe_121 rfl (lv_at hl 1 rfl) ?_
                  refine lv_dup hx hb dX1_observe_122 rfl ?_
                  refine va_get (D := D) (ci := 1) (v := .int (yNO y)) (C := RX1) (T := TX1) (N := 12) hx hb hts hin hown hK hP 0 rfl rfl 2 (by decide) (hts (.fieldLink RX1 59 "TideDepthsModel" "observations" "I") (by decide +kernel)) (fun _ h9 => h9) rfl dX1_observe_123 ?_
                  refine lv_iconst (v := 1) hx hb dX1_observe_126 (by decide) ?_
                  refine lv_iadd hx hb dX1_observe_127 ?_
                  refine va_put (D := D) (ci := 1) (v := .int ((yNO y) + 1)) (ty := .int) (C := RX1) (T := TX1) (N := 12) hx hb hts hin tyX1 tyX1_ok nmX1 hown hK hP hD hS 0 rfl rfl 2 (by decide) (hts (.fieldLink RX1 59 "TideDepthsModel" "observations" "I") (by decide +kernel)) (fun _ h9 => h9) rfl (by decide +kernel) rfl rfl (Nat.le_of_ble_eq_true rfl) dX1_observe_128 (fun H locs hP hD hS => ?_)
                  have hP : va_P D cls2 (x1W cI cJ k0 b1 b2 b3 b4 b5 b6 b7 b8 (0, (yNT y), ((yNO y) + 1), (yNP y), (yT y), (yH y), (upd (yO y) ((yNO y)).toNatClampNeg (v1).toInt32), (vp_updL (yD y) ((yNO y)).toNatClampNeg (v3 - r44)), (yW y), (yB y), (yC y), (yQ y))) H := hP
                  have hD : va_D A (x1W cI cJ k0 b1 b2 b3 b4 b5 b6 b7 b8 (0, (yNT y), ((yNO y) + 1), (yNP y), (yT y), (yH y), (upd (yO y) ((yNO y)).toNatClampNeg (v1).toInt32), (vp_updL (yD y) ((yNO y)).toNatClampNeg (v3 - r44)), (yW y), (yB y), (yC y), (yQ y))) := hD
                  have hW : YW D cI cJ k0 b1 b2 b3 b4 b5 b6 b7 b8 (0, (yNT y), ((yNO y) + 1), (yNP y), (yT y), (yH y), (upd (yO y) ((yNO y)).toNatClampNeg (v1).toInt32), (vp_updL (yD y) ((yNO y)).toNatClampNeg (v3 - r44)), (yW y), (yB y), (yC y), (yQ y)) s H := ⟨hP, hK⟩
                  refine lv_aload_n hx hb dX1_observe_131 rfl (lv_at hl 1 rfl) ?_
                  refine va_get (D := D) (ci := 1) (v := .int ((yNO y) + 1)) (C := RX1) (T := TX1) (N := 12) hx hb hts hin hown hK hP 0 rfl rfl 2 (by decide) (hts (.fieldLink RX1 59 "TideDepthsModel" "observations" "I") (by decide +kernel)) (fun _ h9 => h9) rfl dX1_observe_132 ?_
                  exact W.iret (v := ((yNO y) + 1)) hx hb hr (fun t ht hWm => ⟨⟨((yNO y) + 1), (0, (yNT y), ((yNO y) + 1), (yNP y), (yT y), (yH y), (upd (yO y) ((yNO y)).toNatClampNeg (v1).toInt32), (vp_updL (yD y) ((yNO y)).toNatClampNeg (v3 - r44)), (yW y), (yB y), (yC y), (yQ y)), rfl, hw, by rw [ht]; exact hP, va_K.moved hWm.alike hK, hD⟩, hS.F ht⟩) hS.2.2 dX1_observe_135
                · exact absurd (by decide) c42
              · have hw := hw.1 c41
                refine lv_iconst (v := 2) hx hb dX1_observe_76 (by decide) ?_
                refine lv_goto (tgt := 81) hx hb dX1_observe_77 (by decide) ?_
                refine va_put (D := D) (ci := 1) (v := .int 2) (ty := .int) (C := RX1) (T := TX1) (N := 12) hx hb hts hin tyX1 tyX1_ok nmX1 hown hK hP hD hS 0 rfl rfl 0 (by decide) (hts (.fieldLink RX1 36 "TideDepthsModel" "thrown" "I") (by decide +kernel)) (fun _ h9 => h9) rfl (by decide +kernel) rfl rfl (Nat.le_of_ble_eq_true rfl) dX1_observe_81 (fun H locs hP hD hS => ?_)
                have hP : va_P D cls2 (x1W cI cJ k0 b1 b2 b3 b4 b5 b6 b7 b8 (2, (yNT y), (yNO y), (yNP y), (yT y), (yH y), (yO y), (yD y), (yW y), (yB y), (yC y), (yQ y))) H := hP
                have hD : va_D A (x1W cI cJ k0 b1 b2 b3 b4 b5 b6 b7 b8 (2, (yNT y), (yNO y), (yNP y), (yT y), (yH y), (yO y), (yD y), (yW y), (yB y), (yC y), (yQ y))) := hD
                have hW : YW D cI cJ k0 b1 b2 b3 b4 b5 b6 b7 b8 (2, (yNT y), (yNO y), (yNP y), (yT y), (yH y), (yO y), (yD y), (yW y), (yB y), (yC y), (yQ y)) s H := ⟨hP, hK⟩
                refine lv_aload_n hx hb dX1_observe_84 rfl (lv_at hl 1 rfl) ?_
                refine va_get (D := D) (ci := 1) (v := .int 2) (C := RX1) (T := TX1) (N := 12) hx hb hts hin hown hK hP 0 rfl rfl 0 (by decide) (hts (.fieldLink RX1 36 "TideDepthsModel" "thrown" "I") (by decide +kernel)) (fun _ h9 => h9) rfl dX1_observe_85 ?_
                refine lv_if_le (tgt := 93) hx hb dX1_observe_88 (by decide) (fun c46 => ?_) (fun c46 => ?_)
                · exact absurd c46 (by decide)
                ·
                  refine lv_iconst (v := 0) hx hb dX1_observe_91 (by decide) ?_
                  exact W.iret (v := 0) hx hb hr (fun t ht hWm => ⟨⟨0, (2, (yNT y), (yNO y), (yNP y), (yT y), (yH y), (yO y), (yD y), (yW y), (yB y), (yC y), (yQ y)), rfl, hw, by rw [ht]; exact hP, va_K.moved hWm.alike hK, hD⟩, hS.F ht⟩) hS.2.2 dX1_observe_92
            · exact absurd c40 (by decide)

def wX1_span_L72 (post : Int32 → YS → Prop) (y : YS) (v1 : Int64) (v3 : Int64) (v7 : Int32) : Nat → Int32 → Int32 → Int32 → Int32 → Int32 → Int32 → Prop
  | 0, _, _, _, _, _, _ => False
  | n + 1, v8, v9, v10, v11, v12, v13 => (vp_in ((yNT y) - 1) 40 ∧ ((((yT y) (((yNT y) - 1)).toNatClampNeg) < v13 → ((v7 = 0 → (post v8 y)) ∧ (¬ v7 = 0 → ((v7 = 1 → (post v12 y)) ∧ (¬ v7 = 1 → ((0 ≤ v10 → ((v7 = 2 → (post v10 y)) ∧ (¬ v7 = 2 → (post ((v10 + v9) - 1) y)))) ∧ (¬ 0 ≤ v10 → (post (-1) y)))))))) ∧ (¬ ((yT y) (((yNT y) - 1)).toNatClampNeg) < v13 → (wX1_heightAt (fun r21 => (((v1 + r21) < v3 → ((0 ≤ v9 → (wX1_span_L72 post y v1 v3 v7 n v8 v9 v10 0 v12 (v13 + 1))) ∧ (¬ 0 ≤ v9 → (wX1_span_L72 post y v1 v3 v7 n v8 0 ((v13 - 0) + 1) 0 v12 (v13 + 1))))) ∧ (¬ (v1 + r21) < v3 → ((0 ≤ v8 → ((v8 = ((v13 - (v11 + 1)) + 1) → (((v11 + 1) ≤ v9 → (wX1_span_L72 post y v1 v3 v7 n v8 v9 v10 (v11 + 1) v13 (v13 + 1))) ∧ (¬ (v11 + 1) ≤ v9 → (wX1_span_L72 post y v1 v3 v7 n v8 (v11 + 1) ((v13 - (v11 + 1)) + 1) (v11 + 1) v13 (v13 + 1))))) ∧ (¬ v8 = ((v13 - (v11 + 1)) + 1) → (((v11 + 1) ≤ v9 → (wX1_span_L72 post y v1 v3 v7 n v8 v9 v10 (v11 + 1) v12 (v13 + 1))) ∧ (¬ (v11 + 1) ≤ v9 → (wX1_span_L72 post y v1 v3 v7 n v8 (v11 + 1) ((v13 - (v11 + 1)) + 1) (v11 + 1) v12 (v13 + 1))))))) ∧ (¬ 0 ≤ v8 → ((v13 = ((v13 - (v11 + 1)) + 1) → (((v11 + 1) ≤ v9 → (wX1_span_L72 post y v1 v3 v7 n v13 v9 v10 (v11 + 1) v13 (v13 + 1))) ∧ (¬ (v11 + 1) ≤ v9 → (wX1_span_L72 post y v1 v3 v7 n v13 (v11 + 1) ((v13 - (v11 + 1)) + 1) (v11 + 1) v13 (v13 + 1))))) ∧ (¬ v13 = ((v13 - (v11 + 1)) + 1) → (((v11 + 1) ≤ v9 → (wX1_span_L72 post y v1 v3 v7 n v13 v9 v10 (v11 + 1) v12 (v13 + 1))) ∧ (¬ (v11 + 1) ≤ v9 → (wX1_span_L72 post y v1 v3 v7 n v13 (v11 + 1) ((v13 - (v11 + 1)) + 1) (v11 + 1) v12 (v13 + 1))))))))))) y v13))))
def wX1_span (post : Int32 → YS → Prop) (y : YS) (v1 : Int64) (v3 : Int64) (v5 : Int64) (v7 : Int32) : Prop := (wX1_isInTable (fun r1 => ((r1 = 0 → (post 0 (1, (yNT y), (yNO y), (yNP y), (yT y), (yH y), (yO y), (yD y), (yW y), (yB y), (yC y), (yQ y)))) ∧ (¬ r1 = 0 → (wX1_isHeight (fun r4 => ((r4 = 0 → (post 0 (1, (yNT y), (yNO y), (yNP y), (yT y), (yH y), (yO y), (yD y), (yW y), (yB y), (yC y), (yQ y)))) ∧ (¬ r4 = 0 → (wX1_isHeight (fun r7 => ((r7 = 0 → (post 0 (1, (yNT y), (yNO y), (yNP y), (yT y), (yH y), (yO y), (yD y), (yW y), (yB y), (yC y), (yQ y)))) ∧ (¬ r7 = 0 → ((v7 < 0 → (post 0 (1, (yNT y), (yNO y), (yNP y), (yT y), (yH y), (yO y), (yD y), (yW y), (yB y), (yC y), (yQ y)))) ∧ (¬ v7 < 0 → ((4 ≤ v7 → (post 0 (1, (yNT y), (yNO y), (yNP y), (yT y), (yH y), (yO y), (yD y), (yW y), (yB y), (yC y), (yQ y)))) ∧ (¬ 4 ≤ v7 → (∃ n48 : Nat, wX1_span_L72 post (0, (yNT y), (yNO y), (yNP y), (yT y), (yH y), (yO y), (yD y), (yW y), (yB y), (yC y), (yQ y)) v1 v3 v7 n48 (-1) 0 (-1) 0 (-1) (v5).toInt32)))))))) v3)))) v1)))) y v5)
set_option maxHeartbeats 4000000 in
set_option maxRecDepth 100000 in
theorem kX1_span_L72 {p : Program} {l : Launch} {e : Env} {s : State} {m : MethodId} {args : Array Value} {below : List Frame} {meth : Method} {c : Code} {D : va_G} {cI cJ : ClassId} {k0 b1 b2 b3 b4 b5 b6 b7 b8 : Nat} {y : YS} {A : Nat → Prop} {H : Heap} {locs : List Loc} {post : Int32 → YS → Prop} (hx : p.tables.exec = Jvm.exec) (hb : c.code = cX1_span) (hr : meth.sig.returnType = (some .int)) (hml : c.maxLocals = 15) (hown : s.vm.findClass RX1 = some m.cls) (hlocks : meth.locks = false) (hts : ∀ w ∈ wsX1_span, w.before args s = true) (hin : ∀ w ∈ u_ws RX1 TX1 12, w ∈ wsX1_span) (hW : YW D cI cJ k0 b1 b2 b3 b4 b5 b6 b7 b8 y s H) (hP : va_P D cls2 (x1W cI cJ k0 b1 b2 b3 b4 b5 b6 b7 b8 y) H) (hK : va_K D cls2 [(cI, .int), (cJ, .long)] s) (hD : va_D A (x1W cI cJ k0 b1 b2 b3 b4 b5 b6 b7 b8 y)) (hS : va_S A s.heap H locs) (v1 : Int64) (v3 : Int64) (v5 : Int64) (v7 : Int32) : ∀ (n : Nat) (v8 : Int32) (v9 : Int32) (v10 : Int32) (v11 : Int32) (v12 : Int32) (v13 : Int32) (ls : Array Slot), lv_has ls 15 [(0, .ref k0), (1, .long v1), (3, .long v3), (5, .long v5), (7, .int v7), (8, .int v8), (9, .int v9), (10, .int v10), (11, .int v11), (12, .int v12), (13, .int v13)] → wX1_span_L72 post y v1 v3 v7 n v8 v9 v10 v11 v12 v13 → W p l e ({ frames := 3, cells := 0, slots := 0, locals := 79 } : Room) s m args below meth c H locs 0 0 (MQ below (va_Qi post (fun u9 t9 => YT D cI cJ k0 b1 b2 b3 b4 b5 b6 b7 b8 A u9 t9) A) args s 0 0 A) (F0 m 72 ls []) := by
  intro n
  induction n with
  | zero =>
    intro v8 v9 v10 v11 v12 v13 ls hl hw
    exact hw.elim
  | succ n ih =>
    intro v8 v9 v10 v11 v12 v13 ls hl hw
    rw [wX1_span_L72] at hw
    refine lv_iload hx hb dX1_span_72 (lv_at hl 10 rfl) ?_
    refine lv_aload_n hx hb dX1_span_74 rfl (lv_at hl 0 rfl) ?_
    refine va_get (D := D) (ci := 1) (v := .ref b1) (C := RX1) (T := TX1) (N := 12) hx hb hts hin hown hK hP 0 rfl rfl 4 (by decide) (hts (.fieldLink RX1 7 "TideDepthsModel" "turnTime" "[I") (by decide +kernel)) (fun _ h9 => h9) rfl dX1_span_75 ?_
    refine lv_aload_n hx hb dX1_span_78 rfl (lv_at hl 0 rfl) ?_
    refine va_get (D := D) (ci := 1) (v := .int (yNT y)) (C := RX1) (T := TX1) (N := 12) hx hb hts hin hown hK hP 0 rfl rfl 1 (by decide) (hts (.fieldLink RX1 40 "TideDepthsModel" "turns" "I") (by decide +kernel)) (fun _ h9 => h9) rfl dX1_span_79 ?_
    refine lv_iconst (v := 1) hx hb dX1_span_82 (by decide) ?_
    refine lv_isub hx hb dX1_span_83 ?_
    obtain ⟨h15, hw⟩ := hw
    refine va_iald hx hb hK hP 1 0 rfl rfl h15 dX1_span_84 ?_
    refine lv_icmp_gt (tgt := 211) hx hb dX1_span_85 (by decide) (fun c16 => ?_) (fun c16 => ?_)
    · have hw := hw.1 c16
      refine lv_iload hx hb dX1_span_211 (lv_at hl 4 rfl) ?_
      refine lv_if_ne (tgt := 221) hx hb dX1_span_213 (by decide) (fun c17 => ?_) (fun c17 => ?_)
      · have hw := hw.2 c17
        refine lv_iload hx hb dX1_span_221 (lv_at hl 4 rfl) ?_
        refine lv_iconst (v := 1) hx hb dX1_span_223 (by decide) ?_
        refine lv_icmp_ne (tgt := 232) hx hb dX1_span_224 (by decide) (fun c18 => ?_) (fun c18 => ?_)
        · have hw := hw.2 c18
          refine lv_iload hx hb dX1_span_232 (lv_at hl 7 rfl) ?_
          refine lv_if_ge (tgt := 241) hx hb dX1_span_234 (by decide) (fun c19 => ?_) (fun c19 => ?_)
          · have hw := hw.1 c19
            refine lv_iload hx hb dX1_span_241 (lv_at hl 4 rfl) ?_
            refine lv_iconst (v := 2) hx hb dX1_span_243 (by decide) ?_
            refine lv_icmp_ne (tgt := 252) hx hb dX1_span_244 (by decide) (fun c20 => ?_) (fun c20 => ?_)
            · have hw := hw.2 c20
              refine lv_iload hx hb dX1_span_252 (lv_at hl 7 rfl) ?_
              refine lv_iload hx hb dX1_span_254 (lv_at hl 6 rfl) ?_
              refine lv_iadd hx hb dX1_span_256 ?_
              refine lv_iconst (v := 1) hx hb dX1_span_257 (by decide) ?_
              refine lv_isub hx hb dX1_span_258 ?_
              exact W.iret (v := ((v10 + v9) - 1)) hx hb hr (fun t ht hWm => ⟨⟨((v10 + v9) - 1), y, rfl, hw, by rw [ht]; exact hP, va_K.moved hWm.alike hK, hD⟩, hS.F ht⟩) hS.2.2 dX1_span_259
            · have hw := hw.1 c20
              refine lv_iload hx hb dX1_span_247 (lv_at hl 7 rfl) ?_
              refine lv_goto (tgt := 259) hx hb dX1_span_249 (by decide) ?_
              exact W.iret (v := v10) hx hb hr (fun t ht hWm => ⟨⟨v10, y, rfl, hw, by rw [ht]; exact hP, va_K.moved hWm.alike hK, hD⟩, hS.F ht⟩) hS.2.2 dX1_span_259
          · have hw := hw.2 c19
            refine lv_iconst (v := (-1)) hx hb dX1_span_237 (by decide) ?_
            refine lv_goto (tgt := 259) hx hb dX1_span_238 (by decide) ?_
            exact W.iret (v := (-1)) hx hb hr (fun t ht hWm => ⟨⟨(-1), y, rfl, hw, by rw [ht]; exact hP, va_K.moved hWm.alike hK, hD⟩, hS.F ht⟩) hS.2.2 dX1_span_259
        · have hw := hw.1 c18
          refine lv_iload hx hb dX1_span_227 (lv_at hl 9 rfl) ?_
          refine lv_goto (tgt := 259) hx hb dX1_span_229 (by decide) ?_
          exact W.iret (v := v12) hx hb hr (fun t ht hWm => ⟨⟨v12, y, rfl, hw, by rw [ht]; exact hP, va_K.moved hWm.alike hK, hD⟩, hS.F ht⟩) hS.2.2 dX1_span_259
      · have hw := hw.1 c17
        refine lv_iload hx hb dX1_span_216 (lv_at hl 5 rfl) ?_
        refine lv_goto (tgt := 259) hx hb dX1_span_218 (by decide) ?_
        exact W.iret (v := v8) hx hb hr (fun t ht hWm => ⟨⟨v8, y, rfl, hw, by rw [ht]; exact hP, va_K.moved hWm.alike hK, hD⟩, hS.F ht⟩) hS.2.2 dX1_span_259
    · have hw := hw.2 c16
      refine lv_lload_n hx hb dX1_span_88 rfl (lv_at hl 1 rfl) ?_
      refine lv_aload_n hx hb dX1_span_89 rfl (lv_at hl 0 rfl) ?_
      refine lv_iload hx hb dX1_span_90 (lv_at hl 10 rfl) ?_
      refine pc_Vl (As := [.int v13]) (rest := [.long v1]) ⟨hx, hb, hml, hown, hts⟩ (mX1_heightAt l D cI cJ k0 b1 b2 b3 b4 b5 b6 b7 b8 y v13 _) (cwV 1 hts gX1_span_X1_heightAt rfl rfl rfl (by decide +kernel) ⟨Nat.le_of_ble_eq_true rfl, Nat.le_of_ble_eq_true rfl⟩) (wY_rc hW) wY_bl (wY_in hW hw) rfl hl.1 rfl (Nat.le_of_ble_eq_true rfl) dX1_span_92 ⟨Nat.le_of_ble_eq_true rfl, Nat.le_of_ble_eq_true rfl⟩ (fun r21 hw => ?_)
      refine lv_ladd hx hb dX1_span_95 ?_
      refine lv_lload_n hx hb dX1_span_96 rfl (lv_at hl 2 rfl) ?_
      refine bl_lt (tgt := 105) hx hb dX1_span_97 dX1_span_98 (by decide) (fun c22 => ?_) (fun c22 => ?_)
      · have hw := hw.1 c22
        refine lv_iconst (v := 0) hx hb dX1_span_105 (by decide) ?_
        refine lv_istore (lv' := [(14, .int 0), (0, .ref k0), (1, .long v1), (3, .long v3), (5, .long v5), (7, .int v7), (8, .int v8), (9, .int v9), (10, .int v10), (11, .int v11), (12, .int v12), (13, .int v13)]) hx hb dX1_span_106 hl (by decide) rfl (fun ls hl => ?_)
        refine lv_iload hx hb dX1_span_108 (lv_at hl 0 rfl) ?_
        refine lv_if_eq (tgt := 120) hx hb dX1_span_110 (by decide) (fun c23 => ?_) (fun c23 => ?_)
        ·
          refine lv_iconst (v := 0) hx hb dX1_span_120 (by decide) ?_
          refine lv_istore (lv' := [(11, .int 0), (14, .int 0), (0, .ref k0), (1, .long v1), (3, .long v3), (5, .long v5), (7, .int v7), (8, .int v8), (9, .int v9), (10, .int v10), (12, .int v12), (13, .int v13)]) hx hb dX1_span_121 hl (by decide) rfl (fun ls hl => ?_)
          refine lv_iload hx hb dX1_span_123 (lv_at hl 1 rfl) ?_
          refine lv_if_eq (tgt := 138) hx hb dX1_span_125 (by decide) (fun c24 => ?_) (fun c24 => ?_)
          ·
            refine lv_iload hx hb dX1_span_138 (lv_at hl 7 rfl) ?_
            refine lv_istore (lv' := [(8, .int v8), (11, .int 0), (14, .int 0), (0, .ref k0), (1, .long v1), (3, .long v3), (5, .long v5), (7, .int v7), (9, .int v9), (10, .int v10), (12, .int v12), (13, .int v13)]) hx hb dX1_span_140 hl (by decide) rfl (fun ls hl => ?_)
            refine lv_iload hx hb dX1_span_142 (lv_at hl 2 rfl) ?_
            refine lv_if_eq (tgt := 164) hx hb dX1_span_144 (by decide) (fun c25 => ?_) (fun c25 => ?_)
            ·
              refine lv_iload hx hb dX1_span_164 (lv_at hl 10 rfl) ?_
              refine lv_istore (lv' := [(12, .int v12), (8, .int v8), (11, .int 0), (14, .int 0), (0, .ref k0), (1, .long v1), (3, .long v3), (5, .long v5), (7, .int v7), (9, .int v9), (10, .int v10), (13, .int v13)]) hx hb dX1_span_166 hl (by decide) rfl (fun ls hl => ?_)
              refine lv_iload hx hb dX1_span_168 (lv_at hl 2 rfl) ?_
              refine lv_iload hx hb dX1_span_170 (lv_at hl 9 rfl) ?_
              refine lv_icmp_le (tgt := 185) hx hb dX1_span_172 (by decide) (fun c26 => ?_) (fun c26 => ?_)
              · have hw := hw.1 c26
                refine lv_iload hx hb dX1_span_185 (lv_at hl 10 rfl) ?_
                refine lv_istore (lv' := [(10, .int v10), (12, .int v12), (8, .int v8), (11, .int 0), (14, .int 0), (0, .ref k0), (1, .long v1), (3, .long v3), (5, .long v5), (7, .int v7), (9, .int v9), (13, .int v13)]) hx hb dX1_span_187 hl (by decide) rfl (fun ls hl => ?_)
                refine lv_iload hx hb dX1_span_189 (lv_at hl 3 rfl) ?_
                refine lv_iload hx hb dX1_span_191 (lv_at hl 10 rfl) ?_
                refine lv_icmp_le (tgt := 201) hx hb dX1_span_193 (by decide) (fun c27 => ?_) (fun c27 => ?_)
                ·
                  refine lv_iload hx hb dX1_span_201 (lv_at hl 10 rfl) ?_
                  refine lv_istore (lv' := [(9, .int v9), (10, .int v10), (12, .int v12), (8, .int v8), (11, .int 0), (14, .int 0), (0, .ref k0), (1, .long v1), (3, .long v3), (5, .long v5), (7, .int v7), (13, .int v13)]) hx hb dX1_span_203 hl (by decide) rfl (fun ls hl => ?_)
                  refine lv_iinc (v := (v13 + 1)) (lv' := [(13, .int (v13 + 1)), (9, .int v9), (10, .int v10), (12, .int v12), (8, .int v8), (11, .int 0), (14, .int 0), (0, .ref k0), (1, .long v1), (3, .long v3), (5, .long v5), (7, .int v7)]) hx hb dX1_span_205 hl (k := 11) rfl (by first | rfl | exact congrArg (fun z => v13 + z) (by decide)) (by decide) rfl (fun ls hl => ?_)
                  refine lv_goto (tgt := 72) hx hb dX1_span_208 (by decide) ?_
                  exact ih v8 v9 v10 0 v12 (v13 + 1) ls (lv_sub hl [7, 8, 9, 10, 11, 4, 1, 2, 5, 3, 0] rfl) hw
                · exact absurd c26 c27
              · have hw := hw.2 c26
                refine lv_iload hx hb dX1_span_175 (lv_at hl 11 rfl) ?_
                refine lv_iload hx hb dX1_span_177 (lv_at hl 2 rfl) ?_
                refine lv_isub hx hb dX1_span_179 ?_
                refine lv_iconst (v := 1) hx hb dX1_span_180 (by decide) ?_
                refine lv_iadd hx hb dX1_span_181 ?_
                refine lv_goto (tgt := 187) hx hb dX1_span_182 (by decide) ?_
                refine lv_istore (lv' := [(10, .int ((v13 - 0) + 1)), (12, .int v12), (8, .int v8), (11, .int 0), (14, .int 0), (0, .ref k0), (1, .long v1), (3, .long v3), (5, .long v5), (7, .int v7), (9, .int v9), (13, .int v13)]) hx hb dX1_span_187 hl (by decide) rfl (fun ls hl => ?_)
                refine lv_iload hx hb dX1_span_189 (lv_at hl 3 rfl) ?_
                refine lv_iload hx hb dX1_span_191 (lv_at hl 10 rfl) ?_
                refine lv_icmp_le (tgt := 201) hx hb dX1_span_193 (by decide) (fun c28 => ?_) (fun c28 => ?_)
                · exact absurd c28 c26
                ·
                  refine lv_iload hx hb dX1_span_196 (lv_at hl 3 rfl) ?_
                  refine lv_goto (tgt := 203) hx hb dX1_span_198 (by decide) ?_
                  refine lv_istore (lv' := [(9, .int 0), (10, .int ((v13 - 0) + 1)), (12, .int v12), (8, .int v8), (11, .int 0), (14, .int 0), (0, .ref k0), (1, .long v1), (3, .long v3), (5, .long v5), (7, .int v7), (13, .int v13)]) hx hb dX1_span_203 hl (by decide) rfl (fun ls hl => ?_)
                  refine lv_iinc (v := (v13 + 1)) (lv' := [(13, .int (v13 + 1)), (9, .int 0), (10, .int ((v13 - 0) + 1)), (12, .int v12), (8, .int v8), (11, .int 0), (14, .int 0), (0, .ref k0), (1, .long v1), (3, .long v3), (5, .long v5), (7, .int v7)]) hx hb dX1_span_205 hl (k := 11) rfl (by first | rfl | exact congrArg (fun z => v13 + z) (by decide)) (by decide) rfl (fun ls hl => ?_)
                  refine lv_goto (tgt := 72) hx hb dX1_span_208 (by decide) ?_
                  exact ih v8 0 ((v13 - 0) + 1) 0 v12 (v13 + 1) ls (lv_sub hl [7, 8, 9, 10, 11, 4, 1, 2, 5, 3, 0] rfl) hw
            · exact absurd (by decide) c25
          · exact absurd (by decide) c24
        · exact absurd (by decide) c23
      · have hw := hw.2 c22
        refine lv_iconst (v := 1) hx hb dX1_span_101 (by decide) ?_
        refine lv_goto (tgt := 106) hx hb dX1_span_102 (by decide) ?_
        refine lv_istore (lv' := [(14, .int 1), (0, .ref k0), (1, .long v1), (3, .long v3), (5, .long v5), (7, .int v7), (8, .int v8), (9, .int v9), (10, .int v10), (11, .int v11), (12, .int v12), (13, .int v13)]) hx hb dX1_span_106 hl (by decide) rfl (fun ls hl => ?_)
        refine lv_iload hx hb dX1_span_108 (lv_at hl 0 rfl) ?_
        refine lv_if_eq (tgt := 120) hx hb dX1_span_110 (by decide) (fun c29 => ?_) (fun c29 => ?_)
        · exact absurd c29 (by decide)
        ·
          refine lv_iload hx hb dX1_span_113 (lv_at hl 9 rfl) ?_
          refine lv_iconst (v := 1) hx hb dX1_span_115 (by decide) ?_
          refine lv_iadd hx hb dX1_span_116 ?_
          refine lv_goto (tgt := 121) hx hb dX1_span_117 (by decide) ?_
          refine lv_istore (lv' := [(11, .int (v11 + 1)), (14, .int 1), (0, .ref k0), (1, .long v1), (3, .long v3), (5, .long v5), (7, .int v7), (8, .int v8), (9, .int v9), (10, .int v10), (12, .int v12), (13, .int v13)]) hx hb dX1_span_121 hl (by decide) rfl (fun ls hl => ?_)
          refine lv_iload hx hb dX1_span_123 (lv_at hl 1 rfl) ?_
          refine lv_if_eq (tgt := 138) hx hb dX1_span_125 (by decide) (fun c30 => ?_) (fun c30 => ?_)
          · exact absurd c30 (by decide)
          ·
            refine lv_iload hx hb dX1_span_128 (lv_at hl 7 rfl) ?_
            refine lv_if_ge (tgt := 138) hx hb dX1_span_130 (by decide) (fun c31 => ?_) (fun c31 => ?_)
            · have hw := hw.1 c31
              refine lv_iload hx hb dX1_span_138 (lv_at hl 7 rfl) ?_
              refine lv_istore (lv' := [(8, .int v8), (11, .int (v11 + 1)), (14, .int 1), (0, .ref k0), (1, .long v1), (3, .long v3), (5, .long v5), (7, .int v7), (9, .int v9), (10, .int v10), (12, .int v12), (13, .int v13)]) hx hb dX1_span_140 hl (by decide) rfl (fun ls hl => ?_)
              refine lv_iload hx hb dX1_span_142 (lv_at hl 2 rfl) ?_
              refine lv_if_eq (tgt := 164) hx hb dX1_span_144 (by decide) (fun c32 => ?_) (fun c32 => ?_)
              · exact absurd c32 (by decide)
              ·
                refine lv_iload hx hb dX1_span_147 (lv_at hl 0 rfl) ?_
                refine lv_iload hx hb dX1_span_149 (lv_at hl 11 rfl) ?_
                refine lv_iload hx hb dX1_span_151 (lv_at hl 1 rfl) ?_
                refine lv_isub hx hb dX1_span_153 ?_
                refine lv_iconst (v := 1) hx hb dX1_span_154 (by decide) ?_
                refine lv_iadd hx hb dX1_span_155 ?_
                refine lv_icmp_ne (tgt := 164) hx hb dX1_span_156 (by decide) (fun c33 => ?_) (fun c33 => ?_)
                · have hw := hw.2 c33
                  refine lv_iload hx hb dX1_span_164 (lv_at hl 10 rfl) ?_
                  refine lv_istore (lv' := [(12, .int v12), (8, .int v8), (11, .int (v11 + 1)), (14, .int 1), (0, .ref k0), (1, .long v1), (3, .long v3), (5, .long v5), (7, .int v7), (9, .int v9), (10, .int v10), (13, .int v13)]) hx hb dX1_span_166 hl (by decide) rfl (fun ls hl => ?_)
                  refine lv_iload hx hb dX1_span_168 (lv_at hl 2 rfl) ?_
                  refine lv_iload hx hb dX1_span_170 (lv_at hl 9 rfl) ?_
                  refine lv_icmp_le (tgt := 185) hx hb dX1_span_172 (by decide) (fun c34 => ?_) (fun c34 => ?_)
                  · have hw := hw.1 c34
                    refine lv_iload hx hb dX1_span_185 (lv_at hl 10 rfl) ?_
                    refine lv_istore (lv' := [(10, .int v10), (12, .int v12), (8, .int v8), (11, .int (v11 + 1)), (14, .int 1), (0, .ref k0), (1, .long v1), (3, .long v3), (5, .long v5), (7, .int v7), (9, .int v9), (13, .int v13)]) hx hb dX1_span_187 hl (by decide) rfl (fun ls hl => ?_)
                    refine lv_iload hx hb dX1_span_189 (lv_at hl 3 rfl) ?_
                    refine lv_iload hx hb dX1_span_191 (lv_at hl 10 rfl) ?_
                    refine lv_icmp_le (tgt := 201) hx hb dX1_span_193 (by decide) (fun c35 => ?_) (fun c35 => ?_)
                    ·
                      refine lv_iload hx hb dX1_span_201 (lv_at hl 10 rfl) ?_
                      refine lv_istore (lv' := [(9, .int v9), (10, .int v10), (12, .int v12), (8, .int v8), (11, .int (v11 + 1)), (14, .int 1), (0, .ref k0), (1, .long v1), (3, .long v3), (5, .long v5), (7, .int v7), (13, .int v13)]) hx hb dX1_span_203 hl (by decide) rfl (fun ls hl => ?_)
                      refine lv_iinc (v := (v13 + 1)) (lv' := [(13, .int (v13 + 1)), (9, .int v9), (10, .int v10), (12, .int v12), (8, .int v8), (11, .int (v11 + 1)), (14, .int 1), (0, .ref k0), (1, .long v1), (3, .long v3), (5, .long v5), (7, .int v7)]) hx hb dX1_span_205 hl (k := 11) rfl (by first | rfl | exact congrArg (fun z => v13 + z) (by decide)) (by decide) rfl (fun ls hl => ?_)
                      refine lv_goto (tgt := 72) hx hb dX1_span_208 (by decide) ?_
                      exact ih v8 v9 v10 (v11 + 1) v12 (v13 + 1) ls (lv_sub hl [7, 8, 9, 10, 11, 4, 1, 2, 5, 3, 0] rfl) hw
                    · exact absurd c34 c35
                  · have hw := hw.2 c34
                    refine lv_iload hx hb dX1_span_175 (lv_at hl 11 rfl) ?_
                    refine lv_iload hx hb dX1_span_177 (lv_at hl 2 rfl) ?_
                    refine lv_isub hx hb dX1_span_179 ?_
                    refine lv_iconst (v := 1) hx hb dX1_span_180 (by decide) ?_
                    refine lv_iadd hx hb dX1_span_181 ?_
                    refine lv_goto (tgt := 187) hx hb dX1_span_182 (by decide) ?_
                    refine lv_istore (lv' := [(10, .int ((v13 - (v11 + 1)) + 1)), (12, .int v12), (8, .int v8), (11, .int (v11 + 1)), (14, .int 1), (0, .ref k0), (1, .long v1), (3, .long v3), (5, .long v5), (7, .int v7), (9, .int v9), (13, .int v13)]) hx hb dX1_span_187 hl (by decide) rfl (fun ls hl => ?_)
                    refine lv_iload hx hb dX1_span_189 (lv_at hl 3 rfl) ?_
                    refine lv_iload hx hb dX1_span_191 (lv_at hl 10 rfl) ?_
                    refine lv_icmp_le (tgt := 201) hx hb dX1_span_193 (by decide) (fun c36 => ?_) (fun c36 => ?_)
                    · exact absurd c36 c34
                    ·
                      refine lv_iload hx hb dX1_span_196 (lv_at hl 3 rfl) ?_
                      refine lv_goto (tgt := 203) hx hb dX1_span_198 (by decide) ?_
                      refine lv_istore (lv' := [(9, .int (v11 + 1)), (10, .int ((v13 - (v11 + 1)) + 1)), (12, .int v12), (8, .int v8), (11, .int (v11 + 1)), (14, .int 1), (0, .ref k0), (1, .long v1), (3, .long v3), (5, .long v5), (7, .int v7), (13, .int v13)]) hx hb dX1_span_203 hl (by decide) rfl (fun ls hl => ?_)
                      refine lv_iinc (v := (v13 + 1)) (lv' := [(13, .int (v13 + 1)), (9, .int (v11 + 1)), (10, .int ((v13 - (v11 + 1)) + 1)), (12, .int v12), (8, .int v8), (11, .int (v11 + 1)), (14, .int 1), (0, .ref k0), (1, .long v1), (3, .long v3), (5, .long v5), (7, .int v7)]) hx hb dX1_span_205 hl (k := 11) rfl (by first | rfl | exact congrArg (fun z => v13 + z) (by decide)) (by decide) rfl (fun ls hl => ?_)
                      refine lv_goto (tgt := 72) hx hb dX1_span_208 (by decide) ?_
                      exact ih v8 (v11 + 1) ((v13 - (v11 + 1)) + 1) (v11 + 1) v12 (v13 + 1) ls (lv_sub hl [7, 8, 9, 10, 11, 4, 1, 2, 5, 3, 0] rfl) hw
                · have hw := hw.1 c33
                  refine lv_iload hx hb dX1_span_159 (lv_at hl 11 rfl) ?_
                  refine lv_goto (tgt := 166) hx hb dX1_span_161 (by decide) ?_
                  refine lv_istore (lv' := [(12, .int v13), (8, .int v8), (11, .int (v11 + 1)), (14, .int 1), (0, .ref k0), (1, .long v1), (3, .long v3), (5, .long v5), (7, .int v7), (9, .int v9), (10, .int v10), (13, .int v13)]) hx hb dX1_span_166 hl (by decide) rfl (fun ls hl => ?_)
                  refine lv_iload hx hb dX1_span_168 (lv_at hl 2 rfl) ?_
                  refine lv_iload hx hb dX1_span_170 (lv_at hl 9 rfl) ?_
                  refine lv_icmp_le (tgt := 185) hx hb dX1_span_172 (by decide) (fun c37 => ?_) (fun c37 => ?_)
                  · have hw := hw.1 c37
                    refine lv_iload hx hb dX1_span_185 (lv_at hl 10 rfl) ?_
                    refine lv_istore (lv' := [(10, .int v10), (12, .int v13), (8, .int v8), (11, .int (v11 + 1)), (14, .int 1), (0, .ref k0), (1, .long v1), (3, .long v3), (5, .long v5), (7, .int v7), (9, .int v9), (13, .int v13)]) hx hb dX1_span_187 hl (by decide) rfl (fun ls hl => ?_)
                    refine lv_iload hx hb dX1_span_189 (lv_at hl 3 rfl) ?_
                    refine lv_iload hx hb dX1_span_191 (lv_at hl 10 rfl) ?_
                    refine lv_icmp_le (tgt := 201) hx hb dX1_span_193 (by decide) (fun c38 => ?_) (fun c38 => ?_)
                    ·
                      refine lv_iload hx hb dX1_span_201 (lv_at hl 10 rfl) ?_
                      refine lv_istore (lv' := [(9, .int v9), (10, .int v10), (12, .int v13), (8, .int v8), (11, .int (v11 + 1)), (14, .int 1), (0, .ref k0), (1, .long v1), (3, .long v3), (5, .long v5), (7, .int v7), (13, .int v13)]) hx hb dX1_span_203 hl (by decide) rfl (fun ls hl => ?_)
                      refine lv_iinc (v := (v13 + 1)) (lv' := [(13, .int (v13 + 1)), (9, .int v9), (10, .int v10), (12, .int v13), (8, .int v8), (11, .int (v11 + 1)), (14, .int 1), (0, .ref k0), (1, .long v1), (3, .long v3), (5, .long v5), (7, .int v7)]) hx hb dX1_span_205 hl (k := 11) rfl (by first | rfl | exact congrArg (fun z => v13 + z) (by decide)) (by decide) rfl (fun ls hl => ?_)
                      refine lv_goto (tgt := 72) hx hb dX1_span_208 (by decide) ?_
                      exact ih v8 v9 v10 (v11 + 1) v13 (v13 + 1) ls (lv_sub hl [7, 8, 9, 10, 11, 4, 1, 2, 5, 3, 0] rfl) hw
                    · exact absurd c37 c38
                  · have hw := hw.2 c37
                    refine lv_iload hx hb dX1_span_175 (lv_at hl 11 rfl) ?_
                    refine lv_iload hx hb dX1_span_177 (lv_at hl 2 rfl) ?_
                    refine lv_isub hx hb dX1_span_179 ?_
                    refine lv_iconst (v := 1) hx hb dX1_span_180 (by decide) ?_
                    refine lv_iadd hx hb dX1_span_181 ?_
                    refine lv_goto (tgt := 187) hx hb dX1_span_182 (by decide) ?_
                    refine lv_istore (lv' := [(10, .int ((v13 - (v11 + 1)) + 1)), (12, .int v13), (8, .int v8), (11, .int (v11 + 1)), (14, .int 1), (0, .ref k0), (1, .long v1), (3, .long v3), (5, .long v5), (7, .int v7), (9, .int v9), (13, .int v13)]) hx hb dX1_span_187 hl (by decide) rfl (fun ls hl => ?_)
                    refine lv_iload hx hb dX1_span_189 (lv_at hl 3 rfl) ?_
                    refine lv_iload hx hb dX1_span_191 (lv_at hl 10 rfl) ?_
                    refine lv_icmp_le (tgt := 201) hx hb dX1_span_193 (by decide) (fun c39 => ?_) (fun c39 => ?_)
                    · exact absurd c39 c37
                    ·
                      refine lv_iload hx hb dX1_span_196 (lv_at hl 3 rfl) ?_
                      refine lv_goto (tgt := 203) hx hb dX1_span_198 (by decide) ?_
                      refine lv_istore (lv' := [(9, .int (v11 + 1)), (10, .int ((v13 - (v11 + 1)) + 1)), (12, .int v13), (8, .int v8), (11, .int (v11 + 1)), (14, .int 1), (0, .ref k0), (1, .long v1), (3, .long v3), (5, .long v5), (7, .int v7), (13, .int v13)]) hx hb dX1_span_203 hl (by decide) rfl (fun ls hl => ?_)
                      refine lv_iinc (v := (v13 + 1)) (lv' := [(13, .int (v13 + 1)), (9, .int (v11 + 1)), (10, .int ((v13 - (v11 + 1)) + 1)), (12, .int v13), (8, .int v8), (11, .int (v11 + 1)), (14, .int 1), (0, .ref k0), (1, .long v1), (3, .long v3), (5, .long v5), (7, .int v7)]) hx hb dX1_span_205 hl (k := 11) rfl (by first | rfl | exact congrArg (fun z => v13 + z) (by decide)) (by decide) rfl (fun ls hl => ?_)
                      refine lv_goto (tgt := 72) hx hb dX1_span_208 (by decide) ?_
                      exact ih v8 (v11 + 1) ((v13 - (v11 + 1)) + 1) (v11 + 1) v13 (v13 + 1) ls (lv_sub hl [7, 8, 9, 10, 11, 4, 1, 2, 5, 3, 0] rfl) hw
            · have hw := hw.2 c31
              refine lv_iload hx hb dX1_span_133 (lv_at hl 11 rfl) ?_
              refine lv_goto (tgt := 140) hx hb dX1_span_135 (by decide) ?_
              refine lv_istore (lv' := [(8, .int v13), (11, .int (v11 + 1)), (14, .int 1), (0, .ref k0), (1, .long v1), (3, .long v3), (5, .long v5), (7, .int v7), (9, .int v9), (10, .int v10), (12, .int v12), (13, .int v13)]) hx hb dX1_span_140 hl (by decide) rfl (fun ls hl => ?_)
              refine lv_iload hx hb dX1_span_142 (lv_at hl 2 rfl) ?_
              refine lv_if_eq (tgt := 164) hx hb dX1_span_144 (by decide) (fun c40 => ?_) (fun c40 => ?_)
              · exact absurd c40 (by decide)
              ·
                refine lv_iload hx hb dX1_span_147 (lv_at hl 0 rfl) ?_
                refine lv_iload hx hb dX1_span_149 (lv_at hl 11 rfl) ?_
                refine lv_iload hx hb dX1_span_151 (lv_at hl 1 rfl) ?_
                refine lv_isub hx hb dX1_span_153 ?_
                refine lv_iconst (v := 1) hx hb dX1_span_154 (by decide) ?_
                refine lv_iadd hx hb dX1_span_155 ?_
                refine lv_icmp_ne (tgt := 164) hx hb dX1_span_156 (by decide) (fun c41 => ?_) (fun c41 => ?_)
                · have hw := hw.2 c41
                  refine lv_iload hx hb dX1_span_164 (lv_at hl 10 rfl) ?_
                  refine lv_istore (lv' := [(12, .int v12), (8, .int v13), (11, .int (v11 + 1)), (14, .int 1), (0, .ref k0), (1, .long v1), (3, .long v3), (5, .long v5), (7, .int v7), (9, .int v9), (10, .int v10), (13, .int v13)]) hx hb dX1_span_166 hl (by decide) rfl (fun ls hl => ?_)
                  refine lv_iload hx hb dX1_span_168 (lv_at hl 2 rfl) ?_
                  refine lv_iload hx hb dX1_span_170 (lv_at hl 9 rfl) ?_
                  refine lv_icmp_le (tgt := 185) hx hb dX1_span_172 (by decide) (fun c42 => ?_) (fun c42 => ?_)
                  · have hw := hw.1 c42
                    refine lv_iload hx hb dX1_span_185 (lv_at hl 10 rfl) ?_
                    refine lv_istore (lv' := [(10, .int v10), (12, .int v12), (8, .int v13), (11, .int (v11 + 1)), (14, .int 1), (0, .ref k0), (1, .long v1), (3, .long v3), (5, .long v5), (7, .int v7), (9, .int v9), (13, .int v13)]) hx hb dX1_span_187 hl (by decide) rfl (fun ls hl => ?_)
                    refine lv_iload hx hb dX1_span_189 (lv_at hl 3 rfl) ?_
                    refine lv_iload hx hb dX1_span_191 (lv_at hl 10 rfl) ?_
                    refine lv_icmp_le (tgt := 201) hx hb dX1_span_193 (by decide) (fun c43 => ?_) (fun c43 => ?_)
                    ·
                      refine lv_iload hx hb dX1_span_201 (lv_at hl 10 rfl) ?_
                      refine lv_istore (lv' := [(9, .int v9), (10, .int v10), (12, .int v12), (8, .int v13), (11, .int (v11 + 1)), (14, .int 1), (0, .ref k0), (1, .long v1), (3, .long v3), (5, .long v5), (7, .int v7), (13, .int v13)]) hx hb dX1_span_203 hl (by decide) rfl (fun ls hl => ?_)
                      refine lv_iinc (v := (v13 + 1)) (lv' := [(13, .int (v13 + 1)), (9, .int v9), (10, .int v10), (12, .int v12), (8, .int v13), (11, .int (v11 + 1)), (14, .int 1), (0, .ref k0), (1, .long v1), (3, .long v3), (5, .long v5), (7, .int v7)]) hx hb dX1_span_205 hl (k := 11) rfl (by first | rfl | exact congrArg (fun z => v13 + z) (by decide)) (by decide) rfl (fun ls hl => ?_)
                      refine lv_goto (tgt := 72) hx hb dX1_span_208 (by decide) ?_
                      exact ih v13 v9 v10 (v11 + 1) v12 (v13 + 1) ls (lv_sub hl [7, 8, 9, 10, 11, 4, 1, 2, 5, 3, 0] rfl) hw
                    · exact absurd c42 c43
                  · have hw := hw.2 c42
                    refine lv_iload hx hb dX1_span_175 (lv_at hl 11 rfl) ?_
                    refine lv_iload hx hb dX1_span_177 (lv_at hl 2 rfl) ?_
                    refine lv_isub hx hb dX1_span_179 ?_
                    refine lv_iconst (v := 1) hx hb dX1_span_180 (by decide) ?_
                    refine lv_iadd hx hb dX1_span_181 ?_
                    refine lv_goto (tgt := 187) hx hb dX1_span_182 (by decide) ?_
                    refine lv_istore (lv' := [(10, .int ((v13 - (v11 + 1)) + 1)), (12, .int v12), (8, .int v13), (11, .int (v11 + 1)), (14, .int 1), (0, .ref k0), (1, .long v1), (3, .long v3), (5, .long v5), (7, .int v7), (9, .int v9), (13, .int v13)]) hx hb dX1_span_187 hl (by decide) rfl (fun ls hl => ?_)
                    refine lv_iload hx hb dX1_span_189 (lv_at hl 3 rfl) ?_
                    refine lv_iload hx hb dX1_span_191 (lv_at hl 10 rfl) ?_
                    refine lv_icmp_le (tgt := 201) hx hb dX1_span_193 (by decide) (fun c44 => ?_) (fun c44 => ?_)
                    · exact absurd c44 c42
                    ·
                      refine lv_iload hx hb dX1_span_196 (lv_at hl 3 rfl) ?_
                      refine lv_goto (tgt := 203) hx hb dX1_span_198 (by decide) ?_
                      refine lv_istore (lv' := [(9, .int (v11 + 1)), (10, .int ((v13 - (v11 + 1)) + 1)), (12, .int v12), (8, .int v13), (11, .int (v11 + 1)), (14, .int 1), (0, .ref k0), (1, .long v1), (3, .long v3), (5, .long v5), (7, .int v7), (13, .int v13)]) hx hb dX1_span_203 hl (by decide) rfl (fun ls hl => ?_)
                      refine lv_iinc (v := (v13 + 1)) (lv' := [(13, .int (v13 + 1)), (9, .int (v11 + 1)), (10, .int ((v13 - (v11 + 1)) + 1)), (12, .int v12), (8, .int v13), (11, .int (v11 + 1)), (14, .int 1), (0, .ref k0), (1, .long v1), (3, .long v3), (5, .long v5), (7, .int v7)]) hx hb dX1_span_205 hl (k := 11) rfl (by first | rfl | exact congrArg (fun z => v13 + z) (by decide)) (by decide) rfl (fun ls hl => ?_)
                      refine lv_goto (tgt := 72) hx hb dX1_span_208 (by decide) ?_
                      exact ih v13 (v11 + 1) ((v13 - (v11 + 1)) + 1) (v11 + 1) v12 (v13 + 1) ls (lv_sub hl [7, 8, 9, 10, 11, 4, 1, 2, 5, 3, 0] rfl) hw
                · have hw := hw.1 c41
                  refine lv_iload hx hb dX1_span_159 (lv_at hl 11 rfl) ?_
                  refine lv_goto (tgt := 166) hx hb dX1_span_161 (by decide) ?_
                  refine lv_istore (lv' := [(12, .int v13), (8, .int v13), (11, .int (v11 + 1)), (14, .int 1), (0, .ref k0), (1, .long v1), (3, .long v3), (5, .long v5), (7, .int v7), (9, .int v9), (10, .int v10), (13, .int v13)]) hx hb dX1_span_166 hl (by decide) rfl (fun ls hl => ?_)
                  refine lv_iload hx hb dX1_span_168 (lv_at hl 2 rfl) ?_
                  refine lv_iload hx hb dX1_span_170 (lv_at hl 9 rfl) ?_
                  refine lv_icmp_le (tgt := 185) hx hb dX1_span_172 (by decide) (fun c45 => ?_) (fun c45 => ?_)
                  · have hw := hw.1 c45
                    refine lv_iload hx hb dX1_span_185 (lv_at hl 10 rfl) ?_
                    refine lv_istore (lv' := [(10, .int v10), (12, .int v13), (8, .int v13), (11, .int (v11 + 1)), (14, .int 1), (0, .ref k0), (1, .long v1), (3, .long v3), (5, .long v5), (7, .int v7), (9, .int v9), (13, .int v13)]) hx hb dX1_span_187 hl (by decide) rfl (fun ls hl => ?_)
                    refine lv_iload hx hb dX1_span_189 (lv_at hl 3 rfl) ?_
                    refine lv_iload hx hb dX1_span_191 (lv_at hl 10 rfl) ?_
                    refine lv_icmp_le (tgt := 201) hx hb dX1_span_193 (by decide) (fun c46 => ?_) (fun c46 => ?_)
                    ·
                      refine lv_iload hx hb dX1_span_201 (lv_at hl 10 rfl) ?_
                      refine lv_istore (lv' := [(9, .int v9), (10, .int v10), (12, .int v13), (8, .int v13), (11, .int (v11 + 1)), (14, .int 1), (0, .ref k0), (1, .long v1), (3, .long v3), (5, .long v5), (7, .int v7), (13, .int v13)]) hx hb dX1_span_203 hl (by decide) rfl (fun ls hl => ?_)
                      refine lv_iinc (v := (v13 + 1)) (lv' := [(13, .int (v13 + 1)), (9, .int v9), (10, .int v10), (12, .int v13), (8, .int v13), (11, .int (v11 + 1)), (14, .int 1), (0, .ref k0), (1, .long v1), (3, .long v3), (5, .long v5), (7, .int v7)]) hx hb dX1_span_205 hl (k := 11) rfl (by first | rfl | exact congrArg (fun z => v13 + z) (by decide)) (by decide) rfl (fun ls hl => ?_)
                      refine lv_goto (tgt := 72) hx hb dX1_span_208 (by decide) ?_
                      exact ih v13 v9 v10 (v11 + 1) v13 (v13 + 1) ls (lv_sub hl [7, 8, 9, 10, 11, 4, 1, 2, 5, 3, 0] rfl) hw
                    · exact absurd c45 c46
                  · have hw := hw.2 c45
                    refine lv_iload hx hb dX1_span_175 (lv_at hl 11 rfl) ?_
                    refine lv_iload hx hb dX1_span_177 (lv_at hl 2 rfl) ?_
                    refine lv_isub hx hb dX1_span_179 ?_
                    refine lv_iconst (v := 1) hx hb dX1_span_180 (by decide) ?_
                    refine lv_iadd hx hb dX1_span_181 ?_
                    refine lv_goto (tgt := 187) hx hb dX1_span_182 (by decide) ?_
                    refine lv_istore (lv' := [(10, .int ((v13 - (v11 + 1)) + 1)), (12, .int v13), (8, .int v13), (11, .int (v11 + 1)), (14, .int 1), (0, .ref k0), (1, .long v1), (3, .long v3), (5, .long v5), (7, .int v7), (9, .int v9), (13, .int v13)]) hx hb dX1_span_187 hl (by decide) rfl (fun ls hl => ?_)
                    refine lv_iload hx hb dX1_span_189 (lv_at hl 3 rfl) ?_
                    refine lv_iload hx hb dX1_span_191 (lv_at hl 10 rfl) ?_
                    refine lv_icmp_le (tgt := 201) hx hb dX1_span_193 (by decide) (fun c47 => ?_) (fun c47 => ?_)
                    · exact absurd c47 c45
                    ·
                      refine lv_iload hx hb dX1_span_196 (lv_at hl 3 rfl) ?_
                      refine lv_goto (tgt := 203) hx hb dX1_span_198 (by decide) ?_
                      refine lv_istore (lv' := [(9, .int (v11 + 1)), (10, .int ((v13 - (v11 + 1)) + 1)), (12, .int v13), (8, .int v13), (11, .int (v11 + 1)), (14, .int 1), (0, .ref k0), (1, .long v1), (3, .long v3), (5, .long v5), (7, .int v7), (13, .int v13)]) hx hb dX1_span_203 hl (by decide) rfl (fun ls hl => ?_)
                      refine lv_iinc (v := (v13 + 1)) (lv' := [(13, .int (v13 + 1)), (9, .int (v11 + 1)), (10, .int ((v13 - (v11 + 1)) + 1)), (12, .int v13), (8, .int v13), (11, .int (v11 + 1)), (14, .int 1), (0, .ref k0), (1, .long v1), (3, .long v3), (5, .long v5), (7, .int v7)]) hx hb dX1_span_205 hl (k := 11) rfl (by first | rfl | exact congrArg (fun z => v13 + z) (by decide)) (by decide) rfl (fun ls hl => ?_)
                      refine lv_goto (tgt := 72) hx hb dX1_span_208 (by decide) ?_
                      exact ih v13 (v11 + 1) ((v13 - (v11 + 1)) + 1) (v11 + 1) v13 (v13 + 1) ls (lv_sub hl [7, 8, 9, 10, 11, 4, 1, 2, 5, 3, 0] rfl) hw
set_option maxHeartbeats 4000000 in
set_option maxRecDepth 100000 in
theorem mX1_span (l : Launch) (D : va_G) (cI cJ : ClassId) (k0 b1 b2 b3 b4 b5 b6 b7 b8 sz : Nat) (y : YS) (v1 : Int64) (v3 : Int64) (v5 : Int64) (v7 : Int32) (post : Int32 → YS → Prop) : Met l yX1_span wsX1_span ({ frames := 3, cells := 0, slots := 0, locals := 79 } : Room) (va_Pc [.ref k0, .long v1, .long v3, .long v5, .int v7] (fun U => YE D cI cJ k0 b1 b2 b3 b4 b5 b6 b7 b8 sz y U ∧ wX1_span post y v1 v3 v5 v7)) (va_Qi post (fun u9 t9 => YT D cI cJ k0 b1 b2 b3 b4 b5 b6 b7 b8 (va_A (x1W cI cJ k0 b1 b2 b3 b4 b5 b6 b7 b8 y) sz) u9 t9) (va_A (x1W cI cJ k0 b1 b2 b3 b4 b5 b6 b7 b8 y) sz)) 0 0 (va_A (x1W cI cJ k0 b1 b2 b3 b4 b5 b6 b7 b8 y) sz) := by
  refine Met.ofW (cc := cX1_span) (maxL := 15) (ret := (some .int)) (by decide +kernel) rfl ?_
  intro p e s m args below meth c s₁ B hml hv
  obtain ⟨rfl, ⟨hsz, hP, hK, hD0⟩, hw⟩ := hv
  have hx := B.exec
  have hb := B.bytes
  have hr := B.returns
  have hts := atoms_spec (ws := wsX1_span) B.pre
  have hown : s.vm.findClass RX1 = some m.cls := findClass_of_methodNamed B.named
  have hlocks := B.notSynchronized
  have hin : ∀ w ∈ u_ws RX1 TX1 12, w ∈ wsX1_span := by decide +kernel
  subst hsz
  have hD := hD0.self (sz := s.heap.size)
  generalize hAe : va_A (x1W cI cJ k0 b1 b2 b3 b4 b5 b6 b7 b8 y) s.heap.size = A at hD ⊢
  have hS : va_S A s.heap s.heap [] := va_S.rf
  have hW : YW D cI cJ k0 b1 b2 b3 b4 b5 b6 b7 b8 y s s.heap := ⟨hP, hK⟩
  have hl := lv_entry ([.ref k0, .long v1, .long v3, .long v5, .int v7]) (n := 15) (Nat.le_of_ble_eq_true rfl)
  rw [lg_entry_eq]
  generalize (lg_sl ([.ref k0, .long v1, .long v3, .long v5, .int v7]) ++ List.replicate (15 - (lg_sl ([.ref k0, .long v1, .long v3, .long v5, .int v7])).length) Slot.unset).toArray = ls at hl ⊢
  have hl : lv_has ls 15 [(0, .ref k0), (1, .long v1), (3, .long v3), (5, .long v5), (7, .int v7)] := hl
  unfold wX1_span at hw
  refine lv_aload_n hx hb dX1_span_0 rfl (lv_at hl 0 rfl) ?_
  refine lv_aload_n hx hb dX1_span_1 rfl (lv_at hl 0 rfl) ?_
  refine lv_lload hx hb dX1_span_2 (lv_at hl 3 rfl) ?_
  refine pc_Vi (As := [.long v5]) (rest := [.ref k0]) ⟨hx, hb, hml, hown, hts⟩ (mX1_isInTable l D cI cJ k0 b1 b2 b3 b4 b5 b6 b7 b8 y v5 _) (cwV 1 hts gX1_span_X1_isInTable rfl rfl rfl (by decide +kernel) ⟨Nat.le_of_ble_eq_true rfl, Nat.le_of_ble_eq_true rfl⟩) (wY_rc hW) wY_bl (wY_in hW hw) rfl hl.1 rfl (Nat.le_of_ble_eq_true rfl) dX1_span_4 ⟨Nat.le_of_ble_eq_true rfl, Nat.le_of_ble_eq_true rfl⟩ (fun r1 hw => ?_)
  obtain ⟨z_r1, hw⟩ := hw
  refine lv_if_eq (tgt := 39) hx hb dX1_span_7 (by decide) (fun c2 => ?_) (fun c2 => ?_)
  · have hw := hw.1 c2
    refine lv_iconst (v := 1) hx hb dX1_span_39 (by decide) ?_
    refine va_put (D := D) (ci := 1) (v := .int 1) (ty := .int) (C := RX1) (T := TX1) (N := 12) hx hb hts hin tyX1 tyX1_ok nmX1 hown hK hP hD hS 0 rfl rfl 0 (by decide) (hts (.fieldLink RX1 36 "TideDepthsModel" "thrown" "I") (by decide +kernel)) (fun _ h9 => h9) rfl (by decide +kernel) rfl rfl (Nat.le_of_ble_eq_true rfl) dX1_span_40 (fun H locs hP hD hS => ?_)
    have hP : va_P D cls2 (x1W cI cJ k0 b1 b2 b3 b4 b5 b6 b7 b8 (1, (yNT y), (yNO y), (yNP y), (yT y), (yH y), (yO y), (yD y), (yW y), (yB y), (yC y), (yQ y))) H := hP
    have hD : va_D A (x1W cI cJ k0 b1 b2 b3 b4 b5 b6 b7 b8 (1, (yNT y), (yNO y), (yNP y), (yT y), (yH y), (yO y), (yD y), (yW y), (yB y), (yC y), (yQ y))) := hD
    have hW : YW D cI cJ k0 b1 b2 b3 b4 b5 b6 b7 b8 (1, (yNT y), (yNO y), (yNP y), (yT y), (yH y), (yO y), (yD y), (yW y), (yB y), (yC y), (yQ y)) s H := ⟨hP, hK⟩
    refine lv_aload_n hx hb dX1_span_43 rfl (lv_at hl 0 rfl) ?_
    refine va_get (D := D) (ci := 1) (v := .int 1) (C := RX1) (T := TX1) (N := 12) hx hb hts hin hown hK hP 0 rfl rfl 0 (by decide) (hts (.fieldLink RX1 36 "TideDepthsModel" "thrown" "I") (by decide +kernel)) (fun _ h9 => h9) rfl dX1_span_44 ?_
    refine lv_if_le (tgt := 52) hx hb dX1_span_47 (by decide) (fun c3 => ?_) (fun c3 => ?_)
    · exact absurd c3 (by decide)
    ·
      refine lv_iconst (v := 0) hx hb dX1_span_50 (by decide) ?_
      exact W.iret (v := 0) hx hb hr (fun t ht hWm => ⟨⟨0, (1, (yNT y), (yNO y), (yNP y), (yT y), (yH y), (yO y), (yD y), (yW y), (yB y), (yC y), (yQ y)), rfl, hw, by rw [ht]; exact hP, va_K.moved hWm.alike hK, hD⟩, hS.F ht⟩) hS.2.2 dX1_span_51
  · have hw := hw.2 c2
    refine lv_lload_n hx hb dX1_span_10 rfl (lv_at hl 1 rfl) ?_
    refine pc_Si (As := [.long v1]) (rest := [.ref k0]) ⟨hx, hb, hml, hown, hts⟩ (mX1_isHeight l v1 _) (va_cwS 1 hts gX1_span_X1_isHeight rfl rfl rfl (by decide +kernel) ⟨Nat.le_of_ble_eq_true rfl, Nat.le_of_ble_eq_true rfl⟩) wK_bl (fun _ _ _ => hw) rfl hl.1 rfl (Nat.le_of_ble_eq_true rfl) dX1_span_11 ⟨Nat.le_of_ble_eq_true rfl, Nat.le_of_ble_eq_true rfl⟩ (fun r4 hw => ?_)
    obtain ⟨z_r4, hw⟩ := hw
    refine lv_if_eq (tgt := 39) hx hb dX1_span_14 (by decide) (fun c5 => ?_) (fun c5 => ?_)
    · have hw := hw.1 c5
      refine lv_iconst (v := 1) hx hb dX1_span_39 (by decide) ?_
      refine va_put (D := D) (ci := 1) (v := .int 1) (ty := .int) (C := RX1) (T := TX1) (N := 12) hx hb hts hin tyX1 tyX1_ok nmX1 hown hK hP hD hS 0 rfl rfl 0 (by decide) (hts (.fieldLink RX1 36 "TideDepthsModel" "thrown" "I") (by decide +kernel)) (fun _ h9 => h9) rfl (by decide +kernel) rfl rfl (Nat.le_of_ble_eq_true rfl) dX1_span_40 (fun H locs hP hD hS => ?_)
      have hP : va_P D cls2 (x1W cI cJ k0 b1 b2 b3 b4 b5 b6 b7 b8 (1, (yNT y), (yNO y), (yNP y), (yT y), (yH y), (yO y), (yD y), (yW y), (yB y), (yC y), (yQ y))) H := hP
      have hD : va_D A (x1W cI cJ k0 b1 b2 b3 b4 b5 b6 b7 b8 (1, (yNT y), (yNO y), (yNP y), (yT y), (yH y), (yO y), (yD y), (yW y), (yB y), (yC y), (yQ y))) := hD
      have hW : YW D cI cJ k0 b1 b2 b3 b4 b5 b6 b7 b8 (1, (yNT y), (yNO y), (yNP y), (yT y), (yH y), (yO y), (yD y), (yW y), (yB y), (yC y), (yQ y)) s H := ⟨hP, hK⟩
      refine lv_aload_n hx hb dX1_span_43 rfl (lv_at hl 0 rfl) ?_
      refine va_get (D := D) (ci := 1) (v := .int 1) (C := RX1) (T := TX1) (N := 12) hx hb hts hin hown hK hP 0 rfl rfl 0 (by decide) (hts (.fieldLink RX1 36 "TideDepthsModel" "thrown" "I") (by decide +kernel)) (fun _ h9 => h9) rfl dX1_span_44 ?_
      refine lv_if_le (tgt := 52) hx hb dX1_span_47 (by decide) (fun c6 => ?_) (fun c6 => ?_)
      · exact absurd c6 (by decide)
      ·
        refine lv_iconst (v := 0) hx hb dX1_span_50 (by decide) ?_
        exact W.iret (v := 0) hx hb hr (fun t ht hWm => ⟨⟨0, (1, (yNT y), (yNO y), (yNP y), (yT y), (yH y), (yO y), (yD y), (yW y), (yB y), (yC y), (yQ y)), rfl, hw, by rw [ht]; exact hP, va_K.moved hWm.alike hK, hD⟩, hS.F ht⟩) hS.2.2 dX1_span_51
    · have hw := hw.2 c5
      refine lv_lload_n hx hb dX1_span_17 rfl (lv_at hl 2 rfl) ?_
      refine pc_Si (As := [.long v3]) (rest := [.ref k0]) ⟨hx, hb, hml, hown, hts⟩ (mX1_isHeight l v3 _) (va_cwS 1 hts gX1_span_X1_isHeight rfl rfl rfl (by decide +kernel) ⟨Nat.le_of_ble_eq_true rfl, Nat.le_of_ble_eq_true rfl⟩) wK_bl (fun _ _ _ => hw) rfl hl.1 rfl (Nat.le_of_ble_eq_true rfl) dX1_span_18 ⟨Nat.le_of_ble_eq_true rfl, Nat.le_of_ble_eq_true rfl⟩ (fun r7 hw => ?_)
      obtain ⟨z_r7, hw⟩ := hw
      refine lv_if_eq (tgt := 39) hx hb dX1_span_21 (by decide) (fun c8 => ?_) (fun c8 => ?_)
      · have hw := hw.1 c8
        refine lv_iconst (v := 1) hx hb dX1_span_39 (by decide) ?_
        refine va_put (D := D) (ci := 1) (v := .int 1) (ty := .int) (C := RX1) (T := TX1) (N := 12) hx hb hts hin tyX1 tyX1_ok nmX1 hown hK hP hD hS 0 rfl rfl 0 (by decide) (hts (.fieldLink RX1 36 "TideDepthsModel" "thrown" "I") (by decide +kernel)) (fun _ h9 => h9) rfl (by decide +kernel) rfl rfl (Nat.le_of_ble_eq_true rfl) dX1_span_40 (fun H locs hP hD hS => ?_)
        have hP : va_P D cls2 (x1W cI cJ k0 b1 b2 b3 b4 b5 b6 b7 b8 (1, (yNT y), (yNO y), (yNP y), (yT y), (yH y), (yO y), (yD y), (yW y), (yB y), (yC y), (yQ y))) H := hP
        have hD : va_D A (x1W cI cJ k0 b1 b2 b3 b4 b5 b6 b7 b8 (1, (yNT y), (yNO y), (yNP y), (yT y), (yH y), (yO y), (yD y), (yW y), (yB y), (yC y), (yQ y))) := hD
        have hW : YW D cI cJ k0 b1 b2 b3 b4 b5 b6 b7 b8 (1, (yNT y), (yNO y), (yNP y), (yT y), (yH y), (yO y), (yD y), (yW y), (yB y), (yC y), (yQ y)) s H := ⟨hP, hK⟩
        refine lv_aload_n hx hb dX1_span_43 rfl (lv_at hl 0 rfl) ?_
        refine va_get (D := D) (ci := 1) (v := .int 1) (C := RX1) (T := TX1) (N := 12) hx hb hts hin hown hK hP 0 rfl rfl 0 (by decide) (hts (.fieldLink RX1 36 "TideDepthsModel" "thrown" "I") (by decide +kernel)) (fun _ h9 => h9) rfl dX1_span_44 ?_
        refine lv_if_le (tgt := 52) hx hb dX1_span_47 (by decide) (fun c9 => ?_) (fun c9 => ?_)
        · exact absurd c9 (by decide)
        ·
          refine lv_iconst (v := 0) hx hb dX1_span_50 (by decide) ?_
          exact W.iret (v := 0) hx hb hr (fun t ht hWm => ⟨⟨0, (1, (yNT y), (yNO y), (yNP y), (yT y), (yH y), (yO y), (yD y), (yW y), (yB y), (yC y), (yQ y)), rfl, hw, by rw [ht]; exact hP, va_K.moved hWm.alike hK, hD⟩, hS.F ht⟩) hS.2.2 dX1_span_51
      · have hw := hw.2 c8
        refine lv_iload hx hb dX1_span_24 (lv_at hl 4 rfl) ?_
        refine lv_if_lt (tgt := 39) hx hb dX1_span_26 (by decide) (fun c10 => ?_) (fun c10 => ?_)
        · have hw := hw.1 c10
          refine lv_iconst (v := 1) hx hb dX1_span_39 (by decide) ?_
          refine va_put (D := D) (ci := 1) (v := .int 1) (ty := .int) (C := RX1) (T := TX1) (N := 12) hx hb hts hin tyX1 tyX1_ok nmX1 hown hK hP hD hS 0 rfl rfl 0 (by decide) (hts (.fieldLink RX1 36 "TideDepthsModel" "thrown" "I") (by decide +kernel)) (fun _ h9 => h9) rfl (by decide +kernel) rfl rfl (Nat.le_of_ble_eq_true rfl) dX1_span_40 (fun H locs hP hD hS => ?_)
          have hP : va_P D cls2 (x1W cI cJ k0 b1 b2 b3 b4 b5 b6 b7 b8 (1, (yNT y), (yNO y), (yNP y), (yT y), (yH y), (yO y), (yD y), (yW y), (yB y), (yC y), (yQ y))) H := hP
          have hD : va_D A (x1W cI cJ k0 b1 b2 b3 b4 b5 b6 b7 b8 (1, (yNT y), (yNO y), (yNP y), (yT y), (yH y), (yO y), (yD y), (yW y), (yB y), (yC y), (yQ y))) := hD
          have hW : YW D cI cJ k0 b1 b2 b3 b4 b5 b6 b7 b8 (1, (yNT y), (yNO y), (yNP y), (yT y), (yH y), (yO y), (yD y), (yW y), (yB y), (yC y), (yQ y)) s H := ⟨hP, hK⟩
          refine lv_aload_n hx hb dX1_span_43 rfl (lv_at hl 0 rfl) ?_
          refine va_get (D := D) (ci := 1) (v := .int 1) (C := RX1) (T := TX1) (N := 12) hx hb hts hin hown hK hP 0 rfl rfl 0 (by decide) (hts (.fieldLink RX1 36 "TideDepthsModel" "thrown" "I") (by decide +kernel)) (fun _ h9 => h9) rfl dX1_span_44 ?_
          refine lv_if_le (tgt := 52) hx hb dX1_span_47 (by decide) (fun c11 => ?_) (fun c11 => ?_)
          · exact absurd c11 (by decide)
          ·
            refine lv_iconst (v := 0) hx hb dX1_span_50 (by decide) ?_
            exact W.iret (v := 0) hx hb hr (fun t ht hWm => ⟨⟨0, (1, (yNT y), (yNO y), (yNP y), (yT y), (yH y), (yO y), (yD y), (yW y), (yB y), (yC y), (yQ y)), rfl, hw, by rw [ht]; exact hP, va_K.moved hWm.alike hK, hD⟩, hS.F ht⟩) hS.2.2 dX1_span_51
        · have hw := hw.2 c10
          refine lv_iload hx hb dX1_span_29 (lv_at hl 4 rfl) ?_
          refine lv_iconst (v := 4) hx hb dX1_span_31 (by decide) ?_
          refine lv_icmp_ge (tgt := 39) hx hb dX1_span_32 (by decide) (fun c12 => ?_) (fun c12 => ?_)
          · have hw := hw.1 c12
            refine lv_iconst (v := 1) hx hb dX1_span_39 (by decide) ?_
            refine va_put (D := D) (ci := 1) (v := .int 1) (ty := .int) (C := RX1) (T := TX1) (N := 12) hx hb hts hin tyX1 tyX1_ok nmX1 hown hK hP hD hS 0 rfl rfl 0 (by decide) (hts (.fieldLink RX1 36 "TideDepthsModel" "thrown" "I") (by decide +kernel)) (fun _ h9 => h9) rfl (by decide +kernel) rfl rfl (Nat.le_of_ble_eq_true rfl) dX1_span_40 (fun H locs hP hD hS => ?_)
            have hP : va_P D cls2 (x1W cI cJ k0 b1 b2 b3 b4 b5 b6 b7 b8 (1, (yNT y), (yNO y), (yNP y), (yT y), (yH y), (yO y), (yD y), (yW y), (yB y), (yC y), (yQ y))) H := hP
            have hD : va_D A (x1W cI cJ k0 b1 b2 b3 b4 b5 b6 b7 b8 (1, (yNT y), (yNO y), (yNP y), (yT y), (yH y), (yO y), (yD y), (yW y), (yB y), (yC y), (yQ y))) := hD
            have hW : YW D cI cJ k0 b1 b2 b3 b4 b5 b6 b7 b8 (1, (yNT y), (yNO y), (yNP y), (yT y), (yH y), (yO y), (yD y), (yW y), (yB y), (yC y), (yQ y)) s H := ⟨hP, hK⟩
            refine lv_aload_n hx hb dX1_span_43 rfl (lv_at hl 0 rfl) ?_
            refine va_get (D := D) (ci := 1) (v := .int 1) (C := RX1) (T := TX1) (N := 12) hx hb hts hin hown hK hP 0 rfl rfl 0 (by decide) (hts (.fieldLink RX1 36 "TideDepthsModel" "thrown" "I") (by decide +kernel)) (fun _ h9 => h9) rfl dX1_span_44 ?_
            refine lv_if_le (tgt := 52) hx hb dX1_span_47 (by decide) (fun c13 => ?_) (fun c13 => ?_)
            · exact absurd c13 (by decide)
            ·
              refine lv_iconst (v := 0) hx hb dX1_span_50 (by decide) ?_
              exact W.iret (v := 0) hx hb hr (fun t ht hWm => ⟨⟨0, (1, (yNT y), (yNO y), (yNP y), (yT y), (yH y), (yO y), (yD y), (yW y), (yB y), (yC y), (yQ y)), rfl, hw, by rw [ht]; exact hP, va_K.moved hWm.alike hK, hD⟩, hS.F ht⟩) hS.2.2 dX1_span_51
          · have hw := hw.2 c12
            refine lv_iconst (v := 0) hx hb dX1_span_35 (by decide) ?_
            refine lv_goto (tgt := 40) hx hb dX1_span_36 (by decide) ?_
            refine va_put (D := D) (ci := 1) (v := .int 0) (ty := .int) (C := RX1) (T := TX1) (N := 12) hx hb hts hin tyX1 tyX1_ok nmX1 hown hK hP hD hS 0 rfl rfl 0 (by decide) (hts (.fieldLink RX1 36 "TideDepthsModel" "thrown" "I") (by decide +kernel)) (fun _ h9 => h9) rfl (by decide +kernel) rfl rfl (Nat.le_of_ble_eq_true rfl) dX1_span_40 (fun H locs hP hD hS => ?_)
            have hP : va_P D cls2 (x1W cI cJ k0 b1 b2 b3 b4 b5 b6 b7 b8 (0, (yNT y), (yNO y), (yNP y), (yT y), (yH y), (yO y), (yD y), (yW y), (yB y), (yC y), (yQ y))) H := hP
            have hD : va_D A (x1W cI cJ k0 b1 b2 b3 b4 b5 b6 b7 b8 (0, (yNT y), (yNO y), (yNP y), (yT y), (yH y), (yO y), (yD y), (yW y), (yB y), (yC y), (yQ y))) := hD
            have hW : YW D cI cJ k0 b1 b2 b3 b4 b5 b6 b7 b8 (0, (yNT y), (yNO y), (yNP y), (yT y), (yH y), (yO y), (yD y), (yW y), (yB y), (yC y), (yQ y)) s H := ⟨hP, hK⟩
            refine lv_aload_n hx hb dX1_span_43 rfl (lv_at hl 0 rfl) ?_
            refine va_get (D := D) (ci := 1) (v := .int 0) (C := RX1) (T := TX1) (N := 12) hx hb hts hin hown hK hP 0 rfl rfl 0 (by decide) (hts (.fieldLink RX1 36 "TideDepthsModel" "thrown" "I") (by decide +kernel)) (fun _ h9 => h9) rfl dX1_span_44 ?_
            refine lv_if_le (tgt := 52) hx hb dX1_span_47 (by decide) (fun c14 => ?_) (fun c14 => ?_)
            ·
              refine lv_iconst (v := (-1)) hx hb dX1_span_52 (by decide) ?_
              refine lv_istore (lv' := [(8, .int (-1)), (0, .ref k0), (1, .long v1), (3, .long v3), (5, .long v5), (7, .int v7)]) hx hb dX1_span_53 hl (by decide) rfl (fun ls hl => ?_)
              refine lv_iconst (v := 0) hx hb dX1_span_55 (by decide) ?_
              refine lv_istore (lv' := [(9, .int 0), (8, .int (-1)), (0, .ref k0), (1, .long v1), (3, .long v3), (5, .long v5), (7, .int v7)]) hx hb dX1_span_56 hl (by decide) rfl (fun ls hl => ?_)
              refine lv_iconst (v := (-1)) hx hb dX1_span_58 (by decide) ?_
              refine lv_istore (lv' := [(10, .int (-1)), (9, .int 0), (8, .int (-1)), (0, .ref k0), (1, .long v1), (3, .long v3), (5, .long v5), (7, .int v7)]) hx hb dX1_span_59 hl (by decide) rfl (fun ls hl => ?_)
              refine lv_iconst (v := 0) hx hb dX1_span_61 (by decide) ?_
              refine lv_istore (lv' := [(11, .int 0), (10, .int (-1)), (9, .int 0), (8, .int (-1)), (0, .ref k0), (1, .long v1), (3, .long v3), (5, .long v5), (7, .int v7)]) hx hb dX1_span_62 hl (by decide) rfl (fun ls hl => ?_)
              refine lv_iconst (v := (-1)) hx hb dX1_span_64 (by decide) ?_
              refine lv_istore (lv' := [(12, .int (-1)), (11, .int 0), (10, .int (-1)), (9, .int 0), (8, .int (-1)), (0, .ref k0), (1, .long v1), (3, .long v3), (5, .long v5), (7, .int v7)]) hx hb dX1_span_65 hl (by decide) rfl (fun ls hl => ?_)
              refine lv_lload hx hb dX1_span_67 (lv_at hl 8 rfl) ?_
              refine lv_l2i (v := (v5).toInt32) hx hb dX1_span_69 rfl ?_
              refine lv_istore (lv' := [(13, .int (v5).toInt32), (12, .int (-1)), (11, .int 0), (10, .int (-1)), (9, .int 0), (8, .int (-1)), (0, .ref k0), (1, .long v1), (3, .long v3), (5, .long v5), (7, .int v7)]) hx hb dX1_span_70 hl (by decide) rfl (fun ls hl => ?_)
              obtain ⟨n48, hw⟩ := hw
              exact kX1_span_L72 hx hb hr hml hown hlocks hts hin hW hP hK hD hS v1 v3 v5 v7 n48 (-1) 0 (-1) 0 (-1) (v5).toInt32 ls (lv_sub hl [6, 7, 8, 9, 10, 5, 4, 3, 2, 1, 0] rfl) hw
            · exact absurd (by decide) c14

def wX1_squat (post : Int64 → YS → Prop) (y : YS) (v1 : Int64) (v3 : Int64) : Prop := (wX1_in (fun r1 => ((r1 = 0 → (post 0 (1, (yNT y), (yNO y), (yNP y), (yT y), (yH y), (yO y), (yD y), (yW y), (yB y), (yC y), (yQ y)))) ∧ (¬ r1 = 0 → (wX1_in (fun r4 => ((r4 = 0 → (post 0 (1, (yNT y), (yNO y), (yNP y), (yT y), (yH y), (yO y), (yD y), (yW y), (yB y), (yC y), (yQ y)))) ∧ (¬ r4 = 0 → (wX1_squatOf (fun r8 => (post r8 (0, (yNT y), (yNO y), (yNP y), (yT y), (yH y), (yO y), (yD y), (yW y), (yB y), (yC y), (yQ y)))) (0, (yNT y), (yNO y), (yNP y), (yT y), (yH y), (yO y), (yD y), (yW y), (yB y), (yC y), (yQ y)) v1 v3)))) v3 0 30000)))) v1 0 10000)

set_option maxHeartbeats 4000000 in
set_option maxRecDepth 100000 in
theorem mX1_squat (l : Launch) (D : va_G) (cI cJ : ClassId) (k0 b1 b2 b3 b4 b5 b6 b7 b8 sz : Nat) (y : YS) (v1 : Int64) (v3 : Int64) (post : Int64 → YS → Prop) : Met l yX1_squat wsX1_squat ({ frames := 2, cells := 0, slots := 0, locals := 50 } : Room) (va_Pc [.ref k0, .long v1, .long v3] (fun U => YE D cI cJ k0 b1 b2 b3 b4 b5 b6 b7 b8 sz y U ∧ wX1_squat post y v1 v3)) (va_Ql post (fun u9 t9 => YT D cI cJ k0 b1 b2 b3 b4 b5 b6 b7 b8 (va_A (x1W cI cJ k0 b1 b2 b3 b4 b5 b6 b7 b8 y) sz) u9 t9) (va_A (x1W cI cJ k0 b1 b2 b3 b4 b5 b6 b7 b8 y) sz)) 0 0 (va_A (x1W cI cJ k0 b1 b2 b3 b4 b5 b6 b7 b8 y) sz) := by
  refine Met.ofW (cc := cX1_squat) (maxL := 5) (ret := (some .long)) (by decide +kernel) rfl ?_
  intro p e s m args below meth c s₁ B hml hv
  obtain ⟨rfl, ⟨hsz, hP, hK, hD0⟩, hw⟩ := hv
  have hx := B.exec
  have hb := B.bytes
  have hr := B.returns
  have hts := atoms_spec (ws := wsX1_squat) B.pre
  have hown : s.vm.findClass RX1 = some m.cls := findClass_of_methodNamed B.named
  have hlocks := B.notSynchronized
  have hin : ∀ w ∈ u_ws RX1 TX1 12, w ∈ wsX1_squat := by decide +kernel
  subst hsz
  have hD := hD0.self (sz := s.heap.size)
  generalize hAe : va_A (x1W cI cJ k0 b1 b2 b3 b4 b5 b6 b7 b8 y) s.heap.size = A at hD ⊢
  have hS : va_S A s.heap s.heap [] := va_S.rf
  have hW : YW D cI cJ k0 b1 b2 b3 b4 b5 b6 b7 b8 y s s.heap := ⟨hP, hK⟩
  have hl := lv_entry ([.ref k0, .long v1, .long v3]) (n := 5) (Nat.le_of_ble_eq_true rfl)
  rw [lg_entry_eq]
  generalize (lg_sl ([.ref k0, .long v1, .long v3]) ++ List.replicate (5 - (lg_sl ([.ref k0, .long v1, .long v3])).length) Slot.unset).toArray = ls at hl ⊢
  have hl : lv_has ls 5 [(0, .ref k0), (1, .long v1), (3, .long v3)] := hl
  unfold wX1_squat at hw
  refine lv_aload_n hx hb dX1_squat_0 rfl (lv_at hl 0 rfl) ?_
  refine lv_lload_n hx hb dX1_squat_1 rfl (lv_at hl 1 rfl) ?_
  refine lv_lconst (v := 0) hx hb dX1_squat_2 (by decide) ?_
  refine lv_ldc2 (v := 10000) hx hb hown (hts (.constantLong RX1 89 (10000)) (by decide +kernel)) dX1_squat_3 ?_
  refine pc_Si (As := [.long v1, .long 0, .long 10000]) (rest := [.ref k0]) ⟨hx, hb, hml, hown, hts⟩ (mX1_in l v1 0 10000 _) (va_cwS 3 hts gX1_squat_X1_in rfl rfl rfl (by decide +kernel) ⟨Nat.le_of_ble_eq_true rfl, Nat.le_of_ble_eq_true rfl⟩) wK_bl (fun _ _ _ => hw) rfl hl.1 rfl (Nat.le_of_ble_eq_true rfl) dX1_squat_6 ⟨Nat.le_of_ble_eq_true rfl, Nat.le_of_ble_eq_true rfl⟩ (fun r1 hw => ?_)
  obtain ⟨z_r1, hw⟩ := hw
  refine lv_if_eq (tgt := 27) hx hb dX1_squat_9 (by decide) (fun c2 => ?_) (fun c2 => ?_)
  · have hw := hw.1 c2
    refine lv_iconst (v := 1) hx hb dX1_squat_27 (by decide) ?_
    refine va_put (D := D) (ci := 1) (v := .int 1) (ty := .int) (C := RX1) (T := TX1) (N := 12) hx hb hts hin tyX1 tyX1_ok nmX1 hown hK hP hD hS 0 rfl rfl 0 (by decide) (hts (.fieldLink RX1 36 "TideDepthsModel" "thrown" "I") (by decide +kernel)) (fun _ h9 => h9) rfl (by decide +kernel) rfl rfl (Nat.le_of_ble_eq_true rfl) dX1_squat_28 (fun H locs hP hD hS => ?_)
    have hP : va_P D cls2 (x1W cI cJ k0 b1 b2 b3 b4 b5 b6 b7 b8 (1, (yNT y), (yNO y), (yNP y), (yT y), (yH y), (yO y), (yD y), (yW y), (yB y), (yC y), (yQ y))) H := hP
    have hD : va_D A (x1W cI cJ k0 b1 b2 b3 b4 b5 b6 b7 b8 (1, (yNT y), (yNO y), (yNP y), (yT y), (yH y), (yO y), (yD y), (yW y), (yB y), (yC y), (yQ y))) := hD
    have hW : YW D cI cJ k0 b1 b2 b3 b4 b5 b6 b7 b8 (1, (yNT y), (yNO y), (yNP y), (yT y), (yH y), (yO y), (yD y), (yW y), (yB y), (yC y), (yQ y)) s H := ⟨hP, hK⟩
    refine lv_aload_n hx hb dX1_squat_31 rfl (lv_at hl 0 rfl) ?_
    refine va_get (D := D) (ci := 1) (v := .int 1) (C := RX1) (T := TX1) (N := 12) hx hb hts hin hown hK hP 0 rfl rfl 0 (by decide) (hts (.fieldLink RX1 36 "TideDepthsModel" "thrown" "I") (by decide +kernel)) (fun _ h9 => h9) rfl dX1_squat_32 ?_
    refine lv_if_le (tgt := 42) hx hb dX1_squat_35 (by decide) (fun c3 => ?_) (fun c3 => ?_)
    · exact absurd c3 (by decide)
    ·
      refine lv_lconst (v := 0) hx hb dX1_squat_38 (by decide) ?_
      refine lv_goto (tgt := 48) hx hb dX1_squat_39 (by decide) ?_
      exact W.lret (v := 0) hx hb hr (fun t ht hWm => ⟨⟨0, (1, (yNT y), (yNO y), (yNP y), (yT y), (yH y), (yO y), (yD y), (yW y), (yB y), (yC y), (yQ y)), rfl, hw, by rw [ht]; exact hP, va_K.moved hWm.alike hK, hD⟩, hS.F ht⟩) hS.2.2 dX1_squat_48
  · have hw := hw.2 c2
    refine lv_lload_n hx hb dX1_squat_12 rfl (lv_at hl 2 rfl) ?_
    refine lv_lconst (v := 0) hx hb dX1_squat_13 (by decide) ?_
    refine lv_ldc2 (v := 30000) hx hb hown (hts (.constantLong RX1 91 (30000)) (by decide +kernel)) dX1_squat_14 ?_
    refine pc_Si (As := [.long v3, .long 0, .long 30000]) (rest := [.ref k0]) ⟨hx, hb, hml, hown, hts⟩ (mX1_in l v3 0 30000 _) (va_cwS 3 hts gX1_squat_X1_in rfl rfl rfl (by decide +kernel) ⟨Nat.le_of_ble_eq_true rfl, Nat.le_of_ble_eq_true rfl⟩) wK_bl (fun _ _ _ => hw) rfl hl.1 rfl (Nat.le_of_ble_eq_true rfl) dX1_squat_17 ⟨Nat.le_of_ble_eq_true rfl, Nat.le_of_ble_eq_true rfl⟩ (fun r4 hw => ?_)
    obtain ⟨z_r4, hw⟩ := hw
    refine lv_if_eq (tgt := 27) hx hb dX1_squat_20 (by decide) (fun c5 => ?_) (fun c5 => ?_)
    · have hw := hw.1 c5
      refine lv_iconst (v := 1) hx hb dX1_squat_27 (by decide) ?_
      refine va_put (D := D) (ci := 1) (v := .int 1) (ty := .int) (C := RX1) (T := TX1) (N := 12) hx hb hts hin tyX1 tyX1_ok nmX1 hown hK hP hD hS 0 rfl rfl 0 (by decide) (hts (.fieldLink RX1 36 "TideDepthsModel" "thrown" "I") (by decide +kernel)) (fun _ h9 => h9) rfl (by decide +kernel) rfl rfl (Nat.le_of_ble_eq_true rfl) dX1_squat_28 (fun H locs hP hD hS => ?_)
      have hP : va_P D cls2 (x1W cI cJ k0 b1 b2 b3 b4 b5 b6 b7 b8 (1, (yNT y), (yNO y), (yNP y), (yT y), (yH y), (yO y), (yD y), (yW y), (yB y), (yC y), (yQ y))) H := hP
      have hD : va_D A (x1W cI cJ k0 b1 b2 b3 b4 b5 b6 b7 b8 (1, (yNT y), (yNO y), (yNP y), (yT y), (yH y), (yO y), (yD y), (yW y), (yB y), (yC y), (yQ y))) := hD
      have hW : YW D cI cJ k0 b1 b2 b3 b4 b5 b6 b7 b8 (1, (yNT y), (yNO y), (yNP y), (yT y), (yH y), (yO y), (yD y), (yW y), (yB y), (yC y), (yQ y)) s H := ⟨hP, hK⟩
      refine lv_aload_n hx hb dX1_squat_31 rfl (lv_at hl 0 rfl) ?_
      refine va_get (D := D) (ci := 1) (v := .int 1) (C := RX1) (T := TX1) (N := 12) hx hb hts hin hown hK hP 0 rfl rfl 0 (by decide) (hts (.fieldLink RX1 36 "TideDepthsModel" "thrown" "I") (by decide +kernel)) (fun _ h9 => h9) rfl dX1_squat_32 ?_
      refine lv_if_le (tgt := 42) hx hb dX1_squat_35 (by decide) (fun c6 => ?_) (fun c6 => ?_)
      · exact absurd c6 (by decide)
      ·
        refine lv_lconst (v := 0) hx hb dX1_squat_38 (by decide) ?_
        refine lv_goto (tgt := 48) hx hb dX1_squat_39 (by decide) ?_
        exact W.lret (v := 0) hx hb hr (fun t ht hWm => ⟨⟨0, (1, (yNT y), (yNO y), (yNP y), (yT y), (yH y), (yO y), (yD y), (yW y), (yB y), (yC y), (yQ y)), rfl, hw, by rw [ht]; exact hP, va_K.moved hWm.alike hK, hD⟩, hS.F ht⟩) hS.2.2 dX1_squat_48
    · have hw := hw.2 c5
      refine lv_iconst (v := 0) hx hb dX1_squat_23 (by decide) ?_
      refine lv_goto (tgt := 28) hx hb dX1_squat_24 (by decide) ?_
      refine va_put (D := D) (ci := 1) (v := .int 0) (ty := .int) (C := RX1) (T := TX1) (N := 12) hx hb hts hin tyX1 tyX1_ok nmX1 hown hK hP hD hS 0 rfl rfl 0 (by decide) (hts (.fieldLink RX1 36 "TideDepthsModel" "thrown" "I") (by decide +kernel)) (fun _ h9 => h9) rfl (by decide +kernel) rfl rfl (Nat.le_of_ble_eq_true rfl) dX1_squat_28 (fun H locs hP hD hS => ?_)
      have hP : va_P D cls2 (x1W cI cJ k0 b1 b2 b3 b4 b5 b6 b7 b8 (0, (yNT y), (yNO y), (yNP y), (yT y), (yH y), (yO y), (yD y), (yW y), (yB y), (yC y), (yQ y))) H := hP
      have hD : va_D A (x1W cI cJ k0 b1 b2 b3 b4 b5 b6 b7 b8 (0, (yNT y), (yNO y), (yNP y), (yT y), (yH y), (yO y), (yD y), (yW y), (yB y), (yC y), (yQ y))) := hD
      have hW : YW D cI cJ k0 b1 b2 b3 b4 b5 b6 b7 b8 (0, (yNT y), (yNO y), (yNP y), (yT y), (yH y), (yO y), (yD y), (yW y), (yB y), (yC y), (yQ y)) s H := ⟨hP, hK⟩
      refine lv_aload_n hx hb dX1_squat_31 rfl (lv_at hl 0 rfl) ?_
      refine va_get (D := D) (ci := 1) (v := .int 0) (C := RX1) (T := TX1) (N := 12) hx hb hts hin hown hK hP 0 rfl rfl 0 (by decide) (hts (.fieldLink RX1 36 "TideDepthsModel" "thrown" "I") (by decide +kernel)) (fun _ h9 => h9) rfl dX1_squat_32 ?_
      refine lv_if_le (tgt := 42) hx hb dX1_squat_35 (by decide) (fun c7 => ?_) (fun c7 => ?_)
      ·
        refine lv_aload_n hx hb dX1_squat_42 rfl (lv_at hl 0 rfl) ?_
        refine lv_lload_n hx hb dX1_squat_43 rfl (lv_at hl 1 rfl) ?_
        refine lv_lload_n hx hb dX1_squat_44 rfl (lv_at hl 2 rfl) ?_
        refine pc_Vl (As := [.long v1, .long v3]) (rest := []) ⟨hx, hb, hml, hown, hts⟩ (mX1_squatOf l D cI cJ k0 b1 b2 b3 b4 b5 b6 b7 b8 (0, (yNT y), (yNO y), (yNP y), (yT y), (yH y), (yO y), (yD y), (yW y), (yB y), (yC y), (yQ y)) v1 v3 _) (cwV 2 hts gX1_squat_X1_squatOf rfl rfl rfl (by decide +kernel) ⟨Nat.le_of_ble_eq_true rfl, Nat.le_of_ble_eq_true rfl⟩) (wY_rc hW) wY_bl (wY_in hW hw) rfl hl.1 rfl (Nat.le_of_ble_eq_true rfl) dX1_squat_45 ⟨Nat.le_of_ble_eq_true rfl, Nat.le_of_ble_eq_true rfl⟩ (fun r8 hw => ?_)
        exact W.lret (v := r8) hx hb hr (fun t ht hWm => ⟨⟨r8, (0, (yNT y), (yNO y), (yNP y), (yT y), (yH y), (yO y), (yD y), (yW y), (yB y), (yC y), (yQ y)), rfl, hw, by rw [ht]; exact hP, va_K.moved hWm.alike hK, hD⟩, hS.F ht⟩) hS.2.2 dX1_squat_48
      · exact absurd (by decide) c7

def wX1_passing (post : Int64 → YS → Prop) (y : YS) (v1 : Int64) (v3 : Int64) : Prop := (wX1_in (fun r1 => ((r1 = 0 → (post 0 (1, (yNT y), (yNO y), (yNP y), (yT y), (yH y), (yO y), (yD y), (yW y), (yB y), (yC y), (yQ y)))) ∧ (¬ r1 = 0 → (wX1_in (fun r4 => ((r4 = 0 → (post 0 (1, (yNT y), (yNO y), (yNP y), (yT y), (yH y), (yO y), (yD y), (yW y), (yB y), (yC y), (yQ y)))) ∧ (¬ r4 = 0 → ((v3 = 0 → (post 0 (2, (yNT y), (yNO y), (yNP y), (yT y), (yH y), (yO y), (yD y), (yW y), (yB y), (yC y), (yQ y)))) ∧ (¬ v3 = 0 → (wX1_up (fun r8 => (post r8 (0, (yNT y), (yNO y), (yNP y), (yT y), (yH y), (yO y), (yD y), (yW y), (yB y), (yC y), (yQ y)))) (100 * v1) v3)))))) v3 0 10000)))) v1 0 1000000)

set_option maxHeartbeats 4000000 in
set_option maxRecDepth 100000 in
theorem mX1_passing (l : Launch) (D : va_G) (cI cJ : ClassId) (k0 b1 b2 b3 b4 b5 b6 b7 b8 sz : Nat) (y : YS) (v1 : Int64) (v3 : Int64) (post : Int64 → YS → Prop) : Met l yX1_passing wsX1_passing ({ frames := 1, cells := 0, slots := 0, locals := 25 } : Room) (va_Pc [.ref k0, .long v1, .long v3] (fun U => YE D cI cJ k0 b1 b2 b3 b4 b5 b6 b7 b8 sz y U ∧ wX1_passing post y v1 v3)) (va_Ql post (fun u9 t9 => YT D cI cJ k0 b1 b2 b3 b4 b5 b6 b7 b8 (va_A (x1W cI cJ k0 b1 b2 b3 b4 b5 b6 b7 b8 y) sz) u9 t9) (va_A (x1W cI cJ k0 b1 b2 b3 b4 b5 b6 b7 b8 y) sz)) 0 0 (va_A (x1W cI cJ k0 b1 b2 b3 b4 b5 b6 b7 b8 y) sz) := by
  refine Met.ofW (cc := cX1_passing) (maxL := 5) (ret := (some .long)) (by decide +kernel) rfl ?_
  intro p e s m args below meth c s₁ B hml hv
  obtain ⟨rfl, ⟨hsz, hP, hK, hD0⟩, hw⟩ := hv
  have hx := B.exec
  have hb := B.bytes
  have hr := B.returns
  have hts := atoms_spec (ws := wsX1_passing) B.pre
  have hown : s.vm.findClass RX1 = some m.cls := findClass_of_methodNamed B.named
  have hlocks := B.notSynchronized
  have hin : ∀ w ∈ u_ws RX1 TX1 12, w ∈ wsX1_passing := by decide +kernel
  subst hsz
  have hD := hD0.self (sz := s.heap.size)
  generalize hAe : va_A (x1W cI cJ k0 b1 b2 b3 b4 b5 b6 b7 b8 y) s.heap.size = A at hD ⊢
  have hS : va_S A s.heap s.heap [] := va_S.rf
  have hW : YW D cI cJ k0 b1 b2 b3 b4 b5 b6 b7 b8 y s s.heap := ⟨hP, hK⟩
  have hl := lv_entry ([.ref k0, .long v1, .long v3]) (n := 5) (Nat.le_of_ble_eq_true rfl)
  rw [lg_entry_eq]
  generalize (lg_sl ([.ref k0, .long v1, .long v3]) ++ List.replicate (5 - (lg_sl ([.ref k0, .long v1, .long v3])).length) Slot.unset).toArray = ls at hl ⊢
  have hl : lv_has ls 5 [(0, .ref k0), (1, .long v1), (3, .long v3)] := hl
  unfold wX1_passing at hw
  refine lv_aload_n hx hb dX1_passing_0 rfl (lv_at hl 0 rfl) ?_
  refine lv_lload_n hx hb dX1_passing_1 rfl (lv_at hl 1 rfl) ?_
  refine lv_lconst (v := 0) hx hb dX1_passing_2 (by decide) ?_
  refine lv_ldc2 (v := 1000000) hx hb hown (hts (.constantLong RX1 96 (1000000)) (by decide +kernel)) dX1_passing_3 ?_
  refine pc_Si (As := [.long v1, .long 0, .long 1000000]) (rest := [.ref k0]) ⟨hx, hb, hml, hown, hts⟩ (mX1_in l v1 0 1000000 _) (va_cwS 3 hts gX1_passing_X1_in rfl rfl rfl (by decide +kernel) ⟨Nat.le_of_ble_eq_true rfl, Nat.le_of_ble_eq_true rfl⟩) wK_bl (fun _ _ _ => hw) rfl hl.1 rfl (Nat.le_of_ble_eq_true rfl) dX1_passing_6 ⟨Nat.le_of_ble_eq_true rfl, Nat.le_of_ble_eq_true rfl⟩ (fun r1 hw => ?_)
  obtain ⟨z_r1, hw⟩ := hw
  refine lv_if_eq (tgt := 23) hx hb dX1_passing_9 (by decide) (fun c2 => ?_) (fun c2 => ?_)
  · have hw := hw.1 c2
    refine lv_iconst (v := 1) hx hb dX1_passing_23 (by decide) ?_
    refine lv_goto (tgt := 38) hx hb dX1_passing_24 (by decide) ?_
    refine va_put (D := D) (ci := 1) (v := .int 1) (ty := .int) (C := RX1) (T := TX1) (N := 12) hx hb hts hin tyX1 tyX1_ok nmX1 hown hK hP hD hS 0 rfl rfl 0 (by decide) (hts (.fieldLink RX1 36 "TideDepthsModel" "thrown" "I") (by decide +kernel)) (fun _ h9 => h9) rfl (by decide +kernel) rfl rfl (Nat.le_of_ble_eq_true rfl) dX1_passing_38 (fun H locs hP hD hS => ?_)
    have hP : va_P D cls2 (x1W cI cJ k0 b1 b2 b3 b4 b5 b6 b7 b8 (1, (yNT y), (yNO y), (yNP y), (yT y), (yH y), (yO y), (yD y), (yW y), (yB y), (yC y), (yQ y))) H := hP
    have hD : va_D A (x1W cI cJ k0 b1 b2 b3 b4 b5 b6 b7 b8 (1, (yNT y), (yNO y), (yNP y), (yT y), (yH y), (yO y), (yD y), (yW y), (yB y), (yC y), (yQ y))) := hD
    have hW : YW D cI cJ k0 b1 b2 b3 b4 b5 b6 b7 b8 (1, (yNT y), (yNO y), (yNP y), (yT y), (yH y), (yO y), (yD y), (yW y), (yB y), (yC y), (yQ y)) s H := ⟨hP, hK⟩
    refine lv_aload_n hx hb dX1_passing_41 rfl (lv_at hl 0 rfl) ?_
    refine va_get (D := D) (ci := 1) (v := .int 1) (C := RX1) (T := TX1) (N := 12) hx hb hts hin hown hK hP 0 rfl rfl 0 (by decide) (hts (.fieldLink RX1 36 "TideDepthsModel" "thrown" "I") (by decide +kernel)) (fun _ h9 => h9) rfl dX1_passing_42 ?_
    refine lv_if_le (tgt := 52) hx hb dX1_passing_45 (by decide) (fun c3 => ?_) (fun c3 => ?_)
    · exact absurd c3 (by decide)
    ·
      refine lv_lconst (v := 0) hx hb dX1_passing_48 (by decide) ?_
      refine lv_goto (tgt := 61) hx hb dX1_passing_49 (by decide) ?_
      exact W.lret (v := 0) hx hb hr (fun t ht hWm => ⟨⟨0, (1, (yNT y), (yNO y), (yNP y), (yT y), (yH y), (yO y), (yD y), (yW y), (yB y), (yC y), (yQ y)), rfl, hw, by rw [ht]; exact hP, va_K.moved hWm.alike hK, hD⟩, hS.F ht⟩) hS.2.2 dX1_passing_61
  · have hw := hw.2 c2
    refine lv_lload_n hx hb dX1_passing_12 rfl (lv_at hl 2 rfl) ?_
    refine lv_lconst (v := 0) hx hb dX1_passing_13 (by decide) ?_
    refine lv_ldc2 (v := 10000) hx hb hown (hts (.constantLong RX1 89 (10000)) (by decide +kernel)) dX1_passing_14 ?_
    refine pc_Si (As := [.long v3, .long 0, .long 10000]) (rest := [.ref k0]) ⟨hx, hb, hml, hown, hts⟩ (mX1_in l v3 0 10000 _) (va_cwS 3 hts gX1_passing_X1_in rfl rfl rfl (by decide +kernel) ⟨Nat.le_of_ble_eq_true rfl, Nat.le_of_ble_eq_true rfl⟩) wK_bl (fun _ _ _ => hw) rfl hl.1 rfl (Nat.le_of_ble_eq_true rfl) dX1_passing_17 ⟨Nat.le_of_ble_eq_true rfl, Nat.le_of_ble_eq_true rfl⟩ (fun r4 hw => ?_)
    obtain ⟨z_r4, hw⟩ := hw
    refine lv_if_ne (tgt := 27) hx hb dX1_passing_20 (by decide) (fun c5 => ?_) (fun c5 => ?_)
    · have hw := hw.2 c5
      refine lv_lload_n hx hb dX1_passing_27 rfl (lv_at hl 2 rfl) ?_
      refine lv_lconst (v := 0) hx hb dX1_passing_28 (by decide) ?_
      refine bl_ne (tgt := 37) hx hb dX1_passing_29 dX1_passing_30 (by decide) (fun c6 => ?_) (fun c6 => ?_)
      · have hw := hw.2 c6
        refine lv_iconst (v := 0) hx hb dX1_passing_37 (by decide) ?_
        refine va_put (D := D) (ci := 1) (v := .int 0) (ty := .int) (C := RX1) (T := TX1) (N := 12) hx hb hts hin tyX1 tyX1_ok nmX1 hown hK hP hD hS 0 rfl rfl 0 (by decide) (hts (.fieldLink RX1 36 "TideDepthsModel" "thrown" "I") (by decide +kernel)) (fun _ h9 => h9) rfl (by decide +kernel) rfl rfl (Nat.le_of_ble_eq_true rfl) dX1_passing_38 (fun H locs hP hD hS => ?_)
        have hP : va_P D cls2 (x1W cI cJ k0 b1 b2 b3 b4 b5 b6 b7 b8 (0, (yNT y), (yNO y), (yNP y), (yT y), (yH y), (yO y), (yD y), (yW y), (yB y), (yC y), (yQ y))) H := hP
        have hD : va_D A (x1W cI cJ k0 b1 b2 b3 b4 b5 b6 b7 b8 (0, (yNT y), (yNO y), (yNP y), (yT y), (yH y), (yO y), (yD y), (yW y), (yB y), (yC y), (yQ y))) := hD
        have hW : YW D cI cJ k0 b1 b2 b3 b4 b5 b6 b7 b8 (0, (yNT y), (yNO y), (yNP y), (yT y), (yH y), (yO y), (yD y), (yW y), (yB y), (yC y), (yQ y)) s H := ⟨hP, hK⟩
        refine lv_aload_n hx hb dX1_passing_41 rfl (lv_at hl 0 rfl) ?_
        refine va_get (D := D) (ci := 1) (v := .int 0) (C := RX1) (T := TX1) (N := 12) hx hb hts hin hown hK hP 0 rfl rfl 0 (by decide) (hts (.fieldLink RX1 36 "TideDepthsModel" "thrown" "I") (by decide +kernel)) (fun _ h9 => h9) rfl dX1_passing_42 ?_
        refine lv_if_le (tgt := 52) hx hb dX1_passing_45 (by decide) (fun c7 => ?_) (fun c7 => ?_)
        ·
          refine lv_ldc2 (v := 100) hx hb hown (hts (.constantLong RX1 82 (100)) (by decide +kernel)) dX1_passing_52 ?_
          refine lv_lload_n hx hb dX1_passing_55 rfl (lv_at hl 1 rfl) ?_
          refine lv_lmul hx hb dX1_passing_56 ?_
          refine lv_lload_n hx hb dX1_passing_57 rfl (lv_at hl 2 rfl) ?_
          refine pc_Sl (As := [.long (100 * v1), .long v3]) (rest := []) ⟨hx, hb, hml, hown, hts⟩ (mX1_up l (100 * v1) v3 _) (va_cwS 2 hts gX1_passing_X1_up rfl rfl rfl (by decide +kernel) ⟨Nat.le_of_ble_eq_true rfl, Nat.le_of_ble_eq_true rfl⟩) wK_bl (fun _ _ _ => hw) rfl hl.1 rfl (Nat.le_of_ble_eq_true rfl) dX1_passing_58 ⟨Nat.le_of_ble_eq_true rfl, Nat.le_of_ble_eq_true rfl⟩ (fun r8 hw => ?_)
          exact W.lret (v := r8) hx hb hr (fun t ht hWm => ⟨⟨r8, (0, (yNT y), (yNO y), (yNP y), (yT y), (yH y), (yO y), (yD y), (yW y), (yB y), (yC y), (yQ y)), rfl, hw, by rw [ht]; exact hP, va_K.moved hWm.alike hK, hD⟩, hS.F ht⟩) hS.2.2 dX1_passing_61
        · exact absurd (by decide) c7
      · have hw := hw.1 c6
        refine lv_iconst (v := 2) hx hb dX1_passing_33 (by decide) ?_
        refine lv_goto (tgt := 38) hx hb dX1_passing_34 (by decide) ?_
        refine va_put (D := D) (ci := 1) (v := .int 2) (ty := .int) (C := RX1) (T := TX1) (N := 12) hx hb hts hin tyX1 tyX1_ok nmX1 hown hK hP hD hS 0 rfl rfl 0 (by decide) (hts (.fieldLink RX1 36 "TideDepthsModel" "thrown" "I") (by decide +kernel)) (fun _ h9 => h9) rfl (by decide +kernel) rfl rfl (Nat.le_of_ble_eq_true rfl) dX1_passing_38 (fun H locs hP hD hS => ?_)
        have hP : va_P D cls2 (x1W cI cJ k0 b1 b2 b3 b4 b5 b6 b7 b8 (2, (yNT y), (yNO y), (yNP y), (yT y), (yH y), (yO y), (yD y), (yW y), (yB y), (yC y), (yQ y))) H := hP
        have hD : va_D A (x1W cI cJ k0 b1 b2 b3 b4 b5 b6 b7 b8 (2, (yNT y), (yNO y), (yNP y), (yT y), (yH y), (yO y), (yD y), (yW y), (yB y), (yC y), (yQ y))) := hD
        have hW : YW D cI cJ k0 b1 b2 b3 b4 b5 b6 b7 b8 (2, (yNT y), (yNO y), (yNP y), (yT y), (yH y), (yO y), (yD y), (yW y), (yB y), (yC y), (yQ y)) s H := ⟨hP, hK⟩
        refine lv_aload_n hx hb dX1_passing_41 rfl (lv_at hl 0 rfl) ?_
        refine va_get (D := D) (ci := 1) (v := .int 2) (C := RX1) (T := TX1) (N := 12) hx hb hts hin hown hK hP 0 rfl rfl 0 (by decide) (hts (.fieldLink RX1 36 "TideDepthsModel" "thrown" "I") (by decide +kernel)) (fun _ h9 => h9) rfl dX1_passing_42 ?_
        refine lv_if_le (tgt := 52) hx hb dX1_passing_45 (by decide) (fun c9 => ?_) (fun c9 => ?_)
        · exact absurd c9 (by decide)
        ·
          refine lv_lconst (v := 0) hx hb dX1_passing_48 (by decide) ?_
          refine lv_goto (tgt := 61) hx hb dX1_passing_49 (by decide) ?_
          exact W.lret (v := 0) hx hb hr (fun t ht hWm => ⟨⟨0, (2, (yNT y), (yNO y), (yNP y), (yT y), (yH y), (yO y), (yD y), (yW y), (yB y), (yC y), (yQ y)), rfl, hw, by rw [ht]; exact hP, va_K.moved hWm.alike hK, hD⟩, hS.F ht⟩) hS.2.2 dX1_passing_61
    · have hw := hw.1 c5
      refine lv_iconst (v := 1) hx hb dX1_passing_23 (by decide) ?_
      refine lv_goto (tgt := 38) hx hb dX1_passing_24 (by decide) ?_
      refine va_put (D := D) (ci := 1) (v := .int 1) (ty := .int) (C := RX1) (T := TX1) (N := 12) hx hb hts hin tyX1 tyX1_ok nmX1 hown hK hP hD hS 0 rfl rfl 0 (by decide) (hts (.fieldLink RX1 36 "TideDepthsModel" "thrown" "I") (by decide +kernel)) (fun _ h9 => h9) rfl (by decide +kernel) rfl rfl (Nat.le_of_ble_eq_true rfl) dX1_passing_38 (fun H locs hP hD hS => ?_)
      have hP : va_P D cls2 (x1W cI cJ k0 b1 b2 b3 b4 b5 b6 b7 b8 (1, (yNT y), (yNO y), (yNP y), (yT y), (yH y), (yO y), (yD y), (yW y), (yB y), (yC y), (yQ y))) H := hP
      have hD : va_D A (x1W cI cJ k0 b1 b2 b3 b4 b5 b6 b7 b8 (1, (yNT y), (yNO y), (yNP y), (yT y), (yH y), (yO y), (yD y), (yW y), (yB y), (yC y), (yQ y))) := hD
      have hW : YW D cI cJ k0 b1 b2 b3 b4 b5 b6 b7 b8 (1, (yNT y), (yNO y), (yNP y), (yT y), (yH y), (yO y), (yD y), (yW y), (yB y), (yC y), (yQ y)) s H := ⟨hP, hK⟩
      refine lv_aload_n hx hb dX1_passing_41 rfl (lv_at hl 0 rfl) ?_
      refine va_get (D := D) (ci := 1) (v := .int 1) (C := RX1) (T := TX1) (N := 12) hx hb hts hin hown hK hP 0 rfl rfl 0 (by decide) (hts (.fieldLink RX1 36 "TideDepthsModel" "thrown" "I") (by decide +kernel)) (fun _ h9 => h9) rfl dX1_passing_42 ?_
      refine lv_if_le (tgt := 52) hx hb dX1_passing_45 (by decide) (fun c10 => ?_) (fun c10 => ?_)
      · exact absurd c10 (by decide)
      ·
        refine lv_lconst (v := 0) hx hb dX1_passing_48 (by decide) ?_
        refine lv_goto (tgt := 61) hx hb dX1_passing_49 (by decide) ?_
        exact W.lret (v := 0) hx hb hr (fun t ht hWm => ⟨⟨0, (1, (yNT y), (yNO y), (yNP y), (yT y), (yH y), (yO y), (yD y), (yW y), (yB y), (yC y), (yQ y)), rfl, hw, by rw [ht]; exact hP, va_K.moved hWm.alike hK, hD⟩, hS.F ht⟩) hS.2.2 dX1_passing_61

def wX1_cosine (post : Int32 → YS → Prop) (y : YS) (v1 : Int32) : Prop := ((v1 < 0 → (post 0 (1, (yNT y), (yNO y), (yNP y), (yT y), (yH y), (yO y), (yD y), (yW y), (yB y), (yC y), (yQ y)))) ∧ (¬ v1 < 0 → ((65 ≤ v1 → (post 0 (1, (yNT y), (yNO y), (yNP y), (yT y), (yH y), (yO y), (yD y), (yW y), (yB y), (yC y), (yQ y)))) ∧ (¬ 65 ≤ v1 → (vp_in v1 65 ∧ (post ((yC y) (v1).toNatClampNeg) (0, (yNT y), (yNO y), (yNP y), (yT y), (yH y), (yO y), (yD y), (yW y), (yB y), (yC y), (yQ y))))))))

set_option maxHeartbeats 4000000 in
set_option maxRecDepth 100000 in
theorem mX1_cosine (l : Launch) (D : va_G) (cI cJ : ClassId) (k0 b1 b2 b3 b4 b5 b6 b7 b8 sz : Nat) (y : YS) (v1 : Int32) (post : Int32 → YS → Prop) : Met l yX1_cosine wsX1_cosine ({ frames := 0, cells := 0, slots := 0, locals := 0 } : Room) (va_Pc [.ref k0, .int v1] (fun U => YE D cI cJ k0 b1 b2 b3 b4 b5 b6 b7 b8 sz y U ∧ wX1_cosine post y v1)) (va_Qi post (fun u9 t9 => YT D cI cJ k0 b1 b2 b3 b4 b5 b6 b7 b8 (va_A (x1W cI cJ k0 b1 b2 b3 b4 b5 b6 b7 b8 y) sz) u9 t9) (va_A (x1W cI cJ k0 b1 b2 b3 b4 b5 b6 b7 b8 y) sz)) 0 0 (va_A (x1W cI cJ k0 b1 b2 b3 b4 b5 b6 b7 b8 y) sz) := by
  refine Met.ofW (cc := cX1_cosine) (maxL := 2) (ret := (some .int)) (by decide +kernel) rfl ?_
  intro p e s m args below meth c s₁ B hml hv
  obtain ⟨rfl, ⟨hsz, hP, hK, hD0⟩, hw⟩ := hv
  have hx := B.exec
  have hb := B.bytes
  have hr := B.returns
  have hts := atoms_spec (ws := wsX1_cosine) B.pre
  have hown : s.vm.findClass RX1 = some m.cls := findClass_of_methodNamed B.named
  have hlocks := B.notSynchronized
  have hin : ∀ w ∈ u_ws RX1 TX1 12, w ∈ wsX1_cosine := by decide +kernel
  subst hsz
  have hD := hD0.self (sz := s.heap.size)
  generalize hAe : va_A (x1W cI cJ k0 b1 b2 b3 b4 b5 b6 b7 b8 y) s.heap.size = A at hD ⊢
  have hS : va_S A s.heap s.heap [] := va_S.rf
  have hW : YW D cI cJ k0 b1 b2 b3 b4 b5 b6 b7 b8 y s s.heap := ⟨hP, hK⟩
  have hl := lv_entry ([.ref k0, .int v1]) (n := 2) (Nat.le_of_ble_eq_true rfl)
  rw [lg_entry_eq]
  generalize (lg_sl ([.ref k0, .int v1]) ++ List.replicate (2 - (lg_sl ([.ref k0, .int v1])).length) Slot.unset).toArray = ls at hl ⊢
  have hl : lv_has ls 2 [(0, .ref k0), (1, .int v1)] := hl
  unfold wX1_cosine at hw
  refine lv_aload_n hx hb dX1_cosine_0 rfl (lv_at hl 0 rfl) ?_
  refine lv_iload_n hx hb dX1_cosine_1 rfl (lv_at hl 1 rfl) ?_
  refine lv_if_lt (tgt := 15) hx hb dX1_cosine_2 (by decide) (fun c1 => ?_) (fun c1 => ?_)
  · have hw := hw.1 c1
    refine lv_iconst (v := 1) hx hb dX1_cosine_15 (by decide) ?_
    refine va_put (D := D) (ci := 1) (v := .int 1) (ty := .int) (C := RX1) (T := TX1) (N := 12) hx hb hts hin tyX1 tyX1_ok nmX1 hown hK hP hD hS 0 rfl rfl 0 (by decide) (hts (.fieldLink RX1 36 "TideDepthsModel" "thrown" "I") (by decide +kernel)) (fun _ h9 => h9) rfl (by decide +kernel) rfl rfl (Nat.le_of_ble_eq_true rfl) dX1_cosine_16 (fun H locs hP hD hS => ?_)
    have hP : va_P D cls2 (x1W cI cJ k0 b1 b2 b3 b4 b5 b6 b7 b8 (1, (yNT y), (yNO y), (yNP y), (yT y), (yH y), (yO y), (yD y), (yW y), (yB y), (yC y), (yQ y))) H := hP
    have hD : va_D A (x1W cI cJ k0 b1 b2 b3 b4 b5 b6 b7 b8 (1, (yNT y), (yNO y), (yNP y), (yT y), (yH y), (yO y), (yD y), (yW y), (yB y), (yC y), (yQ y))) := hD
    have hW : YW D cI cJ k0 b1 b2 b3 b4 b5 b6 b7 b8 (1, (yNT y), (yNO y), (yNP y), (yT y), (yH y), (yO y), (yD y), (yW y), (yB y), (yC y), (yQ y)) s H := ⟨hP, hK⟩
    refine lv_aload_n hx hb dX1_cosine_19 rfl (lv_at hl 0 rfl) ?_
    refine va_get (D := D) (ci := 1) (v := .int 1) (C := RX1) (T := TX1) (N := 12) hx hb hts hin hown hK hP 0 rfl rfl 0 (by decide) (hts (.fieldLink RX1 36 "TideDepthsModel" "thrown" "I") (by decide +kernel)) (fun _ h9 => h9) rfl dX1_cosine_20 ?_
    refine lv_if_le (tgt := 30) hx hb dX1_cosine_23 (by decide) (fun c2 => ?_) (fun c2 => ?_)
    · exact absurd c2 (by decide)
    ·
      refine lv_iconst (v := 0) hx hb dX1_cosine_26 (by decide) ?_
      refine lv_goto (tgt := 36) hx hb dX1_cosine_27 (by decide) ?_
      exact W.iret (v := 0) hx hb hr (fun t ht hWm => ⟨⟨0, (1, (yNT y), (yNO y), (yNP y), (yT y), (yH y), (yO y), (yD y), (yW y), (yB y), (yC y), (yQ y)), rfl, hw, by rw [ht]; exact hP, va_K.moved hWm.alike hK, hD⟩, hS.F ht⟩) hS.2.2 dX1_cosine_36
  · have hw := hw.2 c1
    refine lv_iload_n hx hb dX1_cosine_5 rfl (lv_at hl 1 rfl) ?_
    refine lv_bipush (v := 65) hx hb dX1_cosine_6 (by decide) ?_
    refine lv_icmp_ge (tgt := 15) hx hb dX1_cosine_8 (by decide) (fun c3 => ?_) (fun c3 => ?_)
    · have hw := hw.1 c3
      refine lv_iconst (v := 1) hx hb dX1_cosine_15 (by decide) ?_
      refine va_put (D := D) (ci := 1) (v := .int 1) (ty := .int) (C := RX1) (T := TX1) (N := 12) hx hb hts hin tyX1 tyX1_ok nmX1 hown hK hP hD hS 0 rfl rfl 0 (by decide) (hts (.fieldLink RX1 36 "TideDepthsModel" "thrown" "I") (by decide +kernel)) (fun _ h9 => h9) rfl (by decide +kernel) rfl rfl (Nat.le_of_ble_eq_true rfl) dX1_cosine_16 (fun H locs hP hD hS => ?_)
      have hP : va_P D cls2 (x1W cI cJ k0 b1 b2 b3 b4 b5 b6 b7 b8 (1, (yNT y), (yNO y), (yNP y), (yT y), (yH y), (yO y), (yD y), (yW y), (yB y), (yC y), (yQ y))) H := hP
      have hD : va_D A (x1W cI cJ k0 b1 b2 b3 b4 b5 b6 b7 b8 (1, (yNT y), (yNO y), (yNP y), (yT y), (yH y), (yO y), (yD y), (yW y), (yB y), (yC y), (yQ y))) := hD
      have hW : YW D cI cJ k0 b1 b2 b3 b4 b5 b6 b7 b8 (1, (yNT y), (yNO y), (yNP y), (yT y), (yH y), (yO y), (yD y), (yW y), (yB y), (yC y), (yQ y)) s H := ⟨hP, hK⟩
      refine lv_aload_n hx hb dX1_cosine_19 rfl (lv_at hl 0 rfl) ?_
      refine va_get (D := D) (ci := 1) (v := .int 1) (C := RX1) (T := TX1) (N := 12) hx hb hts hin hown hK hP 0 rfl rfl 0 (by decide) (hts (.fieldLink RX1 36 "TideDepthsModel" "thrown" "I") (by decide +kernel)) (fun _ h9 => h9) rfl dX1_cosine_20 ?_
      refine lv_if_le (tgt := 30) hx hb dX1_cosine_23 (by decide) (fun c4 => ?_) (fun c4 => ?_)
      · exact absurd c4 (by decide)
      ·
        refine lv_iconst (v := 0) hx hb dX1_cosine_26 (by decide) ?_
        refine lv_goto (tgt := 36) hx hb dX1_cosine_27 (by decide) ?_
        exact W.iret (v := 0) hx hb hr (fun t ht hWm => ⟨⟨0, (1, (yNT y), (yNO y), (yNP y), (yT y), (yH y), (yO y), (yD y), (yW y), (yB y), (yC y), (yQ y)), rfl, hw, by rw [ht]; exact hP, va_K.moved hWm.alike hK, hD⟩, hS.F ht⟩) hS.2.2 dX1_cosine_36
    · have hw := hw.2 c3
      refine lv_iconst (v := 0) hx hb dX1_cosine_11 (by decide) ?_
      refine lv_goto (tgt := 16) hx hb dX1_cosine_12 (by decide) ?_
      refine va_put (D := D) (ci := 1) (v := .int 0) (ty := .int) (C := RX1) (T := TX1) (N := 12) hx hb hts hin tyX1 tyX1_ok nmX1 hown hK hP hD hS 0 rfl rfl 0 (by decide) (hts (.fieldLink RX1 36 "TideDepthsModel" "thrown" "I") (by decide +kernel)) (fun _ h9 => h9) rfl (by decide +kernel) rfl rfl (Nat.le_of_ble_eq_true rfl) dX1_cosine_16 (fun H locs hP hD hS => ?_)
      have hP : va_P D cls2 (x1W cI cJ k0 b1 b2 b3 b4 b5 b6 b7 b8 (0, (yNT y), (yNO y), (yNP y), (yT y), (yH y), (yO y), (yD y), (yW y), (yB y), (yC y), (yQ y))) H := hP
      have hD : va_D A (x1W cI cJ k0 b1 b2 b3 b4 b5 b6 b7 b8 (0, (yNT y), (yNO y), (yNP y), (yT y), (yH y), (yO y), (yD y), (yW y), (yB y), (yC y), (yQ y))) := hD
      have hW : YW D cI cJ k0 b1 b2 b3 b4 b5 b6 b7 b8 (0, (yNT y), (yNO y), (yNP y), (yT y), (yH y), (yO y), (yD y), (yW y), (yB y), (yC y), (yQ y)) s H := ⟨hP, hK⟩
      refine lv_aload_n hx hb dX1_cosine_19 rfl (lv_at hl 0 rfl) ?_
      refine va_get (D := D) (ci := 1) (v := .int 0) (C := RX1) (T := TX1) (N := 12) hx hb hts hin hown hK hP 0 rfl rfl 0 (by decide) (hts (.fieldLink RX1 36 "TideDepthsModel" "thrown" "I") (by decide +kernel)) (fun _ h9 => h9) rfl dX1_cosine_20 ?_
      refine lv_if_le (tgt := 30) hx hb dX1_cosine_23 (by decide) (fun c5 => ?_) (fun c5 => ?_)
      ·
        refine lv_aload_n hx hb dX1_cosine_30 rfl (lv_at hl 0 rfl) ?_
        refine va_get (D := D) (ci := 1) (v := .ref b7) (C := RX1) (T := TX1) (N := 12) hx hb hts hin hown hK hP 0 rfl rfl 10 (by decide) (hts (.fieldLink RX1 30 "TideDepthsModel" "cosines" "[I") (by decide +kernel)) (fun _ h9 => h9) rfl dX1_cosine_31 ?_
        refine lv_iload_n hx hb dX1_cosine_34 rfl (lv_at hl 1 rfl) ?_
        obtain ⟨h6, hw⟩ := hw
        refine va_iald hx hb hK hP 7 0 rfl rfl h6 dX1_cosine_35 ?_
        exact W.iret (v := ((yC y) (v1).toNatClampNeg)) hx hb hr (fun t ht hWm => ⟨⟨((yC y) (v1).toNatClampNeg), (0, (yNT y), (yNO y), (yNP y), (yT y), (yH y), (yO y), (yD y), (yW y), (yB y), (yC y), (yQ y)), rfl, hw, by rw [ht]; exact hP, va_K.moved hWm.alike hK, hD⟩, hS.F ht⟩) hS.2.2 dX1_cosine_36
      · exact absurd (by decide) c5

def wX1_draft (post : Int64 → YS → Prop) (y : YS) (v1 : Int64) (v3 : Int64) (v5 : Int64) : Prop := (wX1_in (fun r1 => ((r1 = 0 → (post 0 (1, (yNT y), (yNO y), (yNP y), (yT y), (yH y), (yO y), (yD y), (yW y), (yB y), (yC y), (yQ y)))) ∧ (¬ r1 = 0 → (wX1_in (fun r4 => ((r4 = 0 → (post 0 (1, (yNT y), (yNO y), (yNP y), (yT y), (yH y), (yO y), (yD y), (yW y), (yB y), (yC y), (yQ y)))) ∧ (¬ r4 = 0 → (wX1_in (fun r7 => ((r7 = 0 → (post 0 (1, (yNT y), (yNO y), (yNP y), (yT y), (yH y), (yO y), (yD y), (yW y), (yB y), (yC y), (yQ y)))) ∧ (¬ r7 = 0 → (wX1_up (fun r11 => (post r11 (0, (yNT y), (yNO y), (yNP y), (yT y), (yH y), (yO y), (yD y), (yW y), (yB y), (yC y), (yQ y)))) (v1 * v3) v5)))) v5 900 1100)))) v3 900 1100)))) v1 0 30000)

set_option maxHeartbeats 4000000 in
set_option maxRecDepth 100000 in
theorem mX1_draft (l : Launch) (D : va_G) (cI cJ : ClassId) (k0 b1 b2 b3 b4 b5 b6 b7 b8 sz : Nat) (y : YS) (v1 : Int64) (v3 : Int64) (v5 : Int64) (post : Int64 → YS → Prop) : Met l yX1_draft wsX1_draft ({ frames := 1, cells := 0, slots := 0, locals := 25 } : Room) (va_Pc [.ref k0, .long v1, .long v3, .long v5] (fun U => YE D cI cJ k0 b1 b2 b3 b4 b5 b6 b7 b8 sz y U ∧ wX1_draft post y v1 v3 v5)) (va_Ql post (fun u9 t9 => YT D cI cJ k0 b1 b2 b3 b4 b5 b6 b7 b8 (va_A (x1W cI cJ k0 b1 b2 b3 b4 b5 b6 b7 b8 y) sz) u9 t9) (va_A (x1W cI cJ k0 b1 b2 b3 b4 b5 b6 b7 b8 y) sz)) 0 0 (va_A (x1W cI cJ k0 b1 b2 b3 b4 b5 b6 b7 b8 y) sz) := by
  refine Met.ofW (cc := cX1_draft) (maxL := 7) (ret := (some .long)) (by decide +kernel) rfl ?_
  intro p e s m args below meth c s₁ B hml hv
  obtain ⟨rfl, ⟨hsz, hP, hK, hD0⟩, hw⟩ := hv
  have hx := B.exec
  have hb := B.bytes
  have hr := B.returns
  have hts := atoms_spec (ws := wsX1_draft) B.pre
  have hown : s.vm.findClass RX1 = some m.cls := findClass_of_methodNamed B.named
  have hlocks := B.notSynchronized
  have hin : ∀ w ∈ u_ws RX1 TX1 12, w ∈ wsX1_draft := by decide +kernel
  subst hsz
  have hD := hD0.self (sz := s.heap.size)
  generalize hAe : va_A (x1W cI cJ k0 b1 b2 b3 b4 b5 b6 b7 b8 y) s.heap.size = A at hD ⊢
  have hS : va_S A s.heap s.heap [] := va_S.rf
  have hW : YW D cI cJ k0 b1 b2 b3 b4 b5 b6 b7 b8 y s s.heap := ⟨hP, hK⟩
  have hl := lv_entry ([.ref k0, .long v1, .long v3, .long v5]) (n := 7) (Nat.le_of_ble_eq_true rfl)
  rw [lg_entry_eq]
  generalize (lg_sl ([.ref k0, .long v1, .long v3, .long v5]) ++ List.replicate (7 - (lg_sl ([.ref k0, .long v1, .long v3, .long v5])).length) Slot.unset).toArray = ls at hl ⊢
  have hl : lv_has ls 7 [(0, .ref k0), (1, .long v1), (3, .long v3), (5, .long v5)] := hl
  unfold wX1_draft at hw
  refine lv_aload_n hx hb dX1_draft_0 rfl (lv_at hl 0 rfl) ?_
  refine lv_lload_n hx hb dX1_draft_1 rfl (lv_at hl 1 rfl) ?_
  refine lv_lconst (v := 0) hx hb dX1_draft_2 (by decide) ?_
  refine lv_ldc2 (v := 30000) hx hb hown (hts (.constantLong RX1 91 (30000)) (by decide +kernel)) dX1_draft_3 ?_
  refine pc_Si (As := [.long v1, .long 0, .long 30000]) (rest := [.ref k0]) ⟨hx, hb, hml, hown, hts⟩ (mX1_in l v1 0 30000 _) (va_cwS 3 hts gX1_draft_X1_in rfl rfl rfl (by decide +kernel) ⟨Nat.le_of_ble_eq_true rfl, Nat.le_of_ble_eq_true rfl⟩) wK_bl (fun _ _ _ => hw) rfl hl.1 rfl (Nat.le_of_ble_eq_true rfl) dX1_draft_6 ⟨Nat.le_of_ble_eq_true rfl, Nat.le_of_ble_eq_true rfl⟩ (fun r1 hw => ?_)
  obtain ⟨z_r1, hw⟩ := hw
  refine lv_if_eq (tgt := 43) hx hb dX1_draft_9 (by decide) (fun c2 => ?_) (fun c2 => ?_)
  · have hw := hw.1 c2
    refine lv_iconst (v := 1) hx hb dX1_draft_43 (by decide) ?_
    refine va_put (D := D) (ci := 1) (v := .int 1) (ty := .int) (C := RX1) (T := TX1) (N := 12) hx hb hts hin tyX1 tyX1_ok nmX1 hown hK hP hD hS 0 rfl rfl 0 (by decide) (hts (.fieldLink RX1 36 "TideDepthsModel" "thrown" "I") (by decide +kernel)) (fun _ h9 => h9) rfl (by decide +kernel) rfl rfl (Nat.le_of_ble_eq_true rfl) dX1_draft_44 (fun H locs hP hD hS => ?_)
    have hP : va_P D cls2 (x1W cI cJ k0 b1 b2 b3 b4 b5 b6 b7 b8 (1, (yNT y), (yNO y), (yNP y), (yT y), (yH y), (yO y), (yD y), (yW y), (yB y), (yC y), (yQ y))) H := hP
    have hD : va_D A (x1W cI cJ k0 b1 b2 b3 b4 b5 b6 b7 b8 (1, (yNT y), (yNO y), (yNP y), (yT y), (yH y), (yO y), (yD y), (yW y), (yB y), (yC y), (yQ y))) := hD
    have hW : YW D cI cJ k0 b1 b2 b3 b4 b5 b6 b7 b8 (1, (yNT y), (yNO y), (yNP y), (yT y), (yH y), (yO y), (yD y), (yW y), (yB y), (yC y), (yQ y)) s H := ⟨hP, hK⟩
    refine lv_aload_n hx hb dX1_draft_47 rfl (lv_at hl 0 rfl) ?_
    refine va_get (D := D) (ci := 1) (v := .int 1) (C := RX1) (T := TX1) (N := 12) hx hb hts hin hown hK hP 0 rfl rfl 0 (by decide) (hts (.fieldLink RX1 36 "TideDepthsModel" "thrown" "I") (by decide +kernel)) (fun _ h9 => h9) rfl dX1_draft_48 ?_
    refine lv_if_le (tgt := 58) hx hb dX1_draft_51 (by decide) (fun c3 => ?_) (fun c3 => ?_)
    · exact absurd c3 (by decide)
    ·
      refine lv_lconst (v := 0) hx hb dX1_draft_54 (by decide) ?_
      refine lv_goto (tgt := 66) hx hb dX1_draft_55 (by decide) ?_
      exact W.lret (v := 0) hx hb hr (fun t ht hWm => ⟨⟨0, (1, (yNT y), (yNO y), (yNP y), (yT y), (yH y), (yO y), (yD y), (yW y), (yB y), (yC y), (yQ y)), rfl, hw, by rw [ht]; exact hP, va_K.moved hWm.alike hK, hD⟩, hS.F ht⟩) hS.2.2 dX1_draft_66
  · have hw := hw.2 c2
    refine lv_lload_n hx hb dX1_draft_12 rfl (lv_at hl 2 rfl) ?_
    refine lv_ldc2 (v := 900) hx hb hown (hts (.constantLong RX1 98 (900)) (by decide +kernel)) dX1_draft_13 ?_
    refine lv_ldc2 (v := 1100) hx hb hown (hts (.constantLong RX1 100 (1100)) (by decide +kernel)) dX1_draft_16 ?_
    refine pc_Si (As := [.long v3, .long 900, .long 1100]) (rest := [.ref k0]) ⟨hx, hb, hml, hown, hts⟩ (mX1_in l v3 900 1100 _) (va_cwS 3 hts gX1_draft_X1_in rfl rfl rfl (by decide +kernel) ⟨Nat.le_of_ble_eq_true rfl, Nat.le_of_ble_eq_true rfl⟩) wK_bl (fun _ _ _ => hw) rfl hl.1 rfl (Nat.le_of_ble_eq_true rfl) dX1_draft_19 ⟨Nat.le_of_ble_eq_true rfl, Nat.le_of_ble_eq_true rfl⟩ (fun r4 hw => ?_)
    obtain ⟨z_r4, hw⟩ := hw
    refine lv_if_eq (tgt := 43) hx hb dX1_draft_22 (by decide) (fun c5 => ?_) (fun c5 => ?_)
    · have hw := hw.1 c5
      refine lv_iconst (v := 1) hx hb dX1_draft_43 (by decide) ?_
      refine va_put (D := D) (ci := 1) (v := .int 1) (ty := .int) (C := RX1) (T := TX1) (N := 12) hx hb hts hin tyX1 tyX1_ok nmX1 hown hK hP hD hS 0 rfl rfl 0 (by decide) (hts (.fieldLink RX1 36 "TideDepthsModel" "thrown" "I") (by decide +kernel)) (fun _ h9 => h9) rfl (by decide +kernel) rfl rfl (Nat.le_of_ble_eq_true rfl) dX1_draft_44 (fun H locs hP hD hS => ?_)
      have hP : va_P D cls2 (x1W cI cJ k0 b1 b2 b3 b4 b5 b6 b7 b8 (1, (yNT y), (yNO y), (yNP y), (yT y), (yH y), (yO y), (yD y), (yW y), (yB y), (yC y), (yQ y))) H := hP
      have hD : va_D A (x1W cI cJ k0 b1 b2 b3 b4 b5 b6 b7 b8 (1, (yNT y), (yNO y), (yNP y), (yT y), (yH y), (yO y), (yD y), (yW y), (yB y), (yC y), (yQ y))) := hD
      have hW : YW D cI cJ k0 b1 b2 b3 b4 b5 b6 b7 b8 (1, (yNT y), (yNO y), (yNP y), (yT y), (yH y), (yO y), (yD y), (yW y), (yB y), (yC y), (yQ y)) s H := ⟨hP, hK⟩
      refine lv_aload_n hx hb dX1_draft_47 rfl (lv_at hl 0 rfl) ?_
      refine va_get (D := D) (ci := 1) (v := .int 1) (C := RX1) (T := TX1) (N := 12) hx hb hts hin hown hK hP 0 rfl rfl 0 (by decide) (hts (.fieldLink RX1 36 "TideDepthsModel" "thrown" "I") (by decide +kernel)) (fun _ h9 => h9) rfl dX1_draft_48 ?_
      refine lv_if_le (tgt := 58) hx hb dX1_draft_51 (by decide) (fun c6 => ?_) (fun c6 => ?_)
      · exact absurd c6 (by decide)
      ·
        refine lv_lconst (v := 0) hx hb dX1_draft_54 (by decide) ?_
        refine lv_goto (tgt := 66) hx hb dX1_draft_55 (by decide) ?_
        exact W.lret (v := 0) hx hb hr (fun t ht hWm => ⟨⟨0, (1, (yNT y), (yNO y), (yNP y), (yT y), (yH y), (yO y), (yD y), (yW y), (yB y), (yC y), (yQ y)), rfl, hw, by rw [ht]; exact hP, va_K.moved hWm.alike hK, hD⟩, hS.F ht⟩) hS.2.2 dX1_draft_66
    · have hw := hw.2 c5
      refine lv_lload hx hb dX1_draft_25 (lv_at hl 3 rfl) ?_
      refine lv_ldc2 (v := 900) hx hb hown (hts (.constantLong RX1 98 (900)) (by decide +kernel)) dX1_draft_27 ?_
      refine lv_ldc2 (v := 1100) hx hb hown (hts (.constantLong RX1 100 (1100)) (by decide +kernel)) dX1_draft_30 ?_
      refine pc_Si (As := [.long v5, .long 900, .long 1100]) (rest := [.ref k0]) ⟨hx, hb, hml, hown, hts⟩ (mX1_in l v5 900 1100 _) (va_cwS 3 hts gX1_draft_X1_in rfl rfl rfl (by decide +kernel) ⟨Nat.le_of_ble_eq_true rfl, Nat.le_of_ble_eq_true rfl⟩) wK_bl (fun _ _ _ => hw) rfl hl.1 rfl (Nat.le_of_ble_eq_true rfl) dX1_draft_33 ⟨Nat.le_of_ble_eq_true rfl, Nat.le_of_ble_eq_true rfl⟩ (fun r7 hw => ?_)
      obtain ⟨z_r7, hw⟩ := hw
      refine lv_if_eq (tgt := 43) hx hb dX1_draft_36 (by decide) (fun c8 => ?_) (fun c8 => ?_)
      · have hw := hw.1 c8
        refine lv_iconst (v := 1) hx hb dX1_draft_43 (by decide) ?_
        refine va_put (D := D) (ci := 1) (v := .int 1) (ty := .int) (C := RX1) (T := TX1) (N := 12) hx hb hts hin tyX1 tyX1_ok nmX1 hown hK hP hD hS 0 rfl rfl 0 (by decide) (hts (.fieldLink RX1 36 "TideDepthsModel" "thrown" "I") (by decide +kernel)) (fun _ h9 => h9) rfl (by decide +kernel) rfl rfl (Nat.le_of_ble_eq_true rfl) dX1_draft_44 (fun H locs hP hD hS => ?_)
        have hP : va_P D cls2 (x1W cI cJ k0 b1 b2 b3 b4 b5 b6 b7 b8 (1, (yNT y), (yNO y), (yNP y), (yT y), (yH y), (yO y), (yD y), (yW y), (yB y), (yC y), (yQ y))) H := hP
        have hD : va_D A (x1W cI cJ k0 b1 b2 b3 b4 b5 b6 b7 b8 (1, (yNT y), (yNO y), (yNP y), (yT y), (yH y), (yO y), (yD y), (yW y), (yB y), (yC y), (yQ y))) := hD
        have hW : YW D cI cJ k0 b1 b2 b3 b4 b5 b6 b7 b8 (1, (yNT y), (yNO y), (yNP y), (yT y), (yH y), (yO y), (yD y), (yW y), (yB y), (yC y), (yQ y)) s H := ⟨hP, hK⟩
        refine lv_aload_n hx hb dX1_draft_47 rfl (lv_at hl 0 rfl) ?_
        refine va_get (D := D) (ci := 1) (v := .int 1) (C := RX1) (T := TX1) (N := 12) hx hb hts hin hown hK hP 0 rfl rfl 0 (by decide) (hts (.fieldLink RX1 36 "TideDepthsModel" "thrown" "I") (by decide +kernel)) (fun _ h9 => h9) rfl dX1_draft_48 ?_
        refine lv_if_le (tgt := 58) hx hb dX1_draft_51 (by decide) (fun c9 => ?_) (fun c9 => ?_)
        · exact absurd c9 (by decide)
        ·
          refine lv_lconst (v := 0) hx hb dX1_draft_54 (by decide) ?_
          refine lv_goto (tgt := 66) hx hb dX1_draft_55 (by decide) ?_
          exact W.lret (v := 0) hx hb hr (fun t ht hWm => ⟨⟨0, (1, (yNT y), (yNO y), (yNP y), (yT y), (yH y), (yO y), (yD y), (yW y), (yB y), (yC y), (yQ y)), rfl, hw, by rw [ht]; exact hP, va_K.moved hWm.alike hK, hD⟩, hS.F ht⟩) hS.2.2 dX1_draft_66
      · have hw := hw.2 c8
        refine lv_iconst (v := 0) hx hb dX1_draft_39 (by decide) ?_
        refine lv_goto (tgt := 44) hx hb dX1_draft_40 (by decide) ?_
        refine va_put (D := D) (ci := 1) (v := .int 0) (ty := .int) (C := RX1) (T := TX1) (N := 12) hx hb hts hin tyX1 tyX1_ok nmX1 hown hK hP hD hS 0 rfl rfl 0 (by decide) (hts (.fieldLink RX1 36 "TideDepthsModel" "thrown" "I") (by decide +kernel)) (fun _ h9 => h9) rfl (by decide +kernel) rfl rfl (Nat.le_of_ble_eq_true rfl) dX1_draft_44 (fun H locs hP hD hS => ?_)
        have hP : va_P D cls2 (x1W cI cJ k0 b1 b2 b3 b4 b5 b6 b7 b8 (0, (yNT y), (yNO y), (yNP y), (yT y), (yH y), (yO y), (yD y), (yW y), (yB y), (yC y), (yQ y))) H := hP
        have hD : va_D A (x1W cI cJ k0 b1 b2 b3 b4 b5 b6 b7 b8 (0, (yNT y), (yNO y), (yNP y), (yT y), (yH y), (yO y), (yD y), (yW y), (yB y), (yC y), (yQ y))) := hD
        have hW : YW D cI cJ k0 b1 b2 b3 b4 b5 b6 b7 b8 (0, (yNT y), (yNO y), (yNP y), (yT y), (yH y), (yO y), (yD y), (yW y), (yB y), (yC y), (yQ y)) s H := ⟨hP, hK⟩
        refine lv_aload_n hx hb dX1_draft_47 rfl (lv_at hl 0 rfl) ?_
        refine va_get (D := D) (ci := 1) (v := .int 0) (C := RX1) (T := TX1) (N := 12) hx hb hts hin hown hK hP 0 rfl rfl 0 (by decide) (hts (.fieldLink RX1 36 "TideDepthsModel" "thrown" "I") (by decide +kernel)) (fun _ h9 => h9) rfl dX1_draft_48 ?_
        refine lv_if_le (tgt := 58) hx hb dX1_draft_51 (by decide) (fun c10 => ?_) (fun c10 => ?_)
        ·
          refine lv_lload_n hx hb dX1_draft_58 rfl (lv_at hl 1 rfl) ?_
          refine lv_lload_n hx hb dX1_draft_59 rfl (lv_at hl 2 rfl) ?_
          refine lv_lmul hx hb dX1_draft_60 ?_
          refine lv_lload hx hb dX1_draft_61 (lv_at hl 3 rfl) ?_
          refine pc_Sl (As := [.long (v1 * v3), .long v5]) (rest := []) ⟨hx, hb, hml, hown, hts⟩ (mX1_up l (v1 * v3) v5 _) (va_cwS 2 hts gX1_draft_X1_up rfl rfl rfl (by decide +kernel) ⟨Nat.le_of_ble_eq_true rfl, Nat.le_of_ble_eq_true rfl⟩) wK_bl (fun _ _ _ => hw) rfl hl.1 rfl (Nat.le_of_ble_eq_true rfl) dX1_draft_63 ⟨Nat.le_of_ble_eq_true rfl, Nat.le_of_ble_eq_true rfl⟩ (fun r11 hw => ?_)
          exact W.lret (v := r11) hx hb hr (fun t ht hWm => ⟨⟨r11, (0, (yNT y), (yNO y), (yNP y), (yT y), (yH y), (yO y), (yD y), (yW y), (yB y), (yC y), (yQ y)), rfl, hw, by rw [ht]; exact hP, va_K.moved hWm.alike hK, hD⟩, hS.F ht⟩) hS.2.2 dX1_draft_66
        · exact absurd (by decide) c10

def wX1_place (post : Int32 → YS → Prop) (y : YS) (v1 : Int64) (v3 : Int64) : Prop := (wX1_in (fun r1 => ((r1 = 0 → (post 0 (1, (yNT y), (yNO y), (yNP y), (yT y), (yH y), (yO y), (yD y), (yW y), (yB y), (yC y), (yQ y)))) ∧ (¬ r1 = 0 → (((yNP y) = 0 → (wX1_isHeight (fun r6 => ((r6 = 0 → (post 0 (1, (yNT y), (yNO y), (yNP y), (yT y), (yH y), (yO y), (yD y), (yW y), (yB y), (yC y), (yQ y)))) ∧ (¬ r6 = 0 → (((yNP y) = 12 → (post 0 (2, (yNT y), (yNO y), (yNP y), (yT y), (yH y), (yO y), (yD y), (yW y), (yB y), (yC y), (yQ y)))) ∧ (¬ (yNP y) = 12 → (vp_in (yNP y) 12 ∧ (vp_in (yNP y) 12 ∧ (post (((yNP y) + 1) - 1) (0, (yNT y), (yNO y), ((yNP y) + 1), (yT y), (yH y), (yO y), (yD y), (vp_updL (yW y) ((yNP y)).toNatClampNeg v1), (vp_updL (yB y) ((yNP y)).toNatClampNeg v3), (yC y), (yQ y)))))))))) v3)) ∧ (¬ (yNP y) = 0 → (((yNP y) ≤ 0 → ((v1 ≤ ((yW y) 0) → (post 0 (1, (yNT y), (yNO y), (yNP y), (yT y), (yH y), (yO y), (yD y), (yW y), (yB y), (yC y), (yQ y)))) ∧ (¬ v1 ≤ ((yW y) 0) → (wX1_isHeight (fun r20 => ((r20 = 0 → (post 0 (1, (yNT y), (yNO y), (yNP y), (yT y), (yH y), (yO y), (yD y), (yW y), (yB y), (yC y), (yQ y)))) ∧ (¬ r20 = 0 → (((yNP y) = 12 → (post 0 (2, (yNT y), (yNO y), (yNP y), (yT y), (yH y), (yO y), (yD y), (yW y), (yB y), (yC y), (yQ y)))) ∧ (¬ (yNP y) = 12 → (vp_in (yNP y) 12 ∧ (vp_in (yNP y) 12 ∧ (post (((yNP y) + 1) - 1) (0, (yNT y), (yNO y), ((yNP y) + 1), (yT y), (yH y), (yO y), (yD y), (vp_updL (yW y) ((yNP y)).toNatClampNeg v1), (vp_updL (yB y) ((yNP y)).toNatClampNeg v3), (yC y), (yQ y)))))))))) v3)))) ∧ (¬ (yNP y) ≤ 0 → (vp_in ((yNP y) - 1) 12 ∧ ((v1 ≤ ((yW y) (((yNP y) - 1)).toNatClampNeg) → (post 0 (1, (yNT y), (yNO y), (yNP y), (yT y), (yH y), (yO y), (yD y), (yW y), (yB y), (yC y), (yQ y)))) ∧ (¬ v1 ≤ ((yW y) (((yNP y) - 1)).toNatClampNeg) → (wX1_isHeight (fun r34 => ((r34 = 0 → (post 0 (1, (yNT y), (yNO y), (yNP y), (yT y), (yH y), (yO y), (yD y), (yW y), (yB y), (yC y), (yQ y)))) ∧ (¬ r34 = 0 → (((yNP y) = 12 → (post 0 (2, (yNT y), (yNO y), (yNP y), (yT y), (yH y), (yO y), (yD y), (yW y), (yB y), (yC y), (yQ y)))) ∧ (¬ (yNP y) = 12 → (vp_in (yNP y) 12 ∧ (vp_in (yNP y) 12 ∧ (post (((yNP y) + 1) - 1) (0, (yNT y), (yNO y), ((yNP y) + 1), (yT y), (yH y), (yO y), (yD y), (vp_updL (yW y) ((yNP y)).toNatClampNeg v1), (vp_updL (yB y) ((yNP y)).toNatClampNeg v3), (yC y), (yQ y)))))))))) v3))))))))))) v1 0 1000000)

set_option maxHeartbeats 4000000 in
set_option maxRecDepth 100000 in
theorem mX1_place (l : Launch) (D : va_G) (cI cJ : ClassId) (k0 b1 b2 b3 b4 b5 b6 b7 b8 sz : Nat) (y : YS) (v1 : Int64) (v3 : Int64) (post : Int32 → YS → Prop) : Met l yX1_place wsX1_place ({ frames := 2, cells := 0, slots := 0, locals := 46 } : Room) (va_Pc [.ref k0, .long v1, .long v3] (fun U => YE D cI cJ k0 b1 b2 b3 b4 b5 b6 b7 b8 sz y U ∧ wX1_place post y v1 v3)) (va_Qi post (fun u9 t9 => YT D cI cJ k0 b1 b2 b3 b4 b5 b6 b7 b8 (va_A (x1W cI cJ k0 b1 b2 b3 b4 b5 b6 b7 b8 y) sz) u9 t9) (va_A (x1W cI cJ k0 b1 b2 b3 b4 b5 b6 b7 b8 y) sz)) 0 0 (va_A (x1W cI cJ k0 b1 b2 b3 b4 b5 b6 b7 b8 y) sz) := by
  refine Met.ofW (cc := cX1_place) (maxL := 6) (ret := (some .int)) (by decide +kernel) rfl ?_
  intro p e s m args below meth c s₁ B hml hv
  obtain ⟨rfl, ⟨hsz, hP, hK, hD0⟩, hw⟩ := hv
  have hx := B.exec
  have hb := B.bytes
  have hr := B.returns
  have hts := atoms_spec (ws := wsX1_place) B.pre
  have hown : s.vm.findClass RX1 = some m.cls := findClass_of_methodNamed B.named
  have hlocks := B.notSynchronized
  have hin : ∀ w ∈ u_ws RX1 TX1 12, w ∈ wsX1_place := by decide +kernel
  subst hsz
  have hD := hD0.self (sz := s.heap.size)
  generalize hAe : va_A (x1W cI cJ k0 b1 b2 b3 b4 b5 b6 b7 b8 y) s.heap.size = A at hD ⊢
  have hS : va_S A s.heap s.heap [] := va_S.rf
  have hW : YW D cI cJ k0 b1 b2 b3 b4 b5 b6 b7 b8 y s s.heap := ⟨hP, hK⟩
  have hl := lv_entry ([.ref k0, .long v1, .long v3]) (n := 6) (Nat.le_of_ble_eq_true rfl)
  rw [lg_entry_eq]
  generalize (lg_sl ([.ref k0, .long v1, .long v3]) ++ List.replicate (6 - (lg_sl ([.ref k0, .long v1, .long v3])).length) Slot.unset).toArray = ls at hl ⊢
  have hl : lv_has ls 6 [(0, .ref k0), (1, .long v1), (3, .long v3)] := hl
  unfold wX1_place at hw
  refine lv_lload_n hx hb dX1_place_0 rfl (lv_at hl 1 rfl) ?_
  refine lv_lconst (v := 0) hx hb dX1_place_1 (by decide) ?_
  refine lv_ldc2 (v := 1000000) hx hb hown (hts (.constantLong RX1 96 (1000000)) (by decide +kernel)) dX1_place_2 ?_
  refine pc_Si (As := [.long v1, .long 0, .long 1000000]) (rest := []) ⟨hx, hb, hml, hown, hts⟩ (mX1_in l v1 0 1000000 _) (va_cwS 3 hts gX1_place_X1_in rfl rfl rfl (by decide +kernel) ⟨Nat.le_of_ble_eq_true rfl, Nat.le_of_ble_eq_true rfl⟩) wK_bl (fun _ _ _ => hw) rfl hl.1 rfl (Nat.le_of_ble_eq_true rfl) dX1_place_5 ⟨Nat.le_of_ble_eq_true rfl, Nat.le_of_ble_eq_true rfl⟩ (fun r1 hw => ?_)
  obtain ⟨z_r1, hw⟩ := hw
  refine lv_if_eq (tgt := 56) hx hb dX1_place_8 (by decide) (fun c2 => ?_) (fun c2 => ?_)
  · have hw := hw.1 c2
    refine lv_iconst (v := 0) hx hb dX1_place_56 (by decide) ?_
    refine lv_istore (lv' := [(5, .int 0), (0, .ref k0), (1, .long v1), (3, .long v3)]) hx hb dX1_place_57 hl (by decide) rfl (fun ls hl => ?_)
    refine lv_aload_n hx hb dX1_place_59 rfl (lv_at hl 1 rfl) ?_
    refine lv_iload hx hb dX1_place_60 (lv_at hl 0 rfl) ?_
    refine lv_if_ne (tgt := 69) hx hb dX1_place_62 (by decide) (fun c3 => ?_) (fun c3 => ?_)
    · exact absurd (by decide) c3
    ·
      refine lv_iconst (v := 1) hx hb dX1_place_65 (by decide) ?_
      refine lv_goto (tgt := 83) hx hb dX1_place_66 (by decide) ?_
      refine va_put (D := D) (ci := 1) (v := .int 1) (ty := .int) (C := RX1) (T := TX1) (N := 12) hx hb hts hin tyX1 tyX1_ok nmX1 hown hK hP hD hS 0 rfl rfl 0 (by decide) (hts (.fieldLink RX1 36 "TideDepthsModel" "thrown" "I") (by decide +kernel)) (fun _ h9 => h9) rfl (by decide +kernel) rfl rfl (Nat.le_of_ble_eq_true rfl) dX1_place_83 (fun H locs hP hD hS => ?_)
      have hP : va_P D cls2 (x1W cI cJ k0 b1 b2 b3 b4 b5 b6 b7 b8 (1, (yNT y), (yNO y), (yNP y), (yT y), (yH y), (yO y), (yD y), (yW y), (yB y), (yC y), (yQ y))) H := hP
      have hD : va_D A (x1W cI cJ k0 b1 b2 b3 b4 b5 b6 b7 b8 (1, (yNT y), (yNO y), (yNP y), (yT y), (yH y), (yO y), (yD y), (yW y), (yB y), (yC y), (yQ y))) := hD
      have hW : YW D cI cJ k0 b1 b2 b3 b4 b5 b6 b7 b8 (1, (yNT y), (yNO y), (yNP y), (yT y), (yH y), (yO y), (yD y), (yW y), (yB y), (yC y), (yQ y)) s H := ⟨hP, hK⟩
      refine lv_aload_n hx hb dX1_place_86 rfl (lv_at hl 1 rfl) ?_
      refine va_get (D := D) (ci := 1) (v := .int 1) (C := RX1) (T := TX1) (N := 12) hx hb hts hin hown hK hP 0 rfl rfl 0 (by decide) (hts (.fieldLink RX1 36 "TideDepthsModel" "thrown" "I") (by decide +kernel)) (fun _ h9 => h9) rfl dX1_place_87 ?_
      refine lv_if_le (tgt := 95) hx hb dX1_place_90 (by decide) (fun c4 => ?_) (fun c4 => ?_)
      · exact absurd c4 (by decide)
      ·
        refine lv_iconst (v := 0) hx hb dX1_place_93 (by decide) ?_
        exact W.iret (v := 0) hx hb hr (fun t ht hWm => ⟨⟨0, (1, (yNT y), (yNO y), (yNP y), (yT y), (yH y), (yO y), (yD y), (yW y), (yB y), (yC y), (yQ y)), rfl, hw, by rw [ht]; exact hP, va_K.moved hWm.alike hK, hD⟩, hS.F ht⟩) hS.2.2 dX1_place_94
  · have hw := hw.2 c2
    refine lv_aload_n hx hb dX1_place_11 rfl (lv_at hl 0 rfl) ?_
    refine va_get (D := D) (ci := 1) (v := .int (yNP y)) (C := RX1) (T := TX1) (N := 12) hx hb hts hin hown hK hP 0 rfl rfl 3 (by decide) (hts (.fieldLink RX1 102 "TideDepthsModel" "places" "I") (by decide +kernel)) (fun _ h9 => h9) rfl dX1_place_12 ?_
    refine lv_if_eq (tgt := 45) hx hb dX1_place_15 (by decide) (fun c5 => ?_) (fun c5 => ?_)
    · have hw := hw.1 c5
      refine lv_lload_n hx hb dX1_place_45 rfl (lv_at hl 2 rfl) ?_
      refine pc_Si (As := [.long v3]) (rest := []) ⟨hx, hb, hml, hown, hts⟩ (mX1_isHeight l v3 _) (va_cwS 1 hts gX1_place_X1_isHeight rfl rfl rfl (by decide +kernel) ⟨Nat.le_of_ble_eq_true rfl, Nat.le_of_ble_eq_true rfl⟩) wK_bl (fun _ _ _ => hw) rfl hl.1 rfl (Nat.le_of_ble_eq_true rfl) dX1_place_46 ⟨Nat.le_of_ble_eq_true rfl, Nat.le_of_ble_eq_true rfl⟩ (fun r6 hw => ?_)
      obtain ⟨z_r6, hw⟩ := hw
      refine lv_if_eq (tgt := 56) hx hb dX1_place_49 (by decide) (fun c7 => ?_) (fun c7 => ?_)
      · have hw := hw.1 c7
        refine lv_iconst (v := 0) hx hb dX1_place_56 (by decide) ?_
        refine lv_istore (lv' := [(5, .int 0), (0, .ref k0), (1, .long v1), (3, .long v3)]) hx hb dX1_place_57 hl (by decide) rfl (fun ls hl => ?_)
        refine lv_aload_n hx hb dX1_place_59 rfl (lv_at hl 1 rfl) ?_
        refine lv_iload hx hb dX1_place_60 (lv_at hl 0 rfl) ?_
        refine lv_if_ne (tgt := 69) hx hb dX1_place_62 (by decide) (fun c8 => ?_) (fun c8 => ?_)
        · exact absurd (by decide) c8
        ·
          refine lv_iconst (v := 1) hx hb dX1_place_65 (by decide) ?_
          refine lv_goto (tgt := 83) hx hb dX1_place_66 (by decide) ?_
          refine va_put (D := D) (ci := 1) (v := .int 1) (ty := .int) (C := RX1) (T := TX1) (N := 12) hx hb hts hin tyX1 tyX1_ok nmX1 hown hK hP hD hS 0 rfl rfl 0 (by decide) (hts (.fieldLink RX1 36 "TideDepthsModel" "thrown" "I") (by decide +kernel)) (fun _ h9 => h9) rfl (by decide +kernel) rfl rfl (Nat.le_of_ble_eq_true rfl) dX1_place_83 (fun H locs hP hD hS => ?_)
          have hP : va_P D cls2 (x1W cI cJ k0 b1 b2 b3 b4 b5 b6 b7 b8 (1, (yNT y), (yNO y), (yNP y), (yT y), (yH y), (yO y), (yD y), (yW y), (yB y), (yC y), (yQ y))) H := hP
          have hD : va_D A (x1W cI cJ k0 b1 b2 b3 b4 b5 b6 b7 b8 (1, (yNT y), (yNO y), (yNP y), (yT y), (yH y), (yO y), (yD y), (yW y), (yB y), (yC y), (yQ y))) := hD
          have hW : YW D cI cJ k0 b1 b2 b3 b4 b5 b6 b7 b8 (1, (yNT y), (yNO y), (yNP y), (yT y), (yH y), (yO y), (yD y), (yW y), (yB y), (yC y), (yQ y)) s H := ⟨hP, hK⟩
          refine lv_aload_n hx hb dX1_place_86 rfl (lv_at hl 1 rfl) ?_
          refine va_get (D := D) (ci := 1) (v := .int 1) (C := RX1) (T := TX1) (N := 12) hx hb hts hin hown hK hP 0 rfl rfl 0 (by decide) (hts (.fieldLink RX1 36 "TideDepthsModel" "thrown" "I") (by decide +kernel)) (fun _ h9 => h9) rfl dX1_place_87 ?_
          refine lv_if_le (tgt := 95) hx hb dX1_place_90 (by decide) (fun c9 => ?_) (fun c9 => ?_)
          · exact absurd c9 (by decide)
          ·
            refine lv_iconst (v := 0) hx hb dX1_place_93 (by decide) ?_
            exact W.iret (v := 0) hx hb hr (fun t ht hWm => ⟨⟨0, (1, (yNT y), (yNO y), (yNP y), (yT y), (yH y), (yO y), (yD y), (yW y), (yB y), (yC y), (yQ y)), rfl, hw, by rw [ht]; exact hP, va_K.moved hWm.alike hK, hD⟩, hS.F ht⟩) hS.2.2 dX1_place_94
      · have hw := hw.2 c7
        refine lv_iconst (v := 1) hx hb dX1_place_52 (by decide) ?_
        refine lv_goto (tgt := 57) hx hb dX1_place_53 (by decide) ?_
        refine lv_istore (lv' := [(5, .int 1), (0, .ref k0), (1, .long v1), (3, .long v3)]) hx hb dX1_place_57 hl (by decide) rfl (fun ls hl => ?_)
        refine lv_aload_n hx hb dX1_place_59 rfl (lv_at hl 1 rfl) ?_
        refine lv_iload hx hb dX1_place_60 (lv_at hl 0 rfl) ?_
        refine lv_if_ne (tgt := 69) hx hb dX1_place_62 (by decide) (fun c10 => ?_) (fun c10 => ?_)
        ·
          refine lv_aload_n hx hb dX1_place_69 rfl (lv_at hl 1 rfl) ?_
          refine va_get (D := D) (ci := 1) (v := .int (yNP y)) (C := RX1) (T := TX1) (N := 12) hx hb hts hin hown hK hP 0 rfl rfl 3 (by decide) (hts (.fieldLink RX1 102 "TideDepthsModel" "places" "I") (by decide +kernel)) (fun _ h9 => h9) rfl dX1_place_70 ?_
          refine lv_bipush (v := 12) hx hb dX1_place_73 (by decide) ?_
          refine lv_icmp_ne (tgt := 82) hx hb dX1_place_75 (by decide) (fun c11 => ?_) (fun c11 => ?_)
          · have hw := hw.2 c11
            refine lv_iconst (v := 0) hx hb dX1_place_82 (by decide) ?_
            refine va_put (D := D) (ci := 1) (v := .int 0) (ty := .int) (C := RX1) (T := TX1) (N := 12) hx hb hts hin tyX1 tyX1_ok nmX1 hown hK hP hD hS 0 rfl rfl 0 (by decide) (hts (.fieldLink RX1 36 "TideDepthsModel" "thrown" "I") (by decide +kernel)) (fun _ h9 => h9) rfl (by decide +kernel) rfl rfl (Nat.le_of_ble_eq_true rfl) dX1_place_83 (fun H locs hP hD hS => ?_)
            have hP : va_P D cls2 (x1W cI cJ k0 b1 b2 b3 b4 b5 b6 b7 b8 (0, (yNT y), (yNO y), (yNP y), (yT y), (yH y), (yO y), (yD y), (yW y), (yB y), (yC y), (yQ y))) H := hP
            have hD : va_D A (x1W cI cJ k0 b1 b2 b3 b4 b5 b6 b7 b8 (0, (yNT y), (yNO y), (yNP y), (yT y), (yH y), (yO y), (yD y), (yW y), (yB y), (yC y), (yQ y))) := hD
            have hW : YW D cI cJ k0 b1 b2 b3 b4 b5 b6 b7 b8 (0, (yNT y), (yNO y), (yNP y), (yT y), (yH y), (yO y), (yD y), (yW y), (yB y), (yC y), (yQ y)) s H := ⟨hP, hK⟩
            refine lv_aload_n hx hb dX1_place_86 rfl (lv_at hl 1 rfl) ?_
            refine va_get (D := D) (ci := 1) (v := .int 0) (C := RX1) (T := TX1) (N := 12) hx hb hts hin hown hK hP 0 rfl rfl 0 (by decide) (hts (.fieldLink RX1 36 "TideDepthsModel" "thrown" "I") (by decide +kernel)) (fun _ h9 => h9) rfl dX1_place_87 ?_
            refine lv_if_le (tgt := 95) hx hb dX1_place_90 (by decide) (fun c12 => ?_) (fun c12 => ?_)
            ·
              refine lv_aload_n hx hb dX1_place_95 rfl (lv_at hl 1 rfl) ?_
              refine va_get (D := D) (ci := 1) (v := .ref b5) (C := RX1) (T := TX1) (N := 12) hx hb hts hin hown hK hP 0 rfl rfl 8 (by decide) (hts (.fieldLink RX1 23 "TideDepthsModel" "wayTo" "[J") (by decide +kernel)) (fun _ h9 => h9) rfl dX1_place_96 ?_
              refine lv_aload_n hx hb dX1_place_99 rfl (lv_at hl 1 rfl) ?_
              refine va_get (D := D) (ci := 1) (v := .int (yNP y)) (C := RX1) (T := TX1) (N := 12) hx hb hts hin hown hK hP 0 rfl rfl 3 (by decide) (hts (.fieldLink RX1 102 "TideDepthsModel" "places" "I") (by decide +kernel)) (fun _ h9 => h9) rfl dX1_place_100 ?_
              refine lv_lload_n hx hb dX1_place_103 rfl (lv_at hl 2 rfl) ?_
              obtain ⟨h13, hw⟩ := hw
              refine va_last hx hb hK hP hD hS 5 1 rfl rfl h13 dX1_place_104 (fun H locs hP hD hS => ?_)
              have hP : va_P D cls2 (x1W cI cJ k0 b1 b2 b3 b4 b5 b6 b7 b8 (0, (yNT y), (yNO y), (yNP y), (yT y), (yH y), (yO y), (yD y), (vp_updL (yW y) ((yNP y)).toNatClampNeg v1), (yB y), (yC y), (yQ y))) H := hP
              have hD : va_D A (x1W cI cJ k0 b1 b2 b3 b4 b5 b6 b7 b8 (0, (yNT y), (yNO y), (yNP y), (yT y), (yH y), (yO y), (yD y), (vp_updL (yW y) ((yNP y)).toNatClampNeg v1), (yB y), (yC y), (yQ y))) := hD
              have hW : YW D cI cJ k0 b1 b2 b3 b4 b5 b6 b7 b8 (0, (yNT y), (yNO y), (yNP y), (yT y), (yH y), (yO y), (yD y), (vp_updL (yW y) ((yNP y)).toNatClampNeg v1), (yB y), (yC y), (yQ y)) s H := ⟨hP, hK⟩
              refine lv_aload_n hx hb dX1_place_105 rfl (lv_at hl 1 rfl) ?_
              refine va_get (D := D) (ci := 1) (v := .ref b6) (C := RX1) (T := TX1) (N := 12) hx hb hts hin hown hK hP 0 rfl rfl 9 (by decide) (hts (.fieldLink RX1 26 "TideDepthsModel" "baseOf" "[J") (by decide +kernel)) (fun _ h9 => h9) rfl dX1_place_106 ?_
              refine lv_aload_n hx hb dX1_place_109 rfl (lv_at hl 1 rfl) ?_
              refine va_get (D := D) (ci := 1) (v := .int (yNP y)) (C := RX1) (T := TX1) (N := 12) hx hb hts hin hown hK hP 0 rfl rfl 3 (by decide) (hts (.fieldLink RX1 102 "TideDepthsModel" "places" "I") (by decide +kernel)) (fun _ h9 => h9) rfl dX1_place_110 ?_
              refine lv_lload_n hx hb dX1_place_113 rfl (lv_at hl 3 rfl) ?_
              obtain ⟨h14, hw⟩ := hw
              refine va_last hx hb hK hP hD hS 6 1 rfl rfl h14 dX1_place_114 (fun H locs hP hD hS => ?_)
              have hP : va_P D cls2 (x1W cI cJ k0 b1 b2 b3 b4 b5 b6 b7 b8 (0, (yNT y), (yNO y), (yNP y), (yT y), (yH y), (yO y), (yD y), (vp_updL (yW y) ((yNP y)).toNatClampNeg v1), (vp_updL (yB y) ((yNP y)).toNatClampNeg v3), (yC y), (yQ y))) H := hP
              have hD : va_D A (x1W cI cJ k0 b1 b2 b3 b4 b5 b6 b7 b8 (0, (yNT y), (yNO y), (yNP y), (yT y), (yH y), (yO y), (yD y), (vp_updL (yW y) ((yNP y)).toNatClampNeg v1), (vp_updL (yB y) ((yNP y)).toNatClampNeg v3), (yC y), (yQ y))) := hD
              have hW : YW D cI cJ k0 b1 b2 b3 b4 b5 b6 b7 b8 (0, (yNT y), (yNO y), (yNP y), (yT y), (yH y), (yO y), (yD y), (vp_updL (yW y) ((yNP y)).toNatClampNeg v1), (vp_updL (yB y) ((yNP y)).toNatClampNeg v3), (yC y), (yQ y)) s H := ⟨hP, hK⟩
              refine lv_aload_n hx hb dX1_place_115 rfl (lv_at hl 1 rfl) ?_
              refine lv_dup hx hb dX1_place_116 rfl ?_
              refine va_get (D := D) (ci := 1) (v := .int (yNP y)) (C := RX1) (T := TX1) (N := 12) hx hb hts hin hown hK hP 0 rfl rfl 3 (by decide) (hts (.fieldLink RX1 102 "TideDepthsModel" "places" "I") (by decide +kernel)) (fun _ h9 => h9) rfl dX1_place_117 ?_
              refine lv_iconst (v := 1) hx hb dX1_place_120 (by decide) ?_
              refine lv_iadd hx hb dX1_place_121 ?_
              refine va_put (D := D) (ci := 1) (v := .int ((yNP y) + 1)) (ty := .int) (C := RX1) (T := TX1) (N := 12) hx hb hts hin tyX1 tyX1_ok nmX1 hown hK hP hD hS 0 rfl rfl 3 (by decide) (hts (.fieldLink RX1 102 "TideDepthsModel" "places" "I") (by decide +kernel)) (fun _ h9 => h9) rfl (by decide +kernel) rfl rfl (Nat.le_of_ble_eq_true rfl) dX1_place_122 (fun H locs hP hD hS => ?_)
              have hP : va_P D cls2 (x1W cI cJ k0 b1 b2 b3 b4 b5 b6 b7 b8 (0, (yNT y), (yNO y), ((yNP y) + 1), (yT y), (yH y), (yO y), (yD y), (vp_updL (yW y) ((yNP y)).toNatClampNeg v1), (vp_updL (yB y) ((yNP y)).toNatClampNeg v3), (yC y), (yQ y))) H := hP
              have hD : va_D A (x1W cI cJ k0 b1 b2 b3 b4 b5 b6 b7 b8 (0, (yNT y), (yNO y), ((yNP y) + 1), (yT y), (yH y), (yO y), (yD y), (vp_updL (yW y) ((yNP y)).toNatClampNeg v1), (vp_updL (yB y) ((yNP y)).toNatClampNeg v3), (yC y), (yQ y))) := hD
              have hW : YW D cI cJ k0 b1 b2 b3 b4 b5 b6 b7 b8 (0, (yNT y), (yNO y), ((yNP y) + 1), (yT y), (yH y), (yO y), (yD y), (vp_updL (yW y) ((yNP y)).toNatClampNeg v1), (vp_updL (yB y) ((yNP y)).toNatClampNeg v3), (yC y), (yQ y)) s H := ⟨hP, hK⟩
              refine lv_aload_n hx hb dX1_place_125 rfl (lv_at hl 1 rfl) ?_
              refine va_get (D := D) (ci := 1) (v := .int ((yNP y) + 1)) (C := RX1) (T := TX1) (N := 12) hx hb hts hin hown hK hP 0 rfl rfl 3 (by decide) (hts (.fieldLink RX1 102 "TideDepthsModel" "places" "I") (by decide +kernel)) (fun _ h9 => h9) rfl dX1_place_126 ?_
              refine lv_iconst (v := 1) hx hb dX1_place_129 (by decide) ?_
              refine lv_isub hx hb dX1_place_130 ?_
              exact W.iret (v := (((yNP y) + 1) - 1)) hx hb hr (fun t ht hWm => ⟨⟨(((yNP y) + 1) - 1), (0, (yNT y), (yNO y), ((yNP y) + 1), (yT y), (yH y), (yO y), (yD y), (vp_updL (yW y) ((yNP y)).toNatClampNeg v1), (vp_updL (yB y) ((yNP y)).toNatClampNeg v3), (yC y), (yQ y)), rfl, hw, by rw [ht]; exact hP, va_K.moved hWm.alike hK, hD⟩, hS.F ht⟩) hS.2.2 dX1_place_131
            · exact absurd (by decide) c12
          · have hw := hw.1 c11
            refine lv_iconst (v := 2) hx hb dX1_place_78 (by decide) ?_
            refine lv_goto (tgt := 83) hx hb dX1_place_79 (by decide) ?_
            refine va_put (D := D) (ci := 1) (v := .int 2) (ty := .int) (C := RX1) (T := TX1) (N := 12) hx hb hts hin tyX1 tyX1_ok nmX1 hown hK hP hD hS 0 rfl rfl 0 (by decide) (hts (.fieldLink RX1 36 "TideDepthsModel" "thrown" "I") (by decide +kernel)) (fun _ h9 => h9) rfl (by decide +kernel) rfl rfl (Nat.le_of_ble_eq_true rfl) dX1_place_83 (fun H locs hP hD hS => ?_)
            have hP : va_P D cls2 (x1W cI cJ k0 b1 b2 b3 b4 b5 b6 b7 b8 (2, (yNT y), (yNO y), (yNP y), (yT y), (yH y), (yO y), (yD y), (yW y), (yB y), (yC y), (yQ y))) H := hP
            have hD : va_D A (x1W cI cJ k0 b1 b2 b3 b4 b5 b6 b7 b8 (2, (yNT y), (yNO y), (yNP y), (yT y), (yH y), (yO y), (yD y), (yW y), (yB y), (yC y), (yQ y))) := hD
            have hW : YW D cI cJ k0 b1 b2 b3 b4 b5 b6 b7 b8 (2, (yNT y), (yNO y), (yNP y), (yT y), (yH y), (yO y), (yD y), (yW y), (yB y), (yC y), (yQ y)) s H := ⟨hP, hK⟩
            refine lv_aload_n hx hb dX1_place_86 rfl (lv_at hl 1 rfl) ?_
            refine va_get (D := D) (ci := 1) (v := .int 2) (C := RX1) (T := TX1) (N := 12) hx hb hts hin hown hK hP 0 rfl rfl 0 (by decide) (hts (.fieldLink RX1 36 "TideDepthsModel" "thrown" "I") (by decide +kernel)) (fun _ h9 => h9) rfl dX1_place_87 ?_
            refine lv_if_le (tgt := 95) hx hb dX1_place_90 (by decide) (fun c15 => ?_) (fun c15 => ?_)
            · exact absurd c15 (by decide)
            ·
              refine lv_iconst (v := 0) hx hb dX1_place_93 (by decide) ?_
              exact W.iret (v := 0) hx hb hr (fun t ht hWm => ⟨⟨0, (2, (yNT y), (yNO y), (yNP y), (yT y), (yH y), (yO y), (yD y), (yW y), (yB y), (yC y), (yQ y)), rfl, hw, by rw [ht]; exact hP, va_K.moved hWm.alike hK, hD⟩, hS.F ht⟩) hS.2.2 dX1_place_94
        · exact absurd c10 (by decide)
    · have hw := hw.2 c5
      refine lv_lload_n hx hb dX1_place_18 rfl (lv_at hl 1 rfl) ?_
      refine lv_aload_n hx hb dX1_place_19 rfl (lv_at hl 0 rfl) ?_
      refine va_get (D := D) (ci := 1) (v := .ref b5) (C := RX1) (T := TX1) (N := 12) hx hb hts hin hown hK hP 0 rfl rfl 8 (by decide) (hts (.fieldLink RX1 23 "TideDepthsModel" "wayTo" "[J") (by decide +kernel)) (fun _ h9 => h9) rfl dX1_place_20 ?_
      refine lv_aload_n hx hb dX1_place_23 rfl (lv_at hl 0 rfl) ?_
      refine va_get (D := D) (ci := 1) (v := .int (yNP y)) (C := RX1) (T := TX1) (N := 12) hx hb hts hin hown hK hP 0 rfl rfl 3 (by decide) (hts (.fieldLink RX1 102 "TideDepthsModel" "places" "I") (by decide +kernel)) (fun _ h9 => h9) rfl dX1_place_24 ?_
      refine lv_if_le (tgt := 39) hx hb dX1_place_27 (by decide) (fun c16 => ?_) (fun c16 => ?_)
      · have hw := hw.1 c16
        refine lv_iconst (v := 0) hx hb dX1_place_39 (by decide) ?_
        refine va_lald hx hb hK hP 5 1 rfl rfl (by unfold vp_in; decide) dX1_place_40 ?_
        rw [show Int32.toNatClampNeg 0 = 0 from by decide]
        refine bl_le (tgt := 56) hx hb dX1_place_41 dX1_place_42 (by decide) (fun c17 => ?_) (fun c17 => ?_)
        · have hw := hw.1 c17
          refine lv_iconst (v := 0) hx hb dX1_place_56 (by decide) ?_
          refine lv_istore (lv' := [(5, .int 0), (0, .ref k0), (1, .long v1), (3, .long v3)]) hx hb dX1_place_57 hl (by decide) rfl (fun ls hl => ?_)
          refine lv_aload_n hx hb dX1_place_59 rfl (lv_at hl 1 rfl) ?_
          refine lv_iload hx hb dX1_place_60 (lv_at hl 0 rfl) ?_
          refine lv_if_ne (tgt := 69) hx hb dX1_place_62 (by decide) (fun c18 => ?_) (fun c18 => ?_)
          · exact absurd (by decide) c18
          ·
            refine lv_iconst (v := 1) hx hb dX1_place_65 (by decide) ?_
            refine lv_goto (tgt := 83) hx hb dX1_place_66 (by decide) ?_
            refine va_put (D := D) (ci := 1) (v := .int 1) (ty := .int) (C := RX1) (T := TX1) (N := 12) hx hb hts hin tyX1 tyX1_ok nmX1 hown hK hP hD hS 0 rfl rfl 0 (by decide) (hts (.fieldLink RX1 36 "TideDepthsModel" "thrown" "I") (by decide +kernel)) (fun _ h9 => h9) rfl (by decide +kernel) rfl rfl (Nat.le_of_ble_eq_true rfl) dX1_place_83 (fun H locs hP hD hS => ?_)
            have hP : va_P D cls2 (x1W cI cJ k0 b1 b2 b3 b4 b5 b6 b7 b8 (1, (yNT y), (yNO y), (yNP y), (yT y), (yH y), (yO y), (yD y), (yW y), (yB y), (yC y), (yQ y))) H := hP
            have hD : va_D A (x1W cI cJ k0 b1 b2 b3 b4 b5 b6 b7 b8 (1, (yNT y), (yNO y), (yNP y), (yT y), (yH y), (yO y), (yD y), (yW y), (yB y), (yC y), (yQ y))) := hD
            have hW : YW D cI cJ k0 b1 b2 b3 b4 b5 b6 b7 b8 (1, (yNT y), (yNO y), (yNP y), (yT y), (yH y), (yO y), (yD y), (yW y), (yB y), (yC y), (yQ y)) s H := ⟨hP, hK⟩
            refine lv_aload_n hx hb dX1_place_86 rfl (lv_at hl 1 rfl) ?_
            refine va_get (D := D) (ci := 1) (v := .int 1) (C := RX1) (T := TX1) (N := 12) hx hb hts hin hown hK hP 0 rfl rfl 0 (by decide) (hts (.fieldLink RX1 36 "TideDepthsModel" "thrown" "I") (by decide +kernel)) (fun _ h9 => h9) rfl dX1_place_87 ?_
            refine lv_if_le (tgt := 95) hx hb dX1_place_90 (by decide) (fun c19 => ?_) (fun c19 => ?_)
            · exact absurd c19 (by decide)
            ·
              refine lv_iconst (v := 0) hx hb dX1_place_93 (by decide) ?_
              exact W.iret (v := 0) hx hb hr (fun t ht hWm => ⟨⟨0, (1, (yNT y), (yNO y), (yNP y), (yT y), (yH y), (yO y), (yD y), (yW y), (yB y), (yC y), (yQ y)), rfl, hw, by rw [ht]; exact hP, va_K.moved hWm.alike hK, hD⟩, hS.F ht⟩) hS.2.2 dX1_place_94
        · have hw := hw.2 c17
          refine lv_lload_n hx hb dX1_place_45 rfl (lv_at hl 2 rfl) ?_
          refine pc_Si (As := [.long v3]) (rest := []) ⟨hx, hb, hml, hown, hts⟩ (mX1_isHeight l v3 _) (va_cwS 1 hts gX1_place_X1_isHeight rfl rfl rfl (by decide +kernel) ⟨Nat.le_of_ble_eq_true rfl, Nat.le_of_ble_eq_true rfl⟩) wK_bl (fun _ _ _ => hw) rfl hl.1 rfl (Nat.le_of_ble_eq_true rfl) dX1_place_46 ⟨Nat.le_of_ble_eq_true rfl, Nat.le_of_ble_eq_true rfl⟩ (fun r20 hw => ?_)
          obtain ⟨z_r20, hw⟩ := hw
          refine lv_if_eq (tgt := 56) hx hb dX1_place_49 (by decide) (fun c21 => ?_) (fun c21 => ?_)
          · have hw := hw.1 c21
            refine lv_iconst (v := 0) hx hb dX1_place_56 (by decide) ?_
            refine lv_istore (lv' := [(5, .int 0), (0, .ref k0), (1, .long v1), (3, .long v3)]) hx hb dX1_place_57 hl (by decide) rfl (fun ls hl => ?_)
            refine lv_aload_n hx hb dX1_place_59 rfl (lv_at hl 1 rfl) ?_
            refine lv_iload hx hb dX1_place_60 (lv_at hl 0 rfl) ?_
            refine lv_if_ne (tgt := 69) hx hb dX1_place_62 (by decide) (fun c22 => ?_) (fun c22 => ?_)
            · exact absurd (by decide) c22
            ·
              refine lv_iconst (v := 1) hx hb dX1_place_65 (by decide) ?_
              refine lv_goto (tgt := 83) hx hb dX1_place_66 (by decide) ?_
              refine va_put (D := D) (ci := 1) (v := .int 1) (ty := .int) (C := RX1) (T := TX1) (N := 12) hx hb hts hin tyX1 tyX1_ok nmX1 hown hK hP hD hS 0 rfl rfl 0 (by decide) (hts (.fieldLink RX1 36 "TideDepthsModel" "thrown" "I") (by decide +kernel)) (fun _ h9 => h9) rfl (by decide +kernel) rfl rfl (Nat.le_of_ble_eq_true rfl) dX1_place_83 (fun H locs hP hD hS => ?_)
              have hP : va_P D cls2 (x1W cI cJ k0 b1 b2 b3 b4 b5 b6 b7 b8 (1, (yNT y), (yNO y), (yNP y), (yT y), (yH y), (yO y), (yD y), (yW y), (yB y), (yC y), (yQ y))) H := hP
              have hD : va_D A (x1W cI cJ k0 b1 b2 b3 b4 b5 b6 b7 b8 (1, (yNT y), (yNO y), (yNP y), (yT y), (yH y), (yO y), (yD y), (yW y), (yB y), (yC y), (yQ y))) := hD
              have hW : YW D cI cJ k0 b1 b2 b3 b4 b5 b6 b7 b8 (1, (yNT y), (yNO y), (yNP y), (yT y), (yH y), (yO y), (yD y), (yW y), (yB y), (yC y), (yQ y)) s H := ⟨hP, hK⟩
              refine lv_aload_n hx hb dX1_place_86 rfl (lv_at hl 1 rfl) ?_
              refine va_get (D := D) (ci := 1) (v := .int 1) (C := RX1) (T := TX1) (N := 12) hx hb hts hin hown hK hP 0 rfl rfl 0 (by decide) (hts (.fieldLink RX1 36 "TideDepthsModel" "thrown" "I") (by decide +kernel)) (fun _ h9 => h9) rfl dX1_place_87 ?_
              refine lv_if_le (tgt := 95) hx hb dX1_place_90 (by decide) (fun c23 => ?_) (fun c23 => ?_)
              · exact absurd c23 (by decide)
              ·
                refine lv_iconst (v := 0) hx hb dX1_place_93 (by decide) ?_
                exact W.iret (v := 0) hx hb hr (fun t ht hWm => ⟨⟨0, (1, (yNT y), (yNO y), (yNP y), (yT y), (yH y), (yO y), (yD y), (yW y), (yB y), (yC y), (yQ y)), rfl, hw, by rw [ht]; exact hP, va_K.moved hWm.alike hK, hD⟩, hS.F ht⟩) hS.2.2 dX1_place_94
          · have hw := hw.2 c21
            refine lv_iconst (v := 1) hx hb dX1_place_52 (by decide) ?_
            refine lv_goto (tgt := 57) hx hb dX1_place_53 (by decide) ?_
            refine lv_istore (lv' := [(5, .int 1), (0, .ref k0), (1, .long v1), (3, .long v3)]) hx hb dX1_place_57 hl (by decide) rfl (fun ls hl => ?_)
            refine lv_aload_n hx hb dX1_place_59 rfl (lv_at hl 1 rfl) ?_
            refine lv_iload hx hb dX1_place_60 (lv_at hl 0 rfl) ?_
            refine lv_if_ne (tgt := 69) hx hb dX1_place_62 (by decide) (fun c24 => ?_) (fun c24 => ?_)
            ·
              refine lv_aload_n hx hb dX1_place_69 rfl (lv_at hl 1 rfl) ?_
              refine va_get (D := D) (ci := 1) (v := .int (yNP y)) (C := RX1) (T := TX1) (N := 12) hx hb hts hin hown hK hP 0 rfl rfl 3 (by decide) (hts (.fieldLink RX1 102 "TideDepthsModel" "places" "I") (by decide +kernel)) (fun _ h9 => h9) rfl dX1_place_70 ?_
              refine lv_bipush (v := 12) hx hb dX1_place_73 (by decide) ?_
              refine lv_icmp_ne (tgt := 82) hx hb dX1_place_75 (by decide) (fun c25 => ?_) (fun c25 => ?_)
              · have hw := hw.2 c25
                refine lv_iconst (v := 0) hx hb dX1_place_82 (by decide) ?_
                refine va_put (D := D) (ci := 1) (v := .int 0) (ty := .int) (C := RX1) (T := TX1) (N := 12) hx hb hts hin tyX1 tyX1_ok nmX1 hown hK hP hD hS 0 rfl rfl 0 (by decide) (hts (.fieldLink RX1 36 "TideDepthsModel" "thrown" "I") (by decide +kernel)) (fun _ h9 => h9) rfl (by decide +kernel) rfl rfl (Nat.le_of_ble_eq_true rfl) dX1_place_83 (fun H locs hP hD hS => ?_)
                have hP : va_P D cls2 (x1W cI cJ k0 b1 b2 b3 b4 b5 b6 b7 b8 (0, (yNT y), (yNO y), (yNP y), (yT y), (yH y), (yO y), (yD y), (yW y), (yB y), (yC y), (yQ y))) H := hP
                have hD : va_D A (x1W cI cJ k0 b1 b2 b3 b4 b5 b6 b7 b8 (0, (yNT y), (yNO y), (yNP y), (yT y), (yH y), (yO y), (yD y), (yW y), (yB y), (yC y), (yQ y))) := hD
                have hW : YW D cI cJ k0 b1 b2 b3 b4 b5 b6 b7 b8 (0, (yNT y), (yNO y), (yNP y), (yT y), (yH y), (yO y), (yD y), (yW y), (yB y), (yC y), (yQ y)) s H := ⟨hP, hK⟩
                refine lv_aload_n hx hb dX1_place_86 rfl (lv_at hl 1 rfl) ?_
                refine va_get (D := D) (ci := 1) (v := .int 0) (C := RX1) (T := TX1) (N := 12) hx hb hts hin hown hK hP 0 rfl rfl 0 (by decide) (hts (.fieldLink RX1 36 "TideDepthsModel" "thrown" "I") (by decide +kernel)) (fun _ h9 => h9) rfl dX1_place_87 ?_
                refine lv_if_le (tgt := 95) hx hb dX1_place_90 (by decide) (fun c26 => ?_) (fun c26 => ?_)
                ·
                  refine lv_aload_n hx hb dX1_place_95 rfl (lv_at hl 1 rfl) ?_
                  refine va_get (D := D) (ci := 1) (v := .ref b5) (C := RX1) (T := TX1) (N := 12) hx hb hts hin hown hK hP 0 rfl rfl 8 (by decide) (hts (.fieldLink RX1 23 "TideDepthsModel" "wayTo" "[J") (by decide +kernel)) (fun _ h9 => h9) rfl dX1_place_96 ?_
                  refine lv_aload_n hx hb dX1_place_99 rfl (lv_at hl 1 rfl) ?_
                  refine va_get (D := D) (ci := 1) (v := .int (yNP y)) (C := RX1) (T := TX1) (N := 12) hx hb hts hin hown hK hP 0 rfl rfl 3 (by decide) (hts (.fieldLink RX1 102 "TideDepthsModel" "places" "I") (by decide +kernel)) (fun _ h9 => h9) rfl dX1_place_100 ?_
                  refine lv_lload_n hx hb dX1_place_103 rfl (lv_at hl 2 rfl) ?_
                  obtain ⟨h27, hw⟩ := hw
                  refine va_last hx hb hK hP hD hS 5 1 rfl rfl h27 dX1_place_104 (fun H locs hP hD hS => ?_)
                  have hP : va_P D cls2 (x1W cI cJ k0 b1 b2 b3 b4 b5 b6 b7 b8 (0, (yNT y), (yNO y), (yNP y), (yT y), (yH y), (yO y), (yD y), (vp_updL (yW y) ((yNP y)).toNatClampNeg v1), (yB y), (yC y), (yQ y))) H := hP
                  have hD : va_D A (x1W cI cJ k0 b1 b2 b3 b4 b5 b6 b7 b8 (0, (yNT y), (yNO y), (yNP y), (yT y), (yH y), (yO y), (yD y), (vp_updL (yW y) ((yNP y)).toNatClampNeg v1), (yB y), (yC y), (yQ y))) := hD
                  have hW : YW D cI cJ k0 b1 b2 b3 b4 b5 b6 b7 b8 (0, (yNT y), (yNO y), (yNP y), (yT y), (yH y), (yO y), (yD y), (vp_updL (yW y) ((yNP y)).toNatClampNeg v1), (yB y), (yC y), (yQ y)) s H := ⟨hP, hK⟩
                  refine lv_aload_n hx hb dX1_place_105 rfl (lv_at hl 1 rfl) ?_
                  refine va_get (D := D) (ci := 1) (v := .ref b6) (C := RX1) (T := TX1) (N := 12) hx hb hts hin hown hK hP 0 rfl rfl 9 (by decide) (hts (.fieldLink RX1 26 "TideDepthsModel" "baseOf" "[J") (by decide +kernel)) (fun _ h9 => h9) rfl dX1_place_106 ?_
                  refine lv_aload_n hx hb dX1_place_109 rfl (lv_at hl 1 rfl) ?_
                  refine va_get (D := D) (ci := 1) (v := .int (yNP y)) (C := RX1) (T := TX1) (N := 12) hx hb hts hin hown hK hP 0 rfl rfl 3 (by decide) (hts (.fieldLink RX1 102 "TideDepthsModel" "places" "I") (by decide +kernel)) (fun _ h9 => h9) rfl dX1_place_110 ?_
                  refine lv_lload_n hx hb dX1_place_113 rfl (lv_at hl 3 rfl) ?_
                  obtain ⟨h28, hw⟩ := hw
                  refine va_last hx hb hK hP hD hS 6 1 rfl rfl h28 dX1_place_114 (fun H locs hP hD hS => ?_)
                  have hP : va_P D cls2 (x1W cI cJ k0 b1 b2 b3 b4 b5 b6 b7 b8 (0, (yNT y), (yNO y), (yNP y), (yT y), (yH y), (yO y), (yD y), (vp_updL (yW y) ((yNP y)).toNatClampNeg v1), (vp_updL (yB y) ((yNP y)).toNatClampNeg v3), (yC y), (yQ y))) H := hP
                  have hD : va_D A (x1W cI cJ k0 b1 b2 b3 b4 b5 b6 b7 b8 (0, (yNT y), (yNO y), (yNP y), (yT y), (yH y), (yO y), (yD y), (vp_updL (yW y) ((yNP y)).toNatClampNeg v1), (vp_updL (yB y) ((yNP y)).toNatClampNeg v3), (yC y), (yQ y))) := hD
                  have hW : YW D cI cJ k0 b1 b2 b3 b4 b5 b6 b7 b8 (0, (yNT y), (yNO y), (yNP y), (yT y), (yH y), (yO y), (yD y), (vp_updL (yW y) ((yNP y)).toNatClampNeg v1), (vp_updL (yB y) ((yNP y)).toNatClampNeg v3), (yC y), (yQ y)) s H := ⟨hP, hK⟩
                  refine lv_aload_n hx hb dX1_place_115 rfl (lv_at hl 1 rfl) ?_
                  refine lv_dup hx hb dX1_place_116 rfl ?_
                  refine va_get (D := D) (ci := 1) (v := .int (yNP y)) (C := RX1) (T := TX1) (N := 12) hx hb hts hin hown hK hP 0 rfl rfl 3 (by decide) (hts (.fieldLink RX1 102 "TideDepthsModel" "places" "I") (by decide +kernel)) (fun _ h9 => h9) rfl dX1_place_117 ?_
                  refine lv_iconst (v := 1) hx hb dX1_place_120 (by decide) ?_
                  refine lv_iadd hx hb dX1_place_121 ?_
                  refine va_put (D := D) (ci := 1) (v := .int ((yNP y) + 1)) (ty := .int) (C := RX1) (T := TX1) (N := 12) hx hb hts hin tyX1 tyX1_ok nmX1 hown hK hP hD hS 0 rfl rfl 3 (by decide) (hts (.fieldLink RX1 102 "TideDepthsModel" "places" "I") (by decide +kernel)) (fun _ h9 => h9) rfl (by decide +kernel) rfl rfl (Nat.le_of_ble_eq_true rfl) dX1_place_122 (fun H locs hP hD hS => ?_)
                  have hP : va_P D cls2 (x1W cI cJ k0 b1 b2 b3 b4 b5 b6 b7 b8 (0, (yNT y), (yNO y), ((yNP y) + 1), (yT y), (yH y), (yO y), (yD y), (vp_updL (yW y) ((yNP y)).toNatClampNeg v1), (vp_updL (yB y) ((yNP y)).toNatClampNeg v3), (yC y), (yQ y))) H := hP
                  have hD : va_D A (x1W cI cJ k0 b1 b2 b3 b4 b5 b6 b7 b8 (0, (yNT y), (yNO y), ((yNP y) + 1), (yT y), (yH y), (yO y), (yD y), (vp_updL (yW y) ((yNP y)).toNatClampNeg v1), (vp_updL (yB y) ((yNP y)).toNatClampNeg v3), (yC y), (yQ y))) := hD
                  have hW : YW D cI cJ k0 b1 b2 b3 b4 b5 b6 b7 b8 (0, (yNT y), (yNO y), ((yNP y) + 1), (yT y), (yH y), (yO y), (yD y), (vp_updL (yW y) ((yNP y)).toNatClampNeg v1), (vp_updL (yB y) ((yNP y)).toNatClampNeg v3), (yC y), (yQ y)) s H := ⟨hP, hK⟩
                  refine lv_aload_n hx hb dX1_place_125 rfl (lv_at hl 1 rfl) ?_
                  refine va_get (D := D) (ci := 1) (v := .int ((yNP y) + 1)) (C := RX1) (T := TX1) (N := 12) hx hb hts hin hown hK hP 0 rfl rfl 3 (by decide) (hts (.fieldLink RX1 102 "TideDepthsModel" "places" "I") (by decide +kernel)) (fun _ h9 => h9) rfl dX1_place_126 ?_
                  refine lv_iconst (v := 1) hx hb dX1_place_129 (by decide) ?_
                  refine lv_isub hx hb dX1_place_130 ?_
                  exact W.iret (v := (((yNP y) + 1) - 1)) hx hb hr (fun t ht hWm => ⟨⟨(((yNP y) + 1) - 1), (0, (yNT y), (yNO y), ((yNP y) + 1), (yT y), (yH y), (yO y), (yD y), (vp_updL (yW y) ((yNP y)).toNatClampNeg v1), (vp_updL (yB y) ((yNP y)).toNatClampNeg v3), (yC y), (yQ y)), rfl, hw, by rw [ht]; exact hP, va_K.moved hWm.alike hK, hD⟩, hS.F ht⟩) hS.2.2 dX1_place_131
                · exact absurd (by decide) c26
              · have hw := hw.1 c25
                refine lv_iconst (v := 2) hx hb dX1_place_78 (by decide) ?_
                refine lv_goto (tgt := 83) hx hb dX1_place_79 (by decide) ?_
                refine va_put (D := D) (ci := 1) (v := .int 2) (ty := .int) (C := RX1) (T := TX1) (N := 12) hx hb hts hin tyX1 tyX1_ok nmX1 hown hK hP hD hS 0 rfl rfl 0 (by decide) (hts (.fieldLink RX1 36 "TideDepthsModel" "thrown" "I") (by decide +kernel)) (fun _ h9 => h9) rfl (by decide +kernel) rfl rfl (Nat.le_of_ble_eq_true rfl) dX1_place_83 (fun H locs hP hD hS => ?_)
                have hP : va_P D cls2 (x1W cI cJ k0 b1 b2 b3 b4 b5 b6 b7 b8 (2, (yNT y), (yNO y), (yNP y), (yT y), (yH y), (yO y), (yD y), (yW y), (yB y), (yC y), (yQ y))) H := hP
                have hD : va_D A (x1W cI cJ k0 b1 b2 b3 b4 b5 b6 b7 b8 (2, (yNT y), (yNO y), (yNP y), (yT y), (yH y), (yO y), (yD y), (yW y), (yB y), (yC y), (yQ y))) := hD
                have hW : YW D cI cJ k0 b1 b2 b3 b4 b5 b6 b7 b8 (2, (yNT y), (yNO y), (yNP y), (yT y), (yH y), (yO y), (yD y), (yW y), (yB y), (yC y), (yQ y)) s H := ⟨hP, hK⟩
                refine lv_aload_n hx hb dX1_place_86 rfl (lv_at hl 1 rfl) ?_
                refine va_get (D := D) (ci := 1) (v := .int 2) (C := RX1) (T := TX1) (N := 12) hx hb hts hin hown hK hP 0 rfl rfl 0 (by decide) (hts (.fieldLink RX1 36 "TideDepthsModel" "thrown" "I") (by decide +kernel)) (fun _ h9 => h9) rfl dX1_place_87 ?_
                refine lv_if_le (tgt := 95) hx hb dX1_place_90 (by decide) (fun c29 => ?_) (fun c29 => ?_)
                · exact absurd c29 (by decide)
                ·
                  refine lv_iconst (v := 0) hx hb dX1_place_93 (by decide) ?_
                  exact W.iret (v := 0) hx hb hr (fun t ht hWm => ⟨⟨0, (2, (yNT y), (yNO y), (yNP y), (yT y), (yH y), (yO y), (yD y), (yW y), (yB y), (yC y), (yQ y)), rfl, hw, by rw [ht]; exact hP, va_K.moved hWm.alike hK, hD⟩, hS.F ht⟩) hS.2.2 dX1_place_94
            · exact absurd c24 (by decide)
      · have hw := hw.2 c16
        refine lv_aload_n hx hb dX1_place_30 rfl (lv_at hl 0 rfl) ?_
        refine va_get (D := D) (ci := 1) (v := .int (yNP y)) (C := RX1) (T := TX1) (N := 12) hx hb hts hin hown hK hP 0 rfl rfl 3 (by decide) (hts (.fieldLink RX1 102 "TideDepthsModel" "places" "I") (by decide +kernel)) (fun _ h9 => h9) rfl dX1_place_31 ?_
        refine lv_iconst (v := 1) hx hb dX1_place_34 (by decide) ?_
        refine lv_isub hx hb dX1_place_35 ?_
        refine lv_goto (tgt := 40) hx hb dX1_place_36 (by decide) ?_
        obtain ⟨h30, hw⟩ := hw
        refine va_lald hx hb hK hP 5 1 rfl rfl h30 dX1_place_40 ?_
        refine bl_le (tgt := 56) hx hb dX1_place_41 dX1_place_42 (by decide) (fun c31 => ?_) (fun c31 => ?_)
        · have hw := hw.1 c31
          refine lv_iconst (v := 0) hx hb dX1_place_56 (by decide) ?_
          refine lv_istore (lv' := [(5, .int 0), (0, .ref k0), (1, .long v1), (3, .long v3)]) hx hb dX1_place_57 hl (by decide) rfl (fun ls hl => ?_)
          refine lv_aload_n hx hb dX1_place_59 rfl (lv_at hl 1 rfl) ?_
          refine lv_iload hx hb dX1_place_60 (lv_at hl 0 rfl) ?_
          refine lv_if_ne (tgt := 69) hx hb dX1_place_62 (by decide) (fun c32 => ?_) (fun c32 => ?_)
          · exact absurd (by decide) c32
          ·
            refine lv_iconst (v := 1) hx hb dX1_place_65 (by decide) ?_
            refine lv_goto (tgt := 83) hx hb dX1_place_66 (by decide) ?_
            refine va_put (D := D) (ci := 1) (v := .int 1) (ty := .int) (C := RX1) (T := TX1) (N := 12) hx hb hts hin tyX1 tyX1_ok nmX1 hown hK hP hD hS 0 rfl rfl 0 (by decide) (hts (.fieldLink RX1 36 "TideDepthsModel" "thrown" "I") (by decide +kernel)) (fun _ h9 => h9) rfl (by decide +kernel) rfl rfl (Nat.le_of_ble_eq_true rfl) dX1_place_83 (fun H locs hP hD hS => ?_)
            have hP : va_P D cls2 (x1W cI cJ k0 b1 b2 b3 b4 b5 b6 b7 b8 (1, (yNT y), (yNO y), (yNP y), (yT y), (yH y), (yO y), (yD y), (yW y), (yB y), (yC y), (yQ y))) H := hP
            have hD : va_D A (x1W cI cJ k0 b1 b2 b3 b4 b5 b6 b7 b8 (1, (yNT y), (yNO y), (yNP y), (yT y), (yH y), (yO y), (yD y), (yW y), (yB y), (yC y), (yQ y))) := hD
            have hW : YW D cI cJ k0 b1 b2 b3 b4 b5 b6 b7 b8 (1, (yNT y), (yNO y), (yNP y), (yT y), (yH y), (yO y), (yD y), (yW y), (yB y), (yC y), (yQ y)) s H := ⟨hP, hK⟩
            refine lv_aload_n hx hb dX1_place_86 rfl (lv_at hl 1 rfl) ?_
            refine va_get (D := D) (ci := 1) (v := .int 1) (C := RX1) (T := TX1) (N := 12) hx hb hts hin hown hK hP 0 rfl rfl 0 (by decide) (hts (.fieldLink RX1 36 "TideDepthsModel" "thrown" "I") (by decide +kernel)) (fun _ h9 => h9) rfl dX1_place_87 ?_
            refine lv_if_le (tgt := 95) hx hb dX1_place_90 (by decide) (fun c33 => ?_) (fun c33 => ?_)
            · exact absurd c33 (by decide)
            ·
              refine lv_iconst (v := 0) hx hb dX1_place_93 (by decide) ?_
              exact W.iret (v := 0) hx hb hr (fun t ht hWm => ⟨⟨0, (1, (yNT y), (yNO y), (yNP y), (yT y), (yH y), (yO y), (yD y), (yW y), (yB y), (yC y), (yQ y)), rfl, hw, by rw [ht]; exact hP, va_K.moved hWm.alike hK, hD⟩, hS.F ht⟩) hS.2.2 dX1_place_94
        · have hw := hw.2 c31
          refine lv_lload_n hx hb dX1_place_45 rfl (lv_at hl 2 rfl) ?_
          refine pc_Si (As := [.long v3]) (rest := []) ⟨hx, hb, hml, hown, hts⟩ (mX1_isHeight l v3 _) (va_cwS 1 hts gX1_place_X1_isHeight rfl rfl rfl (by decide +kernel) ⟨Nat.le_of_ble_eq_true rfl, Nat.le_of_ble_eq_true rfl⟩) wK_bl (fun _ _ _ => hw) rfl hl.1 rfl (Nat.le_of_ble_eq_true rfl) dX1_place_46 ⟨Nat.le_of_ble_eq_true rfl, Nat.le_of_ble_eq_true rfl⟩ (fun r34 hw => ?_)
          obtain ⟨z_r34, hw⟩ := hw
          refine lv_if_eq (tgt := 56) hx hb dX1_place_49 (by decide) (fun c35 => ?_) (fun c35 => ?_)
          · have hw := hw.1 c35
            refine lv_iconst (v := 0) hx hb dX1_place_56 (by decide) ?_
            refine lv_istore (lv' := [(5, .int 0), (0, .ref k0), (1, .long v1), (3, .long v3)]) hx hb dX1_place_57 hl (by decide) rfl (fun ls hl => ?_)
            refine lv_aload_n hx hb dX1_place_59 rfl (lv_at hl 1 rfl) ?_
            refine lv_iload hx hb dX1_place_60 (lv_at hl 0 rfl) ?_
            refine lv_if_ne (tgt := 69) hx hb dX1_place_62 (by decide) (fun c36 => ?_) (fun c36 => ?_)
            · exact absurd (by decide) c36
            ·
              refine lv_iconst (v := 1) hx hb dX1_place_65 (by decide) ?_
              refine lv_goto (tgt := 83) hx hb dX1_place_66 (by decide) ?_
              refine va_put (D := D) (ci := 1) (v := .int 1) (ty := .int) (C := RX1) (T := TX1) (N := 12) hx hb hts hin tyX1 tyX1_ok nmX1 hown hK hP hD hS 0 rfl rfl 0 (by decide) (hts (.fieldLink RX1 36 "TideDepthsModel" "thrown" "I") (by decide +kernel)) (fun _ h9 => h9) rfl (by decide +kernel) rfl rfl (Nat.le_of_ble_eq_true rfl) dX1_place_83 (fun H locs hP hD hS => ?_)
              have hP : va_P D cls2 (x1W cI cJ k0 b1 b2 b3 b4 b5 b6 b7 b8 (1, (yNT y), (yNO y), (yNP y), (yT y), (yH y), (yO y), (yD y), (yW y), (yB y), (yC y), (yQ y))) H := hP
              have hD : va_D A (x1W cI cJ k0 b1 b2 b3 b4 b5 b6 b7 b8 (1, (yNT y), (yNO y), (yNP y), (yT y), (yH y), (yO y), (yD y), (yW y), (yB y), (yC y), (yQ y))) := hD
              have hW : YW D cI cJ k0 b1 b2 b3 b4 b5 b6 b7 b8 (1, (yNT y), (yNO y), (yNP y), (yT y), (yH y), (yO y), (yD y), (yW y), (yB y), (yC y), (yQ y)) s H := ⟨hP, hK⟩
              refine lv_aload_n hx hb dX1_place_86 rfl (lv_at hl 1 rfl) ?_
              refine va_get (D := D) (ci := 1) (v := .int 1) (C := RX1) (T := TX1) (N := 12) hx hb hts hin hown hK hP 0 rfl rfl 0 (by decide) (hts (.fieldLink RX1 36 "TideDepthsModel" "thrown" "I") (by decide +kernel)) (fun _ h9 => h9) rfl dX1_place_87 ?_
              refine lv_if_le (tgt := 95) hx hb dX1_place_90 (by decide) (fun c37 => ?_) (fun c37 => ?_)
              · exact absurd c37 (by decide)
              ·
                refine lv_iconst (v := 0) hx hb dX1_place_93 (by decide) ?_
                exact W.iret (v := 0) hx hb hr (fun t ht hWm => ⟨⟨0, (1, (yNT y), (yNO y), (yNP y), (yT y), (yH y), (yO y), (yD y), (yW y), (yB y), (yC y), (yQ y)), rfl, hw, by rw [ht]; exact hP, va_K.moved hWm.alike hK, hD⟩, hS.F ht⟩) hS.2.2 dX1_place_94
          · have hw := hw.2 c35
            refine lv_iconst (v := 1) hx hb dX1_place_52 (by decide) ?_
            refine lv_goto (tgt := 57) hx hb dX1_place_53 (by decide) ?_
            refine lv_istore (lv' := [(5, .int 1), (0, .ref k0), (1, .long v1), (3, .long v3)]) hx hb dX1_place_57 hl (by decide) rfl (fun ls hl => ?_)
            refine lv_aload_n hx hb dX1_place_59 rfl (lv_at hl 1 rfl) ?_
            refine lv_iload hx hb dX1_place_60 (lv_at hl 0 rfl) ?_
            refine lv_if_ne (tgt := 69) hx hb dX1_place_62 (by decide) (fun c38 => ?_) (fun c38 => ?_)
            ·
              refine lv_aload_n hx hb dX1_place_69 rfl (lv_at hl 1 rfl) ?_
              refine va_get (D := D) (ci := 1) (v := .int (yNP y)) (C := RX1) (T := TX1) (N := 12) hx hb hts hin hown hK hP 0 rfl rfl 3 (by decide) (hts (.fieldLink RX1 102 "TideDepthsModel" "places" "I") (by decide +kernel)) (fun _ h9 => h9) rfl dX1_place_70 ?_
              refine lv_bipush (v := 12) hx hb dX1_place_73 (by decide) ?_
              refine lv_icmp_ne (tgt := 82) hx hb dX1_place_75 (by decide) (fun c39 => ?_) (fun c39 => ?_)
              · have hw := hw.2 c39
                refine lv_iconst (v := 0) hx hb dX1_place_82 (by decide) ?_
                refine va_put (D := D) (ci := 1) (v := .int 0) (ty := .int) (C := RX1) (T := TX1) (N := 12) hx hb hts hin tyX1 tyX1_ok nmX1 hown hK hP hD hS 0 rfl rfl 0 (by decide) (hts (.fieldLink RX1 36 "TideDepthsModel" "thrown" "I") (by decide +kernel)) (fun _ h9 => h9) rfl (by decide +kernel) rfl rfl (Nat.le_of_ble_eq_true rfl) dX1_place_83 (fun H locs hP hD hS => ?_)
                have hP : va_P D cls2 (x1W cI cJ k0 b1 b2 b3 b4 b5 b6 b7 b8 (0, (yNT y), (yNO y), (yNP y), (yT y), (yH y), (yO y), (yD y), (yW y), (yB y), (yC y), (yQ y))) H := hP
                have hD : va_D A (x1W cI cJ k0 b1 b2 b3 b4 b5 b6 b7 b8 (0, (yNT y), (yNO y), (yNP y), (yT y), (yH y), (yO y), (yD y), (yW y), (yB y), (yC y), (yQ y))) := hD
                have hW : YW D cI cJ k0 b1 b2 b3 b4 b5 b6 b7 b8 (0, (yNT y), (yNO y), (yNP y), (yT y), (yH y), (yO y), (yD y), (yW y), (yB y), (yC y), (yQ y)) s H := ⟨hP, hK⟩
                refine lv_aload_n hx hb dX1_place_86 rfl (lv_at hl 1 rfl) ?_
                refine va_get (D := D) (ci := 1) (v := .int 0) (C := RX1) (T := TX1) (N := 12) hx hb hts hin hown hK hP 0 rfl rfl 0 (by decide) (hts (.fieldLink RX1 36 "TideDepthsModel" "thrown" "I") (by decide +kernel)) (fun _ h9 => h9) rfl dX1_place_87 ?_
                refine lv_if_le (tgt := 95) hx hb dX1_place_90 (by decide) (fun c40 => ?_) (fun c40 => ?_)
                ·
                  refine lv_aload_n hx hb dX1_place_95 rfl (lv_at hl 1 rfl) ?_
                  refine va_get (D := D) (ci := 1) (v := .ref b5) (C := RX1) (T := TX1) (N := 12) hx hb hts hin hown hK hP 0 rfl rfl 8 (by decide) (hts (.fieldLink RX1 23 "TideDepthsModel" "wayTo" "[J") (by decide +kernel)) (fun _ h9 => h9) rfl dX1_place_96 ?_
                  refine lv_aload_n hx hb dX1_place_99 rfl (lv_at hl 1 rfl) ?_
                  refine va_get (D := D) (ci := 1) (v := .int (yNP y)) (C := RX1) (T := TX1) (N := 12) hx hb hts hin hown hK hP 0 rfl rfl 3 (by decide) (hts (.fieldLink RX1 102 "TideDepthsModel" "places" "I") (by decide +kernel)) (fun _ h9 => h9) rfl dX1_place_100 ?_
                  refine lv_lload_n hx hb dX1_place_103 rfl (lv_at hl 2 rfl) ?_
                  obtain ⟨h41, hw⟩ := hw
                  refine va_last hx hb hK hP hD hS 5 1 rfl rfl h41 dX1_place_104 (fun H locs hP hD hS => ?_)
                  have hP : va_P D cls2 (x1W cI cJ k0 b1 b2 b3 b4 b5 b6 b7 b8 (0, (yNT y), (yNO y), (yNP y), (yT y), (yH y), (yO y), (yD y), (vp_updL (yW y) ((yNP y)).toNatClampNeg v1), (yB y), (yC y), (yQ y))) H := hP
                  have hD : va_D A (x1W cI cJ k0 b1 b2 b3 b4 b5 b6 b7 b8 (0, (yNT y), (yNO y), (yNP y), (yT y), (yH y), (yO y), (yD y), (vp_updL (yW y) ((yNP y)).toNatClampNeg v1), (yB y), (yC y), (yQ y))) := hD
                  have hW : YW D cI cJ k0 b1 b2 b3 b4 b5 b6 b7 b8 (0, (yNT y), (yNO y), (yNP y), (yT y), (yH y), (yO y), (yD y), (vp_updL (yW y) ((yNP y)).toNatClampNeg v1), (yB y), (yC y), (yQ y)) s H := ⟨hP, hK⟩
                  refine lv_aload_n hx hb dX1_place_105 rfl (lv_at hl 1 rfl) ?_
                  refine va_get (D := D) (ci := 1) (v := .ref b6) (C := RX1) (T := TX1) (N := 12) hx hb hts hin hown hK hP 0 rfl rfl 9 (by decide) (hts (.fieldLink RX1 26 "TideDepthsModel" "baseOf" "[J") (by decide +kernel)) (fun _ h9 => h9) rfl dX1_place_106 ?_
                  refine lv_aload_n hx hb dX1_place_109 rfl (lv_at hl 1 rfl) ?_
                  refine va_get (D := D) (ci := 1) (v := .int (yNP y)) (C := RX1) (T := TX1) (N := 12) hx hb hts hin hown hK hP 0 rfl rfl 3 (by decide) (hts (.fieldLink RX1 102 "TideDepthsModel" "places" "I") (by decide +kernel)) (fun _ h9 => h9) rfl dX1_place_110 ?_
                  refine lv_lload_n hx hb dX1_place_113 rfl (lv_at hl 3 rfl) ?_
                  obtain ⟨h42, hw⟩ := hw
                  refine va_last hx hb hK hP hD hS 6 1 rfl rfl h42 dX1_place_114 (fun H locs hP hD hS => ?_)
                  have hP : va_P D cls2 (x1W cI cJ k0 b1 b2 b3 b4 b5 b6 b7 b8 (0, (yNT y), (yNO y), (yNP y), (yT y), (yH y), (yO y), (yD y), (vp_updL (yW y) ((yNP y)).toNatClampNeg v1), (vp_updL (yB y) ((yNP y)).toNatClampNeg v3), (yC y), (yQ y))) H := hP
                  have hD : va_D A (x1W cI cJ k0 b1 b2 b3 b4 b5 b6 b7 b8 (0, (yNT y), (yNO y), (yNP y), (yT y), (yH y), (yO y), (yD y), (vp_updL (yW y) ((yNP y)).toNatClampNeg v1), (vp_updL (yB y) ((yNP y)).toNatClampNeg v3), (yC y), (yQ y))) := hD
                  have hW : YW D cI cJ k0 b1 b2 b3 b4 b5 b6 b7 b8 (0, (yNT y), (yNO y), (yNP y), (yT y), (yH y), (yO y), (yD y), (vp_updL (yW y) ((yNP y)).toNatClampNeg v1), (vp_updL (yB y) ((yNP y)).toNatClampNeg v3), (yC y), (yQ y)) s H := ⟨hP, hK⟩
                  refine lv_aload_n hx hb dX1_place_115 rfl (lv_at hl 1 rfl) ?_
                  refine lv_dup hx hb dX1_place_116 rfl ?_
                  refine va_get (D := D) (ci := 1) (v := .int (yNP y)) (C := RX1) (T := TX1) (N := 12) hx hb hts hin hown hK hP 0 rfl rfl 3 (by decide) (hts (.fieldLink RX1 102 "TideDepthsModel" "places" "I") (by decide +kernel)) (fun _ h9 => h9) rfl dX1_place_117 ?_
                  refine lv_iconst (v := 1) hx hb dX1_place_120 (by decide) ?_
                  refine lv_iadd hx hb dX1_place_121 ?_
                  refine va_put (D := D) (ci := 1) (v := .int ((yNP y) + 1)) (ty := .int) (C := RX1) (T := TX1) (N := 12) hx hb hts hin tyX1 tyX1_ok nmX1 hown hK hP hD hS 0 rfl rfl 3 (by decide) (hts (.fieldLink RX1 102 "TideDepthsModel" "places" "I") (by decide +kernel)) (fun _ h9 => h9) rfl (by decide +kernel) rfl rfl (Nat.le_of_ble_eq_true rfl) dX1_place_122 (fun H locs hP hD hS => ?_)
                  have hP : va_P D cls2 (x1W cI cJ k0 b1 b2 b3 b4 b5 b6 b7 b8 (0, (yNT y), (yNO y), ((yNP y) + 1), (yT y), (yH y), (yO y), (yD y), (vp_updL (yW y) ((yNP y)).toNatClampNeg v1), (vp_updL (yB y) ((yNP y)).toNatClampNeg v3), (yC y), (yQ y))) H := hP
                  have hD : va_D A (x1W cI cJ k0 b1 b2 b3 b4 b5 b6 b7 b8 (0, (yNT y), (yNO y), ((yNP y) + 1), (yT y), (yH y), (yO y), (yD y), (vp_updL (yW y) ((yNP y)).toNatClampNeg v1), (vp_updL (yB y) ((yNP y)).toNatClampNeg v3), (yC y), (yQ y))) := hD
                  have hW : YW D cI cJ k0 b1 b2 b3 b4 b5 b6 b7 b8 (0, (yNT y), (yNO y), ((yNP y) + 1), (yT y), (yH y), (yO y), (yD y), (vp_updL (yW y) ((yNP y)).toNatClampNeg v1), (vp_updL (yB y) ((yNP y)).toNatClampNeg v3), (yC y), (yQ y)) s H := ⟨hP, hK⟩
                  refine lv_aload_n hx hb dX1_place_125 rfl (lv_at hl 1 rfl) ?_
                  refine va_get (D := D) (ci := 1) (v := .int ((yNP y) + 1)) (C := RX1) (T := TX1) (N := 12) hx hb hts hin hown hK hP 0 rfl rfl 3 (by decide) (hts (.fieldLink RX1 102 "TideDepthsModel" "places" "I") (by decide +kernel)) (fun _ h9 => h9) rfl dX1_place_126 ?_
                  refine lv_iconst (v := 1) hx hb dX1_place_129 (by decide) ?_
                  refine lv_isub hx hb dX1_place_130 ?_
                  exact W.iret (v := (((yNP y) + 1) - 1)) hx hb hr (fun t ht hWm => ⟨⟨(((yNP y) + 1) - 1), (0, (yNT y), (yNO y), ((yNP y) + 1), (yT y), (yH y), (yO y), (yD y), (vp_updL (yW y) ((yNP y)).toNatClampNeg v1), (vp_updL (yB y) ((yNP y)).toNatClampNeg v3), (yC y), (yQ y)), rfl, hw, by rw [ht]; exact hP, va_K.moved hWm.alike hK, hD⟩, hS.F ht⟩) hS.2.2 dX1_place_131
                · exact absurd (by decide) c40
              · have hw := hw.1 c39
                refine lv_iconst (v := 2) hx hb dX1_place_78 (by decide) ?_
                refine lv_goto (tgt := 83) hx hb dX1_place_79 (by decide) ?_
                refine va_put (D := D) (ci := 1) (v := .int 2) (ty := .int) (C := RX1) (T := TX1) (N := 12) hx hb hts hin tyX1 tyX1_ok nmX1 hown hK hP hD hS 0 rfl rfl 0 (by decide) (hts (.fieldLink RX1 36 "TideDepthsModel" "thrown" "I") (by decide +kernel)) (fun _ h9 => h9) rfl (by decide +kernel) rfl rfl (Nat.le_of_ble_eq_true rfl) dX1_place_83 (fun H locs hP hD hS => ?_)
                have hP : va_P D cls2 (x1W cI cJ k0 b1 b2 b3 b4 b5 b6 b7 b8 (2, (yNT y), (yNO y), (yNP y), (yT y), (yH y), (yO y), (yD y), (yW y), (yB y), (yC y), (yQ y))) H := hP
                have hD : va_D A (x1W cI cJ k0 b1 b2 b3 b4 b5 b6 b7 b8 (2, (yNT y), (yNO y), (yNP y), (yT y), (yH y), (yO y), (yD y), (yW y), (yB y), (yC y), (yQ y))) := hD
                have hW : YW D cI cJ k0 b1 b2 b3 b4 b5 b6 b7 b8 (2, (yNT y), (yNO y), (yNP y), (yT y), (yH y), (yO y), (yD y), (yW y), (yB y), (yC y), (yQ y)) s H := ⟨hP, hK⟩
                refine lv_aload_n hx hb dX1_place_86 rfl (lv_at hl 1 rfl) ?_
                refine va_get (D := D) (ci := 1) (v := .int 2) (C := RX1) (T := TX1) (N := 12) hx hb hts hin hown hK hP 0 rfl rfl 0 (by decide) (hts (.fieldLink RX1 36 "TideDepthsModel" "thrown" "I") (by decide +kernel)) (fun _ h9 => h9) rfl dX1_place_87 ?_
                refine lv_if_le (tgt := 95) hx hb dX1_place_90 (by decide) (fun c43 => ?_) (fun c43 => ?_)
                · exact absurd c43 (by decide)
                ·
                  refine lv_iconst (v := 0) hx hb dX1_place_93 (by decide) ?_
                  exact W.iret (v := 0) hx hb hr (fun t ht hWm => ⟨⟨0, (2, (yNT y), (yNO y), (yNP y), (yT y), (yH y), (yO y), (yD y), (yW y), (yB y), (yC y), (yQ y)), rfl, hw, by rw [ht]; exact hP, va_K.moved hWm.alike hK, hD⟩, hS.F ht⟩) hS.2.2 dX1_place_94
            · exact absurd c38 (by decide)

def wX1_depth (post : Int64 → YS → Prop) (y : YS) (v1 : Int32) (v2 : Int64) : Prop := ((v1 < 0 → (post 0 (1, (yNT y), (yNO y), (yNP y), (yT y), (yH y), (yO y), (yD y), (yW y), (yB y), (yC y), (yQ y)))) ∧ (¬ v1 < 0 → (((yNP y) ≤ v1 → (post 0 (1, (yNT y), (yNO y), (yNP y), (yT y), (yH y), (yO y), (yD y), (yW y), (yB y), (yC y), (yQ y)))) ∧ (¬ (yNP y) ≤ v1 → (wX1_isInTable (fun r8 => ((r8 = 0 → (post 0 (2, (yNT y), (yNO y), (yNP y), (yT y), (yH y), (yO y), (yD y), (yW y), (yB y), (yC y), (yQ y)))) ∧ (¬ r8 = 0 → (vp_in v1 12 ∧ (wX1_heightAt (fun r12 => (post (((yB y) (v1).toNatClampNeg) + r12) (0, (yNT y), (yNO y), (yNP y), (yT y), (yH y), (yO y), (yD y), (yW y), (yB y), (yC y), (yQ y)))) (0, (yNT y), (yNO y), (yNP y), (yT y), (yH y), (yO y), (yD y), (yW y), (yB y), (yC y), (yQ y)) (v2).toInt32))))) y v2)))))

set_option maxHeartbeats 4000000 in
set_option maxRecDepth 100000 in
theorem mX1_depth (l : Launch) (D : va_G) (cI cJ : ClassId) (k0 b1 b2 b3 b4 b5 b6 b7 b8 sz : Nat) (y : YS) (v1 : Int32) (v2 : Int64) (post : Int64 → YS → Prop) : Met l yX1_depth wsX1_depth ({ frames := 3, cells := 0, slots := 0, locals := 79 } : Room) (va_Pc [.ref k0, .int v1, .long v2] (fun U => YE D cI cJ k0 b1 b2 b3 b4 b5 b6 b7 b8 sz y U ∧ wX1_depth post y v1 v2)) (va_Ql post (fun u9 t9 => YT D cI cJ k0 b1 b2 b3 b4 b5 b6 b7 b8 (va_A (x1W cI cJ k0 b1 b2 b3 b4 b5 b6 b7 b8 y) sz) u9 t9) (va_A (x1W cI cJ k0 b1 b2 b3 b4 b5 b6 b7 b8 y) sz)) 0 0 (va_A (x1W cI cJ k0 b1 b2 b3 b4 b5 b6 b7 b8 y) sz) := by
  refine Met.ofW (cc := cX1_depth) (maxL := 5) (ret := (some .long)) (by decide +kernel) rfl ?_
  intro p e s m args below meth c s₁ B hml hv
  obtain ⟨rfl, ⟨hsz, hP, hK, hD0⟩, hw⟩ := hv
  have hx := B.exec
  have hb := B.bytes
  have hr := B.returns
  have hts := atoms_spec (ws := wsX1_depth) B.pre
  have hown : s.vm.findClass RX1 = some m.cls := findClass_of_methodNamed B.named
  have hlocks := B.notSynchronized
  have hin : ∀ w ∈ u_ws RX1 TX1 12, w ∈ wsX1_depth := by decide +kernel
  subst hsz
  have hD := hD0.self (sz := s.heap.size)
  generalize hAe : va_A (x1W cI cJ k0 b1 b2 b3 b4 b5 b6 b7 b8 y) s.heap.size = A at hD ⊢
  have hS : va_S A s.heap s.heap [] := va_S.rf
  have hW : YW D cI cJ k0 b1 b2 b3 b4 b5 b6 b7 b8 y s s.heap := ⟨hP, hK⟩
  have hl := lv_entry ([.ref k0, .int v1, .long v2]) (n := 5) (Nat.le_of_ble_eq_true rfl)
  rw [lg_entry_eq]
  generalize (lg_sl ([.ref k0, .int v1, .long v2]) ++ List.replicate (5 - (lg_sl ([.ref k0, .int v1, .long v2])).length) Slot.unset).toArray = ls at hl ⊢
  have hl : lv_has ls 5 [(0, .ref k0), (1, .int v1), (2, .long v2)] := hl
  unfold wX1_depth at hw
  refine lv_iload_n hx hb dX1_depth_0 rfl (lv_at hl 1 rfl) ?_
  refine lv_if_lt (tgt := 16) hx hb dX1_depth_1 (by decide) (fun c1 => ?_) (fun c1 => ?_)
  · have hw := hw.1 c1
    refine lv_iconst (v := 0) hx hb dX1_depth_16 (by decide) ?_
    refine lv_istore (lv' := [(4, .int 0), (0, .ref k0), (1, .int v1), (2, .long v2)]) hx hb dX1_depth_17 hl (by decide) rfl (fun ls hl => ?_)
    refine lv_aload_n hx hb dX1_depth_19 rfl (lv_at hl 1 rfl) ?_
    refine lv_iload hx hb dX1_depth_20 (lv_at hl 0 rfl) ?_
    refine lv_if_ne (tgt := 29) hx hb dX1_depth_22 (by decide) (fun c2 => ?_) (fun c2 => ?_)
    · exact absurd (by decide) c2
    ·
      refine lv_iconst (v := 1) hx hb dX1_depth_25 (by decide) ?_
      refine lv_goto (tgt := 42) hx hb dX1_depth_26 (by decide) ?_
      refine va_put (D := D) (ci := 1) (v := .int 1) (ty := .int) (C := RX1) (T := TX1) (N := 12) hx hb hts hin tyX1 tyX1_ok nmX1 hown hK hP hD hS 0 rfl rfl 0 (by decide) (hts (.fieldLink RX1 36 "TideDepthsModel" "thrown" "I") (by decide +kernel)) (fun _ h9 => h9) rfl (by decide +kernel) rfl rfl (Nat.le_of_ble_eq_true rfl) dX1_depth_42 (fun H locs hP hD hS => ?_)
      have hP : va_P D cls2 (x1W cI cJ k0 b1 b2 b3 b4 b5 b6 b7 b8 (1, (yNT y), (yNO y), (yNP y), (yT y), (yH y), (yO y), (yD y), (yW y), (yB y), (yC y), (yQ y))) H := hP
      have hD : va_D A (x1W cI cJ k0 b1 b2 b3 b4 b5 b6 b7 b8 (1, (yNT y), (yNO y), (yNP y), (yT y), (yH y), (yO y), (yD y), (yW y), (yB y), (yC y), (yQ y))) := hD
      have hW : YW D cI cJ k0 b1 b2 b3 b4 b5 b6 b7 b8 (1, (yNT y), (yNO y), (yNP y), (yT y), (yH y), (yO y), (yD y), (yW y), (yB y), (yC y), (yQ y)) s H := ⟨hP, hK⟩
      refine lv_aload_n hx hb dX1_depth_45 rfl (lv_at hl 1 rfl) ?_
      refine va_get (D := D) (ci := 1) (v := .int 1) (C := RX1) (T := TX1) (N := 12) hx hb hts hin hown hK hP 0 rfl rfl 0 (by decide) (hts (.fieldLink RX1 36 "TideDepthsModel" "thrown" "I") (by decide +kernel)) (fun _ h9 => h9) rfl dX1_depth_46 ?_
      refine lv_if_le (tgt := 56) hx hb dX1_depth_49 (by decide) (fun c3 => ?_) (fun c3 => ?_)
      · exact absurd c3 (by decide)
      ·
        refine lv_lconst (v := 0) hx hb dX1_depth_52 (by decide) ?_
        refine lv_goto (tgt := 69) hx hb dX1_depth_53 (by decide) ?_
        exact W.lret (v := 0) hx hb hr (fun t ht hWm => ⟨⟨0, (1, (yNT y), (yNO y), (yNP y), (yT y), (yH y), (yO y), (yD y), (yW y), (yB y), (yC y), (yQ y)), rfl, hw, by rw [ht]; exact hP, va_K.moved hWm.alike hK, hD⟩, hS.F ht⟩) hS.2.2 dX1_depth_69
  · have hw := hw.2 c1
    refine lv_iload_n hx hb dX1_depth_4 rfl (lv_at hl 1 rfl) ?_
    refine lv_aload_n hx hb dX1_depth_5 rfl (lv_at hl 0 rfl) ?_
    refine va_get (D := D) (ci := 1) (v := .int (yNP y)) (C := RX1) (T := TX1) (N := 12) hx hb hts hin hown hK hP 0 rfl rfl 3 (by decide) (hts (.fieldLink RX1 102 "TideDepthsModel" "places" "I") (by decide +kernel)) (fun _ h9 => h9) rfl dX1_depth_6 ?_
    refine lv_icmp_ge (tgt := 16) hx hb dX1_depth_9 (by decide) (fun c4 => ?_) (fun c4 => ?_)
    · have hw := hw.1 c4
      refine lv_iconst (v := 0) hx hb dX1_depth_16 (by decide) ?_
      refine lv_istore (lv' := [(4, .int 0), (0, .ref k0), (1, .int v1), (2, .long v2)]) hx hb dX1_depth_17 hl (by decide) rfl (fun ls hl => ?_)
      refine lv_aload_n hx hb dX1_depth_19 rfl (lv_at hl 1 rfl) ?_
      refine lv_iload hx hb dX1_depth_20 (lv_at hl 0 rfl) ?_
      refine lv_if_ne (tgt := 29) hx hb dX1_depth_22 (by decide) (fun c5 => ?_) (fun c5 => ?_)
      · exact absurd (by decide) c5
      ·
        refine lv_iconst (v := 1) hx hb dX1_depth_25 (by decide) ?_
        refine lv_goto (tgt := 42) hx hb dX1_depth_26 (by decide) ?_
        refine va_put (D := D) (ci := 1) (v := .int 1) (ty := .int) (C := RX1) (T := TX1) (N := 12) hx hb hts hin tyX1 tyX1_ok nmX1 hown hK hP hD hS 0 rfl rfl 0 (by decide) (hts (.fieldLink RX1 36 "TideDepthsModel" "thrown" "I") (by decide +kernel)) (fun _ h9 => h9) rfl (by decide +kernel) rfl rfl (Nat.le_of_ble_eq_true rfl) dX1_depth_42 (fun H locs hP hD hS => ?_)
        have hP : va_P D cls2 (x1W cI cJ k0 b1 b2 b3 b4 b5 b6 b7 b8 (1, (yNT y), (yNO y), (yNP y), (yT y), (yH y), (yO y), (yD y), (yW y), (yB y), (yC y), (yQ y))) H := hP
        have hD : va_D A (x1W cI cJ k0 b1 b2 b3 b4 b5 b6 b7 b8 (1, (yNT y), (yNO y), (yNP y), (yT y), (yH y), (yO y), (yD y), (yW y), (yB y), (yC y), (yQ y))) := hD
        have hW : YW D cI cJ k0 b1 b2 b3 b4 b5 b6 b7 b8 (1, (yNT y), (yNO y), (yNP y), (yT y), (yH y), (yO y), (yD y), (yW y), (yB y), (yC y), (yQ y)) s H := ⟨hP, hK⟩
        refine lv_aload_n hx hb dX1_depth_45 rfl (lv_at hl 1 rfl) ?_
        refine va_get (D := D) (ci := 1) (v := .int 1) (C := RX1) (T := TX1) (N := 12) hx hb hts hin hown hK hP 0 rfl rfl 0 (by decide) (hts (.fieldLink RX1 36 "TideDepthsModel" "thrown" "I") (by decide +kernel)) (fun _ h9 => h9) rfl dX1_depth_46 ?_
        refine lv_if_le (tgt := 56) hx hb dX1_depth_49 (by decide) (fun c6 => ?_) (fun c6 => ?_)
        · exact absurd c6 (by decide)
        ·
          refine lv_lconst (v := 0) hx hb dX1_depth_52 (by decide) ?_
          refine lv_goto (tgt := 69) hx hb dX1_depth_53 (by decide) ?_
          exact W.lret (v := 0) hx hb hr (fun t ht hWm => ⟨⟨0, (1, (yNT y), (yNO y), (yNP y), (yT y), (yH y), (yO y), (yD y), (yW y), (yB y), (yC y), (yQ y)), rfl, hw, by rw [ht]; exact hP, va_K.moved hWm.alike hK, hD⟩, hS.F ht⟩) hS.2.2 dX1_depth_69
    · have hw := hw.2 c4
      refine lv_iconst (v := 1) hx hb dX1_depth_12 (by decide) ?_
      refine lv_goto (tgt := 17) hx hb dX1_depth_13 (by decide) ?_
      refine lv_istore (lv' := [(4, .int 1), (0, .ref k0), (1, .int v1), (2, .long v2)]) hx hb dX1_depth_17 hl (by decide) rfl (fun ls hl => ?_)
      refine lv_aload_n hx hb dX1_depth_19 rfl (lv_at hl 1 rfl) ?_
      refine lv_iload hx hb dX1_depth_20 (lv_at hl 0 rfl) ?_
      refine lv_if_ne (tgt := 29) hx hb dX1_depth_22 (by decide) (fun c7 => ?_) (fun c7 => ?_)
      ·
        refine lv_aload_n hx hb dX1_depth_29 rfl (lv_at hl 1 rfl) ?_
        refine lv_lload_n hx hb dX1_depth_30 rfl (lv_at hl 3 rfl) ?_
        refine pc_Vi (As := [.long v2]) (rest := [.ref k0]) ⟨hx, hb, hml, hown, hts⟩ (mX1_isInTable l D cI cJ k0 b1 b2 b3 b4 b5 b6 b7 b8 y v2 _) (cwV 1 hts gX1_depth_X1_isInTable rfl rfl rfl (by decide +kernel) ⟨Nat.le_of_ble_eq_true rfl, Nat.le_of_ble_eq_true rfl⟩) (wY_rc hW) wY_bl (wY_in hW hw) rfl hl.1 rfl (Nat.le_of_ble_eq_true rfl) dX1_depth_31 ⟨Nat.le_of_ble_eq_true rfl, Nat.le_of_ble_eq_true rfl⟩ (fun r8 hw => ?_)
        obtain ⟨z_r8, hw⟩ := hw
        refine lv_if_ne (tgt := 41) hx hb dX1_depth_34 (by decide) (fun c9 => ?_) (fun c9 => ?_)
        · have hw := hw.2 c9
          refine lv_iconst (v := 0) hx hb dX1_depth_41 (by decide) ?_
          refine va_put (D := D) (ci := 1) (v := .int 0) (ty := .int) (C := RX1) (T := TX1) (N := 12) hx hb hts hin tyX1 tyX1_ok nmX1 hown hK hP hD hS 0 rfl rfl 0 (by decide) (hts (.fieldLink RX1 36 "TideDepthsModel" "thrown" "I") (by decide +kernel)) (fun _ h9 => h9) rfl (by decide +kernel) rfl rfl (Nat.le_of_ble_eq_true rfl) dX1_depth_42 (fun H locs hP hD hS => ?_)
          have hP : va_P D cls2 (x1W cI cJ k0 b1 b2 b3 b4 b5 b6 b7 b8 (0, (yNT y), (yNO y), (yNP y), (yT y), (yH y), (yO y), (yD y), (yW y), (yB y), (yC y), (yQ y))) H := hP
          have hD : va_D A (x1W cI cJ k0 b1 b2 b3 b4 b5 b6 b7 b8 (0, (yNT y), (yNO y), (yNP y), (yT y), (yH y), (yO y), (yD y), (yW y), (yB y), (yC y), (yQ y))) := hD
          have hW : YW D cI cJ k0 b1 b2 b3 b4 b5 b6 b7 b8 (0, (yNT y), (yNO y), (yNP y), (yT y), (yH y), (yO y), (yD y), (yW y), (yB y), (yC y), (yQ y)) s H := ⟨hP, hK⟩
          refine lv_aload_n hx hb dX1_depth_45 rfl (lv_at hl 1 rfl) ?_
          refine va_get (D := D) (ci := 1) (v := .int 0) (C := RX1) (T := TX1) (N := 12) hx hb hts hin hown hK hP 0 rfl rfl 0 (by decide) (hts (.fieldLink RX1 36 "TideDepthsModel" "thrown" "I") (by decide +kernel)) (fun _ h9 => h9) rfl dX1_depth_46 ?_
          refine lv_if_le (tgt := 56) hx hb dX1_depth_49 (by decide) (fun c10 => ?_) (fun c10 => ?_)
          ·
            refine lv_aload_n hx hb dX1_depth_56 rfl (lv_at hl 1 rfl) ?_
            refine va_get (D := D) (ci := 1) (v := .ref b6) (C := RX1) (T := TX1) (N := 12) hx hb hts hin hown hK hP 0 rfl rfl 9 (by decide) (hts (.fieldLink RX1 26 "TideDepthsModel" "baseOf" "[J") (by decide +kernel)) (fun _ h9 => h9) rfl dX1_depth_57 ?_
            refine lv_iload_n hx hb dX1_depth_60 rfl (lv_at hl 2 rfl) ?_
            obtain ⟨h11, hw⟩ := hw
            refine va_lald hx hb hK hP 6 1 rfl rfl h11 dX1_depth_61 ?_
            refine lv_aload_n hx hb dX1_depth_62 rfl (lv_at hl 1 rfl) ?_
            refine lv_lload_n hx hb dX1_depth_63 rfl (lv_at hl 3 rfl) ?_
            refine lv_l2i (v := (v2).toInt32) hx hb dX1_depth_64 rfl ?_
            refine pc_Vl (As := [.int (v2).toInt32]) (rest := [.long ((yB y) (v1).toNatClampNeg)]) ⟨hx, hb, hml, hown, hts⟩ (mX1_heightAt l D cI cJ k0 b1 b2 b3 b4 b5 b6 b7 b8 (0, (yNT y), (yNO y), (yNP y), (yT y), (yH y), (yO y), (yD y), (yW y), (yB y), (yC y), (yQ y)) (v2).toInt32 _) (cwV 1 hts gX1_depth_X1_heightAt rfl rfl rfl (by decide +kernel) ⟨Nat.le_of_ble_eq_true rfl, Nat.le_of_ble_eq_true rfl⟩) (wY_rc hW) wY_bl (wY_in hW hw) rfl hl.1 rfl (Nat.le_of_ble_eq_true rfl) dX1_depth_65 ⟨Nat.le_of_ble_eq_true rfl, Nat.le_of_ble_eq_true rfl⟩ (fun r12 hw => ?_)
            refine lv_ladd hx hb dX1_depth_68 ?_
            exact W.lret (v := (((yB y) (v1).toNatClampNeg) + r12)) hx hb hr (fun t ht hWm => ⟨⟨(((yB y) (v1).toNatClampNeg) + r12), (0, (yNT y), (yNO y), (yNP y), (yT y), (yH y), (yO y), (yD y), (yW y), (yB y), (yC y), (yQ y)), rfl, hw, by rw [ht]; exact hP, va_K.moved hWm.alike hK, hD⟩, hS.F ht⟩) hS.2.2 dX1_depth_69
          · exact absurd (by decide) c10
        · have hw := hw.1 c9
          refine lv_iconst (v := 2) hx hb dX1_depth_37 (by decide) ?_
          refine lv_goto (tgt := 42) hx hb dX1_depth_38 (by decide) ?_
          refine va_put (D := D) (ci := 1) (v := .int 2) (ty := .int) (C := RX1) (T := TX1) (N := 12) hx hb hts hin tyX1 tyX1_ok nmX1 hown hK hP hD hS 0 rfl rfl 0 (by decide) (hts (.fieldLink RX1 36 "TideDepthsModel" "thrown" "I") (by decide +kernel)) (fun _ h9 => h9) rfl (by decide +kernel) rfl rfl (Nat.le_of_ble_eq_true rfl) dX1_depth_42 (fun H locs hP hD hS => ?_)
          have hP : va_P D cls2 (x1W cI cJ k0 b1 b2 b3 b4 b5 b6 b7 b8 (2, (yNT y), (yNO y), (yNP y), (yT y), (yH y), (yO y), (yD y), (yW y), (yB y), (yC y), (yQ y))) H := hP
          have hD : va_D A (x1W cI cJ k0 b1 b2 b3 b4 b5 b6 b7 b8 (2, (yNT y), (yNO y), (yNP y), (yT y), (yH y), (yO y), (yD y), (yW y), (yB y), (yC y), (yQ y))) := hD
          have hW : YW D cI cJ k0 b1 b2 b3 b4 b5 b6 b7 b8 (2, (yNT y), (yNO y), (yNP y), (yT y), (yH y), (yO y), (yD y), (yW y), (yB y), (yC y), (yQ y)) s H := ⟨hP, hK⟩
          refine lv_aload_n hx hb dX1_depth_45 rfl (lv_at hl 1 rfl) ?_
          refine va_get (D := D) (ci := 1) (v := .int 2) (C := RX1) (T := TX1) (N := 12) hx hb hts hin hown hK hP 0 rfl rfl 0 (by decide) (hts (.fieldLink RX1 36 "TideDepthsModel" "thrown" "I") (by decide +kernel)) (fun _ h9 => h9) rfl dX1_depth_46 ?_
          refine lv_if_le (tgt := 56) hx hb dX1_depth_49 (by decide) (fun c13 => ?_) (fun c13 => ?_)
          · exact absurd c13 (by decide)
          ·
            refine lv_lconst (v := 0) hx hb dX1_depth_52 (by decide) ?_
            refine lv_goto (tgt := 69) hx hb dX1_depth_53 (by decide) ?_
            exact W.lret (v := 0) hx hb hr (fun t ht hWm => ⟨⟨0, (2, (yNT y), (yNO y), (yNP y), (yT y), (yH y), (yO y), (yD y), (yW y), (yB y), (yC y), (yQ y)), rfl, hw, by rw [ht]; exact hP, va_K.moved hWm.alike hK, hD⟩, hS.F ht⟩) hS.2.2 dX1_depth_69
      · exact absurd c7 (by decide)

def wX1_sail_L148 (post : Int32 → YS → Prop) (y : YS) (v1 : Int64) (v3 : Int64) (v10 : Int32) : Nat → Int32 → Prop
  | 0, _ => False
  | n + 1, v9 => ((v10 ≤ v9 → (post v9 y)) ∧ (¬ v10 ≤ v9 → (wX1_maySail (fun r28 => ((r28 = 0 → (post v9 y)) ∧ (¬ r28 = 0 → (wX1_sail_L148 post y v1 v3 v10 n (v9 + 1))))) y (v9 + 1) v1 v3)))
def wX1_sail_L107 (post : Int32 → YS → Prop) (y : YS) (v1 : Int64) (v3 : Int64) (v7 : Int32) (v10 : Int32) : Nat → Int32 → Prop
  | 0, _ => False
  | n + 1, v9 => ((v10 < v9 → ((v9 ≤ v10 → ((v7 = 0 → (post v9 y)) ∧ (¬ v7 = 0 → (∃ n30 : Nat, wX1_sail_L148 post y v1 v3 v10 n30 v9)))) ∧ (¬ v9 ≤ v10 → (post (-1) y)))) ∧ (¬ v10 < v9 → (wX1_maySail (fun r31 => ((r31 = 0 → (wX1_sail_L107 post y v1 v3 v7 v10 n (v9 + 1))) ∧ (¬ r31 = 0 → ((v9 ≤ v10 → ((v7 = 0 → (post v9 y)) ∧ (¬ v7 = 0 → (∃ n35 : Nat, wX1_sail_L148 post y v1 v3 v10 n35 v9)))) ∧ (¬ v9 ≤ v10 → (post (-1) y)))))) y v9 v1 v3)))
def wX1_sail (post : Int32 → YS → Prop) (y : YS) (v1 : Int64) (v3 : Int64) (v5 : Int64) (v7 : Int32) : Prop := (wX1_isInTable (fun r1 => ((r1 = 0 → (post 0 (1, (yNT y), (yNO y), (yNP y), (yT y), (yH y), (yO y), (yD y), (yW y), (yB y), (yC y), (yQ y)))) ∧ (¬ r1 = 0 → (wX1_isHeight (fun r5 => ((r5 = 0 → (post 0 (1, (yNT y), (yNO y), (yNP y), (yT y), (yH y), (yO y), (yD y), (yW y), (yB y), (yC y), (yQ y)))) ∧ (¬ r5 = 0 → (wX1_in (fun r9 => ((r9 = 0 → (post 0 (1, (yNT y), (yNO y), (yNP y), (yT y), (yH y), (yO y), (yD y), (yW y), (yB y), (yC y), (yQ y)))) ∧ (¬ r9 = 0 → ((v7 < 0 → (post 0 (1, (yNT y), (yNO y), (yNP y), (yT y), (yH y), (yO y), (yD y), (yW y), (yB y), (yC y), (yQ y)))) ∧ (¬ v7 < 0 → ((2 ≤ v7 → (post 0 (1, (yNT y), (yNO y), (yNP y), (yT y), (yH y), (yO y), (yD y), (yW y), (yB y), (yC y), (yQ y)))) ∧ (¬ 2 ≤ v7 → (((yNP y) = 0 → (post 0 (2, (yNT y), (yNO y), (yNP y), (yT y), (yH y), (yO y), (yD y), (yW y), (yB y), (yC y), (yQ y)))) ∧ (¬ (yNP y) = 0 → ((v3 = 0 → (post 0 (3, (yNT y), (yNO y), (yNP y), (yT y), (yH y), (yO y), (yD y), (yW y), (yB y), (yC y), (yQ y)))) ∧ (¬ v3 = 0 → (vp_in ((yNT y) - 1) 40 ∧ (∃ n36 : Nat, wX1_sail_L107 post (0, (yNT y), (yNO y), (yNP y), (yT y), (yH y), (yO y), (yD y), (yW y), (yB y), (yC y), (yQ y)) v1 v3 v7 ((yT y) (((yNT y) - 1)).toNatClampNeg) n36 (v5).toInt32))))))))))))) v3 0 10000)))) v1)))) y v5)
set_option maxHeartbeats 4000000 in
set_option maxRecDepth 100000 in
theorem kX1_sail_L148 {p : Program} {l : Launch} {e : Env} {s : State} {m : MethodId} {args : Array Value} {below : List Frame} {meth : Method} {c : Code} {D : va_G} {cI cJ : ClassId} {k0 b1 b2 b3 b4 b5 b6 b7 b8 : Nat} {y : YS} {A : Nat → Prop} {H : Heap} {locs : List Loc} {post : Int32 → YS → Prop} (hx : p.tables.exec = Jvm.exec) (hb : c.code = cX1_sail) (hr : meth.sig.returnType = (some .int)) (hml : c.maxLocals = 11) (hown : s.vm.findClass RX1 = some m.cls) (hlocks : meth.locks = false) (hts : ∀ w ∈ wsX1_sail, w.before args s = true) (hin : ∀ w ∈ u_ws RX1 TX1 12, w ∈ wsX1_sail) (hW : YW D cI cJ k0 b1 b2 b3 b4 b5 b6 b7 b8 y s H) (hP : va_P D cls2 (x1W cI cJ k0 b1 b2 b3 b4 b5 b6 b7 b8 y) H) (hK : va_K D cls2 [(cI, .int), (cJ, .long)] s) (hD : va_D A (x1W cI cJ k0 b1 b2 b3 b4 b5 b6 b7 b8 y)) (hS : va_S A s.heap H locs) (v1 : Int64) (v3 : Int64) (v5 : Int64) (v7 : Int32) (v8 : Int32) (v10 : Int32) : ∀ (n : Nat) (v9 : Int32) (ls : Array Slot), lv_has ls 11 [(0, .ref k0), (1, .long v1), (3, .long v3), (5, .long v5), (7, .int v7), (8, .int v8), (9, .int v9), (10, .int v10)] → wX1_sail_L148 post y v1 v3 v10 n v9 → W p l e ({ frames := 4, cells := 0, slots := 0, locals := 110 } : Room) s m args below meth c H locs 0 0 (MQ below (va_Qi post (fun u9 t9 => YT D cI cJ k0 b1 b2 b3 b4 b5 b6 b7 b8 A u9 t9) A) args s 0 0 A) (F0 m 148 ls []) := by
  intro n
  induction n with
  | zero =>
    intro v9 ls hl hw
    exact hw.elim
  | succ n ih =>
    intro v9 ls hl hw
    rw [wX1_sail_L148] at hw
    refine lv_iload hx hb dX1_sail_148 (lv_at hl 6 rfl) ?_
    refine lv_iload hx hb dX1_sail_150 (lv_at hl 7 rfl) ?_
    refine lv_icmp_ge (tgt := 174) hx hb dX1_sail_152 (by decide) (fun c27 => ?_) (fun c27 => ?_)
    · have hw := hw.1 c27
      refine lv_iload hx hb dX1_sail_174 (lv_at hl 6 rfl) ?_
      exact W.iret (v := v9) hx hb hr (fun t ht hWm => ⟨⟨v9, y, rfl, hw, by rw [ht]; exact hP, va_K.moved hWm.alike hK, hD⟩, hS.F ht⟩) hS.2.2 dX1_sail_176
    · have hw := hw.2 c27
      refine lv_aload_n hx hb dX1_sail_155 rfl (lv_at hl 0 rfl) ?_
      refine lv_iload hx hb dX1_sail_156 (lv_at hl 6 rfl) ?_
      refine lv_iconst (v := 1) hx hb dX1_sail_158 (by decide) ?_
      refine lv_iadd hx hb dX1_sail_159 ?_
      refine lv_lload_n hx hb dX1_sail_160 rfl (lv_at hl 1 rfl) ?_
      refine lv_lload_n hx hb dX1_sail_161 rfl (lv_at hl 2 rfl) ?_
      refine pc_Vi (As := [.int (v9 + 1), .long v1, .long v3]) (rest := []) ⟨hx, hb, hml, hown, hts⟩ (mX1_maySail l D cI cJ k0 b1 b2 b3 b4 b5 b6 b7 b8 y (v9 + 1) v1 v3 _) (cwV 3 hts gX1_sail_X1_maySail rfl rfl rfl (by decide +kernel) ⟨Nat.le_of_ble_eq_true rfl, Nat.le_of_ble_eq_true rfl⟩) (wY_rc hW) wY_bl (wY_in hW hw) rfl hl.1 rfl (Nat.le_of_ble_eq_true rfl) dX1_sail_162 ⟨Nat.le_of_ble_eq_true rfl, Nat.le_of_ble_eq_true rfl⟩ (fun r28 hw => ?_)
      obtain ⟨z_r28, hw⟩ := hw
      refine lv_if_eq (tgt := 174) hx hb dX1_sail_165 (by decide) (fun c29 => ?_) (fun c29 => ?_)
      · have hw := hw.1 c29
        refine lv_iload hx hb dX1_sail_174 (lv_at hl 6 rfl) ?_
        exact W.iret (v := v9) hx hb hr (fun t ht hWm => ⟨⟨v9, y, rfl, hw, by rw [ht]; exact hP, va_K.moved hWm.alike hK, hD⟩, hS.F ht⟩) hS.2.2 dX1_sail_176
      · have hw := hw.2 c29
        refine lv_iinc (v := (v9 + 1)) (lv' := [(9, .int (v9 + 1)), (0, .ref k0), (1, .long v1), (3, .long v3), (5, .long v5), (7, .int v7), (8, .int v8), (10, .int v10)]) hx hb dX1_sail_168 hl (k := 6) rfl (by first | rfl | exact congrArg (fun z => v9 + z) (by decide)) (by decide) rfl (fun ls hl => ?_)
        refine lv_goto (tgt := 148) hx hb dX1_sail_171 (by decide) ?_
        exact ih (v9 + 1) ls (lv_sub hl [1, 2, 3, 4, 5, 6, 0, 7] rfl) hw
set_option maxHeartbeats 4000000 in
set_option maxRecDepth 100000 in
theorem kX1_sail_L107 {p : Program} {l : Launch} {e : Env} {s : State} {m : MethodId} {args : Array Value} {below : List Frame} {meth : Method} {c : Code} {D : va_G} {cI cJ : ClassId} {k0 b1 b2 b3 b4 b5 b6 b7 b8 : Nat} {y : YS} {A : Nat → Prop} {H : Heap} {locs : List Loc} {post : Int32 → YS → Prop} (hx : p.tables.exec = Jvm.exec) (hb : c.code = cX1_sail) (hr : meth.sig.returnType = (some .int)) (hml : c.maxLocals = 11) (hown : s.vm.findClass RX1 = some m.cls) (hlocks : meth.locks = false) (hts : ∀ w ∈ wsX1_sail, w.before args s = true) (hin : ∀ w ∈ u_ws RX1 TX1 12, w ∈ wsX1_sail) (hW : YW D cI cJ k0 b1 b2 b3 b4 b5 b6 b7 b8 y s H) (hP : va_P D cls2 (x1W cI cJ k0 b1 b2 b3 b4 b5 b6 b7 b8 y) H) (hK : va_K D cls2 [(cI, .int), (cJ, .long)] s) (hD : va_D A (x1W cI cJ k0 b1 b2 b3 b4 b5 b6 b7 b8 y)) (hS : va_S A s.heap H locs) (v1 : Int64) (v3 : Int64) (v5 : Int64) (v7 : Int32) (v8 : Int32) (v10 : Int32) : ∀ (n : Nat) (v9 : Int32) (ls : Array Slot), lv_has ls 11 [(0, .ref k0), (1, .long v1), (3, .long v3), (5, .long v5), (7, .int v7), (8, .int v8), (9, .int v9), (10, .int v10)] → wX1_sail_L107 post y v1 v3 v7 v10 n v9 → W p l e ({ frames := 4, cells := 0, slots := 0, locals := 110 } : Room) s m args below meth c H locs 0 0 (MQ below (va_Qi post (fun u9 t9 => YT D cI cJ k0 b1 b2 b3 b4 b5 b6 b7 b8 A u9 t9) A) args s 0 0 A) (F0 m 107 ls []) := by
  intro n
  induction n with
  | zero =>
    intro v9 ls hl hw
    exact hw.elim
  | succ n ih =>
    intro v9 ls hl hw
    rw [wX1_sail_L107] at hw
    refine lv_iload hx hb dX1_sail_107 (lv_at hl 6 rfl) ?_
    refine lv_iload hx hb dX1_sail_109 (lv_at hl 7 rfl) ?_
    refine lv_icmp_gt (tgt := 131) hx hb dX1_sail_111 (by decide) (fun c24 => ?_) (fun c24 => ?_)
    · have hw := hw.1 c24
      refine lv_iload hx hb dX1_sail_131 (lv_at hl 6 rfl) ?_
      refine lv_iload hx hb dX1_sail_133 (lv_at hl 7 rfl) ?_
      refine lv_icmp_le (tgt := 140) hx hb dX1_sail_135 (by decide) (fun c25 => ?_) (fun c25 => ?_)
      · have hw := hw.1 c25
        refine lv_iload hx hb dX1_sail_140 (lv_at hl 4 rfl) ?_
        refine lv_if_ne (tgt := 148) hx hb dX1_sail_142 (by decide) (fun c26 => ?_) (fun c26 => ?_)
        · have hw := hw.2 c26
          obtain ⟨n30, hw⟩ := hw
          exact kX1_sail_L148 hx hb hr hml hown hlocks hts hin hW hP hK hD hS v1 v3 v5 v7 v8 v10 n30 v9 ls (lv_sub hl [0, 1, 2, 3, 4, 5, 6, 7] rfl) hw
        · have hw := hw.1 c26
          refine lv_iload hx hb dX1_sail_145 (lv_at hl 6 rfl) ?_
          exact W.iret (v := v9) hx hb hr (fun t ht hWm => ⟨⟨v9, y, rfl, hw, by rw [ht]; exact hP, va_K.moved hWm.alike hK, hD⟩, hS.F ht⟩) hS.2.2 dX1_sail_147
      · have hw := hw.2 c25
        refine lv_iconst (v := (-1)) hx hb dX1_sail_138 (by decide) ?_
        exact W.iret (v := (-1)) hx hb hr (fun t ht hWm => ⟨⟨(-1), y, rfl, hw, by rw [ht]; exact hP, va_K.moved hWm.alike hK, hD⟩, hS.F ht⟩) hS.2.2 dX1_sail_139
    · have hw := hw.2 c24
      refine lv_aload_n hx hb dX1_sail_114 rfl (lv_at hl 0 rfl) ?_
      refine lv_iload hx hb dX1_sail_115 (lv_at hl 6 rfl) ?_
      refine lv_lload_n hx hb dX1_sail_117 rfl (lv_at hl 1 rfl) ?_
      refine lv_lload_n hx hb dX1_sail_118 rfl (lv_at hl 2 rfl) ?_
      refine pc_Vi (As := [.int v9, .long v1, .long v3]) (rest := []) ⟨hx, hb, hml, hown, hts⟩ (mX1_maySail l D cI cJ k0 b1 b2 b3 b4 b5 b6 b7 b8 y v9 v1 v3 _) (cwV 3 hts gX1_sail_X1_maySail rfl rfl rfl (by decide +kernel) ⟨Nat.le_of_ble_eq_true rfl, Nat.le_of_ble_eq_true rfl⟩) (wY_rc hW) wY_bl (wY_in hW hw) rfl hl.1 rfl (Nat.le_of_ble_eq_true rfl) dX1_sail_119 ⟨Nat.le_of_ble_eq_true rfl, Nat.le_of_ble_eq_true rfl⟩ (fun r31 hw => ?_)
      obtain ⟨z_r31, hw⟩ := hw
      refine lv_if_ne (tgt := 131) hx hb dX1_sail_122 (by decide) (fun c32 => ?_) (fun c32 => ?_)
      · have hw := hw.2 c32
        refine lv_iload hx hb dX1_sail_131 (lv_at hl 6 rfl) ?_
        refine lv_iload hx hb dX1_sail_133 (lv_at hl 7 rfl) ?_
        refine lv_icmp_le (tgt := 140) hx hb dX1_sail_135 (by decide) (fun c33 => ?_) (fun c33 => ?_)
        · have hw := hw.1 c33
          refine lv_iload hx hb dX1_sail_140 (lv_at hl 4 rfl) ?_
          refine lv_if_ne (tgt := 148) hx hb dX1_sail_142 (by decide) (fun c34 => ?_) (fun c34 => ?_)
          · have hw := hw.2 c34
            obtain ⟨n35, hw⟩ := hw
            exact kX1_sail_L148 hx hb hr hml hown hlocks hts hin hW hP hK hD hS v1 v3 v5 v7 v8 v10 n35 v9 ls (lv_sub hl [0, 1, 2, 3, 4, 5, 6, 7] rfl) hw
          · have hw := hw.1 c34
            refine lv_iload hx hb dX1_sail_145 (lv_at hl 6 rfl) ?_
            exact W.iret (v := v9) hx hb hr (fun t ht hWm => ⟨⟨v9, y, rfl, hw, by rw [ht]; exact hP, va_K.moved hWm.alike hK, hD⟩, hS.F ht⟩) hS.2.2 dX1_sail_147
        · have hw := hw.2 c33
          refine lv_iconst (v := (-1)) hx hb dX1_sail_138 (by decide) ?_
          exact W.iret (v := (-1)) hx hb hr (fun t ht hWm => ⟨⟨(-1), y, rfl, hw, by rw [ht]; exact hP, va_K.moved hWm.alike hK, hD⟩, hS.F ht⟩) hS.2.2 dX1_sail_139
      · have hw := hw.1 c32
        refine lv_iinc (v := (v9 + 1)) (lv' := [(9, .int (v9 + 1)), (0, .ref k0), (1, .long v1), (3, .long v3), (5, .long v5), (7, .int v7), (8, .int v8), (10, .int v10)]) hx hb dX1_sail_125 hl (k := 6) rfl (by first | rfl | exact congrArg (fun z => v9 + z) (by decide)) (by decide) rfl (fun ls hl => ?_)
        refine lv_goto (tgt := 107) hx hb dX1_sail_128 (by decide) ?_
        exact ih (v9 + 1) ls (lv_sub hl [1, 2, 3, 4, 5, 6, 0, 7] rfl) hw
set_option maxHeartbeats 4000000 in
set_option maxRecDepth 100000 in
theorem mX1_sail (l : Launch) (D : va_G) (cI cJ : ClassId) (k0 b1 b2 b3 b4 b5 b6 b7 b8 sz : Nat) (y : YS) (v1 : Int64) (v3 : Int64) (v5 : Int64) (v7 : Int32) (post : Int32 → YS → Prop) : Met l yX1_sail wsX1_sail ({ frames := 4, cells := 0, slots := 0, locals := 110 } : Room) (va_Pc [.ref k0, .long v1, .long v3, .long v5, .int v7] (fun U => YE D cI cJ k0 b1 b2 b3 b4 b5 b6 b7 b8 sz y U ∧ wX1_sail post y v1 v3 v5 v7)) (va_Qi post (fun u9 t9 => YT D cI cJ k0 b1 b2 b3 b4 b5 b6 b7 b8 (va_A (x1W cI cJ k0 b1 b2 b3 b4 b5 b6 b7 b8 y) sz) u9 t9) (va_A (x1W cI cJ k0 b1 b2 b3 b4 b5 b6 b7 b8 y) sz)) 0 0 (va_A (x1W cI cJ k0 b1 b2 b3 b4 b5 b6 b7 b8 y) sz) := by
  refine Met.ofW (cc := cX1_sail) (maxL := 11) (ret := (some .int)) (by decide +kernel) rfl ?_
  intro p e s m args below meth c s₁ B hml hv
  obtain ⟨rfl, ⟨hsz, hP, hK, hD0⟩, hw⟩ := hv
  have hx := B.exec
  have hb := B.bytes
  have hr := B.returns
  have hts := atoms_spec (ws := wsX1_sail) B.pre
  have hown : s.vm.findClass RX1 = some m.cls := findClass_of_methodNamed B.named
  have hlocks := B.notSynchronized
  have hin : ∀ w ∈ u_ws RX1 TX1 12, w ∈ wsX1_sail := by decide +kernel
  subst hsz
  have hD := hD0.self (sz := s.heap.size)
  generalize hAe : va_A (x1W cI cJ k0 b1 b2 b3 b4 b5 b6 b7 b8 y) s.heap.size = A at hD ⊢
  have hS : va_S A s.heap s.heap [] := va_S.rf
  have hW : YW D cI cJ k0 b1 b2 b3 b4 b5 b6 b7 b8 y s s.heap := ⟨hP, hK⟩
  have hl := lv_entry ([.ref k0, .long v1, .long v3, .long v5, .int v7]) (n := 11) (Nat.le_of_ble_eq_true rfl)
  rw [lg_entry_eq]
  generalize (lg_sl ([.ref k0, .long v1, .long v3, .long v5, .int v7]) ++ List.replicate (11 - (lg_sl ([.ref k0, .long v1, .long v3, .long v5, .int v7])).length) Slot.unset).toArray = ls at hl ⊢
  have hl : lv_has ls 11 [(0, .ref k0), (1, .long v1), (3, .long v3), (5, .long v5), (7, .int v7)] := hl
  unfold wX1_sail at hw
  refine lv_aload_n hx hb dX1_sail_0 rfl (lv_at hl 0 rfl) ?_
  refine lv_lload hx hb dX1_sail_1 (lv_at hl 3 rfl) ?_
  refine pc_Vi (As := [.long v5]) (rest := []) ⟨hx, hb, hml, hown, hts⟩ (mX1_isInTable l D cI cJ k0 b1 b2 b3 b4 b5 b6 b7 b8 y v5 _) (cwV 1 hts gX1_sail_X1_isInTable rfl rfl rfl (by decide +kernel) ⟨Nat.le_of_ble_eq_true rfl, Nat.le_of_ble_eq_true rfl⟩) (wY_rc hW) wY_bl (wY_in hW hw) rfl hl.1 rfl (Nat.le_of_ble_eq_true rfl) dX1_sail_3 ⟨Nat.le_of_ble_eq_true rfl, Nat.le_of_ble_eq_true rfl⟩ (fun r1 hw => ?_)
  obtain ⟨z_r1, hw⟩ := hw
  refine lv_if_eq (tgt := 42) hx hb dX1_sail_6 (by decide) (fun c2 => ?_) (fun c2 => ?_)
  · have hw := hw.1 c2
    refine lv_iconst (v := 0) hx hb dX1_sail_42 (by decide) ?_
    refine lv_istore (lv' := [(8, .int 0), (0, .ref k0), (1, .long v1), (3, .long v3), (5, .long v5), (7, .int v7)]) hx hb dX1_sail_43 hl (by decide) rfl (fun ls hl => ?_)
    refine lv_aload_n hx hb dX1_sail_45 rfl (lv_at hl 1 rfl) ?_
    refine lv_iload hx hb dX1_sail_46 (lv_at hl 0 rfl) ?_
    refine lv_if_ne (tgt := 55) hx hb dX1_sail_48 (by decide) (fun c3 => ?_) (fun c3 => ?_)
    · exact absurd (by decide) c3
    ·
      refine lv_iconst (v := 1) hx hb dX1_sail_51 (by decide) ?_
      refine lv_goto (tgt := 77) hx hb dX1_sail_52 (by decide) ?_
      refine va_put (D := D) (ci := 1) (v := .int 1) (ty := .int) (C := RX1) (T := TX1) (N := 12) hx hb hts hin tyX1 tyX1_ok nmX1 hown hK hP hD hS 0 rfl rfl 0 (by decide) (hts (.fieldLink RX1 36 "TideDepthsModel" "thrown" "I") (by decide +kernel)) (fun _ h9 => h9) rfl (by decide +kernel) rfl rfl (Nat.le_of_ble_eq_true rfl) dX1_sail_77 (fun H locs hP hD hS => ?_)
      have hP : va_P D cls2 (x1W cI cJ k0 b1 b2 b3 b4 b5 b6 b7 b8 (1, (yNT y), (yNO y), (yNP y), (yT y), (yH y), (yO y), (yD y), (yW y), (yB y), (yC y), (yQ y))) H := hP
      have hD : va_D A (x1W cI cJ k0 b1 b2 b3 b4 b5 b6 b7 b8 (1, (yNT y), (yNO y), (yNP y), (yT y), (yH y), (yO y), (yD y), (yW y), (yB y), (yC y), (yQ y))) := hD
      have hW : YW D cI cJ k0 b1 b2 b3 b4 b5 b6 b7 b8 (1, (yNT y), (yNO y), (yNP y), (yT y), (yH y), (yO y), (yD y), (yW y), (yB y), (yC y), (yQ y)) s H := ⟨hP, hK⟩
      refine lv_aload_n hx hb dX1_sail_80 rfl (lv_at hl 1 rfl) ?_
      refine va_get (D := D) (ci := 1) (v := .int 1) (C := RX1) (T := TX1) (N := 12) hx hb hts hin hown hK hP 0 rfl rfl 0 (by decide) (hts (.fieldLink RX1 36 "TideDepthsModel" "thrown" "I") (by decide +kernel)) (fun _ h9 => h9) rfl dX1_sail_81 ?_
      refine lv_if_le (tgt := 89) hx hb dX1_sail_84 (by decide) (fun c4 => ?_) (fun c4 => ?_)
      · exact absurd c4 (by decide)
      ·
        refine lv_iconst (v := 0) hx hb dX1_sail_87 (by decide) ?_
        exact W.iret (v := 0) hx hb hr (fun t ht hWm => ⟨⟨0, (1, (yNT y), (yNO y), (yNP y), (yT y), (yH y), (yO y), (yD y), (yW y), (yB y), (yC y), (yQ y)), rfl, hw, by rw [ht]; exact hP, va_K.moved hWm.alike hK, hD⟩, hS.F ht⟩) hS.2.2 dX1_sail_88
  · have hw := hw.2 c2
    refine lv_lload_n hx hb dX1_sail_9 rfl (lv_at hl 1 rfl) ?_
    refine pc_Si (As := [.long v1]) (rest := []) ⟨hx, hb, hml, hown, hts⟩ (mX1_isHeight l v1 _) (va_cwS 1 hts gX1_sail_X1_isHeight rfl rfl rfl (by decide +kernel) ⟨Nat.le_of_ble_eq_true rfl, Nat.le_of_ble_eq_true rfl⟩) wK_bl (fun _ _ _ => hw) rfl hl.1 rfl (Nat.le_of_ble_eq_true rfl) dX1_sail_10 ⟨Nat.le_of_ble_eq_true rfl, Nat.le_of_ble_eq_true rfl⟩ (fun r5 hw => ?_)
    obtain ⟨z_r5, hw⟩ := hw
    refine lv_if_eq (tgt := 42) hx hb dX1_sail_13 (by decide) (fun c6 => ?_) (fun c6 => ?_)
    · have hw := hw.1 c6
      refine lv_iconst (v := 0) hx hb dX1_sail_42 (by decide) ?_
      refine lv_istore (lv' := [(8, .int 0), (0, .ref k0), (1, .long v1), (3, .long v3), (5, .long v5), (7, .int v7)]) hx hb dX1_sail_43 hl (by decide) rfl (fun ls hl => ?_)
      refine lv_aload_n hx hb dX1_sail_45 rfl (lv_at hl 1 rfl) ?_
      refine lv_iload hx hb dX1_sail_46 (lv_at hl 0 rfl) ?_
      refine lv_if_ne (tgt := 55) hx hb dX1_sail_48 (by decide) (fun c7 => ?_) (fun c7 => ?_)
      · exact absurd (by decide) c7
      ·
        refine lv_iconst (v := 1) hx hb dX1_sail_51 (by decide) ?_
        refine lv_goto (tgt := 77) hx hb dX1_sail_52 (by decide) ?_
        refine va_put (D := D) (ci := 1) (v := .int 1) (ty := .int) (C := RX1) (T := TX1) (N := 12) hx hb hts hin tyX1 tyX1_ok nmX1 hown hK hP hD hS 0 rfl rfl 0 (by decide) (hts (.fieldLink RX1 36 "TideDepthsModel" "thrown" "I") (by decide +kernel)) (fun _ h9 => h9) rfl (by decide +kernel) rfl rfl (Nat.le_of_ble_eq_true rfl) dX1_sail_77 (fun H locs hP hD hS => ?_)
        have hP : va_P D cls2 (x1W cI cJ k0 b1 b2 b3 b4 b5 b6 b7 b8 (1, (yNT y), (yNO y), (yNP y), (yT y), (yH y), (yO y), (yD y), (yW y), (yB y), (yC y), (yQ y))) H := hP
        have hD : va_D A (x1W cI cJ k0 b1 b2 b3 b4 b5 b6 b7 b8 (1, (yNT y), (yNO y), (yNP y), (yT y), (yH y), (yO y), (yD y), (yW y), (yB y), (yC y), (yQ y))) := hD
        have hW : YW D cI cJ k0 b1 b2 b3 b4 b5 b6 b7 b8 (1, (yNT y), (yNO y), (yNP y), (yT y), (yH y), (yO y), (yD y), (yW y), (yB y), (yC y), (yQ y)) s H := ⟨hP, hK⟩
        refine lv_aload_n hx hb dX1_sail_80 rfl (lv_at hl 1 rfl) ?_
        refine va_get (D := D) (ci := 1) (v := .int 1) (C := RX1) (T := TX1) (N := 12) hx hb hts hin hown hK hP 0 rfl rfl 0 (by decide) (hts (.fieldLink RX1 36 "TideDepthsModel" "thrown" "I") (by decide +kernel)) (fun _ h9 => h9) rfl dX1_sail_81 ?_
        refine lv_if_le (tgt := 89) hx hb dX1_sail_84 (by decide) (fun c8 => ?_) (fun c8 => ?_)
        · exact absurd c8 (by decide)
        ·
          refine lv_iconst (v := 0) hx hb dX1_sail_87 (by decide) ?_
          exact W.iret (v := 0) hx hb hr (fun t ht hWm => ⟨⟨0, (1, (yNT y), (yNO y), (yNP y), (yT y), (yH y), (yO y), (yD y), (yW y), (yB y), (yC y), (yQ y)), rfl, hw, by rw [ht]; exact hP, va_K.moved hWm.alike hK, hD⟩, hS.F ht⟩) hS.2.2 dX1_sail_88
    · have hw := hw.2 c6
      refine lv_lload_n hx hb dX1_sail_16 rfl (lv_at hl 2 rfl) ?_
      refine lv_lconst (v := 0) hx hb dX1_sail_17 (by decide) ?_
      refine lv_ldc2 (v := 10000) hx hb hown (hts (.constantLong RX1 89 (10000)) (by decide +kernel)) dX1_sail_18 ?_
      refine pc_Si (As := [.long v3, .long 0, .long 10000]) (rest := []) ⟨hx, hb, hml, hown, hts⟩ (mX1_in l v3 0 10000 _) (va_cwS 3 hts gX1_sail_X1_in rfl rfl rfl (by decide +kernel) ⟨Nat.le_of_ble_eq_true rfl, Nat.le_of_ble_eq_true rfl⟩) wK_bl (fun _ _ _ => hw) rfl hl.1 rfl (Nat.le_of_ble_eq_true rfl) dX1_sail_21 ⟨Nat.le_of_ble_eq_true rfl, Nat.le_of_ble_eq_true rfl⟩ (fun r9 hw => ?_)
      obtain ⟨z_r9, hw⟩ := hw
      refine lv_if_eq (tgt := 42) hx hb dX1_sail_24 (by decide) (fun c10 => ?_) (fun c10 => ?_)
      · have hw := hw.1 c10
        refine lv_iconst (v := 0) hx hb dX1_sail_42 (by decide) ?_
        refine lv_istore (lv' := [(8, .int 0), (0, .ref k0), (1, .long v1), (3, .long v3), (5, .long v5), (7, .int v7)]) hx hb dX1_sail_43 hl (by decide) rfl (fun ls hl => ?_)
        refine lv_aload_n hx hb dX1_sail_45 rfl (lv_at hl 1 rfl) ?_
        refine lv_iload hx hb dX1_sail_46 (lv_at hl 0 rfl) ?_
        refine lv_if_ne (tgt := 55) hx hb dX1_sail_48 (by decide) (fun c11 => ?_) (fun c11 => ?_)
        · exact absurd (by decide) c11
        ·
          refine lv_iconst (v := 1) hx hb dX1_sail_51 (by decide) ?_
          refine lv_goto (tgt := 77) hx hb dX1_sail_52 (by decide) ?_
          refine va_put (D := D) (ci := 1) (v := .int 1) (ty := .int) (C := RX1) (T := TX1) (N := 12) hx hb hts hin tyX1 tyX1_ok nmX1 hown hK hP hD hS 0 rfl rfl 0 (by decide) (hts (.fieldLink RX1 36 "TideDepthsModel" "thrown" "I") (by decide +kernel)) (fun _ h9 => h9) rfl (by decide +kernel) rfl rfl (Nat.le_of_ble_eq_true rfl) dX1_sail_77 (fun H locs hP hD hS => ?_)
          have hP : va_P D cls2 (x1W cI cJ k0 b1 b2 b3 b4 b5 b6 b7 b8 (1, (yNT y), (yNO y), (yNP y), (yT y), (yH y), (yO y), (yD y), (yW y), (yB y), (yC y), (yQ y))) H := hP
          have hD : va_D A (x1W cI cJ k0 b1 b2 b3 b4 b5 b6 b7 b8 (1, (yNT y), (yNO y), (yNP y), (yT y), (yH y), (yO y), (yD y), (yW y), (yB y), (yC y), (yQ y))) := hD
          have hW : YW D cI cJ k0 b1 b2 b3 b4 b5 b6 b7 b8 (1, (yNT y), (yNO y), (yNP y), (yT y), (yH y), (yO y), (yD y), (yW y), (yB y), (yC y), (yQ y)) s H := ⟨hP, hK⟩
          refine lv_aload_n hx hb dX1_sail_80 rfl (lv_at hl 1 rfl) ?_
          refine va_get (D := D) (ci := 1) (v := .int 1) (C := RX1) (T := TX1) (N := 12) hx hb hts hin hown hK hP 0 rfl rfl 0 (by decide) (hts (.fieldLink RX1 36 "TideDepthsModel" "thrown" "I") (by decide +kernel)) (fun _ h9 => h9) rfl dX1_sail_81 ?_
          refine lv_if_le (tgt := 89) hx hb dX1_sail_84 (by decide) (fun c12 => ?_) (fun c12 => ?_)
          · exact absurd c12 (by decide)
          ·
            refine lv_iconst (v := 0) hx hb dX1_sail_87 (by decide) ?_
            exact W.iret (v := 0) hx hb hr (fun t ht hWm => ⟨⟨0, (1, (yNT y), (yNO y), (yNP y), (yT y), (yH y), (yO y), (yD y), (yW y), (yB y), (yC y), (yQ y)), rfl, hw, by rw [ht]; exact hP, va_K.moved hWm.alike hK, hD⟩, hS.F ht⟩) hS.2.2 dX1_sail_88
      · have hw := hw.2 c10
        refine lv_iload hx hb dX1_sail_27 (lv_at hl 4 rfl) ?_
        refine lv_if_lt (tgt := 42) hx hb dX1_sail_29 (by decide) (fun c13 => ?_) (fun c13 => ?_)
        · have hw := hw.1 c13
          refine lv_iconst (v := 0) hx hb dX1_sail_42 (by decide) ?_
          refine lv_istore (lv' := [(8, .int 0), (0, .ref k0), (1, .long v1), (3, .long v3), (5, .long v5), (7, .int v7)]) hx hb dX1_sail_43 hl (by decide) rfl (fun ls hl => ?_)
          refine lv_aload_n hx hb dX1_sail_45 rfl (lv_at hl 1 rfl) ?_
          refine lv_iload hx hb dX1_sail_46 (lv_at hl 0 rfl) ?_
          refine lv_if_ne (tgt := 55) hx hb dX1_sail_48 (by decide) (fun c14 => ?_) (fun c14 => ?_)
          · exact absurd (by decide) c14
          ·
            refine lv_iconst (v := 1) hx hb dX1_sail_51 (by decide) ?_
            refine lv_goto (tgt := 77) hx hb dX1_sail_52 (by decide) ?_
            refine va_put (D := D) (ci := 1) (v := .int 1) (ty := .int) (C := RX1) (T := TX1) (N := 12) hx hb hts hin tyX1 tyX1_ok nmX1 hown hK hP hD hS 0 rfl rfl 0 (by decide) (hts (.fieldLink RX1 36 "TideDepthsModel" "thrown" "I") (by decide +kernel)) (fun _ h9 => h9) rfl (by decide +kernel) rfl rfl (Nat.le_of_ble_eq_true rfl) dX1_sail_77 (fun H locs hP hD hS => ?_)
            have hP : va_P D cls2 (x1W cI cJ k0 b1 b2 b3 b4 b5 b6 b7 b8 (1, (yNT y), (yNO y), (yNP y), (yT y), (yH y), (yO y), (yD y), (yW y), (yB y), (yC y), (yQ y))) H := hP
            have hD : va_D A (x1W cI cJ k0 b1 b2 b3 b4 b5 b6 b7 b8 (1, (yNT y), (yNO y), (yNP y), (yT y), (yH y), (yO y), (yD y), (yW y), (yB y), (yC y), (yQ y))) := hD
            have hW : YW D cI cJ k0 b1 b2 b3 b4 b5 b6 b7 b8 (1, (yNT y), (yNO y), (yNP y), (yT y), (yH y), (yO y), (yD y), (yW y), (yB y), (yC y), (yQ y)) s H := ⟨hP, hK⟩
            refine lv_aload_n hx hb dX1_sail_80 rfl (lv_at hl 1 rfl) ?_
            refine va_get (D := D) (ci := 1) (v := .int 1) (C := RX1) (T := TX1) (N := 12) hx hb hts hin hown hK hP 0 rfl rfl 0 (by decide) (hts (.fieldLink RX1 36 "TideDepthsModel" "thrown" "I") (by decide +kernel)) (fun _ h9 => h9) rfl dX1_sail_81 ?_
            refine lv_if_le (tgt := 89) hx hb dX1_sail_84 (by decide) (fun c15 => ?_) (fun c15 => ?_)
            · exact absurd c15 (by decide)
            ·
              refine lv_iconst (v := 0) hx hb dX1_sail_87 (by decide) ?_
              exact W.iret (v := 0) hx hb hr (fun t ht hWm => ⟨⟨0, (1, (yNT y), (yNO y), (yNP y), (yT y), (yH y), (yO y), (yD y), (yW y), (yB y), (yC y), (yQ y)), rfl, hw, by rw [ht]; exact hP, va_K.moved hWm.alike hK, hD⟩, hS.F ht⟩) hS.2.2 dX1_sail_88
        · have hw := hw.2 c13
          refine lv_iload hx hb dX1_sail_32 (lv_at hl 4 rfl) ?_
          refine lv_iconst (v := 2) hx hb dX1_sail_34 (by decide) ?_
          refine lv_icmp_ge (tgt := 42) hx hb dX1_sail_35 (by decide) (fun c16 => ?_) (fun c16 => ?_)
          · have hw := hw.1 c16
            refine lv_iconst (v := 0) hx hb dX1_sail_42 (by decide) ?_
            refine lv_istore (lv' := [(8, .int 0), (0, .ref k0), (1, .long v1), (3, .long v3), (5, .long v5), (7, .int v7)]) hx hb dX1_sail_43 hl (by decide) rfl (fun ls hl => ?_)
            refine lv_aload_n hx hb dX1_sail_45 rfl (lv_at hl 1 rfl) ?_
            refine lv_iload hx hb dX1_sail_46 (lv_at hl 0 rfl) ?_
            refine lv_if_ne (tgt := 55) hx hb dX1_sail_48 (by decide) (fun c17 => ?_) (fun c17 => ?_)
            · exact absurd (by decide) c17
            ·
              refine lv_iconst (v := 1) hx hb dX1_sail_51 (by decide) ?_
              refine lv_goto (tgt := 77) hx hb dX1_sail_52 (by decide) ?_
              refine va_put (D := D) (ci := 1) (v := .int 1) (ty := .int) (C := RX1) (T := TX1) (N := 12) hx hb hts hin tyX1 tyX1_ok nmX1 hown hK hP hD hS 0 rfl rfl 0 (by decide) (hts (.fieldLink RX1 36 "TideDepthsModel" "thrown" "I") (by decide +kernel)) (fun _ h9 => h9) rfl (by decide +kernel) rfl rfl (Nat.le_of_ble_eq_true rfl) dX1_sail_77 (fun H locs hP hD hS => ?_)
              have hP : va_P D cls2 (x1W cI cJ k0 b1 b2 b3 b4 b5 b6 b7 b8 (1, (yNT y), (yNO y), (yNP y), (yT y), (yH y), (yO y), (yD y), (yW y), (yB y), (yC y), (yQ y))) H := hP
              have hD : va_D A (x1W cI cJ k0 b1 b2 b3 b4 b5 b6 b7 b8 (1, (yNT y), (yNO y), (yNP y), (yT y), (yH y), (yO y), (yD y), (yW y), (yB y), (yC y), (yQ y))) := hD
              have hW : YW D cI cJ k0 b1 b2 b3 b4 b5 b6 b7 b8 (1, (yNT y), (yNO y), (yNP y), (yT y), (yH y), (yO y), (yD y), (yW y), (yB y), (yC y), (yQ y)) s H := ⟨hP, hK⟩
              refine lv_aload_n hx hb dX1_sail_80 rfl (lv_at hl 1 rfl) ?_
              refine va_get (D := D) (ci := 1) (v := .int 1) (C := RX1) (T := TX1) (N := 12) hx hb hts hin hown hK hP 0 rfl rfl 0 (by decide) (hts (.fieldLink RX1 36 "TideDepthsModel" "thrown" "I") (by decide +kernel)) (fun _ h9 => h9) rfl dX1_sail_81 ?_
              refine lv_if_le (tgt := 89) hx hb dX1_sail_84 (by decide) (fun c18 => ?_) (fun c18 => ?_)
              · exact absurd c18 (by decide)
              ·
                refine lv_iconst (v := 0) hx hb dX1_sail_87 (by decide) ?_
                exact W.iret (v := 0) hx hb hr (fun t ht hWm => ⟨⟨0, (1, (yNT y), (yNO y), (yNP y), (yT y), (yH y), (yO y), (yD y), (yW y), (yB y), (yC y), (yQ y)), rfl, hw, by rw [ht]; exact hP, va_K.moved hWm.alike hK, hD⟩, hS.F ht⟩) hS.2.2 dX1_sail_88
          · have hw := hw.2 c16
            refine lv_iconst (v := 1) hx hb dX1_sail_38 (by decide) ?_
            refine lv_goto (tgt := 43) hx hb dX1_sail_39 (by decide) ?_
            refine lv_istore (lv' := [(8, .int 1), (0, .ref k0), (1, .long v1), (3, .long v3), (5, .long v5), (7, .int v7)]) hx hb dX1_sail_43 hl (by decide) rfl (fun ls hl => ?_)
            refine lv_aload_n hx hb dX1_sail_45 rfl (lv_at hl 1 rfl) ?_
            refine lv_iload hx hb dX1_sail_46 (lv_at hl 0 rfl) ?_
            refine lv_if_ne (tgt := 55) hx hb dX1_sail_48 (by decide) (fun c19 => ?_) (fun c19 => ?_)
            ·
              refine lv_aload_n hx hb dX1_sail_55 rfl (lv_at hl 1 rfl) ?_
              refine va_get (D := D) (ci := 1) (v := .int (yNP y)) (C := RX1) (T := TX1) (N := 12) hx hb hts hin hown hK hP 0 rfl rfl 3 (by decide) (hts (.fieldLink RX1 102 "TideDepthsModel" "places" "I") (by decide +kernel)) (fun _ h9 => h9) rfl dX1_sail_56 ?_
              refine lv_if_ne (tgt := 66) hx hb dX1_sail_59 (by decide) (fun c20 => ?_) (fun c20 => ?_)
              · have hw := hw.2 c20
                refine lv_lload_n hx hb dX1_sail_66 rfl (lv_at hl 3 rfl) ?_
                refine lv_lconst (v := 0) hx hb dX1_sail_67 (by decide) ?_
                refine bl_ne (tgt := 76) hx hb dX1_sail_68 dX1_sail_69 (by decide) (fun c21 => ?_) (fun c21 => ?_)
                · have hw := hw.2 c21
                  refine lv_iconst (v := 0) hx hb dX1_sail_76 (by decide) ?_
                  refine va_put (D := D) (ci := 1) (v := .int 0) (ty := .int) (C := RX1) (T := TX1) (N := 12) hx hb hts hin tyX1 tyX1_ok nmX1 hown hK hP hD hS 0 rfl rfl 0 (by decide) (hts (.fieldLink RX1 36 "TideDepthsModel" "thrown" "I") (by decide +kernel)) (fun _ h9 => h9) rfl (by decide +kernel) rfl rfl (Nat.le_of_ble_eq_true rfl) dX1_sail_77 (fun H locs hP hD hS => ?_)
                  have hP : va_P D cls2 (x1W cI cJ k0 b1 b2 b3 b4 b5 b6 b7 b8 (0, (yNT y), (yNO y), (yNP y), (yT y), (yH y), (yO y), (yD y), (yW y), (yB y), (yC y), (yQ y))) H := hP
                  have hD : va_D A (x1W cI cJ k0 b1 b2 b3 b4 b5 b6 b7 b8 (0, (yNT y), (yNO y), (yNP y), (yT y), (yH y), (yO y), (yD y), (yW y), (yB y), (yC y), (yQ y))) := hD
                  have hW : YW D cI cJ k0 b1 b2 b3 b4 b5 b6 b7 b8 (0, (yNT y), (yNO y), (yNP y), (yT y), (yH y), (yO y), (yD y), (yW y), (yB y), (yC y), (yQ y)) s H := ⟨hP, hK⟩
                  refine lv_aload_n hx hb dX1_sail_80 rfl (lv_at hl 1 rfl) ?_
                  refine va_get (D := D) (ci := 1) (v := .int 0) (C := RX1) (T := TX1) (N := 12) hx hb hts hin hown hK hP 0 rfl rfl 0 (by decide) (hts (.fieldLink RX1 36 "TideDepthsModel" "thrown" "I") (by decide +kernel)) (fun _ h9 => h9) rfl dX1_sail_81 ?_
                  refine lv_if_le (tgt := 89) hx hb dX1_sail_84 (by decide) (fun c22 => ?_) (fun c22 => ?_)
                  ·
                    refine lv_lload hx hb dX1_sail_89 (lv_at hl 4 rfl) ?_
                    refine lv_l2i (v := (v5).toInt32) hx hb dX1_sail_91 rfl ?_
                    refine lv_istore (lv' := [(9, .int (v5).toInt32), (8, .int 1), (0, .ref k0), (1, .long v1), (3, .long v3), (5, .long v5), (7, .int v7)]) hx hb dX1_sail_92 hl (by decide) rfl (fun ls hl => ?_)
                    refine lv_aload_n hx hb dX1_sail_94 rfl (lv_at hl 2 rfl) ?_
                    refine va_get (D := D) (ci := 1) (v := .ref b1) (C := RX1) (T := TX1) (N := 12) hx hb hts hin hown hK hP 0 rfl rfl 4 (by decide) (hts (.fieldLink RX1 7 "TideDepthsModel" "turnTime" "[I") (by decide +kernel)) (fun _ h9 => h9) rfl dX1_sail_95 ?_
                    refine lv_aload_n hx hb dX1_sail_98 rfl (lv_at hl 2 rfl) ?_
                    refine va_get (D := D) (ci := 1) (v := .int (yNT y)) (C := RX1) (T := TX1) (N := 12) hx hb hts hin hown hK hP 0 rfl rfl 1 (by decide) (hts (.fieldLink RX1 40 "TideDepthsModel" "turns" "I") (by decide +kernel)) (fun _ h9 => h9) rfl dX1_sail_99 ?_
                    refine lv_iconst (v := 1) hx hb dX1_sail_102 (by decide) ?_
                    refine lv_isub hx hb dX1_sail_103 ?_
                    obtain ⟨h23, hw⟩ := hw
                    refine va_iald hx hb hK hP 1 0 rfl rfl h23 dX1_sail_104 ?_
                    refine lv_istore (lv' := [(10, .int ((yT y) (((yNT y) - 1)).toNatClampNeg)), (9, .int (v5).toInt32), (8, .int 1), (0, .ref k0), (1, .long v1), (3, .long v3), (5, .long v5), (7, .int v7)]) hx hb dX1_sail_105 hl (by decide) rfl (fun ls hl => ?_)
                    obtain ⟨n36, hw⟩ := hw
                    exact kX1_sail_L107 hx hb hr hml hown hlocks hts hin hW hP hK hD hS v1 v3 v5 v7 1 ((yT y) (((yNT y) - 1)).toNatClampNeg) n36 (v5).toInt32 ls (lv_sub hl [3, 4, 5, 6, 7, 2, 1, 0] rfl) hw
                  · exact absurd (by decide) c22
                · have hw := hw.1 c21
                  refine lv_iconst (v := 3) hx hb dX1_sail_72 (by decide) ?_
                  refine lv_goto (tgt := 77) hx hb dX1_sail_73 (by decide) ?_
                  refine va_put (D := D) (ci := 1) (v := .int 3) (ty := .int) (C := RX1) (T := TX1) (N := 12) hx hb hts hin tyX1 tyX1_ok nmX1 hown hK hP hD hS 0 rfl rfl 0 (by decide) (hts (.fieldLink RX1 36 "TideDepthsModel" "thrown" "I") (by decide +kernel)) (fun _ h9 => h9) rfl (by decide +kernel) rfl rfl (Nat.le_of_ble_eq_true rfl) dX1_sail_77 (fun H locs hP hD hS => ?_)
                  have hP : va_P D cls2 (x1W cI cJ k0 b1 b2 b3 b4 b5 b6 b7 b8 (3, (yNT y), (yNO y), (yNP y), (yT y), (yH y), (yO y), (yD y), (yW y), (yB y), (yC y), (yQ y))) H := hP
                  have hD : va_D A (x1W cI cJ k0 b1 b2 b3 b4 b5 b6 b7 b8 (3, (yNT y), (yNO y), (yNP y), (yT y), (yH y), (yO y), (yD y), (yW y), (yB y), (yC y), (yQ y))) := hD
                  have hW : YW D cI cJ k0 b1 b2 b3 b4 b5 b6 b7 b8 (3, (yNT y), (yNO y), (yNP y), (yT y), (yH y), (yO y), (yD y), (yW y), (yB y), (yC y), (yQ y)) s H := ⟨hP, hK⟩
                  refine lv_aload_n hx hb dX1_sail_80 rfl (lv_at hl 1 rfl) ?_
                  refine va_get (D := D) (ci := 1) (v := .int 3) (C := RX1) (T := TX1) (N := 12) hx hb hts hin hown hK hP 0 rfl rfl 0 (by decide) (hts (.fieldLink RX1 36 "TideDepthsModel" "thrown" "I") (by decide +kernel)) (fun _ h9 => h9) rfl dX1_sail_81 ?_
                  refine lv_if_le (tgt := 89) hx hb dX1_sail_84 (by decide) (fun c37 => ?_) (fun c37 => ?_)
                  · exact absurd c37 (by decide)
                  ·
                    refine lv_iconst (v := 0) hx hb dX1_sail_87 (by decide) ?_
                    exact W.iret (v := 0) hx hb hr (fun t ht hWm => ⟨⟨0, (3, (yNT y), (yNO y), (yNP y), (yT y), (yH y), (yO y), (yD y), (yW y), (yB y), (yC y), (yQ y)), rfl, hw, by rw [ht]; exact hP, va_K.moved hWm.alike hK, hD⟩, hS.F ht⟩) hS.2.2 dX1_sail_88
              · have hw := hw.1 c20
                refine lv_iconst (v := 2) hx hb dX1_sail_62 (by decide) ?_
                refine lv_goto (tgt := 77) hx hb dX1_sail_63 (by decide) ?_
                refine va_put (D := D) (ci := 1) (v := .int 2) (ty := .int) (C := RX1) (T := TX1) (N := 12) hx hb hts hin tyX1 tyX1_ok nmX1 hown hK hP hD hS 0 rfl rfl 0 (by decide) (hts (.fieldLink RX1 36 "TideDepthsModel" "thrown" "I") (by decide +kernel)) (fun _ h9 => h9) rfl (by decide +kernel) rfl rfl (Nat.le_of_ble_eq_true rfl) dX1_sail_77 (fun H locs hP hD hS => ?_)
                have hP : va_P D cls2 (x1W cI cJ k0 b1 b2 b3 b4 b5 b6 b7 b8 (2, (yNT y), (yNO y), (yNP y), (yT y), (yH y), (yO y), (yD y), (yW y), (yB y), (yC y), (yQ y))) H := hP
                have hD : va_D A (x1W cI cJ k0 b1 b2 b3 b4 b5 b6 b7 b8 (2, (yNT y), (yNO y), (yNP y), (yT y), (yH y), (yO y), (yD y), (yW y), (yB y), (yC y), (yQ y))) := hD
                have hW : YW D cI cJ k0 b1 b2 b3 b4 b5 b6 b7 b8 (2, (yNT y), (yNO y), (yNP y), (yT y), (yH y), (yO y), (yD y), (yW y), (yB y), (yC y), (yQ y)) s H := ⟨hP, hK⟩
                refine lv_aload_n hx hb dX1_sail_80 rfl (lv_at hl 1 rfl) ?_
                refine va_get (D := D) (ci := 1) (v := .int 2) (C := RX1) (T := TX1) (N := 12) hx hb hts hin hown hK hP 0 rfl rfl 0 (by decide) (hts (.fieldLink RX1 36 "TideDepthsModel" "thrown" "I") (by decide +kernel)) (fun _ h9 => h9) rfl dX1_sail_81 ?_
                refine lv_if_le (tgt := 89) hx hb dX1_sail_84 (by decide) (fun c38 => ?_) (fun c38 => ?_)
                · exact absurd c38 (by decide)
                ·
                  refine lv_iconst (v := 0) hx hb dX1_sail_87 (by decide) ?_
                  exact W.iret (v := 0) hx hb hr (fun t ht hWm => ⟨⟨0, (2, (yNT y), (yNO y), (yNP y), (yT y), (yH y), (yO y), (yD y), (yW y), (yB y), (yC y), (yQ y)), rfl, hw, by rw [ht]; exact hP, va_K.moved hWm.alike hK, hD⟩, hS.F ht⟩) hS.2.2 dX1_sail_88
            · exact absurd c19 (by decide)

def wX1_read (post : Int64 → YS → Prop) (y : YS) (v1 : Int32) (v2 : Int32) : Prop := ((v1 < 0 → ((v1 < 100 → (post 0 (1, (yNT y), (yNO y), (yNP y), (yT y), (yH y), (yO y), (yD y), (yW y), (yB y), (yC y), (yQ y)))) ∧ (¬ v1 < 100 → (((yNO y) ≤ (v1 - 100) → (post 0 (1, (yNT y), (yNO y), (yNP y), (yT y), (yH y), (yO y), (yD y), (yW y), (yB y), (yC y), (yQ y)))) ∧ (¬ (yNO y) ≤ (v1 - 100) → ((v2 = 2 → ((v2 = 0 → (vp_in v1 40 ∧ (post (((yT y) (v1).toNatClampNeg)).toInt64 (0, (yNT y), (yNO y), (yNP y), (yT y), (yH y), (yO y), (yD y), (yW y), (yB y), (yC y), (yQ y))))) ∧ (¬ v2 = 0 → ((v2 = 1 → (vp_in v1 40 ∧ (post (((yH y) (v1).toNatClampNeg)).toInt64 (0, (yNT y), (yNO y), (yNP y), (yT y), (yH y), (yO y), (yD y), (yW y), (yB y), (yC y), (yQ y))))) ∧ (¬ v2 = 1 → (vp_in (v1 - 100) 16 ∧ (post (((yO y) ((v1 - 100)).toNatClampNeg)).toInt64 (0, (yNT y), (yNO y), (yNP y), (yT y), (yH y), (yO y), (yD y), (yW y), (yB y), (yC y), (yQ y))))))))) ∧ (¬ v2 = 2 → ((v2 = 3 → ((v2 = 0 → (vp_in v1 40 ∧ (post (((yT y) (v1).toNatClampNeg)).toInt64 (0, (yNT y), (yNO y), (yNP y), (yT y), (yH y), (yO y), (yD y), (yW y), (yB y), (yC y), (yQ y))))) ∧ (¬ v2 = 0 → ((v2 = 1 → (vp_in v1 40 ∧ (post (((yH y) (v1).toNatClampNeg)).toInt64 (0, (yNT y), (yNO y), (yNP y), (yT y), (yH y), (yO y), (yD y), (yW y), (yB y), (yC y), (yQ y))))) ∧ (¬ v2 = 1 → (vp_in (v1 - 100) 16 ∧ (post ((yD y) ((v1 - 100)).toNatClampNeg) (0, (yNT y), (yNO y), (yNP y), (yT y), (yH y), (yO y), (yD y), (yW y), (yB y), (yC y), (yQ y))))))))) ∧ (¬ v2 = 3 → (post 0 (1, (yNT y), (yNO y), (yNP y), (yT y), (yH y), (yO y), (yD y), (yW y), (yB y), (yC y), (yQ y)))))))))))) ∧ (¬ v1 < 0 → (((yNT y) ≤ v1 → ((v1 < 100 → (post 0 (1, (yNT y), (yNO y), (yNP y), (yT y), (yH y), (yO y), (yD y), (yW y), (yB y), (yC y), (yQ y)))) ∧ (¬ v1 < 100 → (((yNO y) ≤ (v1 - 100) → (post 0 (1, (yNT y), (yNO y), (yNP y), (yT y), (yH y), (yO y), (yD y), (yW y), (yB y), (yC y), (yQ y)))) ∧ (¬ (yNO y) ≤ (v1 - 100) → ((v2 = 2 → ((v2 = 0 → (vp_in v1 40 ∧ (post (((yT y) (v1).toNatClampNeg)).toInt64 (0, (yNT y), (yNO y), (yNP y), (yT y), (yH y), (yO y), (yD y), (yW y), (yB y), (yC y), (yQ y))))) ∧ (¬ v2 = 0 → ((v2 = 1 → (vp_in v1 40 ∧ (post (((yH y) (v1).toNatClampNeg)).toInt64 (0, (yNT y), (yNO y), (yNP y), (yT y), (yH y), (yO y), (yD y), (yW y), (yB y), (yC y), (yQ y))))) ∧ (¬ v2 = 1 → (vp_in (v1 - 100) 16 ∧ (post (((yO y) ((v1 - 100)).toNatClampNeg)).toInt64 (0, (yNT y), (yNO y), (yNP y), (yT y), (yH y), (yO y), (yD y), (yW y), (yB y), (yC y), (yQ y))))))))) ∧ (¬ v2 = 2 → ((v2 = 3 → ((v2 = 0 → (vp_in v1 40 ∧ (post (((yT y) (v1).toNatClampNeg)).toInt64 (0, (yNT y), (yNO y), (yNP y), (yT y), (yH y), (yO y), (yD y), (yW y), (yB y), (yC y), (yQ y))))) ∧ (¬ v2 = 0 → ((v2 = 1 → (vp_in v1 40 ∧ (post (((yH y) (v1).toNatClampNeg)).toInt64 (0, (yNT y), (yNO y), (yNP y), (yT y), (yH y), (yO y), (yD y), (yW y), (yB y), (yC y), (yQ y))))) ∧ (¬ v2 = 1 → (vp_in (v1 - 100) 16 ∧ (post ((yD y) ((v1 - 100)).toNatClampNeg) (0, (yNT y), (yNO y), (yNP y), (yT y), (yH y), (yO y), (yD y), (yW y), (yB y), (yC y), (yQ y))))))))) ∧ (¬ v2 = 3 → (post 0 (1, (yNT y), (yNO y), (yNP y), (yT y), (yH y), (yO y), (yD y), (yW y), (yB y), (yC y), (yQ y)))))))))))) ∧ (¬ (yNT y) ≤ v1 → ((v2 = 0 → ((v1 < 100 → (vp_in v1 40 ∧ (post (((yT y) (v1).toNatClampNeg)).toInt64 (0, (yNT y), (yNO y), (yNP y), (yT y), (yH y), (yO y), (yD y), (yW y), (yB y), (yC y), (yQ y))))) ∧ (¬ v1 < 100 → (((yNO y) ≤ (v1 - 100) → (vp_in v1 40 ∧ (post (((yT y) (v1).toNatClampNeg)).toInt64 (0, (yNT y), (yNO y), (yNP y), (yT y), (yH y), (yO y), (yD y), (yW y), (yB y), (yC y), (yQ y))))) ∧ (¬ (yNO y) ≤ (v1 - 100) → ((v2 = 2 → (vp_in v1 40 ∧ (post (((yT y) (v1).toNatClampNeg)).toInt64 (0, (yNT y), (yNO y), (yNP y), (yT y), (yH y), (yO y), (yD y), (yW y), (yB y), (yC y), (yQ y))))) ∧ (¬ v2 = 2 → ((v2 = 3 → (vp_in v1 40 ∧ (post (((yT y) (v1).toNatClampNeg)).toInt64 (0, (yNT y), (yNO y), (yNP y), (yT y), (yH y), (yO y), (yD y), (yW y), (yB y), (yC y), (yQ y))))) ∧ (¬ v2 = 3 → (vp_in v1 40 ∧ (post (((yT y) (v1).toNatClampNeg)).toInt64 (0, (yNT y), (yNO y), (yNP y), (yT y), (yH y), (yO y), (yD y), (yW y), (yB y), (yC y), (yQ y))))))))))))) ∧ (¬ v2 = 0 → ((v2 = 1 → ((v1 < 100 → (vp_in v1 40 ∧ (post (((yH y) (v1).toNatClampNeg)).toInt64 (0, (yNT y), (yNO y), (yNP y), (yT y), (yH y), (yO y), (yD y), (yW y), (yB y), (yC y), (yQ y))))) ∧ (¬ v1 < 100 → (((yNO y) ≤ (v1 - 100) → (vp_in v1 40 ∧ (post (((yH y) (v1).toNatClampNeg)).toInt64 (0, (yNT y), (yNO y), (yNP y), (yT y), (yH y), (yO y), (yD y), (yW y), (yB y), (yC y), (yQ y))))) ∧ (¬ (yNO y) ≤ (v1 - 100) → ((v2 = 2 → (vp_in v1 40 ∧ (post (((yH y) (v1).toNatClampNeg)).toInt64 (0, (yNT y), (yNO y), (yNP y), (yT y), (yH y), (yO y), (yD y), (yW y), (yB y), (yC y), (yQ y))))) ∧ (¬ v2 = 2 → ((v2 = 3 → (vp_in v1 40 ∧ (post (((yH y) (v1).toNatClampNeg)).toInt64 (0, (yNT y), (yNO y), (yNP y), (yT y), (yH y), (yO y), (yD y), (yW y), (yB y), (yC y), (yQ y))))) ∧ (¬ v2 = 3 → (vp_in v1 40 ∧ (post (((yH y) (v1).toNatClampNeg)).toInt64 (0, (yNT y), (yNO y), (yNP y), (yT y), (yH y), (yO y), (yD y), (yW y), (yB y), (yC y), (yQ y))))))))))))) ∧ (¬ v2 = 1 → ((v1 < 100 → (post 0 (1, (yNT y), (yNO y), (yNP y), (yT y), (yH y), (yO y), (yD y), (yW y), (yB y), (yC y), (yQ y)))) ∧ (¬ v1 < 100 → (((yNO y) ≤ (v1 - 100) → (post 0 (1, (yNT y), (yNO y), (yNP y), (yT y), (yH y), (yO y), (yD y), (yW y), (yB y), (yC y), (yQ y)))) ∧ (¬ (yNO y) ≤ (v1 - 100) → ((v2 = 2 → (vp_in (v1 - 100) 16 ∧ (post (((yO y) ((v1 - 100)).toNatClampNeg)).toInt64 (0, (yNT y), (yNO y), (yNP y), (yT y), (yH y), (yO y), (yD y), (yW y), (yB y), (yC y), (yQ y))))) ∧ (¬ v2 = 2 → ((v2 = 3 → (vp_in (v1 - 100) 16 ∧ (post ((yD y) ((v1 - 100)).toNatClampNeg) (0, (yNT y), (yNO y), (yNP y), (yT y), (yH y), (yO y), (yD y), (yW y), (yB y), (yC y), (yQ y))))) ∧ (¬ v2 = 3 → (post 0 (1, (yNT y), (yNO y), (yNP y), (yT y), (yH y), (yO y), (yD y), (yW y), (yB y), (yC y), (yQ y)))))))))))))))))))

set_option maxHeartbeats 4000000 in
set_option maxRecDepth 100000 in
theorem mX1_read (l : Launch) (D : va_G) (cI cJ : ClassId) (k0 b1 b2 b3 b4 b5 b6 b7 b8 sz : Nat) (y : YS) (v1 : Int32) (v2 : Int32) (post : Int64 → YS → Prop) : Met l yX1_read wsX1_read ({ frames := 0, cells := 0, slots := 0, locals := 0 } : Room) (va_Pc [.ref k0, .int v1, .int v2] (fun U => YE D cI cJ k0 b1 b2 b3 b4 b5 b6 b7 b8 sz y U ∧ wX1_read post y v1 v2)) (va_Ql post (fun u9 t9 => YT D cI cJ k0 b1 b2 b3 b4 b5 b6 b7 b8 (va_A (x1W cI cJ k0 b1 b2 b3 b4 b5 b6 b7 b8 y) sz) u9 t9) (va_A (x1W cI cJ k0 b1 b2 b3 b4 b5 b6 b7 b8 y) sz)) 0 0 (va_A (x1W cI cJ k0 b1 b2 b3 b4 b5 b6 b7 b8 y) sz) := by
  refine Met.ofW (cc := cX1_read) (maxL := 5) (ret := (some .long)) (by decide +kernel) rfl ?_
  intro p e s m args below meth c s₁ B hml hv
  obtain ⟨rfl, ⟨hsz, hP, hK, hD0⟩, hw⟩ := hv
  have hx := B.exec
  have hb := B.bytes
  have hr := B.returns
  have hts := atoms_spec (ws := wsX1_read) B.pre
  have hown : s.vm.findClass RX1 = some m.cls := findClass_of_methodNamed B.named
  have hlocks := B.notSynchronized
  have hin : ∀ w ∈ u_ws RX1 TX1 12, w ∈ wsX1_read := by decide +kernel
  subst hsz
  have hD := hD0.self (sz := s.heap.size)
  generalize hAe : va_A (x1W cI cJ k0 b1 b2 b3 b4 b5 b6 b7 b8 y) s.heap.size = A at hD ⊢
  have hS : va_S A s.heap s.heap [] := va_S.rf
  have hW : YW D cI cJ k0 b1 b2 b3 b4 b5 b6 b7 b8 y s s.heap := ⟨hP, hK⟩
  have hl := lv_entry ([.ref k0, .int v1, .int v2]) (n := 5) (Nat.le_of_ble_eq_true rfl)
  rw [lg_entry_eq]
  generalize (lg_sl ([.ref k0, .int v1, .int v2]) ++ List.replicate (5 - (lg_sl ([.ref k0, .int v1, .int v2])).length) Slot.unset).toArray = ls at hl ⊢
  have hl : lv_has ls 5 [(0, .ref k0), (1, .int v1), (2, .int v2)] := hl
  unfold wX1_read at hw
  refine lv_iload_n hx hb dX1_read_0 rfl (lv_at hl 1 rfl) ?_
  refine lv_if_lt (tgt := 25) hx hb dX1_read_1 (by decide) (fun c1 => ?_) (fun c1 => ?_)
  · have hw := hw.1 c1
    refine lv_iconst (v := 0) hx hb dX1_read_25 (by decide) ?_
    refine lv_istore_n (lv' := [(3, .int 0), (0, .ref k0), (1, .int v1), (2, .int v2)]) hx hb dX1_read_26 rfl hl (by decide) rfl (fun ls hl => ?_)
    refine lv_iload_n hx hb dX1_read_27 rfl (lv_at hl 2 rfl) ?_
    refine lv_bipush (v := 100) hx hb dX1_read_28 (by decide) ?_
    refine lv_icmp_lt (tgt := 58) hx hb dX1_read_30 (by decide) (fun c2 => ?_) (fun c2 => ?_)
    · have hw := hw.1 c2
      refine lv_iconst (v := 0) hx hb dX1_read_58 (by decide) ?_
      refine lv_istore (lv' := [(4, .int 0), (3, .int 0), (0, .ref k0), (1, .int v1), (2, .int v2)]) hx hb dX1_read_59 hl (by decide) rfl (fun ls hl => ?_)
      refine lv_aload_n hx hb dX1_read_61 rfl (lv_at hl 2 rfl) ?_
      refine lv_iload_n hx hb dX1_read_62 rfl (lv_at hl 1 rfl) ?_
      refine lv_if_ne (tgt := 71) hx hb dX1_read_63 (by decide) (fun c3 => ?_) (fun c3 => ?_)
      · exact absurd (by decide) c3
      ·
        refine lv_iload hx hb dX1_read_66 (lv_at hl 0 rfl) ?_
        refine lv_if_eq (tgt := 75) hx hb dX1_read_68 (by decide) (fun c4 => ?_) (fun c4 => ?_)
        ·
          refine lv_iconst (v := 1) hx hb dX1_read_75 (by decide) ?_
          refine va_put (D := D) (ci := 1) (v := .int 1) (ty := .int) (C := RX1) (T := TX1) (N := 12) hx hb hts hin tyX1 tyX1_ok nmX1 hown hK hP hD hS 0 rfl rfl 0 (by decide) (hts (.fieldLink RX1 36 "TideDepthsModel" "thrown" "I") (by decide +kernel)) (fun _ h9 => h9) rfl (by decide +kernel) rfl rfl (Nat.le_of_ble_eq_true rfl) dX1_read_76 (fun H locs hP hD hS => ?_)
          have hP : va_P D cls2 (x1W cI cJ k0 b1 b2 b3 b4 b5 b6 b7 b8 (1, (yNT y), (yNO y), (yNP y), (yT y), (yH y), (yO y), (yD y), (yW y), (yB y), (yC y), (yQ y))) H := hP
          have hD : va_D A (x1W cI cJ k0 b1 b2 b3 b4 b5 b6 b7 b8 (1, (yNT y), (yNO y), (yNP y), (yT y), (yH y), (yO y), (yD y), (yW y), (yB y), (yC y), (yQ y))) := hD
          have hW : YW D cI cJ k0 b1 b2 b3 b4 b5 b6 b7 b8 (1, (yNT y), (yNO y), (yNP y), (yT y), (yH y), (yO y), (yD y), (yW y), (yB y), (yC y), (yQ y)) s H := ⟨hP, hK⟩
          refine lv_aload_n hx hb dX1_read_79 rfl (lv_at hl 2 rfl) ?_
          refine va_get (D := D) (ci := 1) (v := .int 1) (C := RX1) (T := TX1) (N := 12) hx hb hts hin hown hK hP 0 rfl rfl 0 (by decide) (hts (.fieldLink RX1 36 "TideDepthsModel" "thrown" "I") (by decide +kernel)) (fun _ h9 => h9) rfl dX1_read_80 ?_
          refine lv_if_le (tgt := 88) hx hb dX1_read_83 (by decide) (fun c5 => ?_) (fun c5 => ?_)
          · exact absurd c5 (by decide)
          ·
            refine lv_lconst (v := 0) hx hb dX1_read_86 (by decide) ?_
            exact W.lret (v := 0) hx hb hr (fun t ht hWm => ⟨⟨0, (1, (yNT y), (yNO y), (yNP y), (yT y), (yH y), (yO y), (yD y), (yW y), (yB y), (yC y), (yQ y)), rfl, hw, by rw [ht]; exact hP, va_K.moved hWm.alike hK, hD⟩, hS.F ht⟩) hS.2.2 dX1_read_87
        · exact absurd (by decide) c4
    · have hw := hw.2 c2
      refine lv_iload_n hx hb dX1_read_33 rfl (lv_at hl 2 rfl) ?_
      refine lv_bipush (v := 100) hx hb dX1_read_34 (by decide) ?_
      refine lv_isub hx hb dX1_read_36 ?_
      refine lv_aload_n hx hb dX1_read_37 rfl (lv_at hl 1 rfl) ?_
      refine va_get (D := D) (ci := 1) (v := .int (yNO y)) (C := RX1) (T := TX1) (N := 12) hx hb hts hin hown hK hP 0 rfl rfl 2 (by decide) (hts (.fieldLink RX1 59 "TideDepthsModel" "observations" "I") (by decide +kernel)) (fun _ h9 => h9) rfl dX1_read_38 ?_
      refine lv_icmp_ge (tgt := 58) hx hb dX1_read_41 (by decide) (fun c6 => ?_) (fun c6 => ?_)
      · have hw := hw.1 c6
        refine lv_iconst (v := 0) hx hb dX1_read_58 (by decide) ?_
        refine lv_istore (lv' := [(4, .int 0), (3, .int 0), (0, .ref k0), (1, .int v1), (2, .int v2)]) hx hb dX1_read_59 hl (by decide) rfl (fun ls hl => ?_)
        refine lv_aload_n hx hb dX1_read_61 rfl (lv_at hl 2 rfl) ?_
        refine lv_iload_n hx hb dX1_read_62 rfl (lv_at hl 1 rfl) ?_
        refine lv_if_ne (tgt := 71) hx hb dX1_read_63 (by decide) (fun c7 => ?_) (fun c7 => ?_)
        · exact absurd (by decide) c7
        ·
          refine lv_iload hx hb dX1_read_66 (lv_at hl 0 rfl) ?_
          refine lv_if_eq (tgt := 75) hx hb dX1_read_68 (by decide) (fun c8 => ?_) (fun c8 => ?_)
          ·
            refine lv_iconst (v := 1) hx hb dX1_read_75 (by decide) ?_
            refine va_put (D := D) (ci := 1) (v := .int 1) (ty := .int) (C := RX1) (T := TX1) (N := 12) hx hb hts hin tyX1 tyX1_ok nmX1 hown hK hP hD hS 0 rfl rfl 0 (by decide) (hts (.fieldLink RX1 36 "TideDepthsModel" "thrown" "I") (by decide +kernel)) (fun _ h9 => h9) rfl (by decide +kernel) rfl rfl (Nat.le_of_ble_eq_true rfl) dX1_read_76 (fun H locs hP hD hS => ?_)
            have hP : va_P D cls2 (x1W cI cJ k0 b1 b2 b3 b4 b5 b6 b7 b8 (1, (yNT y), (yNO y), (yNP y), (yT y), (yH y), (yO y), (yD y), (yW y), (yB y), (yC y), (yQ y))) H := hP
            have hD : va_D A (x1W cI cJ k0 b1 b2 b3 b4 b5 b6 b7 b8 (1, (yNT y), (yNO y), (yNP y), (yT y), (yH y), (yO y), (yD y), (yW y), (yB y), (yC y), (yQ y))) := hD
            have hW : YW D cI cJ k0 b1 b2 b3 b4 b5 b6 b7 b8 (1, (yNT y), (yNO y), (yNP y), (yT y), (yH y), (yO y), (yD y), (yW y), (yB y), (yC y), (yQ y)) s H := ⟨hP, hK⟩
            refine lv_aload_n hx hb dX1_read_79 rfl (lv_at hl 2 rfl) ?_
            refine va_get (D := D) (ci := 1) (v := .int 1) (C := RX1) (T := TX1) (N := 12) hx hb hts hin hown hK hP 0 rfl rfl 0 (by decide) (hts (.fieldLink RX1 36 "TideDepthsModel" "thrown" "I") (by decide +kernel)) (fun _ h9 => h9) rfl dX1_read_80 ?_
            refine lv_if_le (tgt := 88) hx hb dX1_read_83 (by decide) (fun c9 => ?_) (fun c9 => ?_)
            · exact absurd c9 (by decide)
            ·
              refine lv_lconst (v := 0) hx hb dX1_read_86 (by decide) ?_
              exact W.lret (v := 0) hx hb hr (fun t ht hWm => ⟨⟨0, (1, (yNT y), (yNO y), (yNP y), (yT y), (yH y), (yO y), (yD y), (yW y), (yB y), (yC y), (yQ y)), rfl, hw, by rw [ht]; exact hP, va_K.moved hWm.alike hK, hD⟩, hS.F ht⟩) hS.2.2 dX1_read_87
          · exact absurd (by decide) c8
      · have hw := hw.2 c6
        refine lv_iload_n hx hb dX1_read_44 rfl (lv_at hl 3 rfl) ?_
        refine lv_iconst (v := 2) hx hb dX1_read_45 (by decide) ?_
        refine lv_icmp_eq (tgt := 54) hx hb dX1_read_46 (by decide) (fun c10 => ?_) (fun c10 => ?_)
        · have hw := hw.1 c10
          refine lv_iconst (v := 1) hx hb dX1_read_54 (by decide) ?_
          refine lv_goto (tgt := 59) hx hb dX1_read_55 (by decide) ?_
          refine lv_istore (lv' := [(4, .int 1), (3, .int 0), (0, .ref k0), (1, .int v1), (2, .int v2)]) hx hb dX1_read_59 hl (by decide) rfl (fun ls hl => ?_)
          refine lv_aload_n hx hb dX1_read_61 rfl (lv_at hl 2 rfl) ?_
          refine lv_iload_n hx hb dX1_read_62 rfl (lv_at hl 1 rfl) ?_
          refine lv_if_ne (tgt := 71) hx hb dX1_read_63 (by decide) (fun c11 => ?_) (fun c11 => ?_)
          · exact absurd (by decide) c11
          ·
            refine lv_iload hx hb dX1_read_66 (lv_at hl 0 rfl) ?_
            refine lv_if_eq (tgt := 75) hx hb dX1_read_68 (by decide) (fun c12 => ?_) (fun c12 => ?_)
            · exact absurd c12 (by decide)
            ·
              refine lv_iconst (v := 0) hx hb dX1_read_71 (by decide) ?_
              refine lv_goto (tgt := 76) hx hb dX1_read_72 (by decide) ?_
              refine va_put (D := D) (ci := 1) (v := .int 0) (ty := .int) (C := RX1) (T := TX1) (N := 12) hx hb hts hin tyX1 tyX1_ok nmX1 hown hK hP hD hS 0 rfl rfl 0 (by decide) (hts (.fieldLink RX1 36 "TideDepthsModel" "thrown" "I") (by decide +kernel)) (fun _ h9 => h9) rfl (by decide +kernel) rfl rfl (Nat.le_of_ble_eq_true rfl) dX1_read_76 (fun H locs hP hD hS => ?_)
              have hP : va_P D cls2 (x1W cI cJ k0 b1 b2 b3 b4 b5 b6 b7 b8 (0, (yNT y), (yNO y), (yNP y), (yT y), (yH y), (yO y), (yD y), (yW y), (yB y), (yC y), (yQ y))) H := hP
              have hD : va_D A (x1W cI cJ k0 b1 b2 b3 b4 b5 b6 b7 b8 (0, (yNT y), (yNO y), (yNP y), (yT y), (yH y), (yO y), (yD y), (yW y), (yB y), (yC y), (yQ y))) := hD
              have hW : YW D cI cJ k0 b1 b2 b3 b4 b5 b6 b7 b8 (0, (yNT y), (yNO y), (yNP y), (yT y), (yH y), (yO y), (yD y), (yW y), (yB y), (yC y), (yQ y)) s H := ⟨hP, hK⟩
              refine lv_aload_n hx hb dX1_read_79 rfl (lv_at hl 2 rfl) ?_
              refine va_get (D := D) (ci := 1) (v := .int 0) (C := RX1) (T := TX1) (N := 12) hx hb hts hin hown hK hP 0 rfl rfl 0 (by decide) (hts (.fieldLink RX1 36 "TideDepthsModel" "thrown" "I") (by decide +kernel)) (fun _ h9 => h9) rfl dX1_read_80 ?_
              refine lv_if_le (tgt := 88) hx hb dX1_read_83 (by decide) (fun c13 => ?_) (fun c13 => ?_)
              ·
                refine lv_iload_n hx hb dX1_read_88 rfl (lv_at hl 4 rfl) ?_
                refine lv_if_ne (tgt := 102) hx hb dX1_read_89 (by decide) (fun c14 => ?_) (fun c14 => ?_)
                · have hw := hw.2 c14
                  refine lv_iload_n hx hb dX1_read_102 rfl (lv_at hl 4 rfl) ?_
                  refine lv_iconst (v := 1) hx hb dX1_read_103 (by decide) ?_
                  refine lv_icmp_ne (tgt := 117) hx hb dX1_read_104 (by decide) (fun c15 => ?_) (fun c15 => ?_)
                  · have hw := hw.2 c15
                    refine lv_iload_n hx hb dX1_read_117 rfl (lv_at hl 4 rfl) ?_
                    refine lv_iconst (v := 2) hx hb dX1_read_118 (by decide) ?_
                    refine lv_icmp_ne (tgt := 135) hx hb dX1_read_119 (by decide) (fun c16 => ?_) (fun c16 => ?_)
                    · exact absurd c10 c16
                    ·
                      refine lv_aload_n hx hb dX1_read_122 rfl (lv_at hl 2 rfl) ?_
                      refine va_get (D := D) (ci := 1) (v := .ref b3) (C := RX1) (T := TX1) (N := 12) hx hb hts hin hown hK hP 0 rfl rfl 6 (by decide) (hts (.fieldLink RX1 16 "TideDepthsModel" "seenTime" "[I") (by decide +kernel)) (fun _ h9 => h9) rfl dX1_read_123 ?_
                      refine lv_iload_n hx hb dX1_read_126 rfl (lv_at hl 3 rfl) ?_
                      refine lv_bipush (v := 100) hx hb dX1_read_127 (by decide) ?_
                      refine lv_isub hx hb dX1_read_129 ?_
                      obtain ⟨h17, hw⟩ := hw
                      refine va_iald hx hb hK hP 3 0 rfl rfl h17 dX1_read_130 ?_
                      refine lv_i2l (v := (((yO y) ((v1 - 100)).toNatClampNeg)).toInt64) hx hb dX1_read_131 rfl ?_
                      refine lv_goto (tgt := 144) hx hb dX1_read_132 (by decide) ?_
                      exact W.lret (v := (((yO y) ((v1 - 100)).toNatClampNeg)).toInt64) hx hb hr (fun t ht hWm => ⟨⟨(((yO y) ((v1 - 100)).toNatClampNeg)).toInt64, (0, (yNT y), (yNO y), (yNP y), (yT y), (yH y), (yO y), (yD y), (yW y), (yB y), (yC y), (yQ y)), rfl, hw, by rw [ht]; exact hP, va_K.moved hWm.alike hK, hD⟩, hS.F ht⟩) hS.2.2 dX1_read_144
                  · have hw := hw.1 c15
                    refine lv_aload_n hx hb dX1_read_107 rfl (lv_at hl 2 rfl) ?_
                    refine va_get (D := D) (ci := 1) (v := .ref b2) (C := RX1) (T := TX1) (N := 12) hx hb hts hin hown hK hP 0 rfl rfl 5 (by decide) (hts (.fieldLink RX1 13 "TideDepthsModel" "turnHeight" "[I") (by decide +kernel)) (fun _ h9 => h9) rfl dX1_read_108 ?_
                    refine lv_iload_n hx hb dX1_read_111 rfl (lv_at hl 3 rfl) ?_
                    obtain ⟨h18, hw⟩ := hw
                    refine va_iald hx hb hK hP 2 0 rfl rfl h18 dX1_read_112 ?_
                    refine lv_i2l (v := (((yH y) (v1).toNatClampNeg)).toInt64) hx hb dX1_read_113 rfl ?_
                    refine lv_goto (tgt := 144) hx hb dX1_read_114 (by decide) ?_
                    exact W.lret (v := (((yH y) (v1).toNatClampNeg)).toInt64) hx hb hr (fun t ht hWm => ⟨⟨(((yH y) (v1).toNatClampNeg)).toInt64, (0, (yNT y), (yNO y), (yNP y), (yT y), (yH y), (yO y), (yD y), (yW y), (yB y), (yC y), (yQ y)), rfl, hw, by rw [ht]; exact hP, va_K.moved hWm.alike hK, hD⟩, hS.F ht⟩) hS.2.2 dX1_read_144
                · have hw := hw.1 c14
                  refine lv_aload_n hx hb dX1_read_92 rfl (lv_at hl 2 rfl) ?_
                  refine va_get (D := D) (ci := 1) (v := .ref b1) (C := RX1) (T := TX1) (N := 12) hx hb hts hin hown hK hP 0 rfl rfl 4 (by decide) (hts (.fieldLink RX1 7 "TideDepthsModel" "turnTime" "[I") (by decide +kernel)) (fun _ h9 => h9) rfl dX1_read_93 ?_
                  refine lv_iload_n hx hb dX1_read_96 rfl (lv_at hl 3 rfl) ?_
                  obtain ⟨h19, hw⟩ := hw
                  refine va_iald hx hb hK hP 1 0 rfl rfl h19 dX1_read_97 ?_
                  refine lv_i2l (v := (((yT y) (v1).toNatClampNeg)).toInt64) hx hb dX1_read_98 rfl ?_
                  refine lv_goto (tgt := 144) hx hb dX1_read_99 (by decide) ?_
                  exact W.lret (v := (((yT y) (v1).toNatClampNeg)).toInt64) hx hb hr (fun t ht hWm => ⟨⟨(((yT y) (v1).toNatClampNeg)).toInt64, (0, (yNT y), (yNO y), (yNP y), (yT y), (yH y), (yO y), (yD y), (yW y), (yB y), (yC y), (yQ y)), rfl, hw, by rw [ht]; exact hP, va_K.moved hWm.alike hK, hD⟩, hS.F ht⟩) hS.2.2 dX1_read_144
              · exact absurd (by decide) c13
        · have hw := hw.2 c10
          refine lv_iload_n hx hb dX1_read_49 rfl (lv_at hl 3 rfl) ?_
          refine lv_iconst (v := 3) hx hb dX1_read_50 (by decide) ?_
          refine lv_icmp_ne (tgt := 58) hx hb dX1_read_51 (by decide) (fun c20 => ?_) (fun c20 => ?_)
          · have hw := hw.2 c20
            refine lv_iconst (v := 0) hx hb dX1_read_58 (by decide) ?_
            refine lv_istore (lv' := [(4, .int 0), (3, .int 0), (0, .ref k0), (1, .int v1), (2, .int v2)]) hx hb dX1_read_59 hl (by decide) rfl (fun ls hl => ?_)
            refine lv_aload_n hx hb dX1_read_61 rfl (lv_at hl 2 rfl) ?_
            refine lv_iload_n hx hb dX1_read_62 rfl (lv_at hl 1 rfl) ?_
            refine lv_if_ne (tgt := 71) hx hb dX1_read_63 (by decide) (fun c21 => ?_) (fun c21 => ?_)
            · exact absurd (by decide) c21
            ·
              refine lv_iload hx hb dX1_read_66 (lv_at hl 0 rfl) ?_
              refine lv_if_eq (tgt := 75) hx hb dX1_read_68 (by decide) (fun c22 => ?_) (fun c22 => ?_)
              ·
                refine lv_iconst (v := 1) hx hb dX1_read_75 (by decide) ?_
                refine va_put (D := D) (ci := 1) (v := .int 1) (ty := .int) (C := RX1) (T := TX1) (N := 12) hx hb hts hin tyX1 tyX1_ok nmX1 hown hK hP hD hS 0 rfl rfl 0 (by decide) (hts (.fieldLink RX1 36 "TideDepthsModel" "thrown" "I") (by decide +kernel)) (fun _ h9 => h9) rfl (by decide +kernel) rfl rfl (Nat.le_of_ble_eq_true rfl) dX1_read_76 (fun H locs hP hD hS => ?_)
                have hP : va_P D cls2 (x1W cI cJ k0 b1 b2 b3 b4 b5 b6 b7 b8 (1, (yNT y), (yNO y), (yNP y), (yT y), (yH y), (yO y), (yD y), (yW y), (yB y), (yC y), (yQ y))) H := hP
                have hD : va_D A (x1W cI cJ k0 b1 b2 b3 b4 b5 b6 b7 b8 (1, (yNT y), (yNO y), (yNP y), (yT y), (yH y), (yO y), (yD y), (yW y), (yB y), (yC y), (yQ y))) := hD
                have hW : YW D cI cJ k0 b1 b2 b3 b4 b5 b6 b7 b8 (1, (yNT y), (yNO y), (yNP y), (yT y), (yH y), (yO y), (yD y), (yW y), (yB y), (yC y), (yQ y)) s H := ⟨hP, hK⟩
                refine lv_aload_n hx hb dX1_read_79 rfl (lv_at hl 2 rfl) ?_
                refine va_get (D := D) (ci := 1) (v := .int 1) (C := RX1) (T := TX1) (N := 12) hx hb hts hin hown hK hP 0 rfl rfl 0 (by decide) (hts (.fieldLink RX1 36 "TideDepthsModel" "thrown" "I") (by decide +kernel)) (fun _ h9 => h9) rfl dX1_read_80 ?_
                refine lv_if_le (tgt := 88) hx hb dX1_read_83 (by decide) (fun c23 => ?_) (fun c23 => ?_)
                · exact absurd c23 (by decide)
                ·
                  refine lv_lconst (v := 0) hx hb dX1_read_86 (by decide) ?_
                  exact W.lret (v := 0) hx hb hr (fun t ht hWm => ⟨⟨0, (1, (yNT y), (yNO y), (yNP y), (yT y), (yH y), (yO y), (yD y), (yW y), (yB y), (yC y), (yQ y)), rfl, hw, by rw [ht]; exact hP, va_K.moved hWm.alike hK, hD⟩, hS.F ht⟩) hS.2.2 dX1_read_87
              · exact absurd (by decide) c22
          · have hw := hw.1 c20
            refine lv_iconst (v := 1) hx hb dX1_read_54 (by decide) ?_
            refine lv_goto (tgt := 59) hx hb dX1_read_55 (by decide) ?_
            refine lv_istore (lv' := [(4, .int 1), (3, .int 0), (0, .ref k0), (1, .int v1), (2, .int v2)]) hx hb dX1_read_59 hl (by decide) rfl (fun ls hl => ?_)
            refine lv_aload_n hx hb dX1_read_61 rfl (lv_at hl 2 rfl) ?_
            refine lv_iload_n hx hb dX1_read_62 rfl (lv_at hl 1 rfl) ?_
            refine lv_if_ne (tgt := 71) hx hb dX1_read_63 (by decide) (fun c24 => ?_) (fun c24 => ?_)
            · exact absurd (by decide) c24
            ·
              refine lv_iload hx hb dX1_read_66 (lv_at hl 0 rfl) ?_
              refine lv_if_eq (tgt := 75) hx hb dX1_read_68 (by decide) (fun c25 => ?_) (fun c25 => ?_)
              · exact absurd c25 (by decide)
              ·
                refine lv_iconst (v := 0) hx hb dX1_read_71 (by decide) ?_
                refine lv_goto (tgt := 76) hx hb dX1_read_72 (by decide) ?_
                refine va_put (D := D) (ci := 1) (v := .int 0) (ty := .int) (C := RX1) (T := TX1) (N := 12) hx hb hts hin tyX1 tyX1_ok nmX1 hown hK hP hD hS 0 rfl rfl 0 (by decide) (hts (.fieldLink RX1 36 "TideDepthsModel" "thrown" "I") (by decide +kernel)) (fun _ h9 => h9) rfl (by decide +kernel) rfl rfl (Nat.le_of_ble_eq_true rfl) dX1_read_76 (fun H locs hP hD hS => ?_)
                have hP : va_P D cls2 (x1W cI cJ k0 b1 b2 b3 b4 b5 b6 b7 b8 (0, (yNT y), (yNO y), (yNP y), (yT y), (yH y), (yO y), (yD y), (yW y), (yB y), (yC y), (yQ y))) H := hP
                have hD : va_D A (x1W cI cJ k0 b1 b2 b3 b4 b5 b6 b7 b8 (0, (yNT y), (yNO y), (yNP y), (yT y), (yH y), (yO y), (yD y), (yW y), (yB y), (yC y), (yQ y))) := hD
                have hW : YW D cI cJ k0 b1 b2 b3 b4 b5 b6 b7 b8 (0, (yNT y), (yNO y), (yNP y), (yT y), (yH y), (yO y), (yD y), (yW y), (yB y), (yC y), (yQ y)) s H := ⟨hP, hK⟩
                refine lv_aload_n hx hb dX1_read_79 rfl (lv_at hl 2 rfl) ?_
                refine va_get (D := D) (ci := 1) (v := .int 0) (C := RX1) (T := TX1) (N := 12) hx hb hts hin hown hK hP 0 rfl rfl 0 (by decide) (hts (.fieldLink RX1 36 "TideDepthsModel" "thrown" "I") (by decide +kernel)) (fun _ h9 => h9) rfl dX1_read_80 ?_
                refine lv_if_le (tgt := 88) hx hb dX1_read_83 (by decide) (fun c26 => ?_) (fun c26 => ?_)
                ·
                  refine lv_iload_n hx hb dX1_read_88 rfl (lv_at hl 4 rfl) ?_
                  refine lv_if_ne (tgt := 102) hx hb dX1_read_89 (by decide) (fun c27 => ?_) (fun c27 => ?_)
                  · have hw := hw.2 c27
                    refine lv_iload_n hx hb dX1_read_102 rfl (lv_at hl 4 rfl) ?_
                    refine lv_iconst (v := 1) hx hb dX1_read_103 (by decide) ?_
                    refine lv_icmp_ne (tgt := 117) hx hb dX1_read_104 (by decide) (fun c28 => ?_) (fun c28 => ?_)
                    · have hw := hw.2 c28
                      refine lv_iload_n hx hb dX1_read_117 rfl (lv_at hl 4 rfl) ?_
                      refine lv_iconst (v := 2) hx hb dX1_read_118 (by decide) ?_
                      refine lv_icmp_ne (tgt := 135) hx hb dX1_read_119 (by decide) (fun c29 => ?_) (fun c29 => ?_)
                      ·
                        refine lv_aload_n hx hb dX1_read_135 rfl (lv_at hl 2 rfl) ?_
                        refine va_get (D := D) (ci := 1) (v := .ref b4) (C := RX1) (T := TX1) (N := 12) hx hb hts hin hown hK hP 0 rfl rfl 7 (by decide) (hts (.fieldLink RX1 19 "TideDepthsModel" "difference" "[J") (by decide +kernel)) (fun _ h9 => h9) rfl dX1_read_136 ?_
                        refine lv_iload_n hx hb dX1_read_139 rfl (lv_at hl 3 rfl) ?_
                        refine lv_bipush (v := 100) hx hb dX1_read_140 (by decide) ?_
                        refine lv_isub hx hb dX1_read_142 ?_
                        obtain ⟨h30, hw⟩ := hw
                        refine va_lald hx hb hK hP 4 1 rfl rfl h30 dX1_read_143 ?_
                        exact W.lret (v := ((yD y) ((v1 - 100)).toNatClampNeg)) hx hb hr (fun t ht hWm => ⟨⟨((yD y) ((v1 - 100)).toNatClampNeg), (0, (yNT y), (yNO y), (yNP y), (yT y), (yH y), (yO y), (yD y), (yW y), (yB y), (yC y), (yQ y)), rfl, hw, by rw [ht]; exact hP, va_K.moved hWm.alike hK, hD⟩, hS.F ht⟩) hS.2.2 dX1_read_144
                      · exact absurd c29 c10
                    · have hw := hw.1 c28
                      refine lv_aload_n hx hb dX1_read_107 rfl (lv_at hl 2 rfl) ?_
                      refine va_get (D := D) (ci := 1) (v := .ref b2) (C := RX1) (T := TX1) (N := 12) hx hb hts hin hown hK hP 0 rfl rfl 5 (by decide) (hts (.fieldLink RX1 13 "TideDepthsModel" "turnHeight" "[I") (by decide +kernel)) (fun _ h9 => h9) rfl dX1_read_108 ?_
                      refine lv_iload_n hx hb dX1_read_111 rfl (lv_at hl 3 rfl) ?_
                      obtain ⟨h31, hw⟩ := hw
                      refine va_iald hx hb hK hP 2 0 rfl rfl h31 dX1_read_112 ?_
                      refine lv_i2l (v := (((yH y) (v1).toNatClampNeg)).toInt64) hx hb dX1_read_113 rfl ?_
                      refine lv_goto (tgt := 144) hx hb dX1_read_114 (by decide) ?_
                      exact W.lret (v := (((yH y) (v1).toNatClampNeg)).toInt64) hx hb hr (fun t ht hWm => ⟨⟨(((yH y) (v1).toNatClampNeg)).toInt64, (0, (yNT y), (yNO y), (yNP y), (yT y), (yH y), (yO y), (yD y), (yW y), (yB y), (yC y), (yQ y)), rfl, hw, by rw [ht]; exact hP, va_K.moved hWm.alike hK, hD⟩, hS.F ht⟩) hS.2.2 dX1_read_144
                  · have hw := hw.1 c27
                    refine lv_aload_n hx hb dX1_read_92 rfl (lv_at hl 2 rfl) ?_
                    refine va_get (D := D) (ci := 1) (v := .ref b1) (C := RX1) (T := TX1) (N := 12) hx hb hts hin hown hK hP 0 rfl rfl 4 (by decide) (hts (.fieldLink RX1 7 "TideDepthsModel" "turnTime" "[I") (by decide +kernel)) (fun _ h9 => h9) rfl dX1_read_93 ?_
                    refine lv_iload_n hx hb dX1_read_96 rfl (lv_at hl 3 rfl) ?_
                    obtain ⟨h32, hw⟩ := hw
                    refine va_iald hx hb hK hP 1 0 rfl rfl h32 dX1_read_97 ?_
                    refine lv_i2l (v := (((yT y) (v1).toNatClampNeg)).toInt64) hx hb dX1_read_98 rfl ?_
                    refine lv_goto (tgt := 144) hx hb dX1_read_99 (by decide) ?_
                    exact W.lret (v := (((yT y) (v1).toNatClampNeg)).toInt64) hx hb hr (fun t ht hWm => ⟨⟨(((yT y) (v1).toNatClampNeg)).toInt64, (0, (yNT y), (yNO y), (yNP y), (yT y), (yH y), (yO y), (yD y), (yW y), (yB y), (yC y), (yQ y)), rfl, hw, by rw [ht]; exact hP, va_K.moved hWm.alike hK, hD⟩, hS.F ht⟩) hS.2.2 dX1_read_144
                · exact absurd (by decide) c26
  · have hw := hw.2 c1
    refine lv_iload_n hx hb dX1_read_4 rfl (lv_at hl 1 rfl) ?_
    refine lv_aload_n hx hb dX1_read_5 rfl (lv_at hl 0 rfl) ?_
    refine va_get (D := D) (ci := 1) (v := .int (yNT y)) (C := RX1) (T := TX1) (N := 12) hx hb hts hin hown hK hP 0 rfl rfl 1 (by decide) (hts (.fieldLink RX1 40 "TideDepthsModel" "turns" "I") (by decide +kernel)) (fun _ h9 => h9) rfl dX1_read_6 ?_
    refine lv_icmp_ge (tgt := 25) hx hb dX1_read_9 (by decide) (fun c33 => ?_) (fun c33 => ?_)
    · have hw := hw.1 c33
      refine lv_iconst (v := 0) hx hb dX1_read_25 (by decide) ?_
      refine lv_istore_n (lv' := [(3, .int 0), (0, .ref k0), (1, .int v1), (2, .int v2)]) hx hb dX1_read_26 rfl hl (by decide) rfl (fun ls hl => ?_)
      refine lv_iload_n hx hb dX1_read_27 rfl (lv_at hl 2 rfl) ?_
      refine lv_bipush (v := 100) hx hb dX1_read_28 (by decide) ?_
      refine lv_icmp_lt (tgt := 58) hx hb dX1_read_30 (by decide) (fun c34 => ?_) (fun c34 => ?_)
      · have hw := hw.1 c34
        refine lv_iconst (v := 0) hx hb dX1_read_58 (by decide) ?_
        refine lv_istore (lv' := [(4, .int 0), (3, .int 0), (0, .ref k0), (1, .int v1), (2, .int v2)]) hx hb dX1_read_59 hl (by decide) rfl (fun ls hl => ?_)
        refine lv_aload_n hx hb dX1_read_61 rfl (lv_at hl 2 rfl) ?_
        refine lv_iload_n hx hb dX1_read_62 rfl (lv_at hl 1 rfl) ?_
        refine lv_if_ne (tgt := 71) hx hb dX1_read_63 (by decide) (fun c35 => ?_) (fun c35 => ?_)
        · exact absurd (by decide) c35
        ·
          refine lv_iload hx hb dX1_read_66 (lv_at hl 0 rfl) ?_
          refine lv_if_eq (tgt := 75) hx hb dX1_read_68 (by decide) (fun c36 => ?_) (fun c36 => ?_)
          ·
            refine lv_iconst (v := 1) hx hb dX1_read_75 (by decide) ?_
            refine va_put (D := D) (ci := 1) (v := .int 1) (ty := .int) (C := RX1) (T := TX1) (N := 12) hx hb hts hin tyX1 tyX1_ok nmX1 hown hK hP hD hS 0 rfl rfl 0 (by decide) (hts (.fieldLink RX1 36 "TideDepthsModel" "thrown" "I") (by decide +kernel)) (fun _ h9 => h9) rfl (by decide +kernel) rfl rfl (Nat.le_of_ble_eq_true rfl) dX1_read_76 (fun H locs hP hD hS => ?_)
            have hP : va_P D cls2 (x1W cI cJ k0 b1 b2 b3 b4 b5 b6 b7 b8 (1, (yNT y), (yNO y), (yNP y), (yT y), (yH y), (yO y), (yD y), (yW y), (yB y), (yC y), (yQ y))) H := hP
            have hD : va_D A (x1W cI cJ k0 b1 b2 b3 b4 b5 b6 b7 b8 (1, (yNT y), (yNO y), (yNP y), (yT y), (yH y), (yO y), (yD y), (yW y), (yB y), (yC y), (yQ y))) := hD
            have hW : YW D cI cJ k0 b1 b2 b3 b4 b5 b6 b7 b8 (1, (yNT y), (yNO y), (yNP y), (yT y), (yH y), (yO y), (yD y), (yW y), (yB y), (yC y), (yQ y)) s H := ⟨hP, hK⟩
            refine lv_aload_n hx hb dX1_read_79 rfl (lv_at hl 2 rfl) ?_
            refine va_get (D := D) (ci := 1) (v := .int 1) (C := RX1) (T := TX1) (N := 12) hx hb hts hin hown hK hP 0 rfl rfl 0 (by decide) (hts (.fieldLink RX1 36 "TideDepthsModel" "thrown" "I") (by decide +kernel)) (fun _ h9 => h9) rfl dX1_read_80 ?_
            refine lv_if_le (tgt := 88) hx hb dX1_read_83 (by decide) (fun c37 => ?_) (fun c37 => ?_)
            · exact absurd c37 (by decide)
            ·
              refine lv_lconst (v := 0) hx hb dX1_read_86 (by decide) ?_
              exact W.lret (v := 0) hx hb hr (fun t ht hWm => ⟨⟨0, (1, (yNT y), (yNO y), (yNP y), (yT y), (yH y), (yO y), (yD y), (yW y), (yB y), (yC y), (yQ y)), rfl, hw, by rw [ht]; exact hP, va_K.moved hWm.alike hK, hD⟩, hS.F ht⟩) hS.2.2 dX1_read_87
          · exact absurd (by decide) c36
      · have hw := hw.2 c34
        refine lv_iload_n hx hb dX1_read_33 rfl (lv_at hl 2 rfl) ?_
        refine lv_bipush (v := 100) hx hb dX1_read_34 (by decide) ?_
        refine lv_isub hx hb dX1_read_36 ?_
        refine lv_aload_n hx hb dX1_read_37 rfl (lv_at hl 1 rfl) ?_
        refine va_get (D := D) (ci := 1) (v := .int (yNO y)) (C := RX1) (T := TX1) (N := 12) hx hb hts hin hown hK hP 0 rfl rfl 2 (by decide) (hts (.fieldLink RX1 59 "TideDepthsModel" "observations" "I") (by decide +kernel)) (fun _ h9 => h9) rfl dX1_read_38 ?_
        refine lv_icmp_ge (tgt := 58) hx hb dX1_read_41 (by decide) (fun c38 => ?_) (fun c38 => ?_)
        · have hw := hw.1 c38
          refine lv_iconst (v := 0) hx hb dX1_read_58 (by decide) ?_
          refine lv_istore (lv' := [(4, .int 0), (3, .int 0), (0, .ref k0), (1, .int v1), (2, .int v2)]) hx hb dX1_read_59 hl (by decide) rfl (fun ls hl => ?_)
          refine lv_aload_n hx hb dX1_read_61 rfl (lv_at hl 2 rfl) ?_
          refine lv_iload_n hx hb dX1_read_62 rfl (lv_at hl 1 rfl) ?_
          refine lv_if_ne (tgt := 71) hx hb dX1_read_63 (by decide) (fun c39 => ?_) (fun c39 => ?_)
          · exact absurd (by decide) c39
          ·
            refine lv_iload hx hb dX1_read_66 (lv_at hl 0 rfl) ?_
            refine lv_if_eq (tgt := 75) hx hb dX1_read_68 (by decide) (fun c40 => ?_) (fun c40 => ?_)
            ·
              refine lv_iconst (v := 1) hx hb dX1_read_75 (by decide) ?_
              refine va_put (D := D) (ci := 1) (v := .int 1) (ty := .int) (C := RX1) (T := TX1) (N := 12) hx hb hts hin tyX1 tyX1_ok nmX1 hown hK hP hD hS 0 rfl rfl 0 (by decide) (hts (.fieldLink RX1 36 "TideDepthsModel" "thrown" "I") (by decide +kernel)) (fun _ h9 => h9) rfl (by decide +kernel) rfl rfl (Nat.le_of_ble_eq_true rfl) dX1_read_76 (fun H locs hP hD hS => ?_)
              have hP : va_P D cls2 (x1W cI cJ k0 b1 b2 b3 b4 b5 b6 b7 b8 (1, (yNT y), (yNO y), (yNP y), (yT y), (yH y), (yO y), (yD y), (yW y), (yB y), (yC y), (yQ y))) H := hP
              have hD : va_D A (x1W cI cJ k0 b1 b2 b3 b4 b5 b6 b7 b8 (1, (yNT y), (yNO y), (yNP y), (yT y), (yH y), (yO y), (yD y), (yW y), (yB y), (yC y), (yQ y))) := hD
              have hW : YW D cI cJ k0 b1 b2 b3 b4 b5 b6 b7 b8 (1, (yNT y), (yNO y), (yNP y), (yT y), (yH y), (yO y), (yD y), (yW y), (yB y), (yC y), (yQ y)) s H := ⟨hP, hK⟩
              refine lv_aload_n hx hb dX1_read_79 rfl (lv_at hl 2 rfl) ?_
              refine va_get (D := D) (ci := 1) (v := .int 1) (C := RX1) (T := TX1) (N := 12) hx hb hts hin hown hK hP 0 rfl rfl 0 (by decide) (hts (.fieldLink RX1 36 "TideDepthsModel" "thrown" "I") (by decide +kernel)) (fun _ h9 => h9) rfl dX1_read_80 ?_
              refine lv_if_le (tgt := 88) hx hb dX1_read_83 (by decide) (fun c41 => ?_) (fun c41 => ?_)
              · exact absurd c41 (by decide)
              ·
                refine lv_lconst (v := 0) hx hb dX1_read_86 (by decide) ?_
                exact W.lret (v := 0) hx hb hr (fun t ht hWm => ⟨⟨0, (1, (yNT y), (yNO y), (yNP y), (yT y), (yH y), (yO y), (yD y), (yW y), (yB y), (yC y), (yQ y)), rfl, hw, by rw [ht]; exact hP, va_K.moved hWm.alike hK, hD⟩, hS.F ht⟩) hS.2.2 dX1_read_87
            · exact absurd (by decide) c40
        · have hw := hw.2 c38
          refine lv_iload_n hx hb dX1_read_44 rfl (lv_at hl 3 rfl) ?_
          refine lv_iconst (v := 2) hx hb dX1_read_45 (by decide) ?_
          refine lv_icmp_eq (tgt := 54) hx hb dX1_read_46 (by decide) (fun c42 => ?_) (fun c42 => ?_)
          · have hw := hw.1 c42
            refine lv_iconst (v := 1) hx hb dX1_read_54 (by decide) ?_
            refine lv_goto (tgt := 59) hx hb dX1_read_55 (by decide) ?_
            refine lv_istore (lv' := [(4, .int 1), (3, .int 0), (0, .ref k0), (1, .int v1), (2, .int v2)]) hx hb dX1_read_59 hl (by decide) rfl (fun ls hl => ?_)
            refine lv_aload_n hx hb dX1_read_61 rfl (lv_at hl 2 rfl) ?_
            refine lv_iload_n hx hb dX1_read_62 rfl (lv_at hl 1 rfl) ?_
            refine lv_if_ne (tgt := 71) hx hb dX1_read_63 (by decide) (fun c43 => ?_) (fun c43 => ?_)
            · exact absurd (by decide) c43
            ·
              refine lv_iload hx hb dX1_read_66 (lv_at hl 0 rfl) ?_
              refine lv_if_eq (tgt := 75) hx hb dX1_read_68 (by decide) (fun c44 => ?_) (fun c44 => ?_)
              · exact absurd c44 (by decide)
              ·
                refine lv_iconst (v := 0) hx hb dX1_read_71 (by decide) ?_
                refine lv_goto (tgt := 76) hx hb dX1_read_72 (by decide) ?_
                refine va_put (D := D) (ci := 1) (v := .int 0) (ty := .int) (C := RX1) (T := TX1) (N := 12) hx hb hts hin tyX1 tyX1_ok nmX1 hown hK hP hD hS 0 rfl rfl 0 (by decide) (hts (.fieldLink RX1 36 "TideDepthsModel" "thrown" "I") (by decide +kernel)) (fun _ h9 => h9) rfl (by decide +kernel) rfl rfl (Nat.le_of_ble_eq_true rfl) dX1_read_76 (fun H locs hP hD hS => ?_)
                have hP : va_P D cls2 (x1W cI cJ k0 b1 b2 b3 b4 b5 b6 b7 b8 (0, (yNT y), (yNO y), (yNP y), (yT y), (yH y), (yO y), (yD y), (yW y), (yB y), (yC y), (yQ y))) H := hP
                have hD : va_D A (x1W cI cJ k0 b1 b2 b3 b4 b5 b6 b7 b8 (0, (yNT y), (yNO y), (yNP y), (yT y), (yH y), (yO y), (yD y), (yW y), (yB y), (yC y), (yQ y))) := hD
                have hW : YW D cI cJ k0 b1 b2 b3 b4 b5 b6 b7 b8 (0, (yNT y), (yNO y), (yNP y), (yT y), (yH y), (yO y), (yD y), (yW y), (yB y), (yC y), (yQ y)) s H := ⟨hP, hK⟩
                refine lv_aload_n hx hb dX1_read_79 rfl (lv_at hl 2 rfl) ?_
                refine va_get (D := D) (ci := 1) (v := .int 0) (C := RX1) (T := TX1) (N := 12) hx hb hts hin hown hK hP 0 rfl rfl 0 (by decide) (hts (.fieldLink RX1 36 "TideDepthsModel" "thrown" "I") (by decide +kernel)) (fun _ h9 => h9) rfl dX1_read_80 ?_
                refine lv_if_le (tgt := 88) hx hb dX1_read_83 (by decide) (fun c45 => ?_) (fun c45 => ?_)
                ·
                  refine lv_iload_n hx hb dX1_read_88 rfl (lv_at hl 4 rfl) ?_
                  refine lv_if_ne (tgt := 102) hx hb dX1_read_89 (by decide) (fun c46 => ?_) (fun c46 => ?_)
                  · have hw := hw.2 c46
                    refine lv_iload_n hx hb dX1_read_102 rfl (lv_at hl 4 rfl) ?_
                    refine lv_iconst (v := 1) hx hb dX1_read_103 (by decide) ?_
                    refine lv_icmp_ne (tgt := 117) hx hb dX1_read_104 (by decide) (fun c47 => ?_) (fun c47 => ?_)
                    · have hw := hw.2 c47
                      refine lv_iload_n hx hb dX1_read_117 rfl (lv_at hl 4 rfl) ?_
                      refine lv_iconst (v := 2) hx hb dX1_read_118 (by decide) ?_
                      refine lv_icmp_ne (tgt := 135) hx hb dX1_read_119 (by decide) (fun c48 => ?_) (fun c48 => ?_)
                      · exact absurd c42 c48
                      ·
                        refine lv_aload_n hx hb dX1_read_122 rfl (lv_at hl 2 rfl) ?_
                        refine va_get (D := D) (ci := 1) (v := .ref b3) (C := RX1) (T := TX1) (N := 12) hx hb hts hin hown hK hP 0 rfl rfl 6 (by decide) (hts (.fieldLink RX1 16 "TideDepthsModel" "seenTime" "[I") (by decide +kernel)) (fun _ h9 => h9) rfl dX1_read_123 ?_
                        refine lv_iload_n hx hb dX1_read_126 rfl (lv_at hl 3 rfl) ?_
                        refine lv_bipush (v := 100) hx hb dX1_read_127 (by decide) ?_
                        refine lv_isub hx hb dX1_read_129 ?_
                        obtain ⟨h49, hw⟩ := hw
                        refine va_iald hx hb hK hP 3 0 rfl rfl h49 dX1_read_130 ?_
                        refine lv_i2l (v := (((yO y) ((v1 - 100)).toNatClampNeg)).toInt64) hx hb dX1_read_131 rfl ?_
                        refine lv_goto (tgt := 144) hx hb dX1_read_132 (by decide) ?_
                        exact W.lret (v := (((yO y) ((v1 - 100)).toNatClampNeg)).toInt64) hx hb hr (fun t ht hWm => ⟨⟨(((yO y) ((v1 - 100)).toNatClampNeg)).toInt64, (0, (yNT y), (yNO y), (yNP y), (yT y), (yH y), (yO y), (yD y), (yW y), (yB y), (yC y), (yQ y)), rfl, hw, by rw [ht]; exact hP, va_K.moved hWm.alike hK, hD⟩, hS.F ht⟩) hS.2.2 dX1_read_144
                    · have hw := hw.1 c47
                      refine lv_aload_n hx hb dX1_read_107 rfl (lv_at hl 2 rfl) ?_
                      refine va_get (D := D) (ci := 1) (v := .ref b2) (C := RX1) (T := TX1) (N := 12) hx hb hts hin hown hK hP 0 rfl rfl 5 (by decide) (hts (.fieldLink RX1 13 "TideDepthsModel" "turnHeight" "[I") (by decide +kernel)) (fun _ h9 => h9) rfl dX1_read_108 ?_
                      refine lv_iload_n hx hb dX1_read_111 rfl (lv_at hl 3 rfl) ?_
                      obtain ⟨h50, hw⟩ := hw
                      refine va_iald hx hb hK hP 2 0 rfl rfl h50 dX1_read_112 ?_
                      refine lv_i2l (v := (((yH y) (v1).toNatClampNeg)).toInt64) hx hb dX1_read_113 rfl ?_
                      refine lv_goto (tgt := 144) hx hb dX1_read_114 (by decide) ?_
                      exact W.lret (v := (((yH y) (v1).toNatClampNeg)).toInt64) hx hb hr (fun t ht hWm => ⟨⟨(((yH y) (v1).toNatClampNeg)).toInt64, (0, (yNT y), (yNO y), (yNP y), (yT y), (yH y), (yO y), (yD y), (yW y), (yB y), (yC y), (yQ y)), rfl, hw, by rw [ht]; exact hP, va_K.moved hWm.alike hK, hD⟩, hS.F ht⟩) hS.2.2 dX1_read_144
                  · have hw := hw.1 c46
                    refine lv_aload_n hx hb dX1_read_92 rfl (lv_at hl 2 rfl) ?_
                    refine va_get (D := D) (ci := 1) (v := .ref b1) (C := RX1) (T := TX1) (N := 12) hx hb hts hin hown hK hP 0 rfl rfl 4 (by decide) (hts (.fieldLink RX1 7 "TideDepthsModel" "turnTime" "[I") (by decide +kernel)) (fun _ h9 => h9) rfl dX1_read_93 ?_
                    refine lv_iload_n hx hb dX1_read_96 rfl (lv_at hl 3 rfl) ?_
                    obtain ⟨h51, hw⟩ := hw
                    refine va_iald hx hb hK hP 1 0 rfl rfl h51 dX1_read_97 ?_
                    refine lv_i2l (v := (((yT y) (v1).toNatClampNeg)).toInt64) hx hb dX1_read_98 rfl ?_
                    refine lv_goto (tgt := 144) hx hb dX1_read_99 (by decide) ?_
                    exact W.lret (v := (((yT y) (v1).toNatClampNeg)).toInt64) hx hb hr (fun t ht hWm => ⟨⟨(((yT y) (v1).toNatClampNeg)).toInt64, (0, (yNT y), (yNO y), (yNP y), (yT y), (yH y), (yO y), (yD y), (yW y), (yB y), (yC y), (yQ y)), rfl, hw, by rw [ht]; exact hP, va_K.moved hWm.alike hK, hD⟩, hS.F ht⟩) hS.2.2 dX1_read_144
                · exact absurd (by decide) c45
          · have hw := hw.2 c42
            refine lv_iload_n hx hb dX1_read_49 rfl (lv_at hl 3 rfl) ?_
            refine lv_iconst (v := 3) hx hb dX1_read_50 (by decide) ?_
            refine lv_icmp_ne (tgt := 58) hx hb dX1_read_51 (by decide) (fun c52 => ?_) (fun c52 => ?_)
            · have hw := hw.2 c52
              refine lv_iconst (v := 0) hx hb dX1_read_58 (by decide) ?_
              refine lv_istore (lv' := [(4, .int 0), (3, .int 0), (0, .ref k0), (1, .int v1), (2, .int v2)]) hx hb dX1_read_59 hl (by decide) rfl (fun ls hl => ?_)
              refine lv_aload_n hx hb dX1_read_61 rfl (lv_at hl 2 rfl) ?_
              refine lv_iload_n hx hb dX1_read_62 rfl (lv_at hl 1 rfl) ?_
              refine lv_if_ne (tgt := 71) hx hb dX1_read_63 (by decide) (fun c53 => ?_) (fun c53 => ?_)
              · exact absurd (by decide) c53
              ·
                refine lv_iload hx hb dX1_read_66 (lv_at hl 0 rfl) ?_
                refine lv_if_eq (tgt := 75) hx hb dX1_read_68 (by decide) (fun c54 => ?_) (fun c54 => ?_)
                ·
                  refine lv_iconst (v := 1) hx hb dX1_read_75 (by decide) ?_
                  refine va_put (D := D) (ci := 1) (v := .int 1) (ty := .int) (C := RX1) (T := TX1) (N := 12) hx hb hts hin tyX1 tyX1_ok nmX1 hown hK hP hD hS 0 rfl rfl 0 (by decide) (hts (.fieldLink RX1 36 "TideDepthsModel" "thrown" "I") (by decide +kernel)) (fun _ h9 => h9) rfl (by decide +kernel) rfl rfl (Nat.le_of_ble_eq_true rfl) dX1_read_76 (fun H locs hP hD hS => ?_)
                  have hP : va_P D cls2 (x1W cI cJ k0 b1 b2 b3 b4 b5 b6 b7 b8 (1, (yNT y), (yNO y), (yNP y), (yT y), (yH y), (yO y), (yD y), (yW y), (yB y), (yC y), (yQ y))) H := hP
                  have hD : va_D A (x1W cI cJ k0 b1 b2 b3 b4 b5 b6 b7 b8 (1, (yNT y), (yNO y), (yNP y), (yT y), (yH y), (yO y), (yD y), (yW y), (yB y), (yC y), (yQ y))) := hD
                  have hW : YW D cI cJ k0 b1 b2 b3 b4 b5 b6 b7 b8 (1, (yNT y), (yNO y), (yNP y), (yT y), (yH y), (yO y), (yD y), (yW y), (yB y), (yC y), (yQ y)) s H := ⟨hP, hK⟩
                  refine lv_aload_n hx hb dX1_read_79 rfl (lv_at hl 2 rfl) ?_
                  refine va_get (D := D) (ci := 1) (v := .int 1) (C := RX1) (T := TX1) (N := 12) hx hb hts hin hown hK hP 0 rfl rfl 0 (by decide) (hts (.fieldLink RX1 36 "TideDepthsModel" "thrown" "I") (by decide +kernel)) (fun _ h9 => h9) rfl dX1_read_80 ?_
                  refine lv_if_le (tgt := 88) hx hb dX1_read_83 (by decide) (fun c55 => ?_) (fun c55 => ?_)
                  · exact absurd c55 (by decide)
                  ·
                    refine lv_lconst (v := 0) hx hb dX1_read_86 (by decide) ?_
                    exact W.lret (v := 0) hx hb hr (fun t ht hWm => ⟨⟨0, (1, (yNT y), (yNO y), (yNP y), (yT y), (yH y), (yO y), (yD y), (yW y), (yB y), (yC y), (yQ y)), rfl, hw, by rw [ht]; exact hP, va_K.moved hWm.alike hK, hD⟩, hS.F ht⟩) hS.2.2 dX1_read_87
                · exact absurd (by decide) c54
            · have hw := hw.1 c52
              refine lv_iconst (v := 1) hx hb dX1_read_54 (by decide) ?_
              refine lv_goto (tgt := 59) hx hb dX1_read_55 (by decide) ?_
              refine lv_istore (lv' := [(4, .int 1), (3, .int 0), (0, .ref k0), (1, .int v1), (2, .int v2)]) hx hb dX1_read_59 hl (by decide) rfl (fun ls hl => ?_)
              refine lv_aload_n hx hb dX1_read_61 rfl (lv_at hl 2 rfl) ?_
              refine lv_iload_n hx hb dX1_read_62 rfl (lv_at hl 1 rfl) ?_
              refine lv_if_ne (tgt := 71) hx hb dX1_read_63 (by decide) (fun c56 => ?_) (fun c56 => ?_)
              · exact absurd (by decide) c56
              ·
                refine lv_iload hx hb dX1_read_66 (lv_at hl 0 rfl) ?_
                refine lv_if_eq (tgt := 75) hx hb dX1_read_68 (by decide) (fun c57 => ?_) (fun c57 => ?_)
                · exact absurd c57 (by decide)
                ·
                  refine lv_iconst (v := 0) hx hb dX1_read_71 (by decide) ?_
                  refine lv_goto (tgt := 76) hx hb dX1_read_72 (by decide) ?_
                  refine va_put (D := D) (ci := 1) (v := .int 0) (ty := .int) (C := RX1) (T := TX1) (N := 12) hx hb hts hin tyX1 tyX1_ok nmX1 hown hK hP hD hS 0 rfl rfl 0 (by decide) (hts (.fieldLink RX1 36 "TideDepthsModel" "thrown" "I") (by decide +kernel)) (fun _ h9 => h9) rfl (by decide +kernel) rfl rfl (Nat.le_of_ble_eq_true rfl) dX1_read_76 (fun H locs hP hD hS => ?_)
                  have hP : va_P D cls2 (x1W cI cJ k0 b1 b2 b3 b4 b5 b6 b7 b8 (0, (yNT y), (yNO y), (yNP y), (yT y), (yH y), (yO y), (yD y), (yW y), (yB y), (yC y), (yQ y))) H := hP
                  have hD : va_D A (x1W cI cJ k0 b1 b2 b3 b4 b5 b6 b7 b8 (0, (yNT y), (yNO y), (yNP y), (yT y), (yH y), (yO y), (yD y), (yW y), (yB y), (yC y), (yQ y))) := hD
                  have hW : YW D cI cJ k0 b1 b2 b3 b4 b5 b6 b7 b8 (0, (yNT y), (yNO y), (yNP y), (yT y), (yH y), (yO y), (yD y), (yW y), (yB y), (yC y), (yQ y)) s H := ⟨hP, hK⟩
                  refine lv_aload_n hx hb dX1_read_79 rfl (lv_at hl 2 rfl) ?_
                  refine va_get (D := D) (ci := 1) (v := .int 0) (C := RX1) (T := TX1) (N := 12) hx hb hts hin hown hK hP 0 rfl rfl 0 (by decide) (hts (.fieldLink RX1 36 "TideDepthsModel" "thrown" "I") (by decide +kernel)) (fun _ h9 => h9) rfl dX1_read_80 ?_
                  refine lv_if_le (tgt := 88) hx hb dX1_read_83 (by decide) (fun c58 => ?_) (fun c58 => ?_)
                  ·
                    refine lv_iload_n hx hb dX1_read_88 rfl (lv_at hl 4 rfl) ?_
                    refine lv_if_ne (tgt := 102) hx hb dX1_read_89 (by decide) (fun c59 => ?_) (fun c59 => ?_)
                    · have hw := hw.2 c59
                      refine lv_iload_n hx hb dX1_read_102 rfl (lv_at hl 4 rfl) ?_
                      refine lv_iconst (v := 1) hx hb dX1_read_103 (by decide) ?_
                      refine lv_icmp_ne (tgt := 117) hx hb dX1_read_104 (by decide) (fun c60 => ?_) (fun c60 => ?_)
                      · have hw := hw.2 c60
                        refine lv_iload_n hx hb dX1_read_117 rfl (lv_at hl 4 rfl) ?_
                        refine lv_iconst (v := 2) hx hb dX1_read_118 (by decide) ?_
                        refine lv_icmp_ne (tgt := 135) hx hb dX1_read_119 (by decide) (fun c61 => ?_) (fun c61 => ?_)
                        ·
                          refine lv_aload_n hx hb dX1_read_135 rfl (lv_at hl 2 rfl) ?_
                          refine va_get (D := D) (ci := 1) (v := .ref b4) (C := RX1) (T := TX1) (N := 12) hx hb hts hin hown hK hP 0 rfl rfl 7 (by decide) (hts (.fieldLink RX1 19 "TideDepthsModel" "difference" "[J") (by decide +kernel)) (fun _ h9 => h9) rfl dX1_read_136 ?_
                          refine lv_iload_n hx hb dX1_read_139 rfl (lv_at hl 3 rfl) ?_
                          refine lv_bipush (v := 100) hx hb dX1_read_140 (by decide) ?_
                          refine lv_isub hx hb dX1_read_142 ?_
                          obtain ⟨h62, hw⟩ := hw
                          refine va_lald hx hb hK hP 4 1 rfl rfl h62 dX1_read_143 ?_
                          exact W.lret (v := ((yD y) ((v1 - 100)).toNatClampNeg)) hx hb hr (fun t ht hWm => ⟨⟨((yD y) ((v1 - 100)).toNatClampNeg), (0, (yNT y), (yNO y), (yNP y), (yT y), (yH y), (yO y), (yD y), (yW y), (yB y), (yC y), (yQ y)), rfl, hw, by rw [ht]; exact hP, va_K.moved hWm.alike hK, hD⟩, hS.F ht⟩) hS.2.2 dX1_read_144
                        · exact absurd c61 c42
                      · have hw := hw.1 c60
                        refine lv_aload_n hx hb dX1_read_107 rfl (lv_at hl 2 rfl) ?_
                        refine va_get (D := D) (ci := 1) (v := .ref b2) (C := RX1) (T := TX1) (N := 12) hx hb hts hin hown hK hP 0 rfl rfl 5 (by decide) (hts (.fieldLink RX1 13 "TideDepthsModel" "turnHeight" "[I") (by decide +kernel)) (fun _ h9 => h9) rfl dX1_read_108 ?_
                        refine lv_iload_n hx hb dX1_read_111 rfl (lv_at hl 3 rfl) ?_
                        obtain ⟨h63, hw⟩ := hw
                        refine va_iald hx hb hK hP 2 0 rfl rfl h63 dX1_read_112 ?_
                        refine lv_i2l (v := (((yH y) (v1).toNatClampNeg)).toInt64) hx hb dX1_read_113 rfl ?_
                        refine lv_goto (tgt := 144) hx hb dX1_read_114 (by decide) ?_
                        exact W.lret (v := (((yH y) (v1).toNatClampNeg)).toInt64) hx hb hr (fun t ht hWm => ⟨⟨(((yH y) (v1).toNatClampNeg)).toInt64, (0, (yNT y), (yNO y), (yNP y), (yT y), (yH y), (yO y), (yD y), (yW y), (yB y), (yC y), (yQ y)), rfl, hw, by rw [ht]; exact hP, va_K.moved hWm.alike hK, hD⟩, hS.F ht⟩) hS.2.2 dX1_read_144
                    · have hw := hw.1 c59
                      refine lv_aload_n hx hb dX1_read_92 rfl (lv_at hl 2 rfl) ?_
                      refine va_get (D := D) (ci := 1) (v := .ref b1) (C := RX1) (T := TX1) (N := 12) hx hb hts hin hown hK hP 0 rfl rfl 4 (by decide) (hts (.fieldLink RX1 7 "TideDepthsModel" "turnTime" "[I") (by decide +kernel)) (fun _ h9 => h9) rfl dX1_read_93 ?_
                      refine lv_iload_n hx hb dX1_read_96 rfl (lv_at hl 3 rfl) ?_
                      obtain ⟨h64, hw⟩ := hw
                      refine va_iald hx hb hK hP 1 0 rfl rfl h64 dX1_read_97 ?_
                      refine lv_i2l (v := (((yT y) (v1).toNatClampNeg)).toInt64) hx hb dX1_read_98 rfl ?_
                      refine lv_goto (tgt := 144) hx hb dX1_read_99 (by decide) ?_
                      exact W.lret (v := (((yT y) (v1).toNatClampNeg)).toInt64) hx hb hr (fun t ht hWm => ⟨⟨(((yT y) (v1).toNatClampNeg)).toInt64, (0, (yNT y), (yNO y), (yNP y), (yT y), (yH y), (yO y), (yD y), (yW y), (yB y), (yC y), (yQ y)), rfl, hw, by rw [ht]; exact hP, va_K.moved hWm.alike hK, hD⟩, hS.F ht⟩) hS.2.2 dX1_read_144
                  · exact absurd (by decide) c58
    · have hw := hw.2 c33
      refine lv_iload_n hx hb dX1_read_12 rfl (lv_at hl 2 rfl) ?_
      refine lv_if_eq (tgt := 21) hx hb dX1_read_13 (by decide) (fun c65 => ?_) (fun c65 => ?_)
      · have hw := hw.1 c65
        refine lv_iconst (v := 1) hx hb dX1_read_21 (by decide) ?_
        refine lv_goto (tgt := 26) hx hb dX1_read_22 (by decide) ?_
        refine lv_istore_n (lv' := [(3, .int 1), (0, .ref k0), (1, .int v1), (2, .int v2)]) hx hb dX1_read_26 rfl hl (by decide) rfl (fun ls hl => ?_)
        refine lv_iload_n hx hb dX1_read_27 rfl (lv_at hl 2 rfl) ?_
        refine lv_bipush (v := 100) hx hb dX1_read_28 (by decide) ?_
        refine lv_icmp_lt (tgt := 58) hx hb dX1_read_30 (by decide) (fun c66 => ?_) (fun c66 => ?_)
        · have hw := hw.1 c66
          refine lv_iconst (v := 0) hx hb dX1_read_58 (by decide) ?_
          refine lv_istore (lv' := [(4, .int 0), (3, .int 1), (0, .ref k0), (1, .int v1), (2, .int v2)]) hx hb dX1_read_59 hl (by decide) rfl (fun ls hl => ?_)
          refine lv_aload_n hx hb dX1_read_61 rfl (lv_at hl 2 rfl) ?_
          refine lv_iload_n hx hb dX1_read_62 rfl (lv_at hl 1 rfl) ?_
          refine lv_if_ne (tgt := 71) hx hb dX1_read_63 (by decide) (fun c67 => ?_) (fun c67 => ?_)
          ·
            refine lv_iconst (v := 0) hx hb dX1_read_71 (by decide) ?_
            refine lv_goto (tgt := 76) hx hb dX1_read_72 (by decide) ?_
            refine va_put (D := D) (ci := 1) (v := .int 0) (ty := .int) (C := RX1) (T := TX1) (N := 12) hx hb hts hin tyX1 tyX1_ok nmX1 hown hK hP hD hS 0 rfl rfl 0 (by decide) (hts (.fieldLink RX1 36 "TideDepthsModel" "thrown" "I") (by decide +kernel)) (fun _ h9 => h9) rfl (by decide +kernel) rfl rfl (Nat.le_of_ble_eq_true rfl) dX1_read_76 (fun H locs hP hD hS => ?_)
            have hP : va_P D cls2 (x1W cI cJ k0 b1 b2 b3 b4 b5 b6 b7 b8 (0, (yNT y), (yNO y), (yNP y), (yT y), (yH y), (yO y), (yD y), (yW y), (yB y), (yC y), (yQ y))) H := hP
            have hD : va_D A (x1W cI cJ k0 b1 b2 b3 b4 b5 b6 b7 b8 (0, (yNT y), (yNO y), (yNP y), (yT y), (yH y), (yO y), (yD y), (yW y), (yB y), (yC y), (yQ y))) := hD
            have hW : YW D cI cJ k0 b1 b2 b3 b4 b5 b6 b7 b8 (0, (yNT y), (yNO y), (yNP y), (yT y), (yH y), (yO y), (yD y), (yW y), (yB y), (yC y), (yQ y)) s H := ⟨hP, hK⟩
            refine lv_aload_n hx hb dX1_read_79 rfl (lv_at hl 2 rfl) ?_
            refine va_get (D := D) (ci := 1) (v := .int 0) (C := RX1) (T := TX1) (N := 12) hx hb hts hin hown hK hP 0 rfl rfl 0 (by decide) (hts (.fieldLink RX1 36 "TideDepthsModel" "thrown" "I") (by decide +kernel)) (fun _ h9 => h9) rfl dX1_read_80 ?_
            refine lv_if_le (tgt := 88) hx hb dX1_read_83 (by decide) (fun c68 => ?_) (fun c68 => ?_)
            ·
              refine lv_iload_n hx hb dX1_read_88 rfl (lv_at hl 4 rfl) ?_
              refine lv_if_ne (tgt := 102) hx hb dX1_read_89 (by decide) (fun c69 => ?_) (fun c69 => ?_)
              · exact absurd c65 c69
              ·
                refine lv_aload_n hx hb dX1_read_92 rfl (lv_at hl 2 rfl) ?_
                refine va_get (D := D) (ci := 1) (v := .ref b1) (C := RX1) (T := TX1) (N := 12) hx hb hts hin hown hK hP 0 rfl rfl 4 (by decide) (hts (.fieldLink RX1 7 "TideDepthsModel" "turnTime" "[I") (by decide +kernel)) (fun _ h9 => h9) rfl dX1_read_93 ?_
                refine lv_iload_n hx hb dX1_read_96 rfl (lv_at hl 3 rfl) ?_
                obtain ⟨h70, hw⟩ := hw
                refine va_iald hx hb hK hP 1 0 rfl rfl h70 dX1_read_97 ?_
                refine lv_i2l (v := (((yT y) (v1).toNatClampNeg)).toInt64) hx hb dX1_read_98 rfl ?_
                refine lv_goto (tgt := 144) hx hb dX1_read_99 (by decide) ?_
                exact W.lret (v := (((yT y) (v1).toNatClampNeg)).toInt64) hx hb hr (fun t ht hWm => ⟨⟨(((yT y) (v1).toNatClampNeg)).toInt64, (0, (yNT y), (yNO y), (yNP y), (yT y), (yH y), (yO y), (yD y), (yW y), (yB y), (yC y), (yQ y)), rfl, hw, by rw [ht]; exact hP, va_K.moved hWm.alike hK, hD⟩, hS.F ht⟩) hS.2.2 dX1_read_144
            · exact absurd (by decide) c68
          · exact absurd c67 (by decide)
        · have hw := hw.2 c66
          refine lv_iload_n hx hb dX1_read_33 rfl (lv_at hl 2 rfl) ?_
          refine lv_bipush (v := 100) hx hb dX1_read_34 (by decide) ?_
          refine lv_isub hx hb dX1_read_36 ?_
          refine lv_aload_n hx hb dX1_read_37 rfl (lv_at hl 1 rfl) ?_
          refine va_get (D := D) (ci := 1) (v := .int (yNO y)) (C := RX1) (T := TX1) (N := 12) hx hb hts hin hown hK hP 0 rfl rfl 2 (by decide) (hts (.fieldLink RX1 59 "TideDepthsModel" "observations" "I") (by decide +kernel)) (fun _ h9 => h9) rfl dX1_read_38 ?_
          refine lv_icmp_ge (tgt := 58) hx hb dX1_read_41 (by decide) (fun c71 => ?_) (fun c71 => ?_)
          · have hw := hw.1 c71
            refine lv_iconst (v := 0) hx hb dX1_read_58 (by decide) ?_
            refine lv_istore (lv' := [(4, .int 0), (3, .int 1), (0, .ref k0), (1, .int v1), (2, .int v2)]) hx hb dX1_read_59 hl (by decide) rfl (fun ls hl => ?_)
            refine lv_aload_n hx hb dX1_read_61 rfl (lv_at hl 2 rfl) ?_
            refine lv_iload_n hx hb dX1_read_62 rfl (lv_at hl 1 rfl) ?_
            refine lv_if_ne (tgt := 71) hx hb dX1_read_63 (by decide) (fun c72 => ?_) (fun c72 => ?_)
            ·
              refine lv_iconst (v := 0) hx hb dX1_read_71 (by decide) ?_
              refine lv_goto (tgt := 76) hx hb dX1_read_72 (by decide) ?_
              refine va_put (D := D) (ci := 1) (v := .int 0) (ty := .int) (C := RX1) (T := TX1) (N := 12) hx hb hts hin tyX1 tyX1_ok nmX1 hown hK hP hD hS 0 rfl rfl 0 (by decide) (hts (.fieldLink RX1 36 "TideDepthsModel" "thrown" "I") (by decide +kernel)) (fun _ h9 => h9) rfl (by decide +kernel) rfl rfl (Nat.le_of_ble_eq_true rfl) dX1_read_76 (fun H locs hP hD hS => ?_)
              have hP : va_P D cls2 (x1W cI cJ k0 b1 b2 b3 b4 b5 b6 b7 b8 (0, (yNT y), (yNO y), (yNP y), (yT y), (yH y), (yO y), (yD y), (yW y), (yB y), (yC y), (yQ y))) H := hP
              have hD : va_D A (x1W cI cJ k0 b1 b2 b3 b4 b5 b6 b7 b8 (0, (yNT y), (yNO y), (yNP y), (yT y), (yH y), (yO y), (yD y), (yW y), (yB y), (yC y), (yQ y))) := hD
              have hW : YW D cI cJ k0 b1 b2 b3 b4 b5 b6 b7 b8 (0, (yNT y), (yNO y), (yNP y), (yT y), (yH y), (yO y), (yD y), (yW y), (yB y), (yC y), (yQ y)) s H := ⟨hP, hK⟩
              refine lv_aload_n hx hb dX1_read_79 rfl (lv_at hl 2 rfl) ?_
              refine va_get (D := D) (ci := 1) (v := .int 0) (C := RX1) (T := TX1) (N := 12) hx hb hts hin hown hK hP 0 rfl rfl 0 (by decide) (hts (.fieldLink RX1 36 "TideDepthsModel" "thrown" "I") (by decide +kernel)) (fun _ h9 => h9) rfl dX1_read_80 ?_
              refine lv_if_le (tgt := 88) hx hb dX1_read_83 (by decide) (fun c73 => ?_) (fun c73 => ?_)
              ·
                refine lv_iload_n hx hb dX1_read_88 rfl (lv_at hl 4 rfl) ?_
                refine lv_if_ne (tgt := 102) hx hb dX1_read_89 (by decide) (fun c74 => ?_) (fun c74 => ?_)
                · exact absurd c65 c74
                ·
                  refine lv_aload_n hx hb dX1_read_92 rfl (lv_at hl 2 rfl) ?_
                  refine va_get (D := D) (ci := 1) (v := .ref b1) (C := RX1) (T := TX1) (N := 12) hx hb hts hin hown hK hP 0 rfl rfl 4 (by decide) (hts (.fieldLink RX1 7 "TideDepthsModel" "turnTime" "[I") (by decide +kernel)) (fun _ h9 => h9) rfl dX1_read_93 ?_
                  refine lv_iload_n hx hb dX1_read_96 rfl (lv_at hl 3 rfl) ?_
                  obtain ⟨h75, hw⟩ := hw
                  refine va_iald hx hb hK hP 1 0 rfl rfl h75 dX1_read_97 ?_
                  refine lv_i2l (v := (((yT y) (v1).toNatClampNeg)).toInt64) hx hb dX1_read_98 rfl ?_
                  refine lv_goto (tgt := 144) hx hb dX1_read_99 (by decide) ?_
                  exact W.lret (v := (((yT y) (v1).toNatClampNeg)).toInt64) hx hb hr (fun t ht hWm => ⟨⟨(((yT y) (v1).toNatClampNeg)).toInt64, (0, (yNT y), (yNO y), (yNP y), (yT y), (yH y), (yO y), (yD y), (yW y), (yB y), (yC y), (yQ y)), rfl, hw, by rw [ht]; exact hP, va_K.moved hWm.alike hK, hD⟩, hS.F ht⟩) hS.2.2 dX1_read_144
              · exact absurd (by decide) c73
            · exact absurd c72 (by decide)
          · have hw := hw.2 c71
            refine lv_iload_n hx hb dX1_read_44 rfl (lv_at hl 3 rfl) ?_
            refine lv_iconst (v := 2) hx hb dX1_read_45 (by decide) ?_
            refine lv_icmp_eq (tgt := 54) hx hb dX1_read_46 (by decide) (fun c76 => ?_) (fun c76 => ?_)
            · have hw := hw.1 c76
              refine lv_iconst (v := 1) hx hb dX1_read_54 (by decide) ?_
              refine lv_goto (tgt := 59) hx hb dX1_read_55 (by decide) ?_
              refine lv_istore (lv' := [(4, .int 1), (3, .int 1), (0, .ref k0), (1, .int v1), (2, .int v2)]) hx hb dX1_read_59 hl (by decide) rfl (fun ls hl => ?_)
              refine lv_aload_n hx hb dX1_read_61 rfl (lv_at hl 2 rfl) ?_
              refine lv_iload_n hx hb dX1_read_62 rfl (lv_at hl 1 rfl) ?_
              refine lv_if_ne (tgt := 71) hx hb dX1_read_63 (by decide) (fun c77 => ?_) (fun c77 => ?_)
              ·
                refine lv_iconst (v := 0) hx hb dX1_read_71 (by decide) ?_
                refine lv_goto (tgt := 76) hx hb dX1_read_72 (by decide) ?_
                refine va_put (D := D) (ci := 1) (v := .int 0) (ty := .int) (C := RX1) (T := TX1) (N := 12) hx hb hts hin tyX1 tyX1_ok nmX1 hown hK hP hD hS 0 rfl rfl 0 (by decide) (hts (.fieldLink RX1 36 "TideDepthsModel" "thrown" "I") (by decide +kernel)) (fun _ h9 => h9) rfl (by decide +kernel) rfl rfl (Nat.le_of_ble_eq_true rfl) dX1_read_76 (fun H locs hP hD hS => ?_)
                have hP : va_P D cls2 (x1W cI cJ k0 b1 b2 b3 b4 b5 b6 b7 b8 (0, (yNT y), (yNO y), (yNP y), (yT y), (yH y), (yO y), (yD y), (yW y), (yB y), (yC y), (yQ y))) H := hP
                have hD : va_D A (x1W cI cJ k0 b1 b2 b3 b4 b5 b6 b7 b8 (0, (yNT y), (yNO y), (yNP y), (yT y), (yH y), (yO y), (yD y), (yW y), (yB y), (yC y), (yQ y))) := hD
                have hW : YW D cI cJ k0 b1 b2 b3 b4 b5 b6 b7 b8 (0, (yNT y), (yNO y), (yNP y), (yT y), (yH y), (yO y), (yD y), (yW y), (yB y), (yC y), (yQ y)) s H := ⟨hP, hK⟩
                refine lv_aload_n hx hb dX1_read_79 rfl (lv_at hl 2 rfl) ?_
                refine va_get (D := D) (ci := 1) (v := .int 0) (C := RX1) (T := TX1) (N := 12) hx hb hts hin hown hK hP 0 rfl rfl 0 (by decide) (hts (.fieldLink RX1 36 "TideDepthsModel" "thrown" "I") (by decide +kernel)) (fun _ h9 => h9) rfl dX1_read_80 ?_
                refine lv_if_le (tgt := 88) hx hb dX1_read_83 (by decide) (fun c78 => ?_) (fun c78 => ?_)
                ·
                  refine lv_iload_n hx hb dX1_read_88 rfl (lv_at hl 4 rfl) ?_
                  refine lv_if_ne (tgt := 102) hx hb dX1_read_89 (by decide) (fun c79 => ?_) (fun c79 => ?_)
                  · exact absurd c65 c79
                  ·
                    refine lv_aload_n hx hb dX1_read_92 rfl (lv_at hl 2 rfl) ?_
                    refine va_get (D := D) (ci := 1) (v := .ref b1) (C := RX1) (T := TX1) (N := 12) hx hb hts hin hown hK hP 0 rfl rfl 4 (by decide) (hts (.fieldLink RX1 7 "TideDepthsModel" "turnTime" "[I") (by decide +kernel)) (fun _ h9 => h9) rfl dX1_read_93 ?_
                    refine lv_iload_n hx hb dX1_read_96 rfl (lv_at hl 3 rfl) ?_
                    obtain ⟨h80, hw⟩ := hw
                    refine va_iald hx hb hK hP 1 0 rfl rfl h80 dX1_read_97 ?_
                    refine lv_i2l (v := (((yT y) (v1).toNatClampNeg)).toInt64) hx hb dX1_read_98 rfl ?_
                    refine lv_goto (tgt := 144) hx hb dX1_read_99 (by decide) ?_
                    exact W.lret (v := (((yT y) (v1).toNatClampNeg)).toInt64) hx hb hr (fun t ht hWm => ⟨⟨(((yT y) (v1).toNatClampNeg)).toInt64, (0, (yNT y), (yNO y), (yNP y), (yT y), (yH y), (yO y), (yD y), (yW y), (yB y), (yC y), (yQ y)), rfl, hw, by rw [ht]; exact hP, va_K.moved hWm.alike hK, hD⟩, hS.F ht⟩) hS.2.2 dX1_read_144
                · exact absurd (by decide) c78
              · exact absurd c77 (by decide)
            · have hw := hw.2 c76
              refine lv_iload_n hx hb dX1_read_49 rfl (lv_at hl 3 rfl) ?_
              refine lv_iconst (v := 3) hx hb dX1_read_50 (by decide) ?_
              refine lv_icmp_ne (tgt := 58) hx hb dX1_read_51 (by decide) (fun c81 => ?_) (fun c81 => ?_)
              · have hw := hw.2 c81
                refine lv_iconst (v := 0) hx hb dX1_read_58 (by decide) ?_
                refine lv_istore (lv' := [(4, .int 0), (3, .int 1), (0, .ref k0), (1, .int v1), (2, .int v2)]) hx hb dX1_read_59 hl (by decide) rfl (fun ls hl => ?_)
                refine lv_aload_n hx hb dX1_read_61 rfl (lv_at hl 2 rfl) ?_
                refine lv_iload_n hx hb dX1_read_62 rfl (lv_at hl 1 rfl) ?_
                refine lv_if_ne (tgt := 71) hx hb dX1_read_63 (by decide) (fun c82 => ?_) (fun c82 => ?_)
                ·
                  refine lv_iconst (v := 0) hx hb dX1_read_71 (by decide) ?_
                  refine lv_goto (tgt := 76) hx hb dX1_read_72 (by decide) ?_
                  refine va_put (D := D) (ci := 1) (v := .int 0) (ty := .int) (C := RX1) (T := TX1) (N := 12) hx hb hts hin tyX1 tyX1_ok nmX1 hown hK hP hD hS 0 rfl rfl 0 (by decide) (hts (.fieldLink RX1 36 "TideDepthsModel" "thrown" "I") (by decide +kernel)) (fun _ h9 => h9) rfl (by decide +kernel) rfl rfl (Nat.le_of_ble_eq_true rfl) dX1_read_76 (fun H locs hP hD hS => ?_)
                  have hP : va_P D cls2 (x1W cI cJ k0 b1 b2 b3 b4 b5 b6 b7 b8 (0, (yNT y), (yNO y), (yNP y), (yT y), (yH y), (yO y), (yD y), (yW y), (yB y), (yC y), (yQ y))) H := hP
                  have hD : va_D A (x1W cI cJ k0 b1 b2 b3 b4 b5 b6 b7 b8 (0, (yNT y), (yNO y), (yNP y), (yT y), (yH y), (yO y), (yD y), (yW y), (yB y), (yC y), (yQ y))) := hD
                  have hW : YW D cI cJ k0 b1 b2 b3 b4 b5 b6 b7 b8 (0, (yNT y), (yNO y), (yNP y), (yT y), (yH y), (yO y), (yD y), (yW y), (yB y), (yC y), (yQ y)) s H := ⟨hP, hK⟩
                  refine lv_aload_n hx hb dX1_read_79 rfl (lv_at hl 2 rfl) ?_
                  refine va_get (D := D) (ci := 1) (v := .int 0) (C := RX1) (T := TX1) (N := 12) hx hb hts hin hown hK hP 0 rfl rfl 0 (by decide) (hts (.fieldLink RX1 36 "TideDepthsModel" "thrown" "I") (by decide +kernel)) (fun _ h9 => h9) rfl dX1_read_80 ?_
                  refine lv_if_le (tgt := 88) hx hb dX1_read_83 (by decide) (fun c83 => ?_) (fun c83 => ?_)
                  ·
                    refine lv_iload_n hx hb dX1_read_88 rfl (lv_at hl 4 rfl) ?_
                    refine lv_if_ne (tgt := 102) hx hb dX1_read_89 (by decide) (fun c84 => ?_) (fun c84 => ?_)
                    · exact absurd c65 c84
                    ·
                      refine lv_aload_n hx hb dX1_read_92 rfl (lv_at hl 2 rfl) ?_
                      refine va_get (D := D) (ci := 1) (v := .ref b1) (C := RX1) (T := TX1) (N := 12) hx hb hts hin hown hK hP 0 rfl rfl 4 (by decide) (hts (.fieldLink RX1 7 "TideDepthsModel" "turnTime" "[I") (by decide +kernel)) (fun _ h9 => h9) rfl dX1_read_93 ?_
                      refine lv_iload_n hx hb dX1_read_96 rfl (lv_at hl 3 rfl) ?_
                      obtain ⟨h85, hw⟩ := hw
                      refine va_iald hx hb hK hP 1 0 rfl rfl h85 dX1_read_97 ?_
                      refine lv_i2l (v := (((yT y) (v1).toNatClampNeg)).toInt64) hx hb dX1_read_98 rfl ?_
                      refine lv_goto (tgt := 144) hx hb dX1_read_99 (by decide) ?_
                      exact W.lret (v := (((yT y) (v1).toNatClampNeg)).toInt64) hx hb hr (fun t ht hWm => ⟨⟨(((yT y) (v1).toNatClampNeg)).toInt64, (0, (yNT y), (yNO y), (yNP y), (yT y), (yH y), (yO y), (yD y), (yW y), (yB y), (yC y), (yQ y)), rfl, hw, by rw [ht]; exact hP, va_K.moved hWm.alike hK, hD⟩, hS.F ht⟩) hS.2.2 dX1_read_144
                  · exact absurd (by decide) c83
                · exact absurd c82 (by decide)
              · have hw := hw.1 c81
                refine lv_iconst (v := 1) hx hb dX1_read_54 (by decide) ?_
                refine lv_goto (tgt := 59) hx hb dX1_read_55 (by decide) ?_
                refine lv_istore (lv' := [(4, .int 1), (3, .int 1), (0, .ref k0), (1, .int v1), (2, .int v2)]) hx hb dX1_read_59 hl (by decide) rfl (fun ls hl => ?_)
                refine lv_aload_n hx hb dX1_read_61 rfl (lv_at hl 2 rfl) ?_
                refine lv_iload_n hx hb dX1_read_62 rfl (lv_at hl 1 rfl) ?_
                refine lv_if_ne (tgt := 71) hx hb dX1_read_63 (by decide) (fun c86 => ?_) (fun c86 => ?_)
                ·
                  refine lv_iconst (v := 0) hx hb dX1_read_71 (by decide) ?_
                  refine lv_goto (tgt := 76) hx hb dX1_read_72 (by decide) ?_
                  refine va_put (D := D) (ci := 1) (v := .int 0) (ty := .int) (C := RX1) (T := TX1) (N := 12) hx hb hts hin tyX1 tyX1_ok nmX1 hown hK hP hD hS 0 rfl rfl 0 (by decide) (hts (.fieldLink RX1 36 "TideDepthsModel" "thrown" "I") (by decide +kernel)) (fun _ h9 => h9) rfl (by decide +kernel) rfl rfl (Nat.le_of_ble_eq_true rfl) dX1_read_76 (fun H locs hP hD hS => ?_)
                  have hP : va_P D cls2 (x1W cI cJ k0 b1 b2 b3 b4 b5 b6 b7 b8 (0, (yNT y), (yNO y), (yNP y), (yT y), (yH y), (yO y), (yD y), (yW y), (yB y), (yC y), (yQ y))) H := hP
                  have hD : va_D A (x1W cI cJ k0 b1 b2 b3 b4 b5 b6 b7 b8 (0, (yNT y), (yNO y), (yNP y), (yT y), (yH y), (yO y), (yD y), (yW y), (yB y), (yC y), (yQ y))) := hD
                  have hW : YW D cI cJ k0 b1 b2 b3 b4 b5 b6 b7 b8 (0, (yNT y), (yNO y), (yNP y), (yT y), (yH y), (yO y), (yD y), (yW y), (yB y), (yC y), (yQ y)) s H := ⟨hP, hK⟩
                  refine lv_aload_n hx hb dX1_read_79 rfl (lv_at hl 2 rfl) ?_
                  refine va_get (D := D) (ci := 1) (v := .int 0) (C := RX1) (T := TX1) (N := 12) hx hb hts hin hown hK hP 0 rfl rfl 0 (by decide) (hts (.fieldLink RX1 36 "TideDepthsModel" "thrown" "I") (by decide +kernel)) (fun _ h9 => h9) rfl dX1_read_80 ?_
                  refine lv_if_le (tgt := 88) hx hb dX1_read_83 (by decide) (fun c87 => ?_) (fun c87 => ?_)
                  ·
                    refine lv_iload_n hx hb dX1_read_88 rfl (lv_at hl 4 rfl) ?_
                    refine lv_if_ne (tgt := 102) hx hb dX1_read_89 (by decide) (fun c88 => ?_) (fun c88 => ?_)
                    · exact absurd c65 c88
                    ·
                      refine lv_aload_n hx hb dX1_read_92 rfl (lv_at hl 2 rfl) ?_
                      refine va_get (D := D) (ci := 1) (v := .ref b1) (C := RX1) (T := TX1) (N := 12) hx hb hts hin hown hK hP 0 rfl rfl 4 (by decide) (hts (.fieldLink RX1 7 "TideDepthsModel" "turnTime" "[I") (by decide +kernel)) (fun _ h9 => h9) rfl dX1_read_93 ?_
                      refine lv_iload_n hx hb dX1_read_96 rfl (lv_at hl 3 rfl) ?_
                      obtain ⟨h89, hw⟩ := hw
                      refine va_iald hx hb hK hP 1 0 rfl rfl h89 dX1_read_97 ?_
                      refine lv_i2l (v := (((yT y) (v1).toNatClampNeg)).toInt64) hx hb dX1_read_98 rfl ?_
                      refine lv_goto (tgt := 144) hx hb dX1_read_99 (by decide) ?_
                      exact W.lret (v := (((yT y) (v1).toNatClampNeg)).toInt64) hx hb hr (fun t ht hWm => ⟨⟨(((yT y) (v1).toNatClampNeg)).toInt64, (0, (yNT y), (yNO y), (yNP y), (yT y), (yH y), (yO y), (yD y), (yW y), (yB y), (yC y), (yQ y)), rfl, hw, by rw [ht]; exact hP, va_K.moved hWm.alike hK, hD⟩, hS.F ht⟩) hS.2.2 dX1_read_144
                  · exact absurd (by decide) c87
                · exact absurd c86 (by decide)
      · have hw := hw.2 c65
        refine lv_iload_n hx hb dX1_read_16 rfl (lv_at hl 2 rfl) ?_
        refine lv_iconst (v := 1) hx hb dX1_read_17 (by decide) ?_
        refine lv_icmp_ne (tgt := 25) hx hb dX1_read_18 (by decide) (fun c90 => ?_) (fun c90 => ?_)
        · have hw := hw.2 c90
          refine lv_iconst (v := 0) hx hb dX1_read_25 (by decide) ?_
          refine lv_istore_n (lv' := [(3, .int 0), (0, .ref k0), (1, .int v1), (2, .int v2)]) hx hb dX1_read_26 rfl hl (by decide) rfl (fun ls hl => ?_)
          refine lv_iload_n hx hb dX1_read_27 rfl (lv_at hl 2 rfl) ?_
          refine lv_bipush (v := 100) hx hb dX1_read_28 (by decide) ?_
          refine lv_icmp_lt (tgt := 58) hx hb dX1_read_30 (by decide) (fun c91 => ?_) (fun c91 => ?_)
          · have hw := hw.1 c91
            refine lv_iconst (v := 0) hx hb dX1_read_58 (by decide) ?_
            refine lv_istore (lv' := [(4, .int 0), (3, .int 0), (0, .ref k0), (1, .int v1), (2, .int v2)]) hx hb dX1_read_59 hl (by decide) rfl (fun ls hl => ?_)
            refine lv_aload_n hx hb dX1_read_61 rfl (lv_at hl 2 rfl) ?_
            refine lv_iload_n hx hb dX1_read_62 rfl (lv_at hl 1 rfl) ?_
            refine lv_if_ne (tgt := 71) hx hb dX1_read_63 (by decide) (fun c92 => ?_) (fun c92 => ?_)
            · exact absurd (by decide) c92
            ·
              refine lv_iload hx hb dX1_read_66 (lv_at hl 0 rfl) ?_
              refine lv_if_eq (tgt := 75) hx hb dX1_read_68 (by decide) (fun c93 => ?_) (fun c93 => ?_)
              ·
                refine lv_iconst (v := 1) hx hb dX1_read_75 (by decide) ?_
                refine va_put (D := D) (ci := 1) (v := .int 1) (ty := .int) (C := RX1) (T := TX1) (N := 12) hx hb hts hin tyX1 tyX1_ok nmX1 hown hK hP hD hS 0 rfl rfl 0 (by decide) (hts (.fieldLink RX1 36 "TideDepthsModel" "thrown" "I") (by decide +kernel)) (fun _ h9 => h9) rfl (by decide +kernel) rfl rfl (Nat.le_of_ble_eq_true rfl) dX1_read_76 (fun H locs hP hD hS => ?_)
                have hP : va_P D cls2 (x1W cI cJ k0 b1 b2 b3 b4 b5 b6 b7 b8 (1, (yNT y), (yNO y), (yNP y), (yT y), (yH y), (yO y), (yD y), (yW y), (yB y), (yC y), (yQ y))) H := hP
                have hD : va_D A (x1W cI cJ k0 b1 b2 b3 b4 b5 b6 b7 b8 (1, (yNT y), (yNO y), (yNP y), (yT y), (yH y), (yO y), (yD y), (yW y), (yB y), (yC y), (yQ y))) := hD
                have hW : YW D cI cJ k0 b1 b2 b3 b4 b5 b6 b7 b8 (1, (yNT y), (yNO y), (yNP y), (yT y), (yH y), (yO y), (yD y), (yW y), (yB y), (yC y), (yQ y)) s H := ⟨hP, hK⟩
                refine lv_aload_n hx hb dX1_read_79 rfl (lv_at hl 2 rfl) ?_
                refine va_get (D := D) (ci := 1) (v := .int 1) (C := RX1) (T := TX1) (N := 12) hx hb hts hin hown hK hP 0 rfl rfl 0 (by decide) (hts (.fieldLink RX1 36 "TideDepthsModel" "thrown" "I") (by decide +kernel)) (fun _ h9 => h9) rfl dX1_read_80 ?_
                refine lv_if_le (tgt := 88) hx hb dX1_read_83 (by decide) (fun c94 => ?_) (fun c94 => ?_)
                · exact absurd c94 (by decide)
                ·
                  refine lv_lconst (v := 0) hx hb dX1_read_86 (by decide) ?_
                  exact W.lret (v := 0) hx hb hr (fun t ht hWm => ⟨⟨0, (1, (yNT y), (yNO y), (yNP y), (yT y), (yH y), (yO y), (yD y), (yW y), (yB y), (yC y), (yQ y)), rfl, hw, by rw [ht]; exact hP, va_K.moved hWm.alike hK, hD⟩, hS.F ht⟩) hS.2.2 dX1_read_87
              · exact absurd (by decide) c93
          · have hw := hw.2 c91
            refine lv_iload_n hx hb dX1_read_33 rfl (lv_at hl 2 rfl) ?_
            refine lv_bipush (v := 100) hx hb dX1_read_34 (by decide) ?_
            refine lv_isub hx hb dX1_read_36 ?_
            refine lv_aload_n hx hb dX1_read_37 rfl (lv_at hl 1 rfl) ?_
            refine va_get (D := D) (ci := 1) (v := .int (yNO y)) (C := RX1) (T := TX1) (N := 12) hx hb hts hin hown hK hP 0 rfl rfl 2 (by decide) (hts (.fieldLink RX1 59 "TideDepthsModel" "observations" "I") (by decide +kernel)) (fun _ h9 => h9) rfl dX1_read_38 ?_
            refine lv_icmp_ge (tgt := 58) hx hb dX1_read_41 (by decide) (fun c95 => ?_) (fun c95 => ?_)
            · have hw := hw.1 c95
              refine lv_iconst (v := 0) hx hb dX1_read_58 (by decide) ?_
              refine lv_istore (lv' := [(4, .int 0), (3, .int 0), (0, .ref k0), (1, .int v1), (2, .int v2)]) hx hb dX1_read_59 hl (by decide) rfl (fun ls hl => ?_)
              refine lv_aload_n hx hb dX1_read_61 rfl (lv_at hl 2 rfl) ?_
              refine lv_iload_n hx hb dX1_read_62 rfl (lv_at hl 1 rfl) ?_
              refine lv_if_ne (tgt := 71) hx hb dX1_read_63 (by decide) (fun c96 => ?_) (fun c96 => ?_)
              · exact absurd (by decide) c96
              ·
                refine lv_iload hx hb dX1_read_66 (lv_at hl 0 rfl) ?_
                refine lv_if_eq (tgt := 75) hx hb dX1_read_68 (by decide) (fun c97 => ?_) (fun c97 => ?_)
                ·
                  refine lv_iconst (v := 1) hx hb dX1_read_75 (by decide) ?_
                  refine va_put (D := D) (ci := 1) (v := .int 1) (ty := .int) (C := RX1) (T := TX1) (N := 12) hx hb hts hin tyX1 tyX1_ok nmX1 hown hK hP hD hS 0 rfl rfl 0 (by decide) (hts (.fieldLink RX1 36 "TideDepthsModel" "thrown" "I") (by decide +kernel)) (fun _ h9 => h9) rfl (by decide +kernel) rfl rfl (Nat.le_of_ble_eq_true rfl) dX1_read_76 (fun H locs hP hD hS => ?_)
                  have hP : va_P D cls2 (x1W cI cJ k0 b1 b2 b3 b4 b5 b6 b7 b8 (1, (yNT y), (yNO y), (yNP y), (yT y), (yH y), (yO y), (yD y), (yW y), (yB y), (yC y), (yQ y))) H := hP
                  have hD : va_D A (x1W cI cJ k0 b1 b2 b3 b4 b5 b6 b7 b8 (1, (yNT y), (yNO y), (yNP y), (yT y), (yH y), (yO y), (yD y), (yW y), (yB y), (yC y), (yQ y))) := hD
                  have hW : YW D cI cJ k0 b1 b2 b3 b4 b5 b6 b7 b8 (1, (yNT y), (yNO y), (yNP y), (yT y), (yH y), (yO y), (yD y), (yW y), (yB y), (yC y), (yQ y)) s H := ⟨hP, hK⟩
                  refine lv_aload_n hx hb dX1_read_79 rfl (lv_at hl 2 rfl) ?_
                  refine va_get (D := D) (ci := 1) (v := .int 1) (C := RX1) (T := TX1) (N := 12) hx hb hts hin hown hK hP 0 rfl rfl 0 (by decide) (hts (.fieldLink RX1 36 "TideDepthsModel" "thrown" "I") (by decide +kernel)) (fun _ h9 => h9) rfl dX1_read_80 ?_
                  refine lv_if_le (tgt := 88) hx hb dX1_read_83 (by decide) (fun c98 => ?_) (fun c98 => ?_)
                  · exact absurd c98 (by decide)
                  ·
                    refine lv_lconst (v := 0) hx hb dX1_read_86 (by decide) ?_
                    exact W.lret (v := 0) hx hb hr (fun t ht hWm => ⟨⟨0, (1, (yNT y), (yNO y), (yNP y), (yT y), (yH y), (yO y), (yD y), (yW y), (yB y), (yC y), (yQ y)), rfl, hw, by rw [ht]; exact hP, va_K.moved hWm.alike hK, hD⟩, hS.F ht⟩) hS.2.2 dX1_read_87
                · exact absurd (by decide) c97
            · have hw := hw.2 c95
              refine lv_iload_n hx hb dX1_read_44 rfl (lv_at hl 3 rfl) ?_
              refine lv_iconst (v := 2) hx hb dX1_read_45 (by decide) ?_
              refine lv_icmp_eq (tgt := 54) hx hb dX1_read_46 (by decide) (fun c99 => ?_) (fun c99 => ?_)
              · have hw := hw.1 c99
                refine lv_iconst (v := 1) hx hb dX1_read_54 (by decide) ?_
                refine lv_goto (tgt := 59) hx hb dX1_read_55 (by decide) ?_
                refine lv_istore (lv' := [(4, .int 1), (3, .int 0), (0, .ref k0), (1, .int v1), (2, .int v2)]) hx hb dX1_read_59 hl (by decide) rfl (fun ls hl => ?_)
                refine lv_aload_n hx hb dX1_read_61 rfl (lv_at hl 2 rfl) ?_
                refine lv_iload_n hx hb dX1_read_62 rfl (lv_at hl 1 rfl) ?_
                refine lv_if_ne (tgt := 71) hx hb dX1_read_63 (by decide) (fun c100 => ?_) (fun c100 => ?_)
                · exact absurd (by decide) c100
                ·
                  refine lv_iload hx hb dX1_read_66 (lv_at hl 0 rfl) ?_
                  refine lv_if_eq (tgt := 75) hx hb dX1_read_68 (by decide) (fun c101 => ?_) (fun c101 => ?_)
                  · exact absurd c101 (by decide)
                  ·
                    refine lv_iconst (v := 0) hx hb dX1_read_71 (by decide) ?_
                    refine lv_goto (tgt := 76) hx hb dX1_read_72 (by decide) ?_
                    refine va_put (D := D) (ci := 1) (v := .int 0) (ty := .int) (C := RX1) (T := TX1) (N := 12) hx hb hts hin tyX1 tyX1_ok nmX1 hown hK hP hD hS 0 rfl rfl 0 (by decide) (hts (.fieldLink RX1 36 "TideDepthsModel" "thrown" "I") (by decide +kernel)) (fun _ h9 => h9) rfl (by decide +kernel) rfl rfl (Nat.le_of_ble_eq_true rfl) dX1_read_76 (fun H locs hP hD hS => ?_)
                    have hP : va_P D cls2 (x1W cI cJ k0 b1 b2 b3 b4 b5 b6 b7 b8 (0, (yNT y), (yNO y), (yNP y), (yT y), (yH y), (yO y), (yD y), (yW y), (yB y), (yC y), (yQ y))) H := hP
                    have hD : va_D A (x1W cI cJ k0 b1 b2 b3 b4 b5 b6 b7 b8 (0, (yNT y), (yNO y), (yNP y), (yT y), (yH y), (yO y), (yD y), (yW y), (yB y), (yC y), (yQ y))) := hD
                    have hW : YW D cI cJ k0 b1 b2 b3 b4 b5 b6 b7 b8 (0, (yNT y), (yNO y), (yNP y), (yT y), (yH y), (yO y), (yD y), (yW y), (yB y), (yC y), (yQ y)) s H := ⟨hP, hK⟩
                    refine lv_aload_n hx hb dX1_read_79 rfl (lv_at hl 2 rfl) ?_
                    refine va_get (D := D) (ci := 1) (v := .int 0) (C := RX1) (T := TX1) (N := 12) hx hb hts hin hown hK hP 0 rfl rfl 0 (by decide) (hts (.fieldLink RX1 36 "TideDepthsModel" "thrown" "I") (by decide +kernel)) (fun _ h9 => h9) rfl dX1_read_80 ?_
                    refine lv_if_le (tgt := 88) hx hb dX1_read_83 (by decide) (fun c102 => ?_) (fun c102 => ?_)
                    ·
                      refine lv_iload_n hx hb dX1_read_88 rfl (lv_at hl 4 rfl) ?_
                      refine lv_if_ne (tgt := 102) hx hb dX1_read_89 (by decide) (fun c103 => ?_) (fun c103 => ?_)
                      ·
                        refine lv_iload_n hx hb dX1_read_102 rfl (lv_at hl 4 rfl) ?_
                        refine lv_iconst (v := 1) hx hb dX1_read_103 (by decide) ?_
                        refine lv_icmp_ne (tgt := 117) hx hb dX1_read_104 (by decide) (fun c104 => ?_) (fun c104 => ?_)
                        ·
                          refine lv_iload_n hx hb dX1_read_117 rfl (lv_at hl 4 rfl) ?_
                          refine lv_iconst (v := 2) hx hb dX1_read_118 (by decide) ?_
                          refine lv_icmp_ne (tgt := 135) hx hb dX1_read_119 (by decide) (fun c105 => ?_) (fun c105 => ?_)
                          · exact absurd c99 c105
                          ·
                            refine lv_aload_n hx hb dX1_read_122 rfl (lv_at hl 2 rfl) ?_
                            refine va_get (D := D) (ci := 1) (v := .ref b3) (C := RX1) (T := TX1) (N := 12) hx hb hts hin hown hK hP 0 rfl rfl 6 (by decide) (hts (.fieldLink RX1 16 "TideDepthsModel" "seenTime" "[I") (by decide +kernel)) (fun _ h9 => h9) rfl dX1_read_123 ?_
                            refine lv_iload_n hx hb dX1_read_126 rfl (lv_at hl 3 rfl) ?_
                            refine lv_bipush (v := 100) hx hb dX1_read_127 (by decide) ?_
                            refine lv_isub hx hb dX1_read_129 ?_
                            obtain ⟨h106, hw⟩ := hw
                            refine va_iald hx hb hK hP 3 0 rfl rfl h106 dX1_read_130 ?_
                            refine lv_i2l (v := (((yO y) ((v1 - 100)).toNatClampNeg)).toInt64) hx hb dX1_read_131 rfl ?_
                            refine lv_goto (tgt := 144) hx hb dX1_read_132 (by decide) ?_
                            exact W.lret (v := (((yO y) ((v1 - 100)).toNatClampNeg)).toInt64) hx hb hr (fun t ht hWm => ⟨⟨(((yO y) ((v1 - 100)).toNatClampNeg)).toInt64, (0, (yNT y), (yNO y), (yNP y), (yT y), (yH y), (yO y), (yD y), (yW y), (yB y), (yC y), (yQ y)), rfl, hw, by rw [ht]; exact hP, va_K.moved hWm.alike hK, hD⟩, hS.F ht⟩) hS.2.2 dX1_read_144
                        · exact absurd c104 c90
                      · exact absurd c103 c65
                    · exact absurd (by decide) c102
              · have hw := hw.2 c99
                refine lv_iload_n hx hb dX1_read_49 rfl (lv_at hl 3 rfl) ?_
                refine lv_iconst (v := 3) hx hb dX1_read_50 (by decide) ?_
                refine lv_icmp_ne (tgt := 58) hx hb dX1_read_51 (by decide) (fun c107 => ?_) (fun c107 => ?_)
                · have hw := hw.2 c107
                  refine lv_iconst (v := 0) hx hb dX1_read_58 (by decide) ?_
                  refine lv_istore (lv' := [(4, .int 0), (3, .int 0), (0, .ref k0), (1, .int v1), (2, .int v2)]) hx hb dX1_read_59 hl (by decide) rfl (fun ls hl => ?_)
                  refine lv_aload_n hx hb dX1_read_61 rfl (lv_at hl 2 rfl) ?_
                  refine lv_iload_n hx hb dX1_read_62 rfl (lv_at hl 1 rfl) ?_
                  refine lv_if_ne (tgt := 71) hx hb dX1_read_63 (by decide) (fun c108 => ?_) (fun c108 => ?_)
                  · exact absurd (by decide) c108
                  ·
                    refine lv_iload hx hb dX1_read_66 (lv_at hl 0 rfl) ?_
                    refine lv_if_eq (tgt := 75) hx hb dX1_read_68 (by decide) (fun c109 => ?_) (fun c109 => ?_)
                    ·
                      refine lv_iconst (v := 1) hx hb dX1_read_75 (by decide) ?_
                      refine va_put (D := D) (ci := 1) (v := .int 1) (ty := .int) (C := RX1) (T := TX1) (N := 12) hx hb hts hin tyX1 tyX1_ok nmX1 hown hK hP hD hS 0 rfl rfl 0 (by decide) (hts (.fieldLink RX1 36 "TideDepthsModel" "thrown" "I") (by decide +kernel)) (fun _ h9 => h9) rfl (by decide +kernel) rfl rfl (Nat.le_of_ble_eq_true rfl) dX1_read_76 (fun H locs hP hD hS => ?_)
                      have hP : va_P D cls2 (x1W cI cJ k0 b1 b2 b3 b4 b5 b6 b7 b8 (1, (yNT y), (yNO y), (yNP y), (yT y), (yH y), (yO y), (yD y), (yW y), (yB y), (yC y), (yQ y))) H := hP
                      have hD : va_D A (x1W cI cJ k0 b1 b2 b3 b4 b5 b6 b7 b8 (1, (yNT y), (yNO y), (yNP y), (yT y), (yH y), (yO y), (yD y), (yW y), (yB y), (yC y), (yQ y))) := hD
                      have hW : YW D cI cJ k0 b1 b2 b3 b4 b5 b6 b7 b8 (1, (yNT y), (yNO y), (yNP y), (yT y), (yH y), (yO y), (yD y), (yW y), (yB y), (yC y), (yQ y)) s H := ⟨hP, hK⟩
                      refine lv_aload_n hx hb dX1_read_79 rfl (lv_at hl 2 rfl) ?_
                      refine va_get (D := D) (ci := 1) (v := .int 1) (C := RX1) (T := TX1) (N := 12) hx hb hts hin hown hK hP 0 rfl rfl 0 (by decide) (hts (.fieldLink RX1 36 "TideDepthsModel" "thrown" "I") (by decide +kernel)) (fun _ h9 => h9) rfl dX1_read_80 ?_
                      refine lv_if_le (tgt := 88) hx hb dX1_read_83 (by decide) (fun c110 => ?_) (fun c110 => ?_)
                      · exact absurd c110 (by decide)
                      ·
                        refine lv_lconst (v := 0) hx hb dX1_read_86 (by decide) ?_
                        exact W.lret (v := 0) hx hb hr (fun t ht hWm => ⟨⟨0, (1, (yNT y), (yNO y), (yNP y), (yT y), (yH y), (yO y), (yD y), (yW y), (yB y), (yC y), (yQ y)), rfl, hw, by rw [ht]; exact hP, va_K.moved hWm.alike hK, hD⟩, hS.F ht⟩) hS.2.2 dX1_read_87
                    · exact absurd (by decide) c109
                · have hw := hw.1 c107
                  refine lv_iconst (v := 1) hx hb dX1_read_54 (by decide) ?_
                  refine lv_goto (tgt := 59) hx hb dX1_read_55 (by decide) ?_
                  refine lv_istore (lv' := [(4, .int 1), (3, .int 0), (0, .ref k0), (1, .int v1), (2, .int v2)]) hx hb dX1_read_59 hl (by decide) rfl (fun ls hl => ?_)
                  refine lv_aload_n hx hb dX1_read_61 rfl (lv_at hl 2 rfl) ?_
                  refine lv_iload_n hx hb dX1_read_62 rfl (lv_at hl 1 rfl) ?_
                  refine lv_if_ne (tgt := 71) hx hb dX1_read_63 (by decide) (fun c111 => ?_) (fun c111 => ?_)
                  · exact absurd (by decide) c111
                  ·
                    refine lv_iload hx hb dX1_read_66 (lv_at hl 0 rfl) ?_
                    refine lv_if_eq (tgt := 75) hx hb dX1_read_68 (by decide) (fun c112 => ?_) (fun c112 => ?_)
                    · exact absurd c112 (by decide)
                    ·
                      refine lv_iconst (v := 0) hx hb dX1_read_71 (by decide) ?_
                      refine lv_goto (tgt := 76) hx hb dX1_read_72 (by decide) ?_
                      refine va_put (D := D) (ci := 1) (v := .int 0) (ty := .int) (C := RX1) (T := TX1) (N := 12) hx hb hts hin tyX1 tyX1_ok nmX1 hown hK hP hD hS 0 rfl rfl 0 (by decide) (hts (.fieldLink RX1 36 "TideDepthsModel" "thrown" "I") (by decide +kernel)) (fun _ h9 => h9) rfl (by decide +kernel) rfl rfl (Nat.le_of_ble_eq_true rfl) dX1_read_76 (fun H locs hP hD hS => ?_)
                      have hP : va_P D cls2 (x1W cI cJ k0 b1 b2 b3 b4 b5 b6 b7 b8 (0, (yNT y), (yNO y), (yNP y), (yT y), (yH y), (yO y), (yD y), (yW y), (yB y), (yC y), (yQ y))) H := hP
                      have hD : va_D A (x1W cI cJ k0 b1 b2 b3 b4 b5 b6 b7 b8 (0, (yNT y), (yNO y), (yNP y), (yT y), (yH y), (yO y), (yD y), (yW y), (yB y), (yC y), (yQ y))) := hD
                      have hW : YW D cI cJ k0 b1 b2 b3 b4 b5 b6 b7 b8 (0, (yNT y), (yNO y), (yNP y), (yT y), (yH y), (yO y), (yD y), (yW y), (yB y), (yC y), (yQ y)) s H := ⟨hP, hK⟩
                      refine lv_aload_n hx hb dX1_read_79 rfl (lv_at hl 2 rfl) ?_
                      refine va_get (D := D) (ci := 1) (v := .int 0) (C := RX1) (T := TX1) (N := 12) hx hb hts hin hown hK hP 0 rfl rfl 0 (by decide) (hts (.fieldLink RX1 36 "TideDepthsModel" "thrown" "I") (by decide +kernel)) (fun _ h9 => h9) rfl dX1_read_80 ?_
                      refine lv_if_le (tgt := 88) hx hb dX1_read_83 (by decide) (fun c113 => ?_) (fun c113 => ?_)
                      ·
                        refine lv_iload_n hx hb dX1_read_88 rfl (lv_at hl 4 rfl) ?_
                        refine lv_if_ne (tgt := 102) hx hb dX1_read_89 (by decide) (fun c114 => ?_) (fun c114 => ?_)
                        ·
                          refine lv_iload_n hx hb dX1_read_102 rfl (lv_at hl 4 rfl) ?_
                          refine lv_iconst (v := 1) hx hb dX1_read_103 (by decide) ?_
                          refine lv_icmp_ne (tgt := 117) hx hb dX1_read_104 (by decide) (fun c115 => ?_) (fun c115 => ?_)
                          ·
                            refine lv_iload_n hx hb dX1_read_117 rfl (lv_at hl 4 rfl) ?_
                            refine lv_iconst (v := 2) hx hb dX1_read_118 (by decide) ?_
                            refine lv_icmp_ne (tgt := 135) hx hb dX1_read_119 (by decide) (fun c116 => ?_) (fun c116 => ?_)
                            ·
                              refine lv_aload_n hx hb dX1_read_135 rfl (lv_at hl 2 rfl) ?_
                              refine va_get (D := D) (ci := 1) (v := .ref b4) (C := RX1) (T := TX1) (N := 12) hx hb hts hin hown hK hP 0 rfl rfl 7 (by decide) (hts (.fieldLink RX1 19 "TideDepthsModel" "difference" "[J") (by decide +kernel)) (fun _ h9 => h9) rfl dX1_read_136 ?_
                              refine lv_iload_n hx hb dX1_read_139 rfl (lv_at hl 3 rfl) ?_
                              refine lv_bipush (v := 100) hx hb dX1_read_140 (by decide) ?_
                              refine lv_isub hx hb dX1_read_142 ?_
                              obtain ⟨h117, hw⟩ := hw
                              refine va_lald hx hb hK hP 4 1 rfl rfl h117 dX1_read_143 ?_
                              exact W.lret (v := ((yD y) ((v1 - 100)).toNatClampNeg)) hx hb hr (fun t ht hWm => ⟨⟨((yD y) ((v1 - 100)).toNatClampNeg), (0, (yNT y), (yNO y), (yNP y), (yT y), (yH y), (yO y), (yD y), (yW y), (yB y), (yC y), (yQ y)), rfl, hw, by rw [ht]; exact hP, va_K.moved hWm.alike hK, hD⟩, hS.F ht⟩) hS.2.2 dX1_read_144
                            · exact absurd c116 c99
                          · exact absurd c115 c90
                        · exact absurd c114 c65
                      · exact absurd (by decide) c113
        · have hw := hw.1 c90
          refine lv_iconst (v := 1) hx hb dX1_read_21 (by decide) ?_
          refine lv_goto (tgt := 26) hx hb dX1_read_22 (by decide) ?_
          refine lv_istore_n (lv' := [(3, .int 1), (0, .ref k0), (1, .int v1), (2, .int v2)]) hx hb dX1_read_26 rfl hl (by decide) rfl (fun ls hl => ?_)
          refine lv_iload_n hx hb dX1_read_27 rfl (lv_at hl 2 rfl) ?_
          refine lv_bipush (v := 100) hx hb dX1_read_28 (by decide) ?_
          refine lv_icmp_lt (tgt := 58) hx hb dX1_read_30 (by decide) (fun c118 => ?_) (fun c118 => ?_)
          · have hw := hw.1 c118
            refine lv_iconst (v := 0) hx hb dX1_read_58 (by decide) ?_
            refine lv_istore (lv' := [(4, .int 0), (3, .int 1), (0, .ref k0), (1, .int v1), (2, .int v2)]) hx hb dX1_read_59 hl (by decide) rfl (fun ls hl => ?_)
            refine lv_aload_n hx hb dX1_read_61 rfl (lv_at hl 2 rfl) ?_
            refine lv_iload_n hx hb dX1_read_62 rfl (lv_at hl 1 rfl) ?_
            refine lv_if_ne (tgt := 71) hx hb dX1_read_63 (by decide) (fun c119 => ?_) (fun c119 => ?_)
            ·
              refine lv_iconst (v := 0) hx hb dX1_read_71 (by decide) ?_
              refine lv_goto (tgt := 76) hx hb dX1_read_72 (by decide) ?_
              refine va_put (D := D) (ci := 1) (v := .int 0) (ty := .int) (C := RX1) (T := TX1) (N := 12) hx hb hts hin tyX1 tyX1_ok nmX1 hown hK hP hD hS 0 rfl rfl 0 (by decide) (hts (.fieldLink RX1 36 "TideDepthsModel" "thrown" "I") (by decide +kernel)) (fun _ h9 => h9) rfl (by decide +kernel) rfl rfl (Nat.le_of_ble_eq_true rfl) dX1_read_76 (fun H locs hP hD hS => ?_)
              have hP : va_P D cls2 (x1W cI cJ k0 b1 b2 b3 b4 b5 b6 b7 b8 (0, (yNT y), (yNO y), (yNP y), (yT y), (yH y), (yO y), (yD y), (yW y), (yB y), (yC y), (yQ y))) H := hP
              have hD : va_D A (x1W cI cJ k0 b1 b2 b3 b4 b5 b6 b7 b8 (0, (yNT y), (yNO y), (yNP y), (yT y), (yH y), (yO y), (yD y), (yW y), (yB y), (yC y), (yQ y))) := hD
              have hW : YW D cI cJ k0 b1 b2 b3 b4 b5 b6 b7 b8 (0, (yNT y), (yNO y), (yNP y), (yT y), (yH y), (yO y), (yD y), (yW y), (yB y), (yC y), (yQ y)) s H := ⟨hP, hK⟩
              refine lv_aload_n hx hb dX1_read_79 rfl (lv_at hl 2 rfl) ?_
              refine va_get (D := D) (ci := 1) (v := .int 0) (C := RX1) (T := TX1) (N := 12) hx hb hts hin hown hK hP 0 rfl rfl 0 (by decide) (hts (.fieldLink RX1 36 "TideDepthsModel" "thrown" "I") (by decide +kernel)) (fun _ h9 => h9) rfl dX1_read_80 ?_
              refine lv_if_le (tgt := 88) hx hb dX1_read_83 (by decide) (fun c120 => ?_) (fun c120 => ?_)
              ·
                refine lv_iload_n hx hb dX1_read_88 rfl (lv_at hl 4 rfl) ?_
                refine lv_if_ne (tgt := 102) hx hb dX1_read_89 (by decide) (fun c121 => ?_) (fun c121 => ?_)
                ·
                  refine lv_iload_n hx hb dX1_read_102 rfl (lv_at hl 4 rfl) ?_
                  refine lv_iconst (v := 1) hx hb dX1_read_103 (by decide) ?_
                  refine lv_icmp_ne (tgt := 117) hx hb dX1_read_104 (by decide) (fun c122 => ?_) (fun c122 => ?_)
                  · exact absurd c90 c122
                  ·
                    refine lv_aload_n hx hb dX1_read_107 rfl (lv_at hl 2 rfl) ?_
                    refine va_get (D := D) (ci := 1) (v := .ref b2) (C := RX1) (T := TX1) (N := 12) hx hb hts hin hown hK hP 0 rfl rfl 5 (by decide) (hts (.fieldLink RX1 13 "TideDepthsModel" "turnHeight" "[I") (by decide +kernel)) (fun _ h9 => h9) rfl dX1_read_108 ?_
                    refine lv_iload_n hx hb dX1_read_111 rfl (lv_at hl 3 rfl) ?_
                    obtain ⟨h123, hw⟩ := hw
                    refine va_iald hx hb hK hP 2 0 rfl rfl h123 dX1_read_112 ?_
                    refine lv_i2l (v := (((yH y) (v1).toNatClampNeg)).toInt64) hx hb dX1_read_113 rfl ?_
                    refine lv_goto (tgt := 144) hx hb dX1_read_114 (by decide) ?_
                    exact W.lret (v := (((yH y) (v1).toNatClampNeg)).toInt64) hx hb hr (fun t ht hWm => ⟨⟨(((yH y) (v1).toNatClampNeg)).toInt64, (0, (yNT y), (yNO y), (yNP y), (yT y), (yH y), (yO y), (yD y), (yW y), (yB y), (yC y), (yQ y)), rfl, hw, by rw [ht]; exact hP, va_K.moved hWm.alike hK, hD⟩, hS.F ht⟩) hS.2.2 dX1_read_144
                · exact absurd c121 c65
              · exact absurd (by decide) c120
            · exact absurd c119 (by decide)
          · have hw := hw.2 c118
            refine lv_iload_n hx hb dX1_read_33 rfl (lv_at hl 2 rfl) ?_
            refine lv_bipush (v := 100) hx hb dX1_read_34 (by decide) ?_
            refine lv_isub hx hb dX1_read_36 ?_
            refine lv_aload_n hx hb dX1_read_37 rfl (lv_at hl 1 rfl) ?_
            refine va_get (D := D) (ci := 1) (v := .int (yNO y)) (C := RX1) (T := TX1) (N := 12) hx hb hts hin hown hK hP 0 rfl rfl 2 (by decide) (hts (.fieldLink RX1 59 "TideDepthsModel" "observations" "I") (by decide +kernel)) (fun _ h9 => h9) rfl dX1_read_38 ?_
            refine lv_icmp_ge (tgt := 58) hx hb dX1_read_41 (by decide) (fun c124 => ?_) (fun c124 => ?_)
            · have hw := hw.1 c124
              refine lv_iconst (v := 0) hx hb dX1_read_58 (by decide) ?_
              refine lv_istore (lv' := [(4, .int 0), (3, .int 1), (0, .ref k0), (1, .int v1), (2, .int v2)]) hx hb dX1_read_59 hl (by decide) rfl (fun ls hl => ?_)
              refine lv_aload_n hx hb dX1_read_61 rfl (lv_at hl 2 rfl) ?_
              refine lv_iload_n hx hb dX1_read_62 rfl (lv_at hl 1 rfl) ?_
              refine lv_if_ne (tgt := 71) hx hb dX1_read_63 (by decide) (fun c125 => ?_) (fun c125 => ?_)
              ·
                refine lv_iconst (v := 0) hx hb dX1_read_71 (by decide) ?_
                refine lv_goto (tgt := 76) hx hb dX1_read_72 (by decide) ?_
                refine va_put (D := D) (ci := 1) (v := .int 0) (ty := .int) (C := RX1) (T := TX1) (N := 12) hx hb hts hin tyX1 tyX1_ok nmX1 hown hK hP hD hS 0 rfl rfl 0 (by decide) (hts (.fieldLink RX1 36 "TideDepthsModel" "thrown" "I") (by decide +kernel)) (fun _ h9 => h9) rfl (by decide +kernel) rfl rfl (Nat.le_of_ble_eq_true rfl) dX1_read_76 (fun H locs hP hD hS => ?_)
                have hP : va_P D cls2 (x1W cI cJ k0 b1 b2 b3 b4 b5 b6 b7 b8 (0, (yNT y), (yNO y), (yNP y), (yT y), (yH y), (yO y), (yD y), (yW y), (yB y), (yC y), (yQ y))) H := hP
                have hD : va_D A (x1W cI cJ k0 b1 b2 b3 b4 b5 b6 b7 b8 (0, (yNT y), (yNO y), (yNP y), (yT y), (yH y), (yO y), (yD y), (yW y), (yB y), (yC y), (yQ y))) := hD
                have hW : YW D cI cJ k0 b1 b2 b3 b4 b5 b6 b7 b8 (0, (yNT y), (yNO y), (yNP y), (yT y), (yH y), (yO y), (yD y), (yW y), (yB y), (yC y), (yQ y)) s H := ⟨hP, hK⟩
                refine lv_aload_n hx hb dX1_read_79 rfl (lv_at hl 2 rfl) ?_
                refine va_get (D := D) (ci := 1) (v := .int 0) (C := RX1) (T := TX1) (N := 12) hx hb hts hin hown hK hP 0 rfl rfl 0 (by decide) (hts (.fieldLink RX1 36 "TideDepthsModel" "thrown" "I") (by decide +kernel)) (fun _ h9 => h9) rfl dX1_read_80 ?_
                refine lv_if_le (tgt := 88) hx hb dX1_read_83 (by decide) (fun c126 => ?_) (fun c126 => ?_)
                ·
                  refine lv_iload_n hx hb dX1_read_88 rfl (lv_at hl 4 rfl) ?_
                  refine lv_if_ne (tgt := 102) hx hb dX1_read_89 (by decide) (fun c127 => ?_) (fun c127 => ?_)
                  ·
                    refine lv_iload_n hx hb dX1_read_102 rfl (lv_at hl 4 rfl) ?_
                    refine lv_iconst (v := 1) hx hb dX1_read_103 (by decide) ?_
                    refine lv_icmp_ne (tgt := 117) hx hb dX1_read_104 (by decide) (fun c128 => ?_) (fun c128 => ?_)
                    · exact absurd c90 c128
                    ·
                      refine lv_aload_n hx hb dX1_read_107 rfl (lv_at hl 2 rfl) ?_
                      refine va_get (D := D) (ci := 1) (v := .ref b2) (C := RX1) (T := TX1) (N := 12) hx hb hts hin hown hK hP 0 rfl rfl 5 (by decide) (hts (.fieldLink RX1 13 "TideDepthsModel" "turnHeight" "[I") (by decide +kernel)) (fun _ h9 => h9) rfl dX1_read_108 ?_
                      refine lv_iload_n hx hb dX1_read_111 rfl (lv_at hl 3 rfl) ?_
                      obtain ⟨h129, hw⟩ := hw
                      refine va_iald hx hb hK hP 2 0 rfl rfl h129 dX1_read_112 ?_
                      refine lv_i2l (v := (((yH y) (v1).toNatClampNeg)).toInt64) hx hb dX1_read_113 rfl ?_
                      refine lv_goto (tgt := 144) hx hb dX1_read_114 (by decide) ?_
                      exact W.lret (v := (((yH y) (v1).toNatClampNeg)).toInt64) hx hb hr (fun t ht hWm => ⟨⟨(((yH y) (v1).toNatClampNeg)).toInt64, (0, (yNT y), (yNO y), (yNP y), (yT y), (yH y), (yO y), (yD y), (yW y), (yB y), (yC y), (yQ y)), rfl, hw, by rw [ht]; exact hP, va_K.moved hWm.alike hK, hD⟩, hS.F ht⟩) hS.2.2 dX1_read_144
                  · exact absurd c127 c65
                · exact absurd (by decide) c126
              · exact absurd c125 (by decide)
            · have hw := hw.2 c124
              refine lv_iload_n hx hb dX1_read_44 rfl (lv_at hl 3 rfl) ?_
              refine lv_iconst (v := 2) hx hb dX1_read_45 (by decide) ?_
              refine lv_icmp_eq (tgt := 54) hx hb dX1_read_46 (by decide) (fun c130 => ?_) (fun c130 => ?_)
              · have hw := hw.1 c130
                refine lv_iconst (v := 1) hx hb dX1_read_54 (by decide) ?_
                refine lv_goto (tgt := 59) hx hb dX1_read_55 (by decide) ?_
                refine lv_istore (lv' := [(4, .int 1), (3, .int 1), (0, .ref k0), (1, .int v1), (2, .int v2)]) hx hb dX1_read_59 hl (by decide) rfl (fun ls hl => ?_)
                refine lv_aload_n hx hb dX1_read_61 rfl (lv_at hl 2 rfl) ?_
                refine lv_iload_n hx hb dX1_read_62 rfl (lv_at hl 1 rfl) ?_
                refine lv_if_ne (tgt := 71) hx hb dX1_read_63 (by decide) (fun c131 => ?_) (fun c131 => ?_)
                ·
                  refine lv_iconst (v := 0) hx hb dX1_read_71 (by decide) ?_
                  refine lv_goto (tgt := 76) hx hb dX1_read_72 (by decide) ?_
                  refine va_put (D := D) (ci := 1) (v := .int 0) (ty := .int) (C := RX1) (T := TX1) (N := 12) hx hb hts hin tyX1 tyX1_ok nmX1 hown hK hP hD hS 0 rfl rfl 0 (by decide) (hts (.fieldLink RX1 36 "TideDepthsModel" "thrown" "I") (by decide +kernel)) (fun _ h9 => h9) rfl (by decide +kernel) rfl rfl (Nat.le_of_ble_eq_true rfl) dX1_read_76 (fun H locs hP hD hS => ?_)
                  have hP : va_P D cls2 (x1W cI cJ k0 b1 b2 b3 b4 b5 b6 b7 b8 (0, (yNT y), (yNO y), (yNP y), (yT y), (yH y), (yO y), (yD y), (yW y), (yB y), (yC y), (yQ y))) H := hP
                  have hD : va_D A (x1W cI cJ k0 b1 b2 b3 b4 b5 b6 b7 b8 (0, (yNT y), (yNO y), (yNP y), (yT y), (yH y), (yO y), (yD y), (yW y), (yB y), (yC y), (yQ y))) := hD
                  have hW : YW D cI cJ k0 b1 b2 b3 b4 b5 b6 b7 b8 (0, (yNT y), (yNO y), (yNP y), (yT y), (yH y), (yO y), (yD y), (yW y), (yB y), (yC y), (yQ y)) s H := ⟨hP, hK⟩
                  refine lv_aload_n hx hb dX1_read_79 rfl (lv_at hl 2 rfl) ?_
                  refine va_get (D := D) (ci := 1) (v := .int 0) (C := RX1) (T := TX1) (N := 12) hx hb hts hin hown hK hP 0 rfl rfl 0 (by decide) (hts (.fieldLink RX1 36 "TideDepthsModel" "thrown" "I") (by decide +kernel)) (fun _ h9 => h9) rfl dX1_read_80 ?_
                  refine lv_if_le (tgt := 88) hx hb dX1_read_83 (by decide) (fun c132 => ?_) (fun c132 => ?_)
                  ·
                    refine lv_iload_n hx hb dX1_read_88 rfl (lv_at hl 4 rfl) ?_
                    refine lv_if_ne (tgt := 102) hx hb dX1_read_89 (by decide) (fun c133 => ?_) (fun c133 => ?_)
                    ·
                      refine lv_iload_n hx hb dX1_read_102 rfl (lv_at hl 4 rfl) ?_
                      refine lv_iconst (v := 1) hx hb dX1_read_103 (by decide) ?_
                      refine lv_icmp_ne (tgt := 117) hx hb dX1_read_104 (by decide) (fun c134 => ?_) (fun c134 => ?_)
                      · exact absurd c90 c134
                      ·
                        refine lv_aload_n hx hb dX1_read_107 rfl (lv_at hl 2 rfl) ?_
                        refine va_get (D := D) (ci := 1) (v := .ref b2) (C := RX1) (T := TX1) (N := 12) hx hb hts hin hown hK hP 0 rfl rfl 5 (by decide) (hts (.fieldLink RX1 13 "TideDepthsModel" "turnHeight" "[I") (by decide +kernel)) (fun _ h9 => h9) rfl dX1_read_108 ?_
                        refine lv_iload_n hx hb dX1_read_111 rfl (lv_at hl 3 rfl) ?_
                        obtain ⟨h135, hw⟩ := hw
                        refine va_iald hx hb hK hP 2 0 rfl rfl h135 dX1_read_112 ?_
                        refine lv_i2l (v := (((yH y) (v1).toNatClampNeg)).toInt64) hx hb dX1_read_113 rfl ?_
                        refine lv_goto (tgt := 144) hx hb dX1_read_114 (by decide) ?_
                        exact W.lret (v := (((yH y) (v1).toNatClampNeg)).toInt64) hx hb hr (fun t ht hWm => ⟨⟨(((yH y) (v1).toNatClampNeg)).toInt64, (0, (yNT y), (yNO y), (yNP y), (yT y), (yH y), (yO y), (yD y), (yW y), (yB y), (yC y), (yQ y)), rfl, hw, by rw [ht]; exact hP, va_K.moved hWm.alike hK, hD⟩, hS.F ht⟩) hS.2.2 dX1_read_144
                    · exact absurd c133 c65
                  · exact absurd (by decide) c132
                · exact absurd c131 (by decide)
              · have hw := hw.2 c130
                refine lv_iload_n hx hb dX1_read_49 rfl (lv_at hl 3 rfl) ?_
                refine lv_iconst (v := 3) hx hb dX1_read_50 (by decide) ?_
                refine lv_icmp_ne (tgt := 58) hx hb dX1_read_51 (by decide) (fun c136 => ?_) (fun c136 => ?_)
                · have hw := hw.2 c136
                  refine lv_iconst (v := 0) hx hb dX1_read_58 (by decide) ?_
                  refine lv_istore (lv' := [(4, .int 0), (3, .int 1), (0, .ref k0), (1, .int v1), (2, .int v2)]) hx hb dX1_read_59 hl (by decide) rfl (fun ls hl => ?_)
                  refine lv_aload_n hx hb dX1_read_61 rfl (lv_at hl 2 rfl) ?_
                  refine lv_iload_n hx hb dX1_read_62 rfl (lv_at hl 1 rfl) ?_
                  refine lv_if_ne (tgt := 71) hx hb dX1_read_63 (by decide) (fun c137 => ?_) (fun c137 => ?_)
                  ·
                    refine lv_iconst (v := 0) hx hb dX1_read_71 (by decide) ?_
                    refine lv_goto (tgt := 76) hx hb dX1_read_72 (by decide) ?_
                    refine va_put (D := D) (ci := 1) (v := .int 0) (ty := .int) (C := RX1) (T := TX1) (N := 12) hx hb hts hin tyX1 tyX1_ok nmX1 hown hK hP hD hS 0 rfl rfl 0 (by decide) (hts (.fieldLink RX1 36 "TideDepthsModel" "thrown" "I") (by decide +kernel)) (fun _ h9 => h9) rfl (by decide +kernel) rfl rfl (Nat.le_of_ble_eq_true rfl) dX1_read_76 (fun H locs hP hD hS => ?_)
                    have hP : va_P D cls2 (x1W cI cJ k0 b1 b2 b3 b4 b5 b6 b7 b8 (0, (yNT y), (yNO y), (yNP y), (yT y), (yH y), (yO y), (yD y), (yW y), (yB y), (yC y), (yQ y))) H := hP
                    have hD : va_D A (x1W cI cJ k0 b1 b2 b3 b4 b5 b6 b7 b8 (0, (yNT y), (yNO y), (yNP y), (yT y), (yH y), (yO y), (yD y), (yW y), (yB y), (yC y), (yQ y))) := hD
                    have hW : YW D cI cJ k0 b1 b2 b3 b4 b5 b6 b7 b8 (0, (yNT y), (yNO y), (yNP y), (yT y), (yH y), (yO y), (yD y), (yW y), (yB y), (yC y), (yQ y)) s H := ⟨hP, hK⟩
                    refine lv_aload_n hx hb dX1_read_79 rfl (lv_at hl 2 rfl) ?_
                    refine va_get (D := D) (ci := 1) (v := .int 0) (C := RX1) (T := TX1) (N := 12) hx hb hts hin hown hK hP 0 rfl rfl 0 (by decide) (hts (.fieldLink RX1 36 "TideDepthsModel" "thrown" "I") (by decide +kernel)) (fun _ h9 => h9) rfl dX1_read_80 ?_
                    refine lv_if_le (tgt := 88) hx hb dX1_read_83 (by decide) (fun c138 => ?_) (fun c138 => ?_)
                    ·
                      refine lv_iload_n hx hb dX1_read_88 rfl (lv_at hl 4 rfl) ?_
                      refine lv_if_ne (tgt := 102) hx hb dX1_read_89 (by decide) (fun c139 => ?_) (fun c139 => ?_)
                      ·
                        refine lv_iload_n hx hb dX1_read_102 rfl (lv_at hl 4 rfl) ?_
                        refine lv_iconst (v := 1) hx hb dX1_read_103 (by decide) ?_
                        refine lv_icmp_ne (tgt := 117) hx hb dX1_read_104 (by decide) (fun c140 => ?_) (fun c140 => ?_)
                        · exact absurd c90 c140
                        ·
                          refine lv_aload_n hx hb dX1_read_107 rfl (lv_at hl 2 rfl) ?_
                          refine va_get (D := D) (ci := 1) (v := .ref b2) (C := RX1) (T := TX1) (N := 12) hx hb hts hin hown hK hP 0 rfl rfl 5 (by decide) (hts (.fieldLink RX1 13 "TideDepthsModel" "turnHeight" "[I") (by decide +kernel)) (fun _ h9 => h9) rfl dX1_read_108 ?_
                          refine lv_iload_n hx hb dX1_read_111 rfl (lv_at hl 3 rfl) ?_
                          obtain ⟨h141, hw⟩ := hw
                          refine va_iald hx hb hK hP 2 0 rfl rfl h141 dX1_read_112 ?_
                          refine lv_i2l (v := (((yH y) (v1).toNatClampNeg)).toInt64) hx hb dX1_read_113 rfl ?_
                          refine lv_goto (tgt := 144) hx hb dX1_read_114 (by decide) ?_
                          exact W.lret (v := (((yH y) (v1).toNatClampNeg)).toInt64) hx hb hr (fun t ht hWm => ⟨⟨(((yH y) (v1).toNatClampNeg)).toInt64, (0, (yNT y), (yNO y), (yNP y), (yT y), (yH y), (yO y), (yD y), (yW y), (yB y), (yC y), (yQ y)), rfl, hw, by rw [ht]; exact hP, va_K.moved hWm.alike hK, hD⟩, hS.F ht⟩) hS.2.2 dX1_read_144
                      · exact absurd c139 c65
                    · exact absurd (by decide) c138
                  · exact absurd c137 (by decide)
                · have hw := hw.1 c136
                  refine lv_iconst (v := 1) hx hb dX1_read_54 (by decide) ?_
                  refine lv_goto (tgt := 59) hx hb dX1_read_55 (by decide) ?_
                  refine lv_istore (lv' := [(4, .int 1), (3, .int 1), (0, .ref k0), (1, .int v1), (2, .int v2)]) hx hb dX1_read_59 hl (by decide) rfl (fun ls hl => ?_)
                  refine lv_aload_n hx hb dX1_read_61 rfl (lv_at hl 2 rfl) ?_
                  refine lv_iload_n hx hb dX1_read_62 rfl (lv_at hl 1 rfl) ?_
                  refine lv_if_ne (tgt := 71) hx hb dX1_read_63 (by decide) (fun c142 => ?_) (fun c142 => ?_)
                  ·
                    refine lv_iconst (v := 0) hx hb dX1_read_71 (by decide) ?_
                    refine lv_goto (tgt := 76) hx hb dX1_read_72 (by decide) ?_
                    refine va_put (D := D) (ci := 1) (v := .int 0) (ty := .int) (C := RX1) (T := TX1) (N := 12) hx hb hts hin tyX1 tyX1_ok nmX1 hown hK hP hD hS 0 rfl rfl 0 (by decide) (hts (.fieldLink RX1 36 "TideDepthsModel" "thrown" "I") (by decide +kernel)) (fun _ h9 => h9) rfl (by decide +kernel) rfl rfl (Nat.le_of_ble_eq_true rfl) dX1_read_76 (fun H locs hP hD hS => ?_)
                    have hP : va_P D cls2 (x1W cI cJ k0 b1 b2 b3 b4 b5 b6 b7 b8 (0, (yNT y), (yNO y), (yNP y), (yT y), (yH y), (yO y), (yD y), (yW y), (yB y), (yC y), (yQ y))) H := hP
                    have hD : va_D A (x1W cI cJ k0 b1 b2 b3 b4 b5 b6 b7 b8 (0, (yNT y), (yNO y), (yNP y), (yT y), (yH y), (yO y), (yD y), (yW y), (yB y), (yC y), (yQ y))) := hD
                    have hW : YW D cI cJ k0 b1 b2 b3 b4 b5 b6 b7 b8 (0, (yNT y), (yNO y), (yNP y), (yT y), (yH y), (yO y), (yD y), (yW y), (yB y), (yC y), (yQ y)) s H := ⟨hP, hK⟩
                    refine lv_aload_n hx hb dX1_read_79 rfl (lv_at hl 2 rfl) ?_
                    refine va_get (D := D) (ci := 1) (v := .int 0) (C := RX1) (T := TX1) (N := 12) hx hb hts hin hown hK hP 0 rfl rfl 0 (by decide) (hts (.fieldLink RX1 36 "TideDepthsModel" "thrown" "I") (by decide +kernel)) (fun _ h9 => h9) rfl dX1_read_80 ?_
                    refine lv_if_le (tgt := 88) hx hb dX1_read_83 (by decide) (fun c143 => ?_) (fun c143 => ?_)
                    ·
                      refine lv_iload_n hx hb dX1_read_88 rfl (lv_at hl 4 rfl) ?_
                      refine lv_if_ne (tgt := 102) hx hb dX1_read_89 (by decide) (fun c144 => ?_) (fun c144 => ?_)
                      ·
                        refine lv_iload_n hx hb dX1_read_102 rfl (lv_at hl 4 rfl) ?_
                        refine lv_iconst (v := 1) hx hb dX1_read_103 (by decide) ?_
                        refine lv_icmp_ne (tgt := 117) hx hb dX1_read_104 (by decide) (fun c145 => ?_) (fun c145 => ?_)
                        · exact absurd c90 c145
                        ·
                          refine lv_aload_n hx hb dX1_read_107 rfl (lv_at hl 2 rfl) ?_
                          refine va_get (D := D) (ci := 1) (v := .ref b2) (C := RX1) (T := TX1) (N := 12) hx hb hts hin hown hK hP 0 rfl rfl 5 (by decide) (hts (.fieldLink RX1 13 "TideDepthsModel" "turnHeight" "[I") (by decide +kernel)) (fun _ h9 => h9) rfl dX1_read_108 ?_
                          refine lv_iload_n hx hb dX1_read_111 rfl (lv_at hl 3 rfl) ?_
                          obtain ⟨h146, hw⟩ := hw
                          refine va_iald hx hb hK hP 2 0 rfl rfl h146 dX1_read_112 ?_
                          refine lv_i2l (v := (((yH y) (v1).toNatClampNeg)).toInt64) hx hb dX1_read_113 rfl ?_
                          refine lv_goto (tgt := 144) hx hb dX1_read_114 (by decide) ?_
                          exact W.lret (v := (((yH y) (v1).toNatClampNeg)).toInt64) hx hb hr (fun t ht hWm => ⟨⟨(((yH y) (v1).toNatClampNeg)).toInt64, (0, (yNT y), (yNO y), (yNP y), (yT y), (yH y), (yO y), (yD y), (yW y), (yB y), (yC y), (yQ y)), rfl, hw, by rw [ht]; exact hP, va_K.moved hWm.alike hK, hD⟩, hS.F ht⟩) hS.2.2 dX1_read_144
                      · exact absurd c144 c65
                    · exact absurd (by decide) c143
                  · exact absurd c142 (by decide)

def wX1_count (post : Int32 → YS → Prop) (y : YS) (v1 : Int32) : Prop := ((v1 = 0 → (post (yNT y) (0, (yNT y), (yNO y), (yNP y), (yT y), (yH y), (yO y), (yD y), (yW y), (yB y), (yC y), (yQ y)))) ∧ (¬ v1 = 0 → ((v1 = 1 → (post (yNO y) (0, (yNT y), (yNO y), (yNP y), (yT y), (yH y), (yO y), (yD y), (yW y), (yB y), (yC y), (yQ y)))) ∧ (¬ v1 = 1 → ((v1 = 2 → (post (yNP y) (0, (yNT y), (yNO y), (yNP y), (yT y), (yH y), (yO y), (yD y), (yW y), (yB y), (yC y), (yQ y)))) ∧ (¬ v1 = 2 → ((v1 = 3 → (((yNT y) ≤ 1 → (post (-1) (0, (yNT y), (yNO y), (yNP y), (yT y), (yH y), (yO y), (yD y), (yW y), (yB y), (yC y), (yQ y)))) ∧ (¬ (yNT y) ≤ 1 → (post ((yT y) 0) (0, (yNT y), (yNO y), (yNP y), (yT y), (yH y), (yO y), (yD y), (yW y), (yB y), (yC y), (yQ y)))))) ∧ (¬ v1 = 3 → ((v1 = 4 → (((yNT y) ≤ 1 → (post (-1) (0, (yNT y), (yNO y), (yNP y), (yT y), (yH y), (yO y), (yD y), (yW y), (yB y), (yC y), (yQ y)))) ∧ (¬ (yNT y) ≤ 1 → (vp_in ((yNT y) - 1) 40 ∧ (post ((yT y) (((yNT y) - 1)).toNatClampNeg) (0, (yNT y), (yNO y), (yNP y), (yT y), (yH y), (yO y), (yD y), (yW y), (yB y), (yC y), (yQ y))))))) ∧ (¬ v1 = 4 → (post (-1) (0, (yNT y), (yNO y), (yNP y), (yT y), (yH y), (yO y), (yD y), (yW y), (yB y), (yC y), (yQ y)))))))))))))

set_option maxHeartbeats 4000000 in
set_option maxRecDepth 100000 in
theorem mX1_count (l : Launch) (D : va_G) (cI cJ : ClassId) (k0 b1 b2 b3 b4 b5 b6 b7 b8 sz : Nat) (y : YS) (v1 : Int32) (post : Int32 → YS → Prop) : Met l yX1_count wsX1_count ({ frames := 0, cells := 0, slots := 0, locals := 0 } : Room) (va_Pc [.ref k0, .int v1] (fun U => YE D cI cJ k0 b1 b2 b3 b4 b5 b6 b7 b8 sz y U ∧ wX1_count post y v1)) (va_Qi post (fun u9 t9 => YT D cI cJ k0 b1 b2 b3 b4 b5 b6 b7 b8 (va_A (x1W cI cJ k0 b1 b2 b3 b4 b5 b6 b7 b8 y) sz) u9 t9) (va_A (x1W cI cJ k0 b1 b2 b3 b4 b5 b6 b7 b8 y) sz)) 0 0 (va_A (x1W cI cJ k0 b1 b2 b3 b4 b5 b6 b7 b8 y) sz) := by
  refine Met.ofW (cc := cX1_count) (maxL := 2) (ret := (some .int)) (by decide +kernel) rfl ?_
  intro p e s m args below meth c s₁ B hml hv
  obtain ⟨rfl, ⟨hsz, hP, hK, hD0⟩, hw⟩ := hv
  have hx := B.exec
  have hb := B.bytes
  have hr := B.returns
  have hts := atoms_spec (ws := wsX1_count) B.pre
  have hown : s.vm.findClass RX1 = some m.cls := findClass_of_methodNamed B.named
  have hlocks := B.notSynchronized
  have hin : ∀ w ∈ u_ws RX1 TX1 12, w ∈ wsX1_count := by decide +kernel
  subst hsz
  have hD := hD0.self (sz := s.heap.size)
  generalize hAe : va_A (x1W cI cJ k0 b1 b2 b3 b4 b5 b6 b7 b8 y) s.heap.size = A at hD ⊢
  have hS : va_S A s.heap s.heap [] := va_S.rf
  have hW : YW D cI cJ k0 b1 b2 b3 b4 b5 b6 b7 b8 y s s.heap := ⟨hP, hK⟩
  have hl := lv_entry ([.ref k0, .int v1]) (n := 2) (Nat.le_of_ble_eq_true rfl)
  rw [lg_entry_eq]
  generalize (lg_sl ([.ref k0, .int v1]) ++ List.replicate (2 - (lg_sl ([.ref k0, .int v1])).length) Slot.unset).toArray = ls at hl ⊢
  have hl : lv_has ls 2 [(0, .ref k0), (1, .int v1)] := hl
  unfold wX1_count at hw
  refine lv_aload_n hx hb dX1_count_0 rfl (lv_at hl 0 rfl) ?_
  refine lv_iconst (v := 0) hx hb dX1_count_1 (by decide) ?_
  refine va_put (D := D) (ci := 1) (v := .int 0) (ty := .int) (C := RX1) (T := TX1) (N := 12) hx hb hts hin tyX1 tyX1_ok nmX1 hown hK hP hD hS 0 rfl rfl 0 (by decide) (hts (.fieldLink RX1 36 "TideDepthsModel" "thrown" "I") (by decide +kernel)) (fun _ h9 => h9) rfl (by decide +kernel) rfl rfl (Nat.le_of_ble_eq_true rfl) dX1_count_2 (fun H locs hP hD hS => ?_)
  have hP : va_P D cls2 (x1W cI cJ k0 b1 b2 b3 b4 b5 b6 b7 b8 (0, (yNT y), (yNO y), (yNP y), (yT y), (yH y), (yO y), (yD y), (yW y), (yB y), (yC y), (yQ y))) H := hP
  have hD : va_D A (x1W cI cJ k0 b1 b2 b3 b4 b5 b6 b7 b8 (0, (yNT y), (yNO y), (yNP y), (yT y), (yH y), (yO y), (yD y), (yW y), (yB y), (yC y), (yQ y))) := hD
  have hW : YW D cI cJ k0 b1 b2 b3 b4 b5 b6 b7 b8 (0, (yNT y), (yNO y), (yNP y), (yT y), (yH y), (yO y), (yD y), (yW y), (yB y), (yC y), (yQ y)) s H := ⟨hP, hK⟩
  refine lv_iload_n hx hb dX1_count_5 rfl (lv_at hl 1 rfl) ?_
  by_cases c1_0 : v1 = 0
  · have hw := hw.1 c1_0
    refine lv_tableIn (tgt := 40) hx hb dX1_count_6 (by rw [c1_0]; decide) (by rw [c1_0]; decide) (by rw [c1_0]; rfl) (by decide) ?_
    refine lv_aload_n hx hb dX1_count_40 rfl (lv_at hl 0 rfl) ?_
    refine va_get (D := D) (ci := 1) (v := .int (yNT y)) (C := RX1) (T := TX1) (N := 12) hx hb hts hin hown hK hP 0 rfl rfl 1 (by decide) (hts (.fieldLink RX1 40 "TideDepthsModel" "turns" "I") (by decide +kernel)) (fun _ h9 => h9) rfl dX1_count_41 ?_
    exact W.iret (v := (yNT y)) hx hb hr (fun t ht hWm => ⟨⟨(yNT y), (0, (yNT y), (yNO y), (yNP y), (yT y), (yH y), (yO y), (yD y), (yW y), (yB y), (yC y), (yQ y)), rfl, hw, by rw [ht]; exact hP, va_K.moved hWm.alike hK, hD⟩, hS.F ht⟩) hS.2.2 dX1_count_44
  have hw := hw.2 c1_0
  by_cases c1_1 : v1 = 1
  · have hw := hw.1 c1_1
    refine lv_tableIn (tgt := 45) hx hb dX1_count_6 (by rw [c1_1]; decide) (by rw [c1_1]; decide) (by rw [c1_1]; rfl) (by decide) ?_
    refine lv_aload_n hx hb dX1_count_45 rfl (lv_at hl 0 rfl) ?_
    refine va_get (D := D) (ci := 1) (v := .int (yNO y)) (C := RX1) (T := TX1) (N := 12) hx hb hts hin hown hK hP 0 rfl rfl 2 (by decide) (hts (.fieldLink RX1 59 "TideDepthsModel" "observations" "I") (by decide +kernel)) (fun _ h9 => h9) rfl dX1_count_46 ?_
    exact W.iret (v := (yNO y)) hx hb hr (fun t ht hWm => ⟨⟨(yNO y), (0, (yNT y), (yNO y), (yNP y), (yT y), (yH y), (yO y), (yD y), (yW y), (yB y), (yC y), (yQ y)), rfl, hw, by rw [ht]; exact hP, va_K.moved hWm.alike hK, hD⟩, hS.F ht⟩) hS.2.2 dX1_count_49
  have hw := hw.2 c1_1
  by_cases c1_2 : v1 = 2
  · have hw := hw.1 c1_2
    refine lv_tableIn (tgt := 50) hx hb dX1_count_6 (by rw [c1_2]; decide) (by rw [c1_2]; decide) (by rw [c1_2]; rfl) (by decide) ?_
    refine lv_aload_n hx hb dX1_count_50 rfl (lv_at hl 0 rfl) ?_
    refine va_get (D := D) (ci := 1) (v := .int (yNP y)) (C := RX1) (T := TX1) (N := 12) hx hb hts hin hown hK hP 0 rfl rfl 3 (by decide) (hts (.fieldLink RX1 102 "TideDepthsModel" "places" "I") (by decide +kernel)) (fun _ h9 => h9) rfl dX1_count_51 ?_
    exact W.iret (v := (yNP y)) hx hb hr (fun t ht hWm => ⟨⟨(yNP y), (0, (yNT y), (yNO y), (yNP y), (yT y), (yH y), (yO y), (yD y), (yW y), (yB y), (yC y), (yQ y)), rfl, hw, by rw [ht]; exact hP, va_K.moved hWm.alike hK, hD⟩, hS.F ht⟩) hS.2.2 dX1_count_54
  have hw := hw.2 c1_2
  by_cases c1_3 : v1 = 3
  · have hw := hw.1 c1_3
    refine lv_tableIn (tgt := 55) hx hb dX1_count_6 (by rw [c1_3]; decide) (by rw [c1_3]; decide) (by rw [c1_3]; rfl) (by decide) ?_
    refine lv_aload_n hx hb dX1_count_55 rfl (lv_at hl 0 rfl) ?_
    refine va_get (D := D) (ci := 1) (v := .int (yNT y)) (C := RX1) (T := TX1) (N := 12) hx hb hts hin hown hK hP 0 rfl rfl 1 (by decide) (hts (.fieldLink RX1 40 "TideDepthsModel" "turns" "I") (by decide +kernel)) (fun _ h9 => h9) rfl dX1_count_56 ?_
    refine lv_iconst (v := 1) hx hb dX1_count_59 (by decide) ?_
    refine lv_icmp_le (tgt := 72) hx hb dX1_count_60 (by decide) (fun c2 => ?_) (fun c2 => ?_)
    · have hw := hw.1 c2
      refine lv_iconst (v := (-1)) hx hb dX1_count_72 (by decide) ?_
      exact W.iret (v := (-1)) hx hb hr (fun t ht hWm => ⟨⟨(-1), (0, (yNT y), (yNO y), (yNP y), (yT y), (yH y), (yO y), (yD y), (yW y), (yB y), (yC y), (yQ y)), rfl, hw, by rw [ht]; exact hP, va_K.moved hWm.alike hK, hD⟩, hS.F ht⟩) hS.2.2 dX1_count_73
    · have hw := hw.2 c2
      refine lv_aload_n hx hb dX1_count_63 rfl (lv_at hl 0 rfl) ?_
      refine va_get (D := D) (ci := 1) (v := .ref b1) (C := RX1) (T := TX1) (N := 12) hx hb hts hin hown hK hP 0 rfl rfl 4 (by decide) (hts (.fieldLink RX1 7 "TideDepthsModel" "turnTime" "[I") (by decide +kernel)) (fun _ h9 => h9) rfl dX1_count_64 ?_
      refine lv_iconst (v := 0) hx hb dX1_count_67 (by decide) ?_
      refine va_iald hx hb hK hP 1 0 rfl rfl (by unfold vp_in; decide) dX1_count_68 ?_
      rw [show Int32.toNatClampNeg 0 = 0 from by decide]
      refine lv_goto (tgt := 73) hx hb dX1_count_69 (by decide) ?_
      exact W.iret (v := ((yT y) 0)) hx hb hr (fun t ht hWm => ⟨⟨((yT y) 0), (0, (yNT y), (yNO y), (yNP y), (yT y), (yH y), (yO y), (yD y), (yW y), (yB y), (yC y), (yQ y)), rfl, hw, by rw [ht]; exact hP, va_K.moved hWm.alike hK, hD⟩, hS.F ht⟩) hS.2.2 dX1_count_73
  have hw := hw.2 c1_3
  by_cases c1_4 : v1 = 4
  · have hw := hw.1 c1_4
    refine lv_tableIn (tgt := 74) hx hb dX1_count_6 (by rw [c1_4]; decide) (by rw [c1_4]; decide) (by rw [c1_4]; rfl) (by decide) ?_
    refine lv_aload_n hx hb dX1_count_74 rfl (lv_at hl 0 rfl) ?_
    refine va_get (D := D) (ci := 1) (v := .int (yNT y)) (C := RX1) (T := TX1) (N := 12) hx hb hts hin hown hK hP 0 rfl rfl 1 (by decide) (hts (.fieldLink RX1 40 "TideDepthsModel" "turns" "I") (by decide +kernel)) (fun _ h9 => h9) rfl dX1_count_75 ?_
    refine lv_iconst (v := 1) hx hb dX1_count_78 (by decide) ?_
    refine lv_icmp_le (tgt := 96) hx hb dX1_count_79 (by decide) (fun c3 => ?_) (fun c3 => ?_)
    · have hw := hw.1 c3
      refine lv_iconst (v := (-1)) hx hb dX1_count_96 (by decide) ?_
      exact W.iret (v := (-1)) hx hb hr (fun t ht hWm => ⟨⟨(-1), (0, (yNT y), (yNO y), (yNP y), (yT y), (yH y), (yO y), (yD y), (yW y), (yB y), (yC y), (yQ y)), rfl, hw, by rw [ht]; exact hP, va_K.moved hWm.alike hK, hD⟩, hS.F ht⟩) hS.2.2 dX1_count_97
    · have hw := hw.2 c3
      refine lv_aload_n hx hb dX1_count_82 rfl (lv_at hl 0 rfl) ?_
      refine va_get (D := D) (ci := 1) (v := .ref b1) (C := RX1) (T := TX1) (N := 12) hx hb hts hin hown hK hP 0 rfl rfl 4 (by decide) (hts (.fieldLink RX1 7 "TideDepthsModel" "turnTime" "[I") (by decide +kernel)) (fun _ h9 => h9) rfl dX1_count_83 ?_
      refine lv_aload_n hx hb dX1_count_86 rfl (lv_at hl 0 rfl) ?_
      refine va_get (D := D) (ci := 1) (v := .int (yNT y)) (C := RX1) (T := TX1) (N := 12) hx hb hts hin hown hK hP 0 rfl rfl 1 (by decide) (hts (.fieldLink RX1 40 "TideDepthsModel" "turns" "I") (by decide +kernel)) (fun _ h9 => h9) rfl dX1_count_87 ?_
      refine lv_iconst (v := 1) hx hb dX1_count_90 (by decide) ?_
      refine lv_isub hx hb dX1_count_91 ?_
      obtain ⟨h4, hw⟩ := hw
      refine va_iald hx hb hK hP 1 0 rfl rfl h4 dX1_count_92 ?_
      refine lv_goto (tgt := 97) hx hb dX1_count_93 (by decide) ?_
      exact W.iret (v := ((yT y) (((yNT y) - 1)).toNatClampNeg)) hx hb hr (fun t ht hWm => ⟨⟨((yT y) (((yNT y) - 1)).toNatClampNeg), (0, (yNT y), (yNO y), (yNP y), (yT y), (yH y), (yO y), (yD y), (yW y), (yB y), (yC y), (yQ y)), rfl, hw, by rw [ht]; exact hP, va_K.moved hWm.alike hK, hD⟩, hS.F ht⟩) hS.2.2 dX1_count_97
  have hw := hw.2 c1_4
  refine lv_tableOut (tgt := 98) hx hb dX1_count_6 (tsw_4 c1_0 c1_1 c1_2 c1_3 c1_4) (by decide) ?_
  refine lv_iconst (v := (-1)) hx hb dX1_count_98 (by decide) ?_
  exact W.iret (v := (-1)) hx hb hr (fun t ht hWm => ⟨⟨(-1), (0, (yNT y), (yNO y), (yNP y), (yT y), (yH y), (yO y), (yD y), (yW y), (yB y), (yC y), (yQ y)), rfl, hw, by rw [ht]; exact hP, va_K.moved hWm.alike hK, hD⟩, hS.F ht⟩) hS.2.2 dX1_count_99
