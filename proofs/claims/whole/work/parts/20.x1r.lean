def wX1_in (post : Int32 → Prop) (v0 : Int64) (v2 : Int64) (v4 : Int64) : Prop := ((v0 < v2 → (post 0)) ∧ (¬ v0 < v2 → ((v4 < v0 → (post 0)) ∧ (¬ v4 < v0 → (post 1)))))

set_option maxHeartbeats 4000000 in
set_option maxRecDepth 100000 in
theorem mX1_in (l : Launch) (v0 : Int64) (v2 : Int64) (v4 : Int64) (post : Int32 → Prop) : Met l yX1_in wsX1_in ({ frames := 0, cells := 0, slots := 0, locals := 0 } : Room) (va_Pc [.long v0, .long v2, .long v4] (fun _ => wX1_in post v0 v2 v4)) (vp_Si (fun r => (r = 0 ∨ r = 1) ∧ post r)) 0 0 nA := by
  refine Met.ofW (cc := cX1_in) (maxL := 6) (ret := (some .boolean)) (by decide +kernel) rfl ?_
  intro p e s m args below meth c s₁ B hml hv
  obtain ⟨rfl, hw⟩ := hv
  have hx := B.exec
  have hb := B.bytes
  have hr := B.returns
  have hts := atoms_spec (ws := wsX1_in) B.pre
  have hown : s.vm.findClass RX1 = some m.cls := findClass_of_methodNamed B.named
  have hlocks := B.notSynchronized
  have hl := lv_entry ([.long v0, .long v2, .long v4]) (n := 6) (Nat.le_of_ble_eq_true rfl)
  rw [lg_entry_eq]
  generalize (lg_sl ([.long v0, .long v2, .long v4]) ++ List.replicate (6 - (lg_sl ([.long v0, .long v2, .long v4])).length) Slot.unset).toArray = ls at hl ⊢
  have hl : lv_has ls 6 [(0, .long v0), (2, .long v2), (4, .long v4)] := hl
  unfold wX1_in at hw
  refine lv_lload_n hx hb dX1_in_0 rfl (lv_at hl 0 rfl) ?_
  refine lv_lload_n hx hb dX1_in_1 rfl (lv_at hl 1 rfl) ?_
  refine bl_lt (tgt := 17) hx hb dX1_in_2 dX1_in_3 (by decide) (fun c1 => ?_) (fun c1 => ?_)
  · have hw := hw.1 c1
    refine lv_iconst (v := 0) hx hb dX1_in_17 (by decide) ?_
    exact W.zret (v := 0) hx hb hr (bz_nar (Or.inl rfl)) (fun t ht hWm => ⟨_, rfl, ⟨(Or.inl rfl), hw⟩, ht⟩) t_nil dX1_in_18
  · have hw := hw.2 c1
    refine lv_lload_n hx hb dX1_in_6 rfl (lv_at hl 0 rfl) ?_
    refine lv_lload hx hb dX1_in_7 (lv_at hl 2 rfl) ?_
    refine bl_gt (tgt := 17) hx hb dX1_in_9 dX1_in_10 (by decide) (fun c2 => ?_) (fun c2 => ?_)
    · have hw := hw.1 c2
      refine lv_iconst (v := 0) hx hb dX1_in_17 (by decide) ?_
      exact W.zret (v := 0) hx hb hr (bz_nar (Or.inl rfl)) (fun t ht hWm => ⟨_, rfl, ⟨(Or.inl rfl), hw⟩, ht⟩) t_nil dX1_in_18
    · have hw := hw.2 c2
      refine lv_iconst (v := 1) hx hb dX1_in_13 (by decide) ?_
      refine lv_goto (tgt := 18) hx hb dX1_in_14 (by decide) ?_
      exact W.zret (v := 1) hx hb hr (bz_nar (Or.inr rfl)) (fun t ht hWm => ⟨_, rfl, ⟨(Or.inr rfl), hw⟩, ht⟩) t_nil dX1_in_18

def wX1_floor (post : Int64 → Prop) (v0 : Int64) (v2 : Int64) : Prop := (¬ v2 = 0 ∧ (¬ v2 = 0 ∧ ((0 ≤ (v0 - v0 / v2 * v2) → (post (v0 / v2))) ∧ (¬ 0 ≤ (v0 - v0 / v2 * v2) → (post ((v0 / v2) - 1))))))

set_option maxHeartbeats 4000000 in
set_option maxRecDepth 100000 in
theorem mX1_floor (l : Launch) (v0 : Int64) (v2 : Int64) (post : Int64 → Prop) : Met l yX1_floor wsX1_floor ({ frames := 0, cells := 0, slots := 0, locals := 0 } : Room) (va_Pc [.long v0, .long v2] (fun _ => wX1_floor post v0 v2)) (vp_Sl post) 0 0 nA := by
  refine Met.ofW (cc := cX1_floor) (maxL := 6) (ret := (some .long)) (by decide +kernel) rfl ?_
  intro p e s m args below meth c s₁ B hml hv
  obtain ⟨rfl, hw⟩ := hv
  have hx := B.exec
  have hb := B.bytes
  have hr := B.returns
  have hts := atoms_spec (ws := wsX1_floor) B.pre
  have hown : s.vm.findClass RX1 = some m.cls := findClass_of_methodNamed B.named
  have hlocks := B.notSynchronized
  have hl := lv_entry ([.long v0, .long v2]) (n := 6) (Nat.le_of_ble_eq_true rfl)
  rw [lg_entry_eq]
  generalize (lg_sl ([.long v0, .long v2]) ++ List.replicate (6 - (lg_sl ([.long v0, .long v2])).length) Slot.unset).toArray = ls at hl ⊢
  have hl : lv_has ls 6 [(0, .long v0), (2, .long v2)] := hl
  unfold wX1_floor at hw
  refine lv_lload_n hx hb dX1_floor_0 rfl (lv_at hl 0 rfl) ?_
  refine lv_lload_n hx hb dX1_floor_1 rfl (lv_at hl 1 rfl) ?_
  obtain ⟨h1, hw⟩ := hw
  refine lv_ldiv hx hb dX1_floor_2 h1 ?_
  refine lv_lstore (lv' := [(4, .long (v0 / v2)), (0, .long v0), (2, .long v2)]) hx hb dX1_floor_3 hl (by decide) rfl (fun ls hl => ?_)
  refine lv_lload_n hx hb dX1_floor_5 rfl (lv_at hl 1 rfl) ?_
  refine lv_lload_n hx hb dX1_floor_6 rfl (lv_at hl 2 rfl) ?_
  obtain ⟨h2, hw⟩ := hw
  refine lv_lrem hx hb dX1_floor_7 h2 ?_
  refine lv_lconst (v := 0) hx hb dX1_floor_8 (by decide) ?_
  refine bl_ge (tgt := 20) hx hb dX1_floor_9 dX1_floor_10 (by decide) (fun c3 => ?_) (fun c3 => ?_)
  · have hw := hw.1 c3
    refine lv_lload hx hb dX1_floor_20 (lv_at hl 0 rfl) ?_
    exact W.lret (v := (v0 / v2)) hx hb hr (fun t ht hWm => ⟨_, rfl, hw, ht⟩) t_nil dX1_floor_22
  · have hw := hw.2 c3
    refine lv_lload hx hb dX1_floor_13 (lv_at hl 0 rfl) ?_
    refine lv_lconst (v := 1) hx hb dX1_floor_15 (by decide) ?_
    refine lv_lsub hx hb dX1_floor_16 ?_
    refine lv_goto (tgt := 22) hx hb dX1_floor_17 (by decide) ?_
    exact W.lret (v := ((v0 / v2) - 1)) hx hb hr (fun t ht hWm => ⟨_, rfl, hw, ht⟩) t_nil dX1_floor_22

def wX1_up (post : Int64 → Prop) (v0 : Int64) (v2 : Int64) : Prop := (¬ v2 = 0 ∧ (post (((v0 + v2) - 1) / v2)))

set_option maxHeartbeats 4000000 in
set_option maxRecDepth 100000 in
theorem mX1_up (l : Launch) (v0 : Int64) (v2 : Int64) (post : Int64 → Prop) : Met l yX1_up wsX1_up ({ frames := 0, cells := 0, slots := 0, locals := 0 } : Room) (va_Pc [.long v0, .long v2] (fun _ => wX1_up post v0 v2)) (vp_Sl post) 0 0 nA := by
  refine Met.ofW (cc := cX1_up) (maxL := 4) (ret := (some .long)) (by decide +kernel) rfl ?_
  intro p e s m args below meth c s₁ B hml hv
  obtain ⟨rfl, hw⟩ := hv
  have hx := B.exec
  have hb := B.bytes
  have hr := B.returns
  have hts := atoms_spec (ws := wsX1_up) B.pre
  have hown : s.vm.findClass RX1 = some m.cls := findClass_of_methodNamed B.named
  have hlocks := B.notSynchronized
  have hl := lv_entry ([.long v0, .long v2]) (n := 4) (Nat.le_of_ble_eq_true rfl)
  rw [lg_entry_eq]
  generalize (lg_sl ([.long v0, .long v2]) ++ List.replicate (4 - (lg_sl ([.long v0, .long v2])).length) Slot.unset).toArray = ls at hl ⊢
  have hl : lv_has ls 4 [(0, .long v0), (2, .long v2)] := hl
  unfold wX1_up at hw
  refine lv_lload_n hx hb dX1_up_0 rfl (lv_at hl 0 rfl) ?_
  refine lv_lload_n hx hb dX1_up_1 rfl (lv_at hl 1 rfl) ?_
  refine lv_ladd hx hb dX1_up_2 ?_
  refine lv_lconst (v := 1) hx hb dX1_up_3 (by decide) ?_
  refine lv_lsub hx hb dX1_up_4 ?_
  refine lv_lload_n hx hb dX1_up_5 rfl (lv_at hl 1 rfl) ?_
  obtain ⟨h1, hw⟩ := hw
  refine lv_ldiv hx hb dX1_up_6 h1 ?_
  exact W.lret (v := (((v0 + v2) - 1) / v2)) hx hb hr (fun t ht hWm => ⟨_, rfl, hw, ht⟩) t_nil dX1_up_7

def wX1_isHeight (post : Int32 → Prop) (v0 : Int64) : Prop := (wX1_in (fun r1 => (post r1)) v0 (-100000) 100000)

set_option maxHeartbeats 4000000 in
set_option maxRecDepth 100000 in
theorem mX1_isHeight (l : Launch) (v0 : Int64) (post : Int32 → Prop) : Met l yX1_isHeight wsX1_isHeight ({ frames := 1, cells := 0, slots := 0, locals := 25 } : Room) (va_Pc [.long v0] (fun _ => wX1_isHeight post v0)) (vp_Si (fun r => (r = 0 ∨ r = 1) ∧ post r)) 0 0 nA := by
  refine Met.ofW (cc := cX1_isHeight) (maxL := 2) (ret := (some .boolean)) (by decide +kernel) rfl ?_
  intro p e s m args below meth c s₁ B hml hv
  obtain ⟨rfl, hw⟩ := hv
  have hx := B.exec
  have hb := B.bytes
  have hr := B.returns
  have hts := atoms_spec (ws := wsX1_isHeight) B.pre
  have hown : s.vm.findClass RX1 = some m.cls := findClass_of_methodNamed B.named
  have hlocks := B.notSynchronized
  have hl := lv_entry ([.long v0]) (n := 2) (Nat.le_of_ble_eq_true rfl)
  rw [lg_entry_eq]
  generalize (lg_sl ([.long v0]) ++ List.replicate (2 - (lg_sl ([.long v0])).length) Slot.unset).toArray = ls at hl ⊢
  have hl : lv_has ls 2 [(0, .long v0)] := hl
  unfold wX1_isHeight at hw
  refine lv_lload_n hx hb dX1_isHeight_0 rfl (lv_at hl 0 rfl) ?_
  refine lv_ldc2 (v := (-100000)) hx hb hown (hts (.constantLong RX1 47 (-100000)) (by decide +kernel)) dX1_isHeight_1 ?_
  refine lv_ldc2 (v := 100000) hx hb hown (hts (.constantLong RX1 49 (100000)) (by decide +kernel)) dX1_isHeight_4 ?_
  refine pc_Si (As := [.long v0, .long (-100000), .long 100000]) (rest := []) ⟨hx, hb, hml, hown, hts⟩ (mX1_in l v0 (-100000) 100000 _) (va_cwS 3 hts gX1_isHeight_X1_in rfl rfl rfl (by decide +kernel) ⟨Nat.le_of_ble_eq_true rfl, Nat.le_of_ble_eq_true rfl⟩) wK_bl (fun _ _ _ => hw) rfl hl.1 rfl (Nat.le_of_ble_eq_true rfl) dX1_isHeight_7 ⟨Nat.le_of_ble_eq_true rfl, Nat.le_of_ble_eq_true rfl⟩ (fun r1 hw => ?_)
  obtain ⟨z_r1, hw⟩ := hw
  exact W.zret (v := r1) hx hb hr (bz_nar z_r1) (fun t ht hWm => ⟨_, rfl, ⟨z_r1, hw⟩, ht⟩) t_nil dX1_isHeight_10

def wX1_thrown (post : Int32 → Prop) (y : YS) : Prop := (post (yTH y))

set_option maxHeartbeats 4000000 in
set_option maxRecDepth 100000 in
theorem mX1_thrown (l : Launch) (D : va_G) (cI cJ : ClassId) (k0 b1 b2 b3 b4 b5 b6 b7 b8 : Nat) (y : YS) (post : Int32 → Prop) : Met l yX1_thrown wsX1_thrown ({ frames := 0, cells := 0, slots := 0, locals := 0 } : Room) (va_Pc [.ref k0] (fun U => YW D cI cJ k0 b1 b2 b3 b4 b5 b6 b7 b8 y U U.heap ∧ wX1_thrown post y)) (vp_Si post) 0 0 nA := by
  refine Met.ofW (cc := cX1_thrown) (maxL := 1) (ret := (some .int)) (by decide +kernel) rfl ?_
  intro p e s m args below meth c s₁ B hml hv
  obtain ⟨rfl, hW, hw⟩ := hv
  have hx := B.exec
  have hb := B.bytes
  have hr := B.returns
  have hts := atoms_spec (ws := wsX1_thrown) B.pre
  have hown : s.vm.findClass RX1 = some m.cls := findClass_of_methodNamed B.named
  have hlocks := B.notSynchronized
  have hin : ∀ w ∈ u_ws RX1 TX1 12, w ∈ wsX1_thrown := by decide +kernel
  have hl := lv_entry ([.ref k0]) (n := 1) (Nat.le_of_ble_eq_true rfl)
  rw [lg_entry_eq]
  generalize (lg_sl ([.ref k0]) ++ List.replicate (1 - (lg_sl ([.ref k0])).length) Slot.unset).toArray = ls at hl ⊢
  have hl : lv_has ls 1 [(0, .ref k0)] := hl
  unfold wX1_thrown at hw
  refine lv_aload_n hx hb dX1_thrown_0 rfl (lv_at hl 0 rfl) ?_
  refine va_get (D := D) (ci := 1) (v := .int (yTH y)) (C := RX1) (T := TX1) (N := 12) hx hb hts hin hown hW.2 hW.1 0 rfl rfl 0 (by decide) (hts (.fieldLink RX1 36 "TideDepthsModel" "thrown" "I") (by decide +kernel)) (fun _ h9 => h9) rfl dX1_thrown_1 ?_
  exact W.iret (v := (yTH y)) hx hb hr (fun t ht hWm => ⟨_, rfl, hw, ht⟩) t_nil dX1_thrown_4

def wX1_isInTable (post : Int32 → Prop) (y : YS) (v1 : Int64) : Prop := (((yNT y) ≤ 1 → (post 0)) ∧ (¬ (yNT y) ≤ 1 → (vp_in ((yNT y) - 1) 40 ∧ (wX1_in (fun r3 => ((r3 = 0 → (post 0)) ∧ (¬ r3 = 0 → (post 1)))) v1 (((yT y) 0)).toInt64 (((yT y) (((yNT y) - 1)).toNatClampNeg)).toInt64))))

set_option maxHeartbeats 4000000 in
set_option maxRecDepth 100000 in
theorem mX1_isInTable (l : Launch) (D : va_G) (cI cJ : ClassId) (k0 b1 b2 b3 b4 b5 b6 b7 b8 : Nat) (y : YS) (v1 : Int64) (post : Int32 → Prop) : Met l yX1_isInTable wsX1_isInTable ({ frames := 1, cells := 0, slots := 0, locals := 25 } : Room) (va_Pc [.ref k0, .long v1] (fun U => YW D cI cJ k0 b1 b2 b3 b4 b5 b6 b7 b8 y U U.heap ∧ wX1_isInTable post y v1)) (vp_Si (fun r => (r = 0 ∨ r = 1) ∧ post r)) 0 0 nA := by
  refine Met.ofW (cc := cX1_isInTable) (maxL := 3) (ret := (some .boolean)) (by decide +kernel) rfl ?_
  intro p e s m args below meth c s₁ B hml hv
  obtain ⟨rfl, hW, hw⟩ := hv
  have hx := B.exec
  have hb := B.bytes
  have hr := B.returns
  have hts := atoms_spec (ws := wsX1_isInTable) B.pre
  have hown : s.vm.findClass RX1 = some m.cls := findClass_of_methodNamed B.named
  have hlocks := B.notSynchronized
  have hin : ∀ w ∈ u_ws RX1 TX1 12, w ∈ wsX1_isInTable := by decide +kernel
  have hl := lv_entry ([.ref k0, .long v1]) (n := 3) (Nat.le_of_ble_eq_true rfl)
  rw [lg_entry_eq]
  generalize (lg_sl ([.ref k0, .long v1]) ++ List.replicate (3 - (lg_sl ([.ref k0, .long v1])).length) Slot.unset).toArray = ls at hl ⊢
  have hl : lv_has ls 3 [(0, .ref k0), (1, .long v1)] := hl
  unfold wX1_isInTable at hw
  refine lv_aload_n hx hb dX1_isInTable_0 rfl (lv_at hl 0 rfl) ?_
  refine va_get (D := D) (ci := 1) (v := .int (yNT y)) (C := RX1) (T := TX1) (N := 12) hx hb hts hin hown hW.2 hW.1 0 rfl rfl 1 (by decide) (hts (.fieldLink RX1 40 "TideDepthsModel" "turns" "I") (by decide +kernel)) (fun _ h9 => h9) rfl dX1_isInTable_1 ?_
  refine lv_iconst (v := 1) hx hb dX1_isInTable_4 (by decide) ?_
  refine lv_icmp_le (tgt := 38) hx hb dX1_isInTable_5 (by decide) (fun c1 => ?_) (fun c1 => ?_)
  · have hw := hw.1 c1
    refine lv_iconst (v := 0) hx hb dX1_isInTable_38 (by decide) ?_
    exact W.zret (v := 0) hx hb hr (bz_nar (Or.inl rfl)) (fun t ht hWm => ⟨_, rfl, ⟨(Or.inl rfl), hw⟩, ht⟩) t_nil dX1_isInTable_39
  · have hw := hw.2 c1
    refine lv_lload_n hx hb dX1_isInTable_8 rfl (lv_at hl 1 rfl) ?_
    refine lv_aload_n hx hb dX1_isInTable_9 rfl (lv_at hl 0 rfl) ?_
    refine va_get (D := D) (ci := 1) (v := .ref b1) (C := RX1) (T := TX1) (N := 12) hx hb hts hin hown hW.2 hW.1 0 rfl rfl 4 (by decide) (hts (.fieldLink RX1 7 "TideDepthsModel" "turnTime" "[I") (by decide +kernel)) (fun _ h9 => h9) rfl dX1_isInTable_10 ?_
    refine lv_iconst (v := 0) hx hb dX1_isInTable_13 (by decide) ?_
    refine va_iald hx hb hW.2 hW.1 1 0 rfl rfl (by unfold vp_in; decide) dX1_isInTable_14 ?_
    rw [show Int32.toNatClampNeg 0 = 0 from by decide]
    refine lv_i2l (v := (((yT y) 0)).toInt64) hx hb dX1_isInTable_15 rfl ?_
    refine lv_aload_n hx hb dX1_isInTable_16 rfl (lv_at hl 0 rfl) ?_
    refine va_get (D := D) (ci := 1) (v := .ref b1) (C := RX1) (T := TX1) (N := 12) hx hb hts hin hown hW.2 hW.1 0 rfl rfl 4 (by decide) (hts (.fieldLink RX1 7 "TideDepthsModel" "turnTime" "[I") (by decide +kernel)) (fun _ h9 => h9) rfl dX1_isInTable_17 ?_
    refine lv_aload_n hx hb dX1_isInTable_20 rfl (lv_at hl 0 rfl) ?_
    refine va_get (D := D) (ci := 1) (v := .int (yNT y)) (C := RX1) (T := TX1) (N := 12) hx hb hts hin hown hW.2 hW.1 0 rfl rfl 1 (by decide) (hts (.fieldLink RX1 40 "TideDepthsModel" "turns" "I") (by decide +kernel)) (fun _ h9 => h9) rfl dX1_isInTable_21 ?_
    refine lv_iconst (v := 1) hx hb dX1_isInTable_24 (by decide) ?_
    refine lv_isub hx hb dX1_isInTable_25 ?_
    obtain ⟨h2, hw⟩ := hw
    refine va_iald hx hb hW.2 hW.1 1 0 rfl rfl h2 dX1_isInTable_26 ?_
    refine lv_i2l (v := (((yT y) (((yNT y) - 1)).toNatClampNeg)).toInt64) hx hb dX1_isInTable_27 rfl ?_
    refine pc_Si (As := [.long v1, .long (((yT y) 0)).toInt64, .long (((yT y) (((yNT y) - 1)).toNatClampNeg)).toInt64]) (rest := []) ⟨hx, hb, hml, hown, hts⟩ (mX1_in l v1 (((yT y) 0)).toInt64 (((yT y) (((yNT y) - 1)).toNatClampNeg)).toInt64 _) (va_cwS 3 hts gX1_isInTable_X1_in rfl rfl rfl (by decide +kernel) ⟨Nat.le_of_ble_eq_true rfl, Nat.le_of_ble_eq_true rfl⟩) wK_bl (fun _ _ _ => hw) rfl hl.1 rfl (Nat.le_of_ble_eq_true rfl) dX1_isInTable_28 ⟨Nat.le_of_ble_eq_true rfl, Nat.le_of_ble_eq_true rfl⟩ (fun r3 hw => ?_)
    obtain ⟨z_r3, hw⟩ := hw
    refine lv_if_eq (tgt := 38) hx hb dX1_isInTable_31 (by decide) (fun c4 => ?_) (fun c4 => ?_)
    · have hw := hw.1 c4
      refine lv_iconst (v := 0) hx hb dX1_isInTable_38 (by decide) ?_
      exact W.zret (v := 0) hx hb hr (bz_nar (Or.inl rfl)) (fun t ht hWm => ⟨_, rfl, ⟨(Or.inl rfl), hw⟩, ht⟩) t_nil dX1_isInTable_39
    · have hw := hw.2 c4
      refine lv_iconst (v := 1) hx hb dX1_isInTable_34 (by decide) ?_
      refine lv_goto (tgt := 39) hx hb dX1_isInTable_35 (by decide) ?_
      exact W.zret (v := 1) hx hb hr (bz_nar (Or.inr rfl)) (fun t ht hWm => ⟨_, rfl, ⟨(Or.inr rfl), hw⟩, ht⟩) t_nil dX1_isInTable_39

def wX1_tableHeight_L2 (post : Int64 → Prop) (y : YS) (v1 : Int32) : Nat → Int32 → Prop
  | 0, _ => False
  | n + 1, v2 => (vp_in v2 40 ∧ ((v1 ≤ ((yT y) (v2).toNatClampNeg) → (vp_in v2 40 ∧ ((((yT y) (v2).toNatClampNeg) = v1 → (vp_in v2 40 ∧ (post (((yH y) (v2).toNatClampNeg)).toInt64))) ∧ (¬ ((yT y) (v2).toNatClampNeg) = v1 → (vp_in v2 40 ∧ (vp_in (v2 - 1) 40 ∧ (vp_in (v2 - 1) 40 ∧ (¬ ((((yT y) (v2).toNatClampNeg) - ((yT y) ((v2 - 1)).toNatClampNeg))).toInt64 = 0 ∧ (vp_in (((64 * ((v1 - ((yT y) ((v2 - 1)).toNatClampNeg))).toInt64) / ((((yT y) (v2).toNatClampNeg) - ((yT y) ((v2 - 1)).toNatClampNeg))).toInt64)).toInt32 65 ∧ (vp_in ((((64 * ((v1 - ((yT y) ((v2 - 1)).toNatClampNeg))).toInt64) / ((((yT y) (v2).toNatClampNeg) - ((yT y) ((v2 - 1)).toNatClampNeg))).toInt64)).toInt32 + 1) 65 ∧ (vp_in (((64 * ((v1 - ((yT y) ((v2 - 1)).toNatClampNeg))).toInt64) / ((((yT y) (v2).toNatClampNeg) - ((yT y) ((v2 - 1)).toNatClampNeg))).toInt64)).toInt32 65 ∧ (¬ ((((yT y) (v2).toNatClampNeg) - ((yT y) ((v2 - 1)).toNatClampNeg))).toInt64 = 0 ∧ (vp_in (v2 - 1) 40 ∧ (vp_in v2 40 ∧ (vp_in (v2 - 1) 40 ∧ (wX1_floor (fun r16 => (post ((((yH y) ((v2 - 1)).toNatClampNeg)).toInt64 + r16))) (((((yH y) (v2).toNatClampNeg) - ((yH y) ((v2 - 1)).toNatClampNeg))).toInt64 * ((((yC y) ((((64 * ((v1 - ((yT y) ((v2 - 1)).toNatClampNeg))).toInt64) / ((((yT y) (v2).toNatClampNeg) - ((yT y) ((v2 - 1)).toNatClampNeg))).toInt64)).toInt32).toNatClampNeg)).toInt64 + ((((((yC y) (((((64 * ((v1 - ((yT y) ((v2 - 1)).toNatClampNeg))).toInt64) / ((((yT y) (v2).toNatClampNeg) - ((yT y) ((v2 - 1)).toNatClampNeg))).toInt64)).toInt32 + 1)).toNatClampNeg) - ((yC y) ((((64 * ((v1 - ((yT y) ((v2 - 1)).toNatClampNeg))).toInt64) / ((((yT y) (v2).toNatClampNeg) - ((yT y) ((v2 - 1)).toNatClampNeg))).toInt64)).toInt32).toNatClampNeg))).toInt64 * ((64 * ((v1 - ((yT y) ((v2 - 1)).toNatClampNeg))).toInt64) - (((((64 * ((v1 - ((yT y) ((v2 - 1)).toNatClampNeg))).toInt64) / ((((yT y) (v2).toNatClampNeg) - ((yT y) ((v2 - 1)).toNatClampNeg))).toInt64)).toInt32).toInt64 * ((((yT y) (v2).toNatClampNeg) - ((yT y) ((v2 - 1)).toNatClampNeg))).toInt64))) / ((((yT y) (v2).toNatClampNeg) - ((yT y) ((v2 - 1)).toNatClampNeg))).toInt64))) 32768)))))))))))))))) ∧ (¬ v1 ≤ ((yT y) (v2).toNatClampNeg) → (wX1_tableHeight_L2 post y v1 n (v2 + 1)))))
def wX1_tableHeight (post : Int64 → Prop) (y : YS) (v1 : Int32) : Prop := (∃ n18 : Nat, wX1_tableHeight_L2 post y v1 n18 0)
set_option maxHeartbeats 4000000 in
set_option maxRecDepth 100000 in
theorem kX1_tableHeight_L2 {p : Program} {l : Launch} {e : Env} {s : State} {m : MethodId} {args : Array Value} {below : List Frame} {meth : Method} {c : Code} {D : va_G} {cI cJ : ClassId} {k0 b1 b2 b3 b4 b5 b6 b7 b8 : Nat} {y : YS} {post : Int64 → Prop} (hx : p.tables.exec = Jvm.exec) (hb : c.code = cX1_tableHeight) (hr : meth.sig.returnType = (some .long)) (hml : c.maxLocals = 10) (hown : s.vm.findClass RX1 = some m.cls) (hlocks : meth.locks = false) (hts : ∀ w ∈ wsX1_tableHeight, w.before args s = true) (hin : ∀ w ∈ u_ws RX1 TX1 12, w ∈ wsX1_tableHeight) (hW : YW D cI cJ k0 b1 b2 b3 b4 b5 b6 b7 b8 y s s.heap) (v1 : Int32) : ∀ (n : Nat) (v2 : Int32) (ls : Array Slot), lv_has ls 10 [(0, .ref k0), (1, .int v1), (2, .int v2)] → wX1_tableHeight_L2 post y v1 n v2 → W p l e ({ frames := 1, cells := 0, slots := 0, locals := 25 } : Room) s m args below meth c s.heap [] 0 0 (MQ below (vp_Sl post) args s 0 0 nA) (F0 m 2 ls []) := by
  intro n
  induction n with
  | zero =>
    intro v2 ls hl hw
    exact hw.elim
  | succ n ih =>
    intro v2 ls hl hw
    rw [wX1_tableHeight_L2] at hw
    refine lv_aload_n hx hb dX1_tableHeight_2 rfl (lv_at hl 0 rfl) ?_
    refine va_get (D := D) (ci := 1) (v := .ref b1) (C := RX1) (T := TX1) (N := 12) hx hb hts hin hown hW.2 hW.1 0 rfl rfl 4 (by decide) (hts (.fieldLink RX1 7 "TideDepthsModel" "turnTime" "[I") (by decide +kernel)) (fun _ h9 => h9) rfl dX1_tableHeight_3 ?_
    refine lv_iload_n hx hb dX1_tableHeight_6 rfl (lv_at hl 2 rfl) ?_
    obtain ⟨h1, hw⟩ := hw
    refine va_iald hx hb hW.2 hW.1 1 0 rfl rfl h1 dX1_tableHeight_7 ?_
    refine lv_iload_n hx hb dX1_tableHeight_8 rfl (lv_at hl 1 rfl) ?_
    refine lv_icmp_ge (tgt := 18) hx hb dX1_tableHeight_9 (by decide) (fun c2 => ?_) (fun c2 => ?_)
    · have hw := hw.1 c2
      refine lv_aload_n hx hb dX1_tableHeight_18 rfl (lv_at hl 0 rfl) ?_
      refine va_get (D := D) (ci := 1) (v := .ref b1) (C := RX1) (T := TX1) (N := 12) hx hb hts hin hown hW.2 hW.1 0 rfl rfl 4 (by decide) (hts (.fieldLink RX1 7 "TideDepthsModel" "turnTime" "[I") (by decide +kernel)) (fun _ h9 => h9) rfl dX1_tableHeight_19 ?_
      refine lv_iload_n hx hb dX1_tableHeight_22 rfl (lv_at hl 2 rfl) ?_
      obtain ⟨h3, hw⟩ := hw
      refine va_iald hx hb hW.2 hW.1 1 0 rfl rfl h3 dX1_tableHeight_23 ?_
      refine lv_iload_n hx hb dX1_tableHeight_24 rfl (lv_at hl 1 rfl) ?_
      refine lv_icmp_ne (tgt := 36) hx hb dX1_tableHeight_25 (by decide) (fun c4 => ?_) (fun c4 => ?_)
      · have hw := hw.2 c4
        refine lv_aload_n hx hb dX1_tableHeight_36 rfl (lv_at hl 0 rfl) ?_
        refine va_get (D := D) (ci := 1) (v := .ref b1) (C := RX1) (T := TX1) (N := 12) hx hb hts hin hown hW.2 hW.1 0 rfl rfl 4 (by decide) (hts (.fieldLink RX1 7 "TideDepthsModel" "turnTime" "[I") (by decide +kernel)) (fun _ h9 => h9) rfl dX1_tableHeight_37 ?_
        refine lv_iload_n hx hb dX1_tableHeight_40 rfl (lv_at hl 2 rfl) ?_
        obtain ⟨h5, hw⟩ := hw
        refine va_iald hx hb hW.2 hW.1 1 0 rfl rfl h5 dX1_tableHeight_41 ?_
        refine lv_aload_n hx hb dX1_tableHeight_42 rfl (lv_at hl 0 rfl) ?_
        refine va_get (D := D) (ci := 1) (v := .ref b1) (C := RX1) (T := TX1) (N := 12) hx hb hts hin hown hW.2 hW.1 0 rfl rfl 4 (by decide) (hts (.fieldLink RX1 7 "TideDepthsModel" "turnTime" "[I") (by decide +kernel)) (fun _ h9 => h9) rfl dX1_tableHeight_43 ?_
        refine lv_iload_n hx hb dX1_tableHeight_46 rfl (lv_at hl 2 rfl) ?_
        refine lv_iconst (v := 1) hx hb dX1_tableHeight_47 (by decide) ?_
        refine lv_isub hx hb dX1_tableHeight_48 ?_
        obtain ⟨h6, hw⟩ := hw
        refine va_iald hx hb hW.2 hW.1 1 0 rfl rfl h6 dX1_tableHeight_49 ?_
        refine lv_isub hx hb dX1_tableHeight_50 ?_
        refine lv_i2l (v := ((((yT y) (v2).toNatClampNeg) - ((yT y) ((v2 - 1)).toNatClampNeg))).toInt64) hx hb dX1_tableHeight_51 rfl ?_
        refine lv_lstore_n (lv' := [(3, .long ((((yT y) (v2).toNatClampNeg) - ((yT y) ((v2 - 1)).toNatClampNeg))).toInt64), (0, .ref k0), (1, .int v1), (2, .int v2)]) hx hb dX1_tableHeight_52 rfl hl (by decide) rfl (fun ls hl => ?_)
        refine lv_ldc2 (v := 64) hx hb hown (hts (.constantLong RX1 51 (64)) (by decide +kernel)) dX1_tableHeight_53 ?_
        refine lv_iload_n hx hb dX1_tableHeight_56 rfl (lv_at hl 2 rfl) ?_
        refine lv_aload_n hx hb dX1_tableHeight_57 rfl (lv_at hl 1 rfl) ?_
        refine va_get (D := D) (ci := 1) (v := .ref b1) (C := RX1) (T := TX1) (N := 12) hx hb hts hin hown hW.2 hW.1 0 rfl rfl 4 (by decide) (hts (.fieldLink RX1 7 "TideDepthsModel" "turnTime" "[I") (by decide +kernel)) (fun _ h9 => h9) rfl dX1_tableHeight_58 ?_
        refine lv_iload_n hx hb dX1_tableHeight_61 rfl (lv_at hl 3 rfl) ?_
        refine lv_iconst (v := 1) hx hb dX1_tableHeight_62 (by decide) ?_
        refine lv_isub hx hb dX1_tableHeight_63 ?_
        obtain ⟨h7, hw⟩ := hw
        refine va_iald hx hb hW.2 hW.1 1 0 rfl rfl h7 dX1_tableHeight_64 ?_
        refine lv_isub hx hb dX1_tableHeight_65 ?_
        refine lv_i2l (v := ((v1 - ((yT y) ((v2 - 1)).toNatClampNeg))).toInt64) hx hb dX1_tableHeight_66 rfl ?_
        refine lv_lmul hx hb dX1_tableHeight_67 ?_
        refine lv_lstore (lv' := [(5, .long (64 * ((v1 - ((yT y) ((v2 - 1)).toNatClampNeg))).toInt64)), (3, .long ((((yT y) (v2).toNatClampNeg) - ((yT y) ((v2 - 1)).toNatClampNeg))).toInt64), (0, .ref k0), (1, .int v1), (2, .int v2)]) hx hb dX1_tableHeight_68 hl (by decide) rfl (fun ls hl => ?_)
        refine lv_lload hx hb dX1_tableHeight_70 (lv_at hl 0 rfl) ?_
        refine lv_lload_n hx hb dX1_tableHeight_72 rfl (lv_at hl 1 rfl) ?_
        obtain ⟨h8, hw⟩ := hw
        refine lv_ldiv hx hb dX1_tableHeight_73 h8 ?_
        refine lv_l2i (v := (((64 * ((v1 - ((yT y) ((v2 - 1)).toNatClampNeg))).toInt64) / ((((yT y) (v2).toNatClampNeg) - ((yT y) ((v2 - 1)).toNatClampNeg))).toInt64)).toInt32) hx hb dX1_tableHeight_74 rfl ?_
        refine lv_istore (lv' := [(7, .int (((64 * ((v1 - ((yT y) ((v2 - 1)).toNatClampNeg))).toInt64) / ((((yT y) (v2).toNatClampNeg) - ((yT y) ((v2 - 1)).toNatClampNeg))).toInt64)).toInt32), (5, .long (64 * ((v1 - ((yT y) ((v2 - 1)).toNatClampNeg))).toInt64)), (3, .long ((((yT y) (v2).toNatClampNeg) - ((yT y) ((v2 - 1)).toNatClampNeg))).toInt64), (0, .ref k0), (1, .int v1), (2, .int v2)]) hx hb dX1_tableHeight_75 hl (by decide) rfl (fun ls hl => ?_)
        refine lv_aload_n hx hb dX1_tableHeight_77 rfl (lv_at hl 3 rfl) ?_
        refine va_get (D := D) (ci := 1) (v := .ref b7) (C := RX1) (T := TX1) (N := 12) hx hb hts hin hown hW.2 hW.1 0 rfl rfl 10 (by decide) (hts (.fieldLink RX1 30 "TideDepthsModel" "cosines" "[I") (by decide +kernel)) (fun _ h9 => h9) rfl dX1_tableHeight_78 ?_
        refine lv_iload hx hb dX1_tableHeight_81 (lv_at hl 0 rfl) ?_
        obtain ⟨h9, hw⟩ := hw
        refine va_iald hx hb hW.2 hW.1 7 0 rfl rfl h9 dX1_tableHeight_83 ?_
        refine lv_i2l (v := (((yC y) ((((64 * ((v1 - ((yT y) ((v2 - 1)).toNatClampNeg))).toInt64) / ((((yT y) (v2).toNatClampNeg) - ((yT y) ((v2 - 1)).toNatClampNeg))).toInt64)).toInt32).toNatClampNeg)).toInt64) hx hb dX1_tableHeight_84 rfl ?_
        refine lv_aload_n hx hb dX1_tableHeight_85 rfl (lv_at hl 3 rfl) ?_
        refine va_get (D := D) (ci := 1) (v := .ref b7) (C := RX1) (T := TX1) (N := 12) hx hb hts hin hown hW.2 hW.1 0 rfl rfl 10 (by decide) (hts (.fieldLink RX1 30 "TideDepthsModel" "cosines" "[I") (by decide +kernel)) (fun _ h9 => h9) rfl dX1_tableHeight_86 ?_
        refine lv_iload hx hb dX1_tableHeight_89 (lv_at hl 0 rfl) ?_
        refine lv_iconst (v := 1) hx hb dX1_tableHeight_91 (by decide) ?_
        refine lv_iadd hx hb dX1_tableHeight_92 ?_
        obtain ⟨h10, hw⟩ := hw
        refine va_iald hx hb hW.2 hW.1 7 0 rfl rfl h10 dX1_tableHeight_93 ?_
        refine lv_aload_n hx hb dX1_tableHeight_94 rfl (lv_at hl 3 rfl) ?_
        refine va_get (D := D) (ci := 1) (v := .ref b7) (C := RX1) (T := TX1) (N := 12) hx hb hts hin hown hW.2 hW.1 0 rfl rfl 10 (by decide) (hts (.fieldLink RX1 30 "TideDepthsModel" "cosines" "[I") (by decide +kernel)) (fun _ h9 => h9) rfl dX1_tableHeight_95 ?_
        refine lv_iload hx hb dX1_tableHeight_98 (lv_at hl 0 rfl) ?_
        obtain ⟨h11, hw⟩ := hw
        refine va_iald hx hb hW.2 hW.1 7 0 rfl rfl h11 dX1_tableHeight_100 ?_
        refine lv_isub hx hb dX1_tableHeight_101 ?_
        refine lv_i2l (v := ((((yC y) (((((64 * ((v1 - ((yT y) ((v2 - 1)).toNatClampNeg))).toInt64) / ((((yT y) (v2).toNatClampNeg) - ((yT y) ((v2 - 1)).toNatClampNeg))).toInt64)).toInt32 + 1)).toNatClampNeg) - ((yC y) ((((64 * ((v1 - ((yT y) ((v2 - 1)).toNatClampNeg))).toInt64) / ((((yT y) (v2).toNatClampNeg) - ((yT y) ((v2 - 1)).toNatClampNeg))).toInt64)).toInt32).toNatClampNeg))).toInt64) hx hb dX1_tableHeight_102 rfl ?_
        refine lv_lload hx hb dX1_tableHeight_103 (lv_at hl 1 rfl) ?_
        refine lv_iload hx hb dX1_tableHeight_105 (lv_at hl 0 rfl) ?_
        refine lv_i2l (v := ((((64 * ((v1 - ((yT y) ((v2 - 1)).toNatClampNeg))).toInt64) / ((((yT y) (v2).toNatClampNeg) - ((yT y) ((v2 - 1)).toNatClampNeg))).toInt64)).toInt32).toInt64) hx hb dX1_tableHeight_107 rfl ?_
        refine lv_lload_n hx hb dX1_tableHeight_108 rfl (lv_at hl 2 rfl) ?_
        refine lv_lmul hx hb dX1_tableHeight_109 ?_
        refine lv_lsub hx hb dX1_tableHeight_110 ?_
        refine lv_lmul hx hb dX1_tableHeight_111 ?_
        refine lv_lload_n hx hb dX1_tableHeight_112 rfl (lv_at hl 2 rfl) ?_
        obtain ⟨h12, hw⟩ := hw
        refine lv_ldiv hx hb dX1_tableHeight_113 h12 ?_
        refine lv_ladd hx hb dX1_tableHeight_114 ?_
        refine lv_lstore (lv' := [(8, .long ((((yC y) ((((64 * ((v1 - ((yT y) ((v2 - 1)).toNatClampNeg))).toInt64) / ((((yT y) (v2).toNatClampNeg) - ((yT y) ((v2 - 1)).toNatClampNeg))).toInt64)).toInt32).toNatClampNeg)).toInt64 + ((((((yC y) (((((64 * ((v1 - ((yT y) ((v2 - 1)).toNatClampNeg))).toInt64) / ((((yT y) (v2).toNatClampNeg) - ((yT y) ((v2 - 1)).toNatClampNeg))).toInt64)).toInt32 + 1)).toNatClampNeg) - ((yC y) ((((64 * ((v1 - ((yT y) ((v2 - 1)).toNatClampNeg))).toInt64) / ((((yT y) (v2).toNatClampNeg) - ((yT y) ((v2 - 1)).toNatClampNeg))).toInt64)).toInt32).toNatClampNeg))).toInt64 * ((64 * ((v1 - ((yT y) ((v2 - 1)).toNatClampNeg))).toInt64) - (((((64 * ((v1 - ((yT y) ((v2 - 1)).toNatClampNeg))).toInt64) / ((((yT y) (v2).toNatClampNeg) - ((yT y) ((v2 - 1)).toNatClampNeg))).toInt64)).toInt32).toInt64 * ((((yT y) (v2).toNatClampNeg) - ((yT y) ((v2 - 1)).toNatClampNeg))).toInt64))) / ((((yT y) (v2).toNatClampNeg) - ((yT y) ((v2 - 1)).toNatClampNeg))).toInt64))), (7, .int (((64 * ((v1 - ((yT y) ((v2 - 1)).toNatClampNeg))).toInt64) / ((((yT y) (v2).toNatClampNeg) - ((yT y) ((v2 - 1)).toNatClampNeg))).toInt64)).toInt32), (5, .long (64 * ((v1 - ((yT y) ((v2 - 1)).toNatClampNeg))).toInt64)), (3, .long ((((yT y) (v2).toNatClampNeg) - ((yT y) ((v2 - 1)).toNatClampNeg))).toInt64), (0, .ref k0), (1, .int v1), (2, .int v2)]) hx hb dX1_tableHeight_115 hl (by decide) rfl (fun ls hl => ?_)
        refine lv_aload_n hx hb dX1_tableHeight_117 rfl (lv_at hl 4 rfl) ?_
        refine va_get (D := D) (ci := 1) (v := .ref b2) (C := RX1) (T := TX1) (N := 12) hx hb hts hin hown hW.2 hW.1 0 rfl rfl 5 (by decide) (hts (.fieldLink RX1 13 "TideDepthsModel" "turnHeight" "[I") (by decide +kernel)) (fun _ h9 => h9) rfl dX1_tableHeight_118 ?_
        refine lv_iload_n hx hb dX1_tableHeight_121 rfl (lv_at hl 6 rfl) ?_
        refine lv_iconst (v := 1) hx hb dX1_tableHeight_122 (by decide) ?_
        refine lv_isub hx hb dX1_tableHeight_123 ?_
        obtain ⟨h13, hw⟩ := hw
        refine va_iald hx hb hW.2 hW.1 2 0 rfl rfl h13 dX1_tableHeight_124 ?_
        refine lv_i2l (v := (((yH y) ((v2 - 1)).toNatClampNeg)).toInt64) hx hb dX1_tableHeight_125 rfl ?_
        refine lv_aload_n hx hb dX1_tableHeight_126 rfl (lv_at hl 4 rfl) ?_
        refine va_get (D := D) (ci := 1) (v := .ref b2) (C := RX1) (T := TX1) (N := 12) hx hb hts hin hown hW.2 hW.1 0 rfl rfl 5 (by decide) (hts (.fieldLink RX1 13 "TideDepthsModel" "turnHeight" "[I") (by decide +kernel)) (fun _ h9 => h9) rfl dX1_tableHeight_127 ?_
        refine lv_iload_n hx hb dX1_tableHeight_130 rfl (lv_at hl 6 rfl) ?_
        obtain ⟨h14, hw⟩ := hw
        refine va_iald hx hb hW.2 hW.1 2 0 rfl rfl h14 dX1_tableHeight_131 ?_
        refine lv_aload_n hx hb dX1_tableHeight_132 rfl (lv_at hl 4 rfl) ?_
        refine va_get (D := D) (ci := 1) (v := .ref b2) (C := RX1) (T := TX1) (N := 12) hx hb hts hin hown hW.2 hW.1 0 rfl rfl 5 (by decide) (hts (.fieldLink RX1 13 "TideDepthsModel" "turnHeight" "[I") (by decide +kernel)) (fun _ h9 => h9) rfl dX1_tableHeight_133 ?_
        refine lv_iload_n hx hb dX1_tableHeight_136 rfl (lv_at hl 6 rfl) ?_
        refine lv_iconst (v := 1) hx hb dX1_tableHeight_137 (by decide) ?_
        refine lv_isub hx hb dX1_tableHeight_138 ?_
        obtain ⟨h15, hw⟩ := hw
        refine va_iald hx hb hW.2 hW.1 2 0 rfl rfl h15 dX1_tableHeight_139 ?_
        refine lv_isub hx hb dX1_tableHeight_140 ?_
        refine lv_i2l (v := ((((yH y) (v2).toNatClampNeg) - ((yH y) ((v2 - 1)).toNatClampNeg))).toInt64) hx hb dX1_tableHeight_141 rfl ?_
        refine lv_lload hx hb dX1_tableHeight_142 (lv_at hl 0 rfl) ?_
        refine lv_lmul hx hb dX1_tableHeight_144 ?_
        refine lv_ldc2 (v := 32768) hx hb hown (hts (.constantLong RX1 53 (32768)) (by decide +kernel)) dX1_tableHeight_145 ?_
        refine pc_Sl (As := [.long (((((yH y) (v2).toNatClampNeg) - ((yH y) ((v2 - 1)).toNatClampNeg))).toInt64 * ((((yC y) ((((64 * ((v1 - ((yT y) ((v2 - 1)).toNatClampNeg))).toInt64) / ((((yT y) (v2).toNatClampNeg) - ((yT y) ((v2 - 1)).toNatClampNeg))).toInt64)).toInt32).toNatClampNeg)).toInt64 + ((((((yC y) (((((64 * ((v1 - ((yT y) ((v2 - 1)).toNatClampNeg))).toInt64) / ((((yT y) (v2).toNatClampNeg) - ((yT y) ((v2 - 1)).toNatClampNeg))).toInt64)).toInt32 + 1)).toNatClampNeg) - ((yC y) ((((64 * ((v1 - ((yT y) ((v2 - 1)).toNatClampNeg))).toInt64) / ((((yT y) (v2).toNatClampNeg) - ((yT y) ((v2 - 1)).toNatClampNeg))).toInt64)).toInt32).toNatClampNeg))).toInt64 * ((64 * ((v1 - ((yT y) ((v2 - 1)).toNatClampNeg))).toInt64) - (((((64 * ((v1 - ((yT y) ((v2 - 1)).toNatClampNeg))).toInt64) / ((((yT y) (v2).toNatClampNeg) - ((yT y) ((v2 - 1)).toNatClampNeg))).toInt64)).toInt32).toInt64 * ((((yT y) (v2).toNatClampNeg) - ((yT y) ((v2 - 1)).toNatClampNeg))).toInt64))) / ((((yT y) (v2).toNatClampNeg) - ((yT y) ((v2 - 1)).toNatClampNeg))).toInt64))), .long 32768]) (rest := [.long (((yH y) ((v2 - 1)).toNatClampNeg)).toInt64]) ⟨hx, hb, hml, hown, hts⟩ (mX1_floor l (((((yH y) (v2).toNatClampNeg) - ((yH y) ((v2 - 1)).toNatClampNeg))).toInt64 * ((((yC y) ((((64 * ((v1 - ((yT y) ((v2 - 1)).toNatClampNeg))).toInt64) / ((((yT y) (v2).toNatClampNeg) - ((yT y) ((v2 - 1)).toNatClampNeg))).toInt64)).toInt32).toNatClampNeg)).toInt64 + ((((((yC y) (((((64 * ((v1 - ((yT y) ((v2 - 1)).toNatClampNeg))).toInt64) / ((((yT y) (v2).toNatClampNeg) - ((yT y) ((v2 - 1)).toNatClampNeg))).toInt64)).toInt32 + 1)).toNatClampNeg) - ((yC y) ((((64 * ((v1 - ((yT y) ((v2 - 1)).toNatClampNeg))).toInt64) / ((((yT y) (v2).toNatClampNeg) - ((yT y) ((v2 - 1)).toNatClampNeg))).toInt64)).toInt32).toNatClampNeg))).toInt64 * ((64 * ((v1 - ((yT y) ((v2 - 1)).toNatClampNeg))).toInt64) - (((((64 * ((v1 - ((yT y) ((v2 - 1)).toNatClampNeg))).toInt64) / ((((yT y) (v2).toNatClampNeg) - ((yT y) ((v2 - 1)).toNatClampNeg))).toInt64)).toInt32).toInt64 * ((((yT y) (v2).toNatClampNeg) - ((yT y) ((v2 - 1)).toNatClampNeg))).toInt64))) / ((((yT y) (v2).toNatClampNeg) - ((yT y) ((v2 - 1)).toNatClampNeg))).toInt64))) 32768 _) (va_cwS 2 hts gX1_tableHeight_X1_floor rfl rfl rfl (by decide +kernel) ⟨Nat.le_of_ble_eq_true rfl, Nat.le_of_ble_eq_true rfl⟩) wK_bl (fun _ _ _ => hw) rfl hl.1 rfl (Nat.le_of_ble_eq_true rfl) dX1_tableHeight_148 ⟨Nat.le_of_ble_eq_true rfl, Nat.le_of_ble_eq_true rfl⟩ (fun r16 hw => ?_)
        refine lv_ladd hx hb dX1_tableHeight_151 ?_
        exact W.lret (v := ((((yH y) ((v2 - 1)).toNatClampNeg)).toInt64 + r16)) hx hb hr (fun t ht hWm => ⟨_, rfl, hw, ht⟩) t_nil dX1_tableHeight_152
      · have hw := hw.1 c4
        refine lv_aload_n hx hb dX1_tableHeight_28 rfl (lv_at hl 0 rfl) ?_
        refine va_get (D := D) (ci := 1) (v := .ref b2) (C := RX1) (T := TX1) (N := 12) hx hb hts hin hown hW.2 hW.1 0 rfl rfl 5 (by decide) (hts (.fieldLink RX1 13 "TideDepthsModel" "turnHeight" "[I") (by decide +kernel)) (fun _ h9 => h9) rfl dX1_tableHeight_29 ?_
        refine lv_iload_n hx hb dX1_tableHeight_32 rfl (lv_at hl 2 rfl) ?_
        obtain ⟨h17, hw⟩ := hw
        refine va_iald hx hb hW.2 hW.1 2 0 rfl rfl h17 dX1_tableHeight_33 ?_
        refine lv_i2l (v := (((yH y) (v2).toNatClampNeg)).toInt64) hx hb dX1_tableHeight_34 rfl ?_
        exact W.lret (v := (((yH y) (v2).toNatClampNeg)).toInt64) hx hb hr (fun t ht hWm => ⟨_, rfl, hw, ht⟩) t_nil dX1_tableHeight_35
    · have hw := hw.2 c2
      refine lv_iinc (v := (v2 + 1)) (lv' := [(2, .int (v2 + 1)), (0, .ref k0), (1, .int v1)]) hx hb dX1_tableHeight_12 hl (k := 2) rfl (by first | rfl | exact congrArg (fun z => v2 + z) (by decide)) (by decide) rfl (fun ls hl => ?_)
      refine lv_goto (tgt := 2) hx hb dX1_tableHeight_15 (by decide) ?_
      exact ih (v2 + 1) ls (lv_sub hl [1, 2, 0] rfl) hw
set_option maxHeartbeats 4000000 in
set_option maxRecDepth 100000 in
theorem mX1_tableHeight (l : Launch) (D : va_G) (cI cJ : ClassId) (k0 b1 b2 b3 b4 b5 b6 b7 b8 : Nat) (y : YS) (v1 : Int32) (post : Int64 → Prop) : Met l yX1_tableHeight wsX1_tableHeight ({ frames := 1, cells := 0, slots := 0, locals := 25 } : Room) (va_Pc [.ref k0, .int v1] (fun U => YW D cI cJ k0 b1 b2 b3 b4 b5 b6 b7 b8 y U U.heap ∧ wX1_tableHeight post y v1)) (vp_Sl post) 0 0 nA := by
  refine Met.ofW (cc := cX1_tableHeight) (maxL := 10) (ret := (some .long)) (by decide +kernel) rfl ?_
  intro p e s m args below meth c s₁ B hml hv
  obtain ⟨rfl, hW, hw⟩ := hv
  have hx := B.exec
  have hb := B.bytes
  have hr := B.returns
  have hts := atoms_spec (ws := wsX1_tableHeight) B.pre
  have hown : s.vm.findClass RX1 = some m.cls := findClass_of_methodNamed B.named
  have hlocks := B.notSynchronized
  have hin : ∀ w ∈ u_ws RX1 TX1 12, w ∈ wsX1_tableHeight := by decide +kernel
  have hl := lv_entry ([.ref k0, .int v1]) (n := 10) (Nat.le_of_ble_eq_true rfl)
  rw [lg_entry_eq]
  generalize (lg_sl ([.ref k0, .int v1]) ++ List.replicate (10 - (lg_sl ([.ref k0, .int v1])).length) Slot.unset).toArray = ls at hl ⊢
  have hl : lv_has ls 10 [(0, .ref k0), (1, .int v1)] := hl
  unfold wX1_tableHeight at hw
  refine lv_iconst (v := 0) hx hb dX1_tableHeight_0 (by decide) ?_
  refine lv_istore_n (lv' := [(2, .int 0), (0, .ref k0), (1, .int v1)]) hx hb dX1_tableHeight_1 rfl hl (by decide) rfl (fun ls hl => ?_)
  obtain ⟨n18, hw⟩ := hw
  exact kX1_tableHeight_L2 hx hb hr hml hown hlocks hts hin hW v1 n18 0 ls (lv_sub hl [1, 2, 0] rfl) hw

def wX1_heightAt_L64 (post : Int64 → Prop) (y : YS) (v1 : Int32) : Nat → Int64 → Int32 → Prop
  | 0, _, _ => False
  | n + 1, v3, v5 => ((v5 ≤ 0 → (wX1_tableHeight (fun r7 => (post (r7 + v3))) y v1)) ∧ (¬ v5 ≤ 0 → (wX1_heightAt_L64 post y v1 n (v3 / 2) (v5 + (-1)))))
def wX1_heightAt_L7 (post : Int64 → Prop) (y : YS) (v1 : Int32) : Nat → Int32 → Prop
  | 0, _ => False
  | n + 1, v2 => ((v2 < 0 → ((0 ≤ v2 → (vp_in v2 16 ∧ (vp_in v2 16 ∧ (∃ n8 : Nat, wX1_heightAt_L64 post y v1 n8 ((yD y) (v2).toNatClampNeg) ((v1 - ((yO y) (v2).toNatClampNeg)) / 600))))) ∧ (¬ 0 ≤ v2 → (∃ n10 : Nat, wX1_heightAt_L64 post y v1 n10 0 0)))) ∧ (¬ v2 < 0 → (vp_in v2 16 ∧ ((((yO y) (v2).toNatClampNeg) ≤ v1 → ((0 ≤ v2 → (vp_in v2 16 ∧ (vp_in v2 16 ∧ (∃ n17 : Nat, wX1_heightAt_L64 post y v1 n17 ((yD y) (v2).toNatClampNeg) ((v1 - ((yO y) (v2).toNatClampNeg)) / 600))))) ∧ (¬ 0 ≤ v2 → (∃ n19 : Nat, wX1_heightAt_L64 post y v1 n19 0 0)))) ∧ (¬ ((yO y) (v2).toNatClampNeg) ≤ v1 → (wX1_heightAt_L7 post y v1 n (v2 + (-1))))))))
def wX1_heightAt (post : Int64 → Prop) (y : YS) (v1 : Int32) : Prop := (∃ n20 : Nat, wX1_heightAt_L7 post y v1 n20 ((yNO y) - 1))
set_option maxHeartbeats 4000000 in
set_option maxRecDepth 100000 in
theorem kX1_heightAt_L64 {p : Program} {l : Launch} {e : Env} {s : State} {m : MethodId} {args : Array Value} {below : List Frame} {meth : Method} {c : Code} {D : va_G} {cI cJ : ClassId} {k0 b1 b2 b3 b4 b5 b6 b7 b8 : Nat} {y : YS} {post : Int64 → Prop} (hx : p.tables.exec = Jvm.exec) (hb : c.code = cX1_heightAt) (hr : meth.sig.returnType = (some .long)) (hml : c.maxLocals = 6) (hown : s.vm.findClass RX1 = some m.cls) (hlocks : meth.locks = false) (hts : ∀ w ∈ wsX1_heightAt, w.before args s = true) (hin : ∀ w ∈ u_ws RX1 TX1 12, w ∈ wsX1_heightAt) (hW : YW D cI cJ k0 b1 b2 b3 b4 b5 b6 b7 b8 y s s.heap) (v1 : Int32) (v2 : Int32) : ∀ (n : Nat) (v3 : Int64) (v5 : Int32) (ls : Array Slot), lv_has ls 6 [(0, .ref k0), (1, .int v1), (2, .int v2), (3, .long v3), (5, .int v5)] → wX1_heightAt_L64 post y v1 n v3 v5 → W p l e ({ frames := 2, cells := 0, slots := 0, locals := 54 } : Room) s m args below meth c s.heap [] 0 0 (MQ below (vp_Sl post) args s 0 0 nA) (F0 m 64 ls []) := by
  intro n
  induction n with
  | zero =>
    intro v3 v5 ls hl hw
    exact hw.elim
  | succ n ih =>
    intro v3 v5 ls hl hw
    rw [wX1_heightAt_L64] at hw
    refine lv_iload hx hb dX1_heightAt_64 (lv_at hl 4 rfl) ?_
    refine lv_if_le (tgt := 81) hx hb dX1_heightAt_66 (by decide) (fun c6 => ?_) (fun c6 => ?_)
    · have hw := hw.1 c6
      refine lv_aload_n hx hb dX1_heightAt_81 rfl (lv_at hl 0 rfl) ?_
      refine lv_iload_n hx hb dX1_heightAt_82 rfl (lv_at hl 1 rfl) ?_
      refine pc_Vl (As := [.int v1]) (rest := []) ⟨hx, hb, hml, hown, hts⟩ (mX1_tableHeight l D cI cJ k0 b1 b2 b3 b4 b5 b6 b7 b8 y v1 _) (cwV 1 hts gX1_heightAt_X1_tableHeight rfl rfl rfl (by decide +kernel) ⟨Nat.le_of_ble_eq_true rfl, Nat.le_of_ble_eq_true rfl⟩) (wY_rc hW) wY_bl (wY_in hW hw) rfl hl.1 rfl (Nat.le_of_ble_eq_true rfl) dX1_heightAt_83 ⟨Nat.le_of_ble_eq_true rfl, Nat.le_of_ble_eq_true rfl⟩ (fun r7 hw => ?_)
      refine lv_lload_n hx hb dX1_heightAt_86 rfl (lv_at hl 3 rfl) ?_
      refine lv_ladd hx hb dX1_heightAt_87 ?_
      exact W.lret (v := (r7 + v3)) hx hb hr (fun t ht hWm => ⟨_, rfl, hw, ht⟩) t_nil dX1_heightAt_88
    · have hw := hw.2 c6
      refine lv_lload_n hx hb dX1_heightAt_69 rfl (lv_at hl 3 rfl) ?_
      refine lv_ldc2 (v := 2) hx hb hown (hts (.constantLong RX1 62 (2)) (by decide +kernel)) dX1_heightAt_70 ?_
      refine lv_ldiv hx hb dX1_heightAt_73 (by decide) ?_
      refine lv_lstore_n (lv' := [(3, .long (v3 / 2)), (0, .ref k0), (1, .int v1), (2, .int v2), (5, .int v5)]) hx hb dX1_heightAt_74 rfl hl (by decide) rfl (fun ls hl => ?_)
      refine lv_iinc (v := (v5 + (-1))) (lv' := [(5, .int (v5 + (-1))), (3, .long (v3 / 2)), (0, .ref k0), (1, .int v1), (2, .int v2)]) hx hb dX1_heightAt_75 hl (k := 4) rfl (by first | rfl | exact congrArg (fun z => v5 + z) (by decide)) (by decide) rfl (fun ls hl => ?_)
      refine lv_goto (tgt := 64) hx hb dX1_heightAt_78 (by decide) ?_
      exact ih (v3 / 2) (v5 + (-1)) ls (lv_sub hl [2, 3, 4, 1, 0] rfl) hw
set_option maxHeartbeats 4000000 in
set_option maxRecDepth 100000 in
theorem kX1_heightAt_L7 {p : Program} {l : Launch} {e : Env} {s : State} {m : MethodId} {args : Array Value} {below : List Frame} {meth : Method} {c : Code} {D : va_G} {cI cJ : ClassId} {k0 b1 b2 b3 b4 b5 b6 b7 b8 : Nat} {y : YS} {post : Int64 → Prop} (hx : p.tables.exec = Jvm.exec) (hb : c.code = cX1_heightAt) (hr : meth.sig.returnType = (some .long)) (hml : c.maxLocals = 6) (hown : s.vm.findClass RX1 = some m.cls) (hlocks : meth.locks = false) (hts : ∀ w ∈ wsX1_heightAt, w.before args s = true) (hin : ∀ w ∈ u_ws RX1 TX1 12, w ∈ wsX1_heightAt) (hW : YW D cI cJ k0 b1 b2 b3 b4 b5 b6 b7 b8 y s s.heap) (v1 : Int32) : ∀ (n : Nat) (v2 : Int32) (ls : Array Slot), lv_has ls 6 [(0, .ref k0), (1, .int v1), (2, .int v2)] → wX1_heightAt_L7 post y v1 n v2 → W p l e ({ frames := 2, cells := 0, slots := 0, locals := 54 } : Room) s m args below meth c s.heap [] 0 0 (MQ below (vp_Sl post) args s 0 0 nA) (F0 m 7 ls []) := by
  intro n
  induction n with
  | zero =>
    intro v2 ls hl hw
    exact hw.elim
  | succ n ih =>
    intro v2 ls hl hw
    rw [wX1_heightAt_L7] at hw
    refine lv_iload_n hx hb dX1_heightAt_7 rfl (lv_at hl 2 rfl) ?_
    refine lv_if_lt (tgt := 27) hx hb dX1_heightAt_8 (by decide) (fun c1 => ?_) (fun c1 => ?_)
    · have hw := hw.1 c1
      refine lv_iload_n hx hb dX1_heightAt_27 rfl (lv_at hl 2 rfl) ?_
      refine lv_if_ge (tgt := 35) hx hb dX1_heightAt_28 (by decide) (fun c2 => ?_) (fun c2 => ?_)
      · have hw := hw.1 c2
        refine lv_aload_n hx hb dX1_heightAt_35 rfl (lv_at hl 0 rfl) ?_
        refine va_get (D := D) (ci := 1) (v := .ref b4) (C := RX1) (T := TX1) (N := 12) hx hb hts hin hown hW.2 hW.1 0 rfl rfl 7 (by decide) (hts (.fieldLink RX1 19 "TideDepthsModel" "difference" "[J") (by decide +kernel)) (fun _ h9 => h9) rfl dX1_heightAt_36 ?_
        refine lv_iload_n hx hb dX1_heightAt_39 rfl (lv_at hl 2 rfl) ?_
        obtain ⟨h3, hw⟩ := hw
        refine va_lald hx hb hW.2 hW.1 4 1 rfl rfl h3 dX1_heightAt_40 ?_
        refine lv_lstore_n (lv' := [(3, .long ((yD y) (v2).toNatClampNeg)), (0, .ref k0), (1, .int v1), (2, .int v2)]) hx hb dX1_heightAt_41 rfl hl (by decide) rfl (fun ls hl => ?_)
        refine lv_iload_n hx hb dX1_heightAt_42 rfl (lv_at hl 3 rfl) ?_
        refine lv_if_ge (tgt := 50) hx hb dX1_heightAt_43 (by decide) (fun c4 => ?_) (fun c4 => ?_)
        ·
          refine lv_iload_n hx hb dX1_heightAt_50 rfl (lv_at hl 2 rfl) ?_
          refine lv_aload_n hx hb dX1_heightAt_51 rfl (lv_at hl 1 rfl) ?_
          refine va_get (D := D) (ci := 1) (v := .ref b3) (C := RX1) (T := TX1) (N := 12) hx hb hts hin hown hW.2 hW.1 0 rfl rfl 6 (by decide) (hts (.fieldLink RX1 16 "TideDepthsModel" "seenTime" "[I") (by decide +kernel)) (fun _ h9 => h9) rfl dX1_heightAt_52 ?_
          refine lv_iload_n hx hb dX1_heightAt_55 rfl (lv_at hl 3 rfl) ?_
          obtain ⟨h5, hw⟩ := hw
          refine va_iald hx hb hW.2 hW.1 3 0 rfl rfl h5 dX1_heightAt_56 ?_
          refine lv_isub hx hb dX1_heightAt_57 ?_
          refine lv_sipush (v := 600) hx hb dX1_heightAt_58 (by decide) ?_
          refine lv_idiv hx hb dX1_heightAt_61 (by decide) ?_
          refine lv_istore (lv' := [(5, .int ((v1 - ((yO y) (v2).toNatClampNeg)) / 600)), (3, .long ((yD y) (v2).toNatClampNeg)), (0, .ref k0), (1, .int v1), (2, .int v2)]) hx hb dX1_heightAt_62 hl (by decide) rfl (fun ls hl => ?_)
          obtain ⟨n8, hw⟩ := hw
          exact kX1_heightAt_L64 hx hb hr hml hown hlocks hts hin hW v1 v2 n8 ((yD y) (v2).toNatClampNeg) ((v1 - ((yO y) (v2).toNatClampNeg)) / 600) ls (lv_sub hl [2, 3, 4, 1, 0] rfl) hw
        · exact absurd c2 c4
      · have hw := hw.2 c2
        refine lv_lconst (v := 0) hx hb dX1_heightAt_31 (by decide) ?_
        refine lv_goto (tgt := 41) hx hb dX1_heightAt_32 (by decide) ?_
        refine lv_lstore_n (lv' := [(3, .long 0), (0, .ref k0), (1, .int v1), (2, .int v2)]) hx hb dX1_heightAt_41 rfl hl (by decide) rfl (fun ls hl => ?_)
        refine lv_iload_n hx hb dX1_heightAt_42 rfl (lv_at hl 3 rfl) ?_
        refine lv_if_ge (tgt := 50) hx hb dX1_heightAt_43 (by decide) (fun c9 => ?_) (fun c9 => ?_)
        · exact absurd c9 c2
        ·
          refine lv_iconst (v := 0) hx hb dX1_heightAt_46 (by decide) ?_
          refine lv_goto (tgt := 62) hx hb dX1_heightAt_47 (by decide) ?_
          refine lv_istore (lv' := [(5, .int 0), (3, .long 0), (0, .ref k0), (1, .int v1), (2, .int v2)]) hx hb dX1_heightAt_62 hl (by decide) rfl (fun ls hl => ?_)
          obtain ⟨n10, hw⟩ := hw
          exact kX1_heightAt_L64 hx hb hr hml hown hlocks hts hin hW v1 v2 n10 0 0 ls (lv_sub hl [2, 3, 4, 1, 0] rfl) hw
    · have hw := hw.2 c1
      refine lv_aload_n hx hb dX1_heightAt_11 rfl (lv_at hl 0 rfl) ?_
      refine va_get (D := D) (ci := 1) (v := .ref b3) (C := RX1) (T := TX1) (N := 12) hx hb hts hin hown hW.2 hW.1 0 rfl rfl 6 (by decide) (hts (.fieldLink RX1 16 "TideDepthsModel" "seenTime" "[I") (by decide +kernel)) (fun _ h9 => h9) rfl dX1_heightAt_12 ?_
      refine lv_iload_n hx hb dX1_heightAt_15 rfl (lv_at hl 2 rfl) ?_
      obtain ⟨h11, hw⟩ := hw
      refine va_iald hx hb hW.2 hW.1 3 0 rfl rfl h11 dX1_heightAt_16 ?_
      refine lv_iload_n hx hb dX1_heightAt_17 rfl (lv_at hl 1 rfl) ?_
      refine lv_icmp_le (tgt := 27) hx hb dX1_heightAt_18 (by decide) (fun c12 => ?_) (fun c12 => ?_)
      · have hw := hw.1 c12
        refine lv_iload_n hx hb dX1_heightAt_27 rfl (lv_at hl 2 rfl) ?_
        refine lv_if_ge (tgt := 35) hx hb dX1_heightAt_28 (by decide) (fun c13 => ?_) (fun c13 => ?_)
        · have hw := hw.1 c13
          refine lv_aload_n hx hb dX1_heightAt_35 rfl (lv_at hl 0 rfl) ?_
          refine va_get (D := D) (ci := 1) (v := .ref b4) (C := RX1) (T := TX1) (N := 12) hx hb hts hin hown hW.2 hW.1 0 rfl rfl 7 (by decide) (hts (.fieldLink RX1 19 "TideDepthsModel" "difference" "[J") (by decide +kernel)) (fun _ h9 => h9) rfl dX1_heightAt_36 ?_
          refine lv_iload_n hx hb dX1_heightAt_39 rfl (lv_at hl 2 rfl) ?_
          obtain ⟨h14, hw⟩ := hw
          refine va_lald hx hb hW.2 hW.1 4 1 rfl rfl h14 dX1_heightAt_40 ?_
          refine lv_lstore_n (lv' := [(3, .long ((yD y) (v2).toNatClampNeg)), (0, .ref k0), (1, .int v1), (2, .int v2)]) hx hb dX1_heightAt_41 rfl hl (by decide) rfl (fun ls hl => ?_)
          refine lv_iload_n hx hb dX1_heightAt_42 rfl (lv_at hl 3 rfl) ?_
          refine lv_if_ge (tgt := 50) hx hb dX1_heightAt_43 (by decide) (fun c15 => ?_) (fun c15 => ?_)
          ·
            refine lv_iload_n hx hb dX1_heightAt_50 rfl (lv_at hl 2 rfl) ?_
            refine lv_aload_n hx hb dX1_heightAt_51 rfl (lv_at hl 1 rfl) ?_
            refine va_get (D := D) (ci := 1) (v := .ref b3) (C := RX1) (T := TX1) (N := 12) hx hb hts hin hown hW.2 hW.1 0 rfl rfl 6 (by decide) (hts (.fieldLink RX1 16 "TideDepthsModel" "seenTime" "[I") (by decide +kernel)) (fun _ h9 => h9) rfl dX1_heightAt_52 ?_
            refine lv_iload_n hx hb dX1_heightAt_55 rfl (lv_at hl 3 rfl) ?_
            obtain ⟨h16, hw⟩ := hw
            refine va_iald hx hb hW.2 hW.1 3 0 rfl rfl h16 dX1_heightAt_56 ?_
            refine lv_isub hx hb dX1_heightAt_57 ?_
            refine lv_sipush (v := 600) hx hb dX1_heightAt_58 (by decide) ?_
            refine lv_idiv hx hb dX1_heightAt_61 (by decide) ?_
            refine lv_istore (lv' := [(5, .int ((v1 - ((yO y) (v2).toNatClampNeg)) / 600)), (3, .long ((yD y) (v2).toNatClampNeg)), (0, .ref k0), (1, .int v1), (2, .int v2)]) hx hb dX1_heightAt_62 hl (by decide) rfl (fun ls hl => ?_)
            obtain ⟨n17, hw⟩ := hw
            exact kX1_heightAt_L64 hx hb hr hml hown hlocks hts hin hW v1 v2 n17 ((yD y) (v2).toNatClampNeg) ((v1 - ((yO y) (v2).toNatClampNeg)) / 600) ls (lv_sub hl [2, 3, 4, 1, 0] rfl) hw
          · exact absurd c13 c15
        · have hw := hw.2 c13
          refine lv_lconst (v := 0) hx hb dX1_heightAt_31 (by decide) ?_
          refine lv_goto (tgt := 41) hx hb dX1_heightAt_32 (by decide) ?_
          refine lv_lstore_n (lv' := [(3, .long 0), (0, .ref k0), (1, .int v1), (2, .int v2)]) hx hb dX1_heightAt_41 rfl hl (by decide) rfl (fun ls hl => ?_)
          refine lv_iload_n hx hb dX1_heightAt_42 rfl (lv_at hl 3 rfl) ?_
          refine lv_if_ge (tgt := 50) hx hb dX1_heightAt_43 (by decide) (fun c18 => ?_) (fun c18 => ?_)
          · exact absurd c18 c13
          ·
            refine lv_iconst (v := 0) hx hb dX1_heightAt_46 (by decide) ?_
            refine lv_goto (tgt := 62) hx hb dX1_heightAt_47 (by decide) ?_
            refine lv_istore (lv' := [(5, .int 0), (3, .long 0), (0, .ref k0), (1, .int v1), (2, .int v2)]) hx hb dX1_heightAt_62 hl (by decide) rfl (fun ls hl => ?_)
            obtain ⟨n19, hw⟩ := hw
            exact kX1_heightAt_L64 hx hb hr hml hown hlocks hts hin hW v1 v2 n19 0 0 ls (lv_sub hl [2, 3, 4, 1, 0] rfl) hw
      · have hw := hw.2 c12
        refine lv_iinc (v := (v2 + (-1))) (lv' := [(2, .int (v2 + (-1))), (0, .ref k0), (1, .int v1)]) hx hb dX1_heightAt_21 hl (k := 2) rfl (by first | rfl | exact congrArg (fun z => v2 + z) (by decide)) (by decide) rfl (fun ls hl => ?_)
        refine lv_goto (tgt := 7) hx hb dX1_heightAt_24 (by decide) ?_
        exact ih (v2 + (-1)) ls (lv_sub hl [1, 2, 0] rfl) hw
set_option maxHeartbeats 4000000 in
set_option maxRecDepth 100000 in
theorem mX1_heightAt (l : Launch) (D : va_G) (cI cJ : ClassId) (k0 b1 b2 b3 b4 b5 b6 b7 b8 : Nat) (y : YS) (v1 : Int32) (post : Int64 → Prop) : Met l yX1_heightAt wsX1_heightAt ({ frames := 2, cells := 0, slots := 0, locals := 54 } : Room) (va_Pc [.ref k0, .int v1] (fun U => YW D cI cJ k0 b1 b2 b3 b4 b5 b6 b7 b8 y U U.heap ∧ wX1_heightAt post y v1)) (vp_Sl post) 0 0 nA := by
  refine Met.ofW (cc := cX1_heightAt) (maxL := 6) (ret := (some .long)) (by decide +kernel) rfl ?_
  intro p e s m args below meth c s₁ B hml hv
  obtain ⟨rfl, hW, hw⟩ := hv
  have hx := B.exec
  have hb := B.bytes
  have hr := B.returns
  have hts := atoms_spec (ws := wsX1_heightAt) B.pre
  have hown : s.vm.findClass RX1 = some m.cls := findClass_of_methodNamed B.named
  have hlocks := B.notSynchronized
  have hin : ∀ w ∈ u_ws RX1 TX1 12, w ∈ wsX1_heightAt := by decide +kernel
  have hl := lv_entry ([.ref k0, .int v1]) (n := 6) (Nat.le_of_ble_eq_true rfl)
  rw [lg_entry_eq]
  generalize (lg_sl ([.ref k0, .int v1]) ++ List.replicate (6 - (lg_sl ([.ref k0, .int v1])).length) Slot.unset).toArray = ls at hl ⊢
  have hl : lv_has ls 6 [(0, .ref k0), (1, .int v1)] := hl
  unfold wX1_heightAt at hw
  refine lv_aload_n hx hb dX1_heightAt_0 rfl (lv_at hl 0 rfl) ?_
  refine va_get (D := D) (ci := 1) (v := .int (yNO y)) (C := RX1) (T := TX1) (N := 12) hx hb hts hin hown hW.2 hW.1 0 rfl rfl 2 (by decide) (hts (.fieldLink RX1 59 "TideDepthsModel" "observations" "I") (by decide +kernel)) (fun _ h9 => h9) rfl dX1_heightAt_1 ?_
  refine lv_iconst (v := 1) hx hb dX1_heightAt_4 (by decide) ?_
  refine lv_isub hx hb dX1_heightAt_5 ?_
  refine lv_istore_n (lv' := [(2, .int ((yNO y) - 1)), (0, .ref k0), (1, .int v1)]) hx hb dX1_heightAt_6 rfl hl (by decide) rfl (fun ls hl => ?_)
  obtain ⟨n20, hw⟩ := hw
  exact kX1_heightAt_L7 hx hb hr hml hown hlocks hts hin hW v1 n20 ((yNO y) - 1) ls (lv_sub hl [1, 2, 0] rfl) hw

def wX1_squatOf (post : Int64 → Prop) (y : YS) (v1 : Int64) (v3 : Int64) : Prop := ((((v1 / 200)).toInt32 ≤ 5 → (vp_in ((v1 / 200)).toInt32 7 ∧ (vp_in (((v1 / 200)).toInt32 + 1) 7 ∧ (vp_in ((v1 / 200)).toInt32 7 ∧ (wX1_up (fun r5 => (post r5)) (v3 * ((((yQ y) (((v1 / 200)).toInt32).toNatClampNeg)).toInt64 + ((((((yQ y) ((((v1 / 200)).toInt32 + 1)).toNatClampNeg) - ((yQ y) (((v1 / 200)).toInt32).toNatClampNeg))).toInt64 * (v1 - v1 / 200 * 200)) / 200))) 1000))))) ∧ (¬ ((v1 / 200)).toInt32 ≤ 5 → (wX1_up (fun r6 => (post r6)) (v3 * 100) 1000)))

set_option maxHeartbeats 4000000 in
set_option maxRecDepth 100000 in
theorem mX1_squatOf (l : Launch) (D : va_G) (cI cJ : ClassId) (k0 b1 b2 b3 b4 b5 b6 b7 b8 : Nat) (y : YS) (v1 : Int64) (v3 : Int64) (post : Int64 → Prop) : Met l yX1_squatOf wsX1_squatOf ({ frames := 1, cells := 0, slots := 0, locals := 23 } : Room) (va_Pc [.ref k0, .long v1, .long v3] (fun U => YW D cI cJ k0 b1 b2 b3 b4 b5 b6 b7 b8 y U U.heap ∧ wX1_squatOf post y v1 v3)) (vp_Sl post) 0 0 nA := by
  refine Met.ofW (cc := cX1_squatOf) (maxL := 8) (ret := (some .long)) (by decide +kernel) rfl ?_
  intro p e s m args below meth c s₁ B hml hv
  obtain ⟨rfl, hW, hw⟩ := hv
  have hx := B.exec
  have hb := B.bytes
  have hr := B.returns
  have hts := atoms_spec (ws := wsX1_squatOf) B.pre
  have hown : s.vm.findClass RX1 = some m.cls := findClass_of_methodNamed B.named
  have hlocks := B.notSynchronized
  have hin : ∀ w ∈ u_ws RX1 TX1 12, w ∈ wsX1_squatOf := by decide +kernel
  have hl := lv_entry ([.ref k0, .long v1, .long v3]) (n := 8) (Nat.le_of_ble_eq_true rfl)
  rw [lg_entry_eq]
  generalize (lg_sl ([.ref k0, .long v1, .long v3]) ++ List.replicate (8 - (lg_sl ([.ref k0, .long v1, .long v3])).length) Slot.unset).toArray = ls at hl ⊢
  have hl : lv_has ls 8 [(0, .ref k0), (1, .long v1), (3, .long v3)] := hl
  unfold wX1_squatOf at hw
  refine lv_lload_n hx hb dX1_squatOf_0 rfl (lv_at hl 1 rfl) ?_
  refine lv_ldc2 (v := 200) hx hb hown (hts (.constantLong RX1 80 (200)) (by decide +kernel)) dX1_squatOf_1 ?_
  refine lv_ldiv hx hb dX1_squatOf_4 (by decide) ?_
  refine lv_l2i (v := ((v1 / 200)).toInt32) hx hb dX1_squatOf_5 rfl ?_
  refine lv_istore (lv' := [(5, .int ((v1 / 200)).toInt32), (0, .ref k0), (1, .long v1), (3, .long v3)]) hx hb dX1_squatOf_6 hl (by decide) rfl (fun ls hl => ?_)
  refine lv_iload hx hb dX1_squatOf_8 (lv_at hl 0 rfl) ?_
  refine lv_iconst (v := 5) hx hb dX1_squatOf_10 (by decide) ?_
  refine lv_icmp_le (tgt := 20) hx hb dX1_squatOf_11 (by decide) (fun c1 => ?_) (fun c1 => ?_)
  · have hw := hw.1 c1
    refine lv_aload_n hx hb dX1_squatOf_20 rfl (lv_at hl 1 rfl) ?_
    refine va_get (D := D) (ci := 1) (v := .ref b8) (C := RX1) (T := TX1) (N := 12) hx hb hts hin hown hW.2 hW.1 0 rfl rfl 11 (by decide) (hts (.fieldLink RX1 33 "TideDepthsModel" "squats" "[I") (by decide +kernel)) (fun _ h9 => h9) rfl dX1_squatOf_21 ?_
    refine lv_iload hx hb dX1_squatOf_24 (lv_at hl 0 rfl) ?_
    obtain ⟨h2, hw⟩ := hw
    refine va_iald hx hb hW.2 hW.1 8 0 rfl rfl h2 dX1_squatOf_26 ?_
    refine lv_i2l (v := (((yQ y) (((v1 / 200)).toInt32).toNatClampNeg)).toInt64) hx hb dX1_squatOf_27 rfl ?_
    refine lv_aload_n hx hb dX1_squatOf_28 rfl (lv_at hl 1 rfl) ?_
    refine va_get (D := D) (ci := 1) (v := .ref b8) (C := RX1) (T := TX1) (N := 12) hx hb hts hin hown hW.2 hW.1 0 rfl rfl 11 (by decide) (hts (.fieldLink RX1 33 "TideDepthsModel" "squats" "[I") (by decide +kernel)) (fun _ h9 => h9) rfl dX1_squatOf_29 ?_
    refine lv_iload hx hb dX1_squatOf_32 (lv_at hl 0 rfl) ?_
    refine lv_iconst (v := 1) hx hb dX1_squatOf_34 (by decide) ?_
    refine lv_iadd hx hb dX1_squatOf_35 ?_
    obtain ⟨h3, hw⟩ := hw
    refine va_iald hx hb hW.2 hW.1 8 0 rfl rfl h3 dX1_squatOf_36 ?_
    refine lv_aload_n hx hb dX1_squatOf_37 rfl (lv_at hl 1 rfl) ?_
    refine va_get (D := D) (ci := 1) (v := .ref b8) (C := RX1) (T := TX1) (N := 12) hx hb hts hin hown hW.2 hW.1 0 rfl rfl 11 (by decide) (hts (.fieldLink RX1 33 "TideDepthsModel" "squats" "[I") (by decide +kernel)) (fun _ h9 => h9) rfl dX1_squatOf_38 ?_
    refine lv_iload hx hb dX1_squatOf_41 (lv_at hl 0 rfl) ?_
    obtain ⟨h4, hw⟩ := hw
    refine va_iald hx hb hW.2 hW.1 8 0 rfl rfl h4 dX1_squatOf_43 ?_
    refine lv_isub hx hb dX1_squatOf_44 ?_
    refine lv_i2l (v := ((((yQ y) ((((v1 / 200)).toInt32 + 1)).toNatClampNeg) - ((yQ y) (((v1 / 200)).toInt32).toNatClampNeg))).toInt64) hx hb dX1_squatOf_45 rfl ?_
    refine lv_lload_n hx hb dX1_squatOf_46 rfl (lv_at hl 2 rfl) ?_
    refine lv_ldc2 (v := 200) hx hb hown (hts (.constantLong RX1 80 (200)) (by decide +kernel)) dX1_squatOf_47 ?_
    refine lv_lrem hx hb dX1_squatOf_50 (by decide) ?_
    refine lv_lmul hx hb dX1_squatOf_51 ?_
    refine lv_ldc2 (v := 200) hx hb hown (hts (.constantLong RX1 80 (200)) (by decide +kernel)) dX1_squatOf_52 ?_
    refine lv_ldiv hx hb dX1_squatOf_55 (by decide) ?_
    refine lv_ladd hx hb dX1_squatOf_56 ?_
    refine lv_lstore (lv' := [(6, .long ((((yQ y) (((v1 / 200)).toInt32).toNatClampNeg)).toInt64 + ((((((yQ y) ((((v1 / 200)).toInt32 + 1)).toNatClampNeg) - ((yQ y) (((v1 / 200)).toInt32).toNatClampNeg))).toInt64 * (v1 - v1 / 200 * 200)) / 200))), (5, .int ((v1 / 200)).toInt32), (0, .ref k0), (1, .long v1), (3, .long v3)]) hx hb dX1_squatOf_57 hl (by decide) rfl (fun ls hl => ?_)
    refine lv_lload_n hx hb dX1_squatOf_59 rfl (lv_at hl 4 rfl) ?_
    refine lv_lload hx hb dX1_squatOf_60 (lv_at hl 0 rfl) ?_
    refine lv_lmul hx hb dX1_squatOf_62 ?_
    refine lv_ldc2 (v := 1000) hx hb hown (hts (.constantLong RX1 84 (1000)) (by decide +kernel)) dX1_squatOf_63 ?_
    refine pc_Sl (As := [.long (v3 * ((((yQ y) (((v1 / 200)).toInt32).toNatClampNeg)).toInt64 + ((((((yQ y) ((((v1 / 200)).toInt32 + 1)).toNatClampNeg) - ((yQ y) (((v1 / 200)).toInt32).toNatClampNeg))).toInt64 * (v1 - v1 / 200 * 200)) / 200))), .long 1000]) (rest := []) ⟨hx, hb, hml, hown, hts⟩ (mX1_up l (v3 * ((((yQ y) (((v1 / 200)).toInt32).toNatClampNeg)).toInt64 + ((((((yQ y) ((((v1 / 200)).toInt32 + 1)).toNatClampNeg) - ((yQ y) (((v1 / 200)).toInt32).toNatClampNeg))).toInt64 * (v1 - v1 / 200 * 200)) / 200))) 1000 _) (va_cwS 2 hts gX1_squatOf_X1_up rfl rfl rfl (by decide +kernel) ⟨Nat.le_of_ble_eq_true rfl, Nat.le_of_ble_eq_true rfl⟩) wK_bl (fun _ _ _ => hw) rfl hl.1 rfl (Nat.le_of_ble_eq_true rfl) dX1_squatOf_66 ⟨Nat.le_of_ble_eq_true rfl, Nat.le_of_ble_eq_true rfl⟩ (fun r5 hw => ?_)
    exact W.lret (v := r5) hx hb hr (fun t ht hWm => ⟨_, rfl, hw, ht⟩) t_nil dX1_squatOf_69
  · have hw := hw.2 c1
    refine lv_ldc2 (v := 100) hx hb hown (hts (.constantLong RX1 82 (100)) (by decide +kernel)) dX1_squatOf_14 ?_
    refine lv_goto (tgt := 57) hx hb dX1_squatOf_17 (by decide) ?_
    refine lv_lstore (lv' := [(6, .long 100), (5, .int ((v1 / 200)).toInt32), (0, .ref k0), (1, .long v1), (3, .long v3)]) hx hb dX1_squatOf_57 hl (by decide) rfl (fun ls hl => ?_)
    refine lv_lload_n hx hb dX1_squatOf_59 rfl (lv_at hl 4 rfl) ?_
    refine lv_lload hx hb dX1_squatOf_60 (lv_at hl 0 rfl) ?_
    refine lv_lmul hx hb dX1_squatOf_62 ?_
    refine lv_ldc2 (v := 1000) hx hb hown (hts (.constantLong RX1 84 (1000)) (by decide +kernel)) dX1_squatOf_63 ?_
    refine pc_Sl (As := [.long (v3 * 100), .long 1000]) (rest := []) ⟨hx, hb, hml, hown, hts⟩ (mX1_up l (v3 * 100) 1000 _) (va_cwS 2 hts gX1_squatOf_X1_up rfl rfl rfl (by decide +kernel) ⟨Nat.le_of_ble_eq_true rfl, Nat.le_of_ble_eq_true rfl⟩) wK_bl (fun _ _ _ => hw) rfl hl.1 rfl (Nat.le_of_ble_eq_true rfl) dX1_squatOf_66 ⟨Nat.le_of_ble_eq_true rfl, Nat.le_of_ble_eq_true rfl⟩ (fun r6 hw => ?_)
    exact W.lret (v := r6) hx hb hr (fun t ht hWm => ⟨_, rfl, hw, ht⟩) t_nil dX1_squatOf_69

def wX1_maySail_L27 (post : Int32 → Prop) (y : YS) (v1 : Int32) (v4 : Int64) (v6 : Int64) : Nat → Int32 → Int32 → Prop
  | 0, _, _ => False
  | n + 1, v8, v9 => (((yNP y) ≤ v9 → (post v8)) ∧ (¬ (yNP y) ≤ v9 → ((v8 = 0 → (post v8)) ∧ (¬ v8 = 0 → (vp_in v9 12 ∧ (wX1_up (fun r6 => (wX1_isInTable (fun r7 => ((r7 = 0 → (wX1_maySail_L27 post y v1 v4 v6 n 0 (v9 + 1))) ∧ (¬ r7 = 0 → (vp_in v9 12 ∧ (wX1_isInTable (fun r10 => ((r10 = 0 → (wX1_heightAt (fun r12 => (((((yB y) (v9).toNatClampNeg) + r12) < v6 → (wX1_maySail_L27 post y v1 v4 v6 n 0 (v9 + 1))) ∧ (¬ (((yB y) (v9).toNatClampNeg) + r12) < v6 → (wX1_maySail_L27 post y v1 v4 v6 n 1 (v9 + 1))))) y v1)) ∧ (¬ r10 = 0 → (wX1_heightAt (fun r14 => (((((yB y) (v9).toNatClampNeg) + r14) < v6 → (wX1_maySail_L27 post y v1 v4 v6 n 0 (v9 + 1))) ∧ (¬ (((yB y) (v9).toNatClampNeg) + r14) < v6 → (wX1_maySail_L27 post y v1 v4 v6 n 1 (v9 + 1))))) y (((v1).toInt64 + r6)).toInt32)))) y ((v1).toInt64 + r6)))))) y ((v1).toInt64 + r6))) (100 * ((yW y) (v9).toNatClampNeg)) v4))))))
def wX1_maySail (post : Int32 → Prop) (y : YS) (v1 : Int32) (v2 : Int64) (v4 : Int64) : Prop := ((0 ≤ v2 → (wX1_squatOf (fun r2 => (∃ n16 : Nat, wX1_maySail_L27 post y v1 v4 (v2 + r2) n16 1 0)) y v4 v2)) ∧ (¬ 0 ≤ v2 → (∃ n17 : Nat, wX1_maySail_L27 post y v1 v4 v2 n17 1 0)))
set_option maxHeartbeats 4000000 in
set_option maxRecDepth 100000 in
theorem kX1_maySail_L27 {p : Program} {l : Launch} {e : Env} {s : State} {m : MethodId} {args : Array Value} {below : List Frame} {meth : Method} {c : Code} {D : va_G} {cI cJ : ClassId} {k0 b1 b2 b3 b4 b5 b6 b7 b8 : Nat} {y : YS} {post : Int32 → Prop} (hx : p.tables.exec = Jvm.exec) (hb : c.code = cX1_maySail) (hr : meth.sig.returnType = (some .boolean)) (hml : c.maxLocals = 12) (hown : s.vm.findClass RX1 = some m.cls) (hlocks : meth.locks = false) (hts : ∀ w ∈ wsX1_maySail, w.before args s = true) (hin : ∀ w ∈ u_ws RX1 TX1 12, w ∈ wsX1_maySail) (hW : YW D cI cJ k0 b1 b2 b3 b4 b5 b6 b7 b8 y s s.heap) (v1 : Int32) (v2 : Int64) (v4 : Int64) (v6 : Int64) : ∀ (n : Nat) (v8 : Int32) (v9 : Int32) (z_v8 : v8 = 0 ∨ v8 = 1) (ls : Array Slot), lv_has ls 12 [(0, .ref k0), (1, .int v1), (2, .long v2), (4, .long v4), (6, .long v6), (8, .int v8), (9, .int v9)] → wX1_maySail_L27 post y v1 v4 v6 n v8 v9 → W p l e ({ frames := 3, cells := 0, slots := 0, locals := 79 } : Room) s m args below meth c s.heap [] 0 0 (MQ below (vp_Si (fun r => (r = 0 ∨ r = 1) ∧ post r)) args s 0 0 nA) (F0 m 27 ls []) := by
  intro n
  induction n with
  | zero =>
    intro v8 v9 z_v8 ls hl hw
    exact hw.elim
  | succ n ih =>
    intro v8 v9 z_v8 ls hl hw
    rw [wX1_maySail_L27] at hw
    refine lv_iload hx hb dX1_maySail_27 (lv_at hl 6 rfl) ?_
    refine lv_aload_n hx hb dX1_maySail_29 rfl (lv_at hl 0 rfl) ?_
    refine va_get (D := D) (ci := 1) (v := .int (yNP y)) (C := RX1) (T := TX1) (N := 12) hx hb hts hin hown hW.2 hW.1 0 rfl rfl 3 (by decide) (hts (.fieldLink RX1 102 "TideDepthsModel" "places" "I") (by decide +kernel)) (fun _ h9 => h9) rfl dX1_maySail_30 ?_
    refine lv_icmp_ge (tgt := 118) hx hb dX1_maySail_33 (by decide) (fun c3 => ?_) (fun c3 => ?_)
    · have hw := hw.1 c3
      refine lv_iload hx hb dX1_maySail_118 (lv_at hl 5 rfl) ?_
      exact W.zret (v := v8) hx hb hr (bz_nar z_v8) (fun t ht hWm => ⟨_, rfl, ⟨z_v8, hw⟩, ht⟩) t_nil dX1_maySail_120
    · have hw := hw.2 c3
      refine lv_iload hx hb dX1_maySail_36 (lv_at hl 5 rfl) ?_
      refine lv_if_eq (tgt := 118) hx hb dX1_maySail_38 (by decide) (fun c4 => ?_) (fun c4 => ?_)
      · have hw := hw.1 c4
        refine lv_iload hx hb dX1_maySail_118 (lv_at hl 5 rfl) ?_
        exact W.zret (v := v8) hx hb hr (bz_nar z_v8) (fun t ht hWm => ⟨_, rfl, ⟨z_v8, hw⟩, ht⟩) t_nil dX1_maySail_120
      · have hw := hw.2 c4
        refine lv_iload_n hx hb dX1_maySail_41 rfl (lv_at hl 1 rfl) ?_
        refine lv_i2l (v := (v1).toInt64) hx hb dX1_maySail_42 rfl ?_
        refine lv_ldc2 (v := 100) hx hb hown (hts (.constantLong RX1 82 (100)) (by decide +kernel)) dX1_maySail_43 ?_
        refine lv_aload_n hx hb dX1_maySail_46 rfl (lv_at hl 0 rfl) ?_
        refine va_get (D := D) (ci := 1) (v := .ref b5) (C := RX1) (T := TX1) (N := 12) hx hb hts hin hown hW.2 hW.1 0 rfl rfl 8 (by decide) (hts (.fieldLink RX1 23 "TideDepthsModel" "wayTo" "[J") (by decide +kernel)) (fun _ h9 => h9) rfl dX1_maySail_47 ?_
        refine lv_iload hx hb dX1_maySail_50 (lv_at hl 6 rfl) ?_
        obtain ⟨h5, hw⟩ := hw
        refine va_lald hx hb hW.2 hW.1 5 1 rfl rfl h5 dX1_maySail_52 ?_
        refine lv_lmul hx hb dX1_maySail_53 ?_
        refine lv_lload hx hb dX1_maySail_54 (lv_at hl 3 rfl) ?_
        refine pc_Sl (As := [.long (100 * ((yW y) (v9).toNatClampNeg)), .long v4]) (rest := [.long (v1).toInt64]) ⟨hx, hb, hml, hown, hts⟩ (mX1_up l (100 * ((yW y) (v9).toNatClampNeg)) v4 _) (va_cwS 2 hts gX1_maySail_X1_up rfl rfl rfl (by decide +kernel) ⟨Nat.le_of_ble_eq_true rfl, Nat.le_of_ble_eq_true rfl⟩) wK_bl (fun _ _ _ => hw) rfl hl.1 rfl (Nat.le_of_ble_eq_true rfl) dX1_maySail_56 ⟨Nat.le_of_ble_eq_true rfl, Nat.le_of_ble_eq_true rfl⟩ (fun r6 hw => ?_)
        refine lv_ladd hx hb dX1_maySail_59 ?_
        refine lv_lstore (lv' := [(10, .long ((v1).toInt64 + r6)), (0, .ref k0), (1, .int v1), (2, .long v2), (4, .long v4), (6, .long v6), (8, .int v8), (9, .int v9)]) hx hb dX1_maySail_60 hl (by decide) rfl (fun ls hl => ?_)
        refine lv_aload_n hx hb dX1_maySail_62 rfl (lv_at hl 1 rfl) ?_
        refine lv_lload hx hb dX1_maySail_63 (lv_at hl 0 rfl) ?_
        refine pc_Vi (As := [.long ((v1).toInt64 + r6)]) (rest := []) ⟨hx, hb, hml, hown, hts⟩ (mX1_isInTable l D cI cJ k0 b1 b2 b3 b4 b5 b6 b7 b8 y ((v1).toInt64 + r6) _) (cwV 1 hts gX1_maySail_X1_isInTable rfl rfl rfl (by decide +kernel) ⟨Nat.le_of_ble_eq_true rfl, Nat.le_of_ble_eq_true rfl⟩) (wY_rc hW) wY_bl (wY_in hW hw) rfl hl.1 rfl (Nat.le_of_ble_eq_true rfl) dX1_maySail_65 ⟨Nat.le_of_ble_eq_true rfl, Nat.le_of_ble_eq_true rfl⟩ (fun r7 hw => ?_)
        obtain ⟨z_r7, hw⟩ := hw
        refine lv_if_eq (tgt := 109) hx hb dX1_maySail_68 (by decide) (fun c8 => ?_) (fun c8 => ?_)
        · have hw := hw.1 c8
          refine lv_iconst (v := 0) hx hb dX1_maySail_109 (by decide) ?_
          refine lv_istore (lv' := [(8, .int 0), (10, .long ((v1).toInt64 + r6)), (0, .ref k0), (1, .int v1), (2, .long v2), (4, .long v4), (6, .long v6), (9, .int v9)]) hx hb dX1_maySail_110 hl (by decide) rfl (fun ls hl => ?_)
          refine lv_iinc (v := (v9 + 1)) (lv' := [(9, .int (v9 + 1)), (8, .int 0), (10, .long ((v1).toInt64 + r6)), (0, .ref k0), (1, .int v1), (2, .long v2), (4, .long v4), (6, .long v6)]) hx hb dX1_maySail_112 hl (k := 7) rfl (by first | rfl | exact congrArg (fun z => v9 + z) (by decide)) (by decide) rfl (fun ls hl => ?_)
          refine lv_goto (tgt := 27) hx hb dX1_maySail_115 (by decide) ?_
          exact ih 0 (v9 + 1) (Or.inl rfl) ls (lv_sub hl [3, 4, 5, 6, 7, 1, 0] rfl) hw
        · have hw := hw.2 c8
          refine lv_aload_n hx hb dX1_maySail_71 rfl (lv_at hl 1 rfl) ?_
          refine va_get (D := D) (ci := 1) (v := .ref b6) (C := RX1) (T := TX1) (N := 12) hx hb hts hin hown hW.2 hW.1 0 rfl rfl 9 (by decide) (hts (.fieldLink RX1 26 "TideDepthsModel" "baseOf" "[J") (by decide +kernel)) (fun _ h9 => h9) rfl dX1_maySail_72 ?_
          refine lv_iload hx hb dX1_maySail_75 (lv_at hl 7 rfl) ?_
          obtain ⟨h9, hw⟩ := hw
          refine va_lald hx hb hW.2 hW.1 6 1 rfl rfl h9 dX1_maySail_77 ?_
          refine lv_aload_n hx hb dX1_maySail_78 rfl (lv_at hl 1 rfl) ?_
          refine lv_aload_n hx hb dX1_maySail_79 rfl (lv_at hl 1 rfl) ?_
          refine lv_lload hx hb dX1_maySail_80 (lv_at hl 0 rfl) ?_
          refine pc_Vi (As := [.long ((v1).toInt64 + r6)]) (rest := [.ref k0, .long ((yB y) (v9).toNatClampNeg)]) ⟨hx, hb, hml, hown, hts⟩ (mX1_isInTable l D cI cJ k0 b1 b2 b3 b4 b5 b6 b7 b8 y ((v1).toInt64 + r6) _) (cwV 1 hts gX1_maySail_X1_isInTable rfl rfl rfl (by decide +kernel) ⟨Nat.le_of_ble_eq_true rfl, Nat.le_of_ble_eq_true rfl⟩) (wY_rc hW) wY_bl (wY_in hW hw) rfl hl.1 rfl (Nat.le_of_ble_eq_true rfl) dX1_maySail_82 ⟨Nat.le_of_ble_eq_true rfl, Nat.le_of_ble_eq_true rfl⟩ (fun r10 hw => ?_)
          obtain ⟨z_r10, hw⟩ := hw
          refine lv_if_eq (tgt := 94) hx hb dX1_maySail_85 (by decide) (fun c11 => ?_) (fun c11 => ?_)
          · have hw := hw.1 c11
            refine lv_iload_n hx hb dX1_maySail_94 rfl (lv_at hl 2 rfl) ?_
            refine pc_Vl (As := [.int v1]) (rest := [.long ((yB y) (v9).toNatClampNeg)]) ⟨hx, hb, hml, hown, hts⟩ (mX1_heightAt l D cI cJ k0 b1 b2 b3 b4 b5 b6 b7 b8 y v1 _) (cwV 1 hts gX1_maySail_X1_heightAt rfl rfl rfl (by decide +kernel) ⟨Nat.le_of_ble_eq_true rfl, Nat.le_of_ble_eq_true rfl⟩) (wY_rc hW) wY_bl (wY_in hW hw) rfl hl.1 rfl (Nat.le_of_ble_eq_true rfl) dX1_maySail_95 ⟨Nat.le_of_ble_eq_true rfl, Nat.le_of_ble_eq_true rfl⟩ (fun r12 hw => ?_)
            refine lv_ladd hx hb dX1_maySail_98 ?_
            refine lv_lload hx hb dX1_maySail_99 (lv_at hl 5 rfl) ?_
            refine bl_lt (tgt := 109) hx hb dX1_maySail_101 dX1_maySail_102 (by decide) (fun c13 => ?_) (fun c13 => ?_)
            · have hw := hw.1 c13
              refine lv_iconst (v := 0) hx hb dX1_maySail_109 (by decide) ?_
              refine lv_istore (lv' := [(8, .int 0), (10, .long ((v1).toInt64 + r6)), (0, .ref k0), (1, .int v1), (2, .long v2), (4, .long v4), (6, .long v6), (9, .int v9)]) hx hb dX1_maySail_110 hl (by decide) rfl (fun ls hl => ?_)
              refine lv_iinc (v := (v9 + 1)) (lv' := [(9, .int (v9 + 1)), (8, .int 0), (10, .long ((v1).toInt64 + r6)), (0, .ref k0), (1, .int v1), (2, .long v2), (4, .long v4), (6, .long v6)]) hx hb dX1_maySail_112 hl (k := 7) rfl (by first | rfl | exact congrArg (fun z => v9 + z) (by decide)) (by decide) rfl (fun ls hl => ?_)
              refine lv_goto (tgt := 27) hx hb dX1_maySail_115 (by decide) ?_
              exact ih 0 (v9 + 1) (Or.inl rfl) ls (lv_sub hl [3, 4, 5, 6, 7, 1, 0] rfl) hw
            · have hw := hw.2 c13
              refine lv_iconst (v := 1) hx hb dX1_maySail_105 (by decide) ?_
              refine lv_goto (tgt := 110) hx hb dX1_maySail_106 (by decide) ?_
              refine lv_istore (lv' := [(8, .int 1), (10, .long ((v1).toInt64 + r6)), (0, .ref k0), (1, .int v1), (2, .long v2), (4, .long v4), (6, .long v6), (9, .int v9)]) hx hb dX1_maySail_110 hl (by decide) rfl (fun ls hl => ?_)
              refine lv_iinc (v := (v9 + 1)) (lv' := [(9, .int (v9 + 1)), (8, .int 1), (10, .long ((v1).toInt64 + r6)), (0, .ref k0), (1, .int v1), (2, .long v2), (4, .long v4), (6, .long v6)]) hx hb dX1_maySail_112 hl (k := 7) rfl (by first | rfl | exact congrArg (fun z => v9 + z) (by decide)) (by decide) rfl (fun ls hl => ?_)
              refine lv_goto (tgt := 27) hx hb dX1_maySail_115 (by decide) ?_
              exact ih 1 (v9 + 1) (Or.inr rfl) ls (lv_sub hl [3, 4, 5, 6, 7, 1, 0] rfl) hw
          · have hw := hw.2 c11
            refine lv_lload hx hb dX1_maySail_88 (lv_at hl 0 rfl) ?_
            refine lv_l2i (v := (((v1).toInt64 + r6)).toInt32) hx hb dX1_maySail_90 rfl ?_
            refine lv_goto (tgt := 95) hx hb dX1_maySail_91 (by decide) ?_
            refine pc_Vl (As := [.int (((v1).toInt64 + r6)).toInt32]) (rest := [.long ((yB y) (v9).toNatClampNeg)]) ⟨hx, hb, hml, hown, hts⟩ (mX1_heightAt l D cI cJ k0 b1 b2 b3 b4 b5 b6 b7 b8 y (((v1).toInt64 + r6)).toInt32 _) (cwV 1 hts gX1_maySail_X1_heightAt rfl rfl rfl (by decide +kernel) ⟨Nat.le_of_ble_eq_true rfl, Nat.le_of_ble_eq_true rfl⟩) (wY_rc hW) wY_bl (wY_in hW hw) rfl hl.1 rfl (Nat.le_of_ble_eq_true rfl) dX1_maySail_95 ⟨Nat.le_of_ble_eq_true rfl, Nat.le_of_ble_eq_true rfl⟩ (fun r14 hw => ?_)
            refine lv_ladd hx hb dX1_maySail_98 ?_
            refine lv_lload hx hb dX1_maySail_99 (lv_at hl 5 rfl) ?_
            refine bl_lt (tgt := 109) hx hb dX1_maySail_101 dX1_maySail_102 (by decide) (fun c15 => ?_) (fun c15 => ?_)
            · have hw := hw.1 c15
              refine lv_iconst (v := 0) hx hb dX1_maySail_109 (by decide) ?_
              refine lv_istore (lv' := [(8, .int 0), (10, .long ((v1).toInt64 + r6)), (0, .ref k0), (1, .int v1), (2, .long v2), (4, .long v4), (6, .long v6), (9, .int v9)]) hx hb dX1_maySail_110 hl (by decide) rfl (fun ls hl => ?_)
              refine lv_iinc (v := (v9 + 1)) (lv' := [(9, .int (v9 + 1)), (8, .int 0), (10, .long ((v1).toInt64 + r6)), (0, .ref k0), (1, .int v1), (2, .long v2), (4, .long v4), (6, .long v6)]) hx hb dX1_maySail_112 hl (k := 7) rfl (by first | rfl | exact congrArg (fun z => v9 + z) (by decide)) (by decide) rfl (fun ls hl => ?_)
              refine lv_goto (tgt := 27) hx hb dX1_maySail_115 (by decide) ?_
              exact ih 0 (v9 + 1) (Or.inl rfl) ls (lv_sub hl [3, 4, 5, 6, 7, 1, 0] rfl) hw
            · have hw := hw.2 c15
              refine lv_iconst (v := 1) hx hb dX1_maySail_105 (by decide) ?_
              refine lv_goto (tgt := 110) hx hb dX1_maySail_106 (by decide) ?_
              refine lv_istore (lv' := [(8, .int 1), (10, .long ((v1).toInt64 + r6)), (0, .ref k0), (1, .int v1), (2, .long v2), (4, .long v4), (6, .long v6), (9, .int v9)]) hx hb dX1_maySail_110 hl (by decide) rfl (fun ls hl => ?_)
              refine lv_iinc (v := (v9 + 1)) (lv' := [(9, .int (v9 + 1)), (8, .int 1), (10, .long ((v1).toInt64 + r6)), (0, .ref k0), (1, .int v1), (2, .long v2), (4, .long v4), (6, .long v6)]) hx hb dX1_maySail_112 hl (k := 7) rfl (by first | rfl | exact congrArg (fun z => v9 + z) (by decide)) (by decide) rfl (fun ls hl => ?_)
              refine lv_goto (tgt := 27) hx hb dX1_maySail_115 (by decide) ?_
              exact ih 1 (v9 + 1) (Or.inr rfl) ls (lv_sub hl [3, 4, 5, 6, 7, 1, 0] rfl) hw
set_option maxHeartbeats 4000000 in
set_option maxRecDepth 100000 in
theorem mX1_maySail (l : Launch) (D : va_G) (cI cJ : ClassId) (k0 b1 b2 b3 b4 b5 b6 b7 b8 : Nat) (y : YS) (v1 : Int32) (v2 : Int64) (v4 : Int64) (post : Int32 → Prop) : Met l yX1_maySail wsX1_maySail ({ frames := 3, cells := 0, slots := 0, locals := 79 } : Room) (va_Pc [.ref k0, .int v1, .long v2, .long v4] (fun U => YW D cI cJ k0 b1 b2 b3 b4 b5 b6 b7 b8 y U U.heap ∧ wX1_maySail post y v1 v2 v4)) (vp_Si (fun r => (r = 0 ∨ r = 1) ∧ post r)) 0 0 nA := by
  refine Met.ofW (cc := cX1_maySail) (maxL := 12) (ret := (some .boolean)) (by decide +kernel) rfl ?_
  intro p e s m args below meth c s₁ B hml hv
  obtain ⟨rfl, hW, hw⟩ := hv
  have hx := B.exec
  have hb := B.bytes
  have hr := B.returns
  have hts := atoms_spec (ws := wsX1_maySail) B.pre
  have hown : s.vm.findClass RX1 = some m.cls := findClass_of_methodNamed B.named
  have hlocks := B.notSynchronized
  have hin : ∀ w ∈ u_ws RX1 TX1 12, w ∈ wsX1_maySail := by decide +kernel
  have hl := lv_entry ([.ref k0, .int v1, .long v2, .long v4]) (n := 12) (Nat.le_of_ble_eq_true rfl)
  rw [lg_entry_eq]
  generalize (lg_sl ([.ref k0, .int v1, .long v2, .long v4]) ++ List.replicate (12 - (lg_sl ([.ref k0, .int v1, .long v2, .long v4])).length) Slot.unset).toArray = ls at hl ⊢
  have hl : lv_has ls 12 [(0, .ref k0), (1, .int v1), (2, .long v2), (4, .long v4)] := hl
  unfold wX1_maySail at hw
  refine lv_lload_n hx hb dX1_maySail_0 rfl (lv_at hl 2 rfl) ?_
  refine lv_lconst (v := 0) hx hb dX1_maySail_1 (by decide) ?_
  refine bl_ge (tgt := 10) hx hb dX1_maySail_2 dX1_maySail_3 (by decide) (fun c1 => ?_) (fun c1 => ?_)
  · have hw := hw.1 c1
    refine lv_lload_n hx hb dX1_maySail_10 rfl (lv_at hl 2 rfl) ?_
    refine lv_aload_n hx hb dX1_maySail_11 rfl (lv_at hl 0 rfl) ?_
    refine lv_lload hx hb dX1_maySail_12 (lv_at hl 3 rfl) ?_
    refine lv_lload_n hx hb dX1_maySail_14 rfl (lv_at hl 2 rfl) ?_
    refine pc_Vl (As := [.long v4, .long v2]) (rest := [.long v2]) ⟨hx, hb, hml, hown, hts⟩ (mX1_squatOf l D cI cJ k0 b1 b2 b3 b4 b5 b6 b7 b8 y v4 v2 _) (cwV 2 hts gX1_maySail_X1_squatOf rfl rfl rfl (by decide +kernel) ⟨Nat.le_of_ble_eq_true rfl, Nat.le_of_ble_eq_true rfl⟩) (wY_rc hW) wY_bl (wY_in hW hw) rfl hl.1 rfl (Nat.le_of_ble_eq_true rfl) dX1_maySail_15 ⟨Nat.le_of_ble_eq_true rfl, Nat.le_of_ble_eq_true rfl⟩ (fun r2 hw => ?_)
    refine lv_ladd hx hb dX1_maySail_18 ?_
    refine lv_lstore (lv' := [(6, .long (v2 + r2)), (0, .ref k0), (1, .int v1), (2, .long v2), (4, .long v4)]) hx hb dX1_maySail_19 hl (by decide) rfl (fun ls hl => ?_)
    refine lv_iconst (v := 1) hx hb dX1_maySail_21 (by decide) ?_
    refine lv_istore (lv' := [(8, .int 1), (6, .long (v2 + r2)), (0, .ref k0), (1, .int v1), (2, .long v2), (4, .long v4)]) hx hb dX1_maySail_22 hl (by decide) rfl (fun ls hl => ?_)
    refine lv_iconst (v := 0) hx hb dX1_maySail_24 (by decide) ?_
    refine lv_istore (lv' := [(9, .int 0), (8, .int 1), (6, .long (v2 + r2)), (0, .ref k0), (1, .int v1), (2, .long v2), (4, .long v4)]) hx hb dX1_maySail_25 hl (by decide) rfl (fun ls hl => ?_)
    obtain ⟨n16, hw⟩ := hw
    exact kX1_maySail_L27 hx hb hr hml hown hlocks hts hin hW v1 v2 v4 (v2 + r2) n16 1 0 (Or.inr rfl) ls (lv_sub hl [3, 4, 5, 6, 2, 1, 0] rfl) hw
  · have hw := hw.2 c1
    refine lv_lload_n hx hb dX1_maySail_6 rfl (lv_at hl 2 rfl) ?_
    refine lv_goto (tgt := 19) hx hb dX1_maySail_7 (by decide) ?_
    refine lv_lstore (lv' := [(6, .long v2), (0, .ref k0), (1, .int v1), (2, .long v2), (4, .long v4)]) hx hb dX1_maySail_19 hl (by decide) rfl (fun ls hl => ?_)
    refine lv_iconst (v := 1) hx hb dX1_maySail_21 (by decide) ?_
    refine lv_istore (lv' := [(8, .int 1), (6, .long v2), (0, .ref k0), (1, .int v1), (2, .long v2), (4, .long v4)]) hx hb dX1_maySail_22 hl (by decide) rfl (fun ls hl => ?_)
    refine lv_iconst (v := 0) hx hb dX1_maySail_24 (by decide) ?_
    refine lv_istore (lv' := [(9, .int 0), (8, .int 1), (6, .long v2), (0, .ref k0), (1, .int v1), (2, .long v2), (4, .long v4)]) hx hb dX1_maySail_25 hl (by decide) rfl (fun ls hl => ?_)
    obtain ⟨n17, hw⟩ := hw
    exact kX1_maySail_L27 hx hb hr hml hown hlocks hts hin hW v1 v2 v4 v2 n17 1 0 (Or.inr rfl) ls (lv_sub hl [3, 4, 5, 6, 2, 1, 0] rfl) hw
