def wX0_isWithin (post : Int32 → Prop) (v0 : Int64) (v2 : Int64) (v4 : Int64) : Prop := ((v0 < v2 → (post 0)) ∧ (¬ v0 < v2 → ((v4 < v0 → (post 0)) ∧ (¬ v4 < v0 → (post 1)))))

set_option maxHeartbeats 4000000 in
set_option maxRecDepth 100000 in
theorem mX0_isWithin (l : Launch) (v0 : Int64) (v2 : Int64) (v4 : Int64) (post : Int32 → Prop) : Met l yX0_isWithin wsX0_isWithin ({ frames := 0, cells := 0, slots := 0, locals := 0 } : Room) (va_Pc [.long v0, .long v2, .long v4] (fun _ => wX0_isWithin post v0 v2 v4)) (vp_Si (fun r => (r = 0 ∨ r = 1) ∧ post r)) 0 0 nA := by
  refine Met.ofW (cc := cX0_isWithin) (maxL := 6) (ret := (some .boolean)) (by decide +kernel) rfl ?_
  intro p e s m args below meth c s₁ B hml hv
  obtain ⟨rfl, hw⟩ := hv
  have hx := B.exec
  have hb := B.bytes
  have hr := B.returns
  have hts := atoms_spec (ws := wsX0_isWithin) B.pre
  have hown : s.vm.findClass RX0 = some m.cls := findClass_of_methodNamed B.named
  have hlocks := B.notSynchronized
  have hl := lv_entry ([.long v0, .long v2, .long v4]) (n := 6) (Nat.le_of_ble_eq_true rfl)
  rw [lg_entry_eq]
  generalize (lg_sl ([.long v0, .long v2, .long v4]) ++ List.replicate (6 - (lg_sl ([.long v0, .long v2, .long v4])).length) Slot.unset).toArray = ls at hl ⊢
  have hl : lv_has ls 6 [(0, .long v0), (2, .long v2), (4, .long v4)] := hl
  unfold wX0_isWithin at hw
  refine lv_lload_n hx hb dX0_isWithin_0 rfl (lv_at hl 0 rfl) ?_
  refine lv_lload_n hx hb dX0_isWithin_1 rfl (lv_at hl 1 rfl) ?_
  refine bl_lt (tgt := 17) hx hb dX0_isWithin_2 dX0_isWithin_3 (by decide) (fun c1 => ?_) (fun c1 => ?_)
  · have hw := hw.1 c1
    refine lv_iconst (v := 0) hx hb dX0_isWithin_17 (by decide) ?_
    exact W.zret (v := 0) hx hb hr (bz_nar (Or.inl rfl)) (fun t ht hWm => ⟨_, rfl, ⟨(Or.inl rfl), hw⟩, ht⟩) t_nil dX0_isWithin_18
  · have hw := hw.2 c1
    refine lv_lload_n hx hb dX0_isWithin_6 rfl (lv_at hl 0 rfl) ?_
    refine lv_lload hx hb dX0_isWithin_7 (lv_at hl 2 rfl) ?_
    refine bl_gt (tgt := 17) hx hb dX0_isWithin_9 dX0_isWithin_10 (by decide) (fun c2 => ?_) (fun c2 => ?_)
    · have hw := hw.1 c2
      refine lv_iconst (v := 0) hx hb dX0_isWithin_17 (by decide) ?_
      exact W.zret (v := 0) hx hb hr (bz_nar (Or.inl rfl)) (fun t ht hWm => ⟨_, rfl, ⟨(Or.inl rfl), hw⟩, ht⟩) t_nil dX0_isWithin_18
    · have hw := hw.2 c2
      refine lv_iconst (v := 1) hx hb dX0_isWithin_13 (by decide) ?_
      refine lv_goto (tgt := 18) hx hb dX0_isWithin_14 (by decide) ?_
      exact W.zret (v := 1) hx hb hr (bz_nar (Or.inr rfl)) (fun t ht hWm => ⟨_, rfl, ⟨(Or.inr rfl), hw⟩, ht⟩) t_nil dX0_isWithin_18

def wX0_isLevel (post : Int32 → Prop) (v0 : Int64) : Prop := (wX0_isWithin (fun r1 => (post r1)) v0 (-100000) 100000)

set_option maxHeartbeats 4000000 in
set_option maxRecDepth 100000 in
theorem mX0_isLevel (l : Launch) (v0 : Int64) (post : Int32 → Prop) : Met l yX0_isLevel wsX0_isLevel ({ frames := 1, cells := 0, slots := 0, locals := 25 } : Room) (va_Pc [.long v0] (fun _ => wX0_isLevel post v0)) (vp_Si (fun r => (r = 0 ∨ r = 1) ∧ post r)) 0 0 nA := by
  refine Met.ofW (cc := cX0_isLevel) (maxL := 2) (ret := (some .boolean)) (by decide +kernel) rfl ?_
  intro p e s m args below meth c s₁ B hml hv
  obtain ⟨rfl, hw⟩ := hv
  have hx := B.exec
  have hb := B.bytes
  have hr := B.returns
  have hts := atoms_spec (ws := wsX0_isLevel) B.pre
  have hown : s.vm.findClass RX0 = some m.cls := findClass_of_methodNamed B.named
  have hlocks := B.notSynchronized
  have hl := lv_entry ([.long v0]) (n := 2) (Nat.le_of_ble_eq_true rfl)
  rw [lg_entry_eq]
  generalize (lg_sl ([.long v0]) ++ List.replicate (2 - (lg_sl ([.long v0])).length) Slot.unset).toArray = ls at hl ⊢
  have hl : lv_has ls 2 [(0, .long v0)] := hl
  unfold wX0_isLevel at hw
  refine lv_lload_n hx hb dX0_isLevel_0 rfl (lv_at hl 0 rfl) ?_
  refine lv_ldc2 (v := (-100000)) hx hb hown (hts (.constantLong RX0 166 (-100000)) (by decide +kernel)) dX0_isLevel_1 ?_
  refine lv_ldc2 (v := 100000) hx hb hown (hts (.constantLong RX0 168 (100000)) (by decide +kernel)) dX0_isLevel_4 ?_
  refine pc_Si (As := [.long v0, .long (-100000), .long 100000]) (rest := []) ⟨hx, hb, hml, hown, hts⟩ (mX0_isWithin l v0 (-100000) 100000 _) (va_cwS 3 hts gX0_isLevel_X0_isWithin rfl rfl rfl (by decide +kernel) ⟨Nat.le_of_ble_eq_true rfl, Nat.le_of_ble_eq_true rfl⟩) wK_bl (fun _ _ _ => hw) rfl hl.1 rfl (Nat.le_of_ble_eq_true rfl) dX0_isLevel_7 ⟨Nat.le_of_ble_eq_true rfl, Nat.le_of_ble_eq_true rfl⟩ (fun r1 hw => ?_)
  obtain ⟨z_r1, hw⟩ := hw
  exact W.zret (v := r1) hx hb hr (bz_nar z_r1) (fun t ht hWm => ⟨_, rfl, ⟨z_r1, hw⟩, ht⟩) t_nil dX0_isLevel_10

def wX0_isDensity (post : Int32 → Prop) (v0 : Int64) : Prop := (wX0_isWithin (fun r1 => (post r1)) v0 900 1100)

set_option maxHeartbeats 4000000 in
set_option maxRecDepth 100000 in
theorem mX0_isDensity (l : Launch) (v0 : Int64) (post : Int32 → Prop) : Met l yX0_isDensity wsX0_isDensity ({ frames := 1, cells := 0, slots := 0, locals := 25 } : Room) (va_Pc [.long v0] (fun _ => wX0_isDensity post v0)) (vp_Si (fun r => (r = 0 ∨ r = 1) ∧ post r)) 0 0 nA := by
  refine Met.ofW (cc := cX0_isDensity) (maxL := 2) (ret := (some .boolean)) (by decide +kernel) rfl ?_
  intro p e s m args below meth c s₁ B hml hv
  obtain ⟨rfl, hw⟩ := hv
  have hx := B.exec
  have hb := B.bytes
  have hr := B.returns
  have hts := atoms_spec (ws := wsX0_isDensity) B.pre
  have hown : s.vm.findClass RX0 = some m.cls := findClass_of_methodNamed B.named
  have hlocks := B.notSynchronized
  have hl := lv_entry ([.long v0]) (n := 2) (Nat.le_of_ble_eq_true rfl)
  rw [lg_entry_eq]
  generalize (lg_sl ([.long v0]) ++ List.replicate (2 - (lg_sl ([.long v0])).length) Slot.unset).toArray = ls at hl ⊢
  have hl : lv_has ls 2 [(0, .long v0)] := hl
  unfold wX0_isDensity at hw
  refine lv_lload_n hx hb dX0_isDensity_0 rfl (lv_at hl 0 rfl) ?_
  refine lv_ldc2 (v := 900) hx hb hown (hts (.constantLong RX0 170 (900)) (by decide +kernel)) dX0_isDensity_1 ?_
  refine lv_ldc2 (v := 1100) hx hb hown (hts (.constantLong RX0 172 (1100)) (by decide +kernel)) dX0_isDensity_4 ?_
  refine pc_Si (As := [.long v0, .long 900, .long 1100]) (rest := []) ⟨hx, hb, hml, hown, hts⟩ (mX0_isWithin l v0 900 1100 _) (va_cwS 3 hts gX0_isDensity_X0_isWithin rfl rfl rfl (by decide +kernel) ⟨Nat.le_of_ble_eq_true rfl, Nat.le_of_ble_eq_true rfl⟩) wK_bl (fun _ _ _ => hw) rfl hl.1 rfl (Nat.le_of_ble_eq_true rfl) dX0_isDensity_7 ⟨Nat.le_of_ble_eq_true rfl, Nat.le_of_ble_eq_true rfl⟩ (fun r1 hw => ?_)
  obtain ⟨z_r1, hw⟩ := hw
  exact W.zret (v := r1) hx hb hr (bz_nar z_r1) (fun t ht hWm => ⟨_, rfl, ⟨z_r1, hw⟩, ht⟩) t_nil dX0_isDensity_10

def wX0_dividedUp (post : Int64 → Prop) (v0 : Int64) (v2 : Int64) : Prop := ((0 < v2 → (¬ v2 = 0 ∧ (post (((v0 + v2) - 1) / v2)))) ∧ (¬ 0 < v2 → (post 0)))

set_option maxHeartbeats 4000000 in
set_option maxRecDepth 100000 in
theorem mX0_dividedUp (l : Launch) (v0 : Int64) (v2 : Int64) (post : Int64 → Prop) : Met l yX0_dividedUp wsX0_dividedUp ({ frames := 0, cells := 0, slots := 0, locals := 0 } : Room) (va_Pc [.long v0, .long v2] (fun _ => wX0_dividedUp post v0 v2)) (vp_Sl post) 0 0 nA := by
  refine Met.ofW (cc := cX0_dividedUp) (maxL := 4) (ret := (some .long)) (by decide +kernel) rfl ?_
  intro p e s m args below meth c s₁ B hml hv
  obtain ⟨rfl, hw⟩ := hv
  have hx := B.exec
  have hb := B.bytes
  have hr := B.returns
  have hts := atoms_spec (ws := wsX0_dividedUp) B.pre
  have hown : s.vm.findClass RX0 = some m.cls := findClass_of_methodNamed B.named
  have hlocks := B.notSynchronized
  have hl := lv_entry ([.long v0, .long v2]) (n := 4) (Nat.le_of_ble_eq_true rfl)
  rw [lg_entry_eq]
  generalize (lg_sl ([.long v0, .long v2]) ++ List.replicate (4 - (lg_sl ([.long v0, .long v2])).length) Slot.unset).toArray = ls at hl ⊢
  have hl : lv_has ls 4 [(0, .long v0), (2, .long v2)] := hl
  unfold wX0_dividedUp at hw
  refine lv_lload_n hx hb dX0_dividedUp_0 rfl (lv_at hl 1 rfl) ?_
  refine lv_lconst (v := 0) hx hb dX0_dividedUp_1 (by decide) ?_
  refine bl_gt (tgt := 8) hx hb dX0_dividedUp_2 dX0_dividedUp_3 (by decide) (fun c1 => ?_) (fun c1 => ?_)
  · have hw := hw.1 c1
    refine lv_lload_n hx hb dX0_dividedUp_8 rfl (lv_at hl 0 rfl) ?_
    refine lv_lload_n hx hb dX0_dividedUp_9 rfl (lv_at hl 1 rfl) ?_
    refine lv_ladd hx hb dX0_dividedUp_10 ?_
    refine lv_lconst (v := 1) hx hb dX0_dividedUp_11 (by decide) ?_
    refine lv_lsub hx hb dX0_dividedUp_12 ?_
    refine lv_lload_n hx hb dX0_dividedUp_13 rfl (lv_at hl 1 rfl) ?_
    obtain ⟨h2, hw⟩ := hw
    refine lv_ldiv hx hb dX0_dividedUp_14 h2 ?_
    exact W.lret (v := (((v0 + v2) - 1) / v2)) hx hb hr (fun t ht hWm => ⟨_, rfl, hw, ht⟩) t_nil dX0_dividedUp_15
  · have hw := hw.2 c1
    refine lv_lconst (v := 0) hx hb dX0_dividedUp_6 (by decide) ?_
    exact W.lret (v := 0) hx hb hr (fun t ht hWm => ⟨_, rfl, hw, ht⟩) t_nil dX0_dividedUp_7

def wX0_secondsFor (post : Int64 → Prop) (v0 : Int64) (v2 : Int64) : Prop := (wX0_dividedUp (fun r1 => (post r1)) (100 * v0) v2)

set_option maxHeartbeats 4000000 in
set_option maxRecDepth 100000 in
theorem mX0_secondsFor (l : Launch) (v0 : Int64) (v2 : Int64) (post : Int64 → Prop) : Met l yX0_secondsFor wsX0_secondsFor ({ frames := 1, cells := 0, slots := 0, locals := 23 } : Room) (va_Pc [.long v0, .long v2] (fun _ => wX0_secondsFor post v0 v2)) (vp_Sl post) 0 0 nA := by
  refine Met.ofW (cc := cX0_secondsFor) (maxL := 4) (ret := (some .long)) (by decide +kernel) rfl ?_
  intro p e s m args below meth c s₁ B hml hv
  obtain ⟨rfl, hw⟩ := hv
  have hx := B.exec
  have hb := B.bytes
  have hr := B.returns
  have hts := atoms_spec (ws := wsX0_secondsFor) B.pre
  have hown : s.vm.findClass RX0 = some m.cls := findClass_of_methodNamed B.named
  have hlocks := B.notSynchronized
  have hl := lv_entry ([.long v0, .long v2]) (n := 4) (Nat.le_of_ble_eq_true rfl)
  rw [lg_entry_eq]
  generalize (lg_sl ([.long v0, .long v2]) ++ List.replicate (4 - (lg_sl ([.long v0, .long v2])).length) Slot.unset).toArray = ls at hl ⊢
  have hl : lv_has ls 4 [(0, .long v0), (2, .long v2)] := hl
  unfold wX0_secondsFor at hw
  refine lv_ldc2 (v := 100) hx hb hown (hts (.constantLong RX0 174 (100)) (by decide +kernel)) dX0_secondsFor_0 ?_
  refine lv_lload_n hx hb dX0_secondsFor_3 rfl (lv_at hl 0 rfl) ?_
  refine lv_lmul hx hb dX0_secondsFor_4 ?_
  refine lv_lload_n hx hb dX0_secondsFor_5 rfl (lv_at hl 1 rfl) ?_
  refine pc_Sl (As := [.long (100 * v0), .long v2]) (rest := []) ⟨hx, hb, hml, hown, hts⟩ (mX0_dividedUp l (100 * v0) v2 _) (va_cwS 2 hts gX0_secondsFor_X0_dividedUp rfl rfl rfl (by decide +kernel) ⟨Nat.le_of_ble_eq_true rfl, Nat.le_of_ble_eq_true rfl⟩) wK_bl (fun _ _ _ => hw) rfl hl.1 rfl (Nat.le_of_ble_eq_true rfl) dX0_secondsFor_6 ⟨Nat.le_of_ble_eq_true rfl, Nat.le_of_ble_eq_true rfl⟩ (fun r1 hw => ?_)
  exact W.lret (v := r1) hx hb hr (fun t ht hWm => ⟨_, rfl, hw, ht⟩) t_nil dX0_secondsFor_9

def wX0_squatThousandths (post : Int64 → Prop) (v0 : Int64) : Prop := ((((v0 / 200)).toInt32 < 0 → (post ((sqT 6)).toInt64)) ∧ (¬ ((v0 / 200)).toInt32 < 0 → (((((v0 / 200)).toInt32 + 1) < 7 → (vp_in (((v0 / 200)).toInt32 + 1) 7 ∧ (vp_in ((v0 / 200)).toInt32 7 ∧ (vp_in ((v0 / 200)).toInt32 7 ∧ (post (((sqT (((v0 / 200)).toInt32).toNatClampNeg)).toInt64 + (((((sqT ((((v0 / 200)).toInt32 + 1)).toNatClampNeg) - (sqT (((v0 / 200)).toInt32).toNatClampNeg))).toInt64 * (v0 - ((((v0 / 200)).toInt32).toInt64 * 200))) / 200))))))) ∧ (¬ (((v0 / 200)).toInt32 + 1) < 7 → (post ((sqT 6)).toInt64)))))

set_option maxHeartbeats 4000000 in
set_option maxRecDepth 100000 in
theorem mX0_squatThousandths (l : Launch) (tC tS : Nat) (v0 : Int64) (post : Int64 → Prop) : Met l yX0_squatThousandths wsX0_squatThousandths ({ frames := 0, cells := 0, slots := 0, locals := 0 } : Room) (va_Pc [.long v0] (fun U => SW nA tC tS U U.heap ∧ wX0_squatThousandths post v0)) (vp_Sl post) 0 0 nA := by
  refine Met.ofW (cc := cX0_squatThousandths) (maxL := 5) (ret := (some .long)) (by decide +kernel) rfl ?_
  intro p e s m args below meth c s₁ B hml hv
  obtain ⟨rfl, hW, hw⟩ := hv
  have hx := B.exec
  have hb := B.bytes
  have hr := B.returns
  have hts := atoms_spec (ws := wsX0_squatThousandths) B.pre
  have hown : s.vm.findClass RX0 = some m.cls := findClass_of_methodNamed B.named
  have hlocks := B.notSynchronized
  have hl := lv_entry ([.long v0]) (n := 5) (Nat.le_of_ble_eq_true rfl)
  rw [lg_entry_eq]
  generalize (lg_sl ([.long v0]) ++ List.replicate (5 - (lg_sl ([.long v0])).length) Slot.unset).toArray = ls at hl ⊢
  have hl : lv_has ls 5 [(0, .long v0)] := hl
  unfold wX0_squatThousandths at hw
  refine lv_lload_n hx hb dX0_squatThousandths_0 rfl (lv_at hl 0 rfl) ?_
  refine lv_ldc2 (v := 200) hx hb hown (hts (.constantLong RX0 181 (200)) (by decide +kernel)) dX0_squatThousandths_1 ?_
  refine lv_ldiv hx hb dX0_squatThousandths_4 (by decide) ?_
  refine lv_l2i (v := ((v0 / 200)).toInt32) hx hb dX0_squatThousandths_5 rfl ?_
  refine lv_istore_n (lv' := [(2, .int ((v0 / 200)).toInt32), (0, .long v0)]) hx hb dX0_squatThousandths_6 rfl hl (by decide) rfl (fun ls hl => ?_)
  refine lv_iload_n hx hb dX0_squatThousandths_7 rfl (lv_at hl 0 rfl) ?_
  refine lv_if_lt (tgt := 21) hx hb dX0_squatThousandths_8 (by decide) (fun c1 => ?_) (fun c1 => ?_)
  · have hw := hw.1 c1
    refine va_gets hx hb hW.2.2.1 nS hown (hts (.fieldLink RX0 183 "TideDepths" "SQUAT_ROWS" "[I") (by decide +kernel)) (fun _ h9 => h9) dX0_squatThousandths_21 ?_
    refine va_gets hx hb hW.2.2.1 nS hown (hts (.fieldLink RX0 183 "TideDepths" "SQUAT_ROWS" "[I") (by decide +kernel)) (fun _ h9 => h9) dX0_squatThousandths_24 ?_
    refine va_tlen (v := 7) hx hb hW.2.2.2 nS (by decide) dX0_squatThousandths_27 ?_
    refine lv_iconst (v := 1) hx hb dX0_squatThousandths_28 (by decide) ?_
    refine lv_isub hx hb dX0_squatThousandths_29 ?_
    rw [show ((7 : Int32) - 1) = 6 from by decide]
    refine va_ti (v := .int (sqT 6)) hx hb hW.2.2.2 nS (by unfold vp_in; decide) rfl dX0_squatThousandths_30 ?_
    refine lv_i2l (v := ((sqT 6)).toInt64) hx hb dX0_squatThousandths_31 rfl ?_
    exact W.lret (v := ((sqT 6)).toInt64) hx hb hr (fun t ht hWm => ⟨_, rfl, hw, ht⟩) t_nil dX0_squatThousandths_32
  · have hw := hw.2 c1
    refine lv_iload_n hx hb dX0_squatThousandths_11 rfl (lv_at hl 0 rfl) ?_
    refine lv_iconst (v := 1) hx hb dX0_squatThousandths_12 (by decide) ?_
    refine lv_iadd hx hb dX0_squatThousandths_13 ?_
    refine va_gets hx hb hW.2.2.1 nS hown (hts (.fieldLink RX0 183 "TideDepths" "SQUAT_ROWS" "[I") (by decide +kernel)) (fun _ h9 => h9) dX0_squatThousandths_14 ?_
    refine va_tlen (v := 7) hx hb hW.2.2.2 nS (by decide) dX0_squatThousandths_17 ?_
    refine lv_icmp_lt (tgt := 33) hx hb dX0_squatThousandths_18 (by decide) (fun c2 => ?_) (fun c2 => ?_)
    · have hw := hw.1 c2
      refine va_gets hx hb hW.2.2.1 nS hown (hts (.fieldLink RX0 183 "TideDepths" "SQUAT_ROWS" "[I") (by decide +kernel)) (fun _ h9 => h9) dX0_squatThousandths_33 ?_
      refine lv_iload_n hx hb dX0_squatThousandths_36 rfl (lv_at hl 0 rfl) ?_
      refine lv_iconst (v := 1) hx hb dX0_squatThousandths_37 (by decide) ?_
      refine lv_iadd hx hb dX0_squatThousandths_38 ?_
      obtain ⟨h3, hw⟩ := hw
      refine va_ti (v := .int (sqT ((((v0 / 200)).toInt32 + 1)).toNatClampNeg)) hx hb hW.2.2.2 nS h3 rfl dX0_squatThousandths_39 ?_
      refine va_gets hx hb hW.2.2.1 nS hown (hts (.fieldLink RX0 183 "TideDepths" "SQUAT_ROWS" "[I") (by decide +kernel)) (fun _ h9 => h9) dX0_squatThousandths_40 ?_
      refine lv_iload_n hx hb dX0_squatThousandths_43 rfl (lv_at hl 0 rfl) ?_
      obtain ⟨h4, hw⟩ := hw
      refine va_ti (v := .int (sqT (((v0 / 200)).toInt32).toNatClampNeg)) hx hb hW.2.2.2 nS h4 rfl dX0_squatThousandths_44 ?_
      refine lv_isub hx hb dX0_squatThousandths_45 ?_
      refine lv_i2l (v := (((sqT ((((v0 / 200)).toInt32 + 1)).toNatClampNeg) - (sqT (((v0 / 200)).toInt32).toNatClampNeg))).toInt64) hx hb dX0_squatThousandths_46 rfl ?_
      refine lv_lstore_n (lv' := [(3, .long (((sqT ((((v0 / 200)).toInt32 + 1)).toNatClampNeg) - (sqT (((v0 / 200)).toInt32).toNatClampNeg))).toInt64), (2, .int ((v0 / 200)).toInt32), (0, .long v0)]) hx hb dX0_squatThousandths_47 rfl hl (by decide) rfl (fun ls hl => ?_)
      refine va_gets hx hb hW.2.2.1 nS hown (hts (.fieldLink RX0 183 "TideDepths" "SQUAT_ROWS" "[I") (by decide +kernel)) (fun _ h9 => h9) dX0_squatThousandths_48 ?_
      refine lv_iload_n hx hb dX0_squatThousandths_51 rfl (lv_at hl 1 rfl) ?_
      obtain ⟨h5, hw⟩ := hw
      refine va_ti (v := .int (sqT (((v0 / 200)).toInt32).toNatClampNeg)) hx hb hW.2.2.2 nS h5 rfl dX0_squatThousandths_52 ?_
      refine lv_i2l (v := ((sqT (((v0 / 200)).toInt32).toNatClampNeg)).toInt64) hx hb dX0_squatThousandths_53 rfl ?_
      refine lv_lload_n hx hb dX0_squatThousandths_54 rfl (lv_at hl 0 rfl) ?_
      refine lv_lload_n hx hb dX0_squatThousandths_55 rfl (lv_at hl 2 rfl) ?_
      refine lv_iload_n hx hb dX0_squatThousandths_56 rfl (lv_at hl 1 rfl) ?_
      refine lv_i2l (v := (((v0 / 200)).toInt32).toInt64) hx hb dX0_squatThousandths_57 rfl ?_
      refine lv_ldc2 (v := 200) hx hb hown (hts (.constantLong RX0 181 (200)) (by decide +kernel)) dX0_squatThousandths_58 ?_
      refine lv_lmul hx hb dX0_squatThousandths_61 ?_
      refine lv_lsub hx hb dX0_squatThousandths_62 ?_
      refine lv_lmul hx hb dX0_squatThousandths_63 ?_
      refine lv_ldc2 (v := 200) hx hb hown (hts (.constantLong RX0 181 (200)) (by decide +kernel)) dX0_squatThousandths_64 ?_
      refine lv_ldiv hx hb dX0_squatThousandths_67 (by decide) ?_
      refine lv_ladd hx hb dX0_squatThousandths_68 ?_
      exact W.lret (v := (((sqT (((v0 / 200)).toInt32).toNatClampNeg)).toInt64 + (((((sqT ((((v0 / 200)).toInt32 + 1)).toNatClampNeg) - (sqT (((v0 / 200)).toInt32).toNatClampNeg))).toInt64 * (v0 - ((((v0 / 200)).toInt32).toInt64 * 200))) / 200))) hx hb hr (fun t ht hWm => ⟨_, rfl, hw, ht⟩) t_nil dX0_squatThousandths_69
    · have hw := hw.2 c2
      refine va_gets hx hb hW.2.2.1 nS hown (hts (.fieldLink RX0 183 "TideDepths" "SQUAT_ROWS" "[I") (by decide +kernel)) (fun _ h9 => h9) dX0_squatThousandths_21 ?_
      refine va_gets hx hb hW.2.2.1 nS hown (hts (.fieldLink RX0 183 "TideDepths" "SQUAT_ROWS" "[I") (by decide +kernel)) (fun _ h9 => h9) dX0_squatThousandths_24 ?_
      refine va_tlen (v := 7) hx hb hW.2.2.2 nS (by decide) dX0_squatThousandths_27 ?_
      refine lv_iconst (v := 1) hx hb dX0_squatThousandths_28 (by decide) ?_
      refine lv_isub hx hb dX0_squatThousandths_29 ?_
      rw [show ((7 : Int32) - 1) = 6 from by decide]
      refine va_ti (v := .int (sqT 6)) hx hb hW.2.2.2 nS (by unfold vp_in; decide) rfl dX0_squatThousandths_30 ?_
      refine lv_i2l (v := ((sqT 6)).toInt64) hx hb dX0_squatThousandths_31 rfl ?_
      exact W.lret (v := ((sqT 6)).toInt64) hx hb hr (fun t ht hWm => ⟨_, rfl, hw, ht⟩) t_nil dX0_squatThousandths_32

def wX0_squatOf (post : Int64 → Prop) (v0 : Int64) (v2 : Int64) : Prop := (wX0_squatThousandths (fun r1 => (wX0_dividedUp (fun r2 => (post r2)) (v2 * r1) 1000)) v0)

set_option maxHeartbeats 4000000 in
set_option maxRecDepth 100000 in
theorem mX0_squatOf (l : Launch) (tC tS : Nat) (v0 : Int64) (v2 : Int64) (post : Int64 → Prop) : Met l yX0_squatOf wsX0_squatOf ({ frames := 1, cells := 0, slots := 0, locals := 24 } : Room) (va_Pc [.long v0, .long v2] (fun U => SW nA tC tS U U.heap ∧ wX0_squatOf post v0 v2)) (vp_Sl post) 0 0 nA := by
  refine Met.ofW (cc := cX0_squatOf) (maxL := 4) (ret := (some .long)) (by decide +kernel) rfl ?_
  intro p e s m args below meth c s₁ B hml hv
  obtain ⟨rfl, hW, hw⟩ := hv
  have hx := B.exec
  have hb := B.bytes
  have hr := B.returns
  have hts := atoms_spec (ws := wsX0_squatOf) B.pre
  have hown : s.vm.findClass RX0 = some m.cls := findClass_of_methodNamed B.named
  have hlocks := B.notSynchronized
  have hl := lv_entry ([.long v0, .long v2]) (n := 4) (Nat.le_of_ble_eq_true rfl)
  rw [lg_entry_eq]
  generalize (lg_sl ([.long v0, .long v2]) ++ List.replicate (4 - (lg_sl ([.long v0, .long v2])).length) Slot.unset).toArray = ls at hl ⊢
  have hl : lv_has ls 4 [(0, .long v0), (2, .long v2)] := hl
  unfold wX0_squatOf at hw
  refine lv_lload_n hx hb dX0_squatOf_0 rfl (lv_at hl 1 rfl) ?_
  refine lv_lload_n hx hb dX0_squatOf_1 rfl (lv_at hl 0 rfl) ?_
  refine pc_Sl (As := [.long v0]) (rest := [.long v2]) ⟨hx, hb, hml, hown, hts⟩ (mX0_squatThousandths l tC tS v0 _) (va_cwS 1 hts gX0_squatOf_X0_squatThousandths rfl rfl rfl (by decide +kernel) ⟨Nat.le_of_ble_eq_true rfl, Nat.le_of_ble_eq_true rfl⟩) wS_bl (wS_in hW hw) rfl hl.1 rfl (Nat.le_of_ble_eq_true rfl) dX0_squatOf_2 ⟨Nat.le_of_ble_eq_true rfl, Nat.le_of_ble_eq_true rfl⟩ (fun r1 hw => ?_)
  refine lv_lmul hx hb dX0_squatOf_5 ?_
  refine lv_ldc2 (v := 1000) hx hb hown (hts (.constantLong RX0 179 (1000)) (by decide +kernel)) dX0_squatOf_6 ?_
  refine pc_Sl (As := [.long (v2 * r1), .long 1000]) (rest := []) ⟨hx, hb, hml, hown, hts⟩ (mX0_dividedUp l (v2 * r1) 1000 _) (va_cwS 2 hts gX0_squatOf_X0_dividedUp rfl rfl rfl (by decide +kernel) ⟨Nat.le_of_ble_eq_true rfl, Nat.le_of_ble_eq_true rfl⟩) wK_bl (fun _ _ _ => hw) rfl hl.1 rfl (Nat.le_of_ble_eq_true rfl) dX0_squatOf_9 ⟨Nat.le_of_ble_eq_true rfl, Nat.le_of_ble_eq_true rfl⟩ (fun r2 hw => ?_)
  exact W.lret (v := r2) hx hb hr (fun t ht hWm => ⟨_, rfl, hw, ht⟩) t_nil dX0_squatOf_12

def wJ9_floorDiv_f86c9 (post : Int64 → Prop) (v0 : Int64) (v2 : Int64) : Prop := (¬ v2 = 0 ∧ ((0 ≤ (v0 ^^^ v2) → (post (v0 / v2))) ∧ (¬ 0 ≤ (v0 ^^^ v2) → ((((v0 / v2) * v2) = v0 → (post (v0 / v2))) ∧ (¬ ((v0 / v2) * v2) = v0 → (post ((v0 / v2) - 1)))))))

set_option maxHeartbeats 4000000 in
set_option maxRecDepth 100000 in
theorem mJ9_floorDiv_f86c9 (l : Launch) (v0 : Int64) (v2 : Int64) (post : Int64 → Prop) : Met l yJ9_floorDiv_f86c9 wsJ9_floorDiv_f86c9 ({ frames := 0, cells := 0, slots := 0, locals := 0 } : Room) (va_Pc [.long v0, .long v2] (fun _ => wJ9_floorDiv_f86c9 post v0 v2)) (vp_Sl post) 0 0 nA := by
  refine va_MetF (cc := cJ9_floorDiv_f86c9) (maxL := 6) (ret := (some .long)) (by decide +kernel) rfl ?_
  intro p e s m args below meth c s₁ B hml hv
  obtain ⟨rfl, hw⟩ := hv
  have hx := B.exec
  have hb := B.bytes
  have hr := B.returns
  have hts := atoms_spec (ws := wsJ9_floorDiv_f86c9) B.pre
  have hown : s.vm.findClass RJ9 = some m.cls := findClass_of_methodNamed B.named
  have hlocks := B.notSynchronized
  have hl := lv_entry ([.long v0, .long v2]) (n := 6) (Nat.le_of_ble_eq_true rfl)
  rw [lg_entry_eq]
  generalize (lg_sl ([.long v0, .long v2]) ++ List.replicate (6 - (lg_sl ([.long v0, .long v2])).length) Slot.unset).toArray = ls at hl ⊢
  have hl : lv_has ls 6 [(0, .long v0), (2, .long v2)] := hl
  unfold wJ9_floorDiv_f86c9 at hw
  refine lv_lload_n hx hb dJ9_floorDiv_f86c9_0 rfl (lv_at hl 0 rfl) ?_
  refine lv_lload_n hx hb dJ9_floorDiv_f86c9_1 rfl (lv_at hl 1 rfl) ?_
  obtain ⟨h1, hw⟩ := hw
  refine lv_ldiv hx hb dJ9_floorDiv_f86c9_2 h1 ?_
  refine lv_lstore (lv' := [(4, .long (v0 / v2)), (0, .long v0), (2, .long v2)]) hx hb dJ9_floorDiv_f86c9_3 hl (by decide) rfl (fun ls hl => ?_)
  refine lv_lload_n hx hb dJ9_floorDiv_f86c9_5 rfl (lv_at hl 1 rfl) ?_
  refine lv_lload_n hx hb dJ9_floorDiv_f86c9_6 rfl (lv_at hl 2 rfl) ?_
  refine lv_lxor hx hb dJ9_floorDiv_f86c9_7 ?_
  refine lv_lconst (v := 0) hx hb dJ9_floorDiv_f86c9_8 (by decide) ?_
  refine bl_ge (tgt := 27) hx hb dJ9_floorDiv_f86c9_9 dJ9_floorDiv_f86c9_10 (by decide) (fun c2 => ?_) (fun c2 => ?_)
  · have hw := hw.1 c2
    refine lv_lload hx hb dJ9_floorDiv_f86c9_27 (lv_at hl 0 rfl) ?_
    exact W.lret (v := (v0 / v2)) hx hb hr (fun t ht hWm => ⟨_, rfl, hw, ht⟩) t_nil dJ9_floorDiv_f86c9_29
  · have hw := hw.2 c2
    refine lv_lload hx hb dJ9_floorDiv_f86c9_13 (lv_at hl 0 rfl) ?_
    refine lv_lload_n hx hb dJ9_floorDiv_f86c9_15 rfl (lv_at hl 2 rfl) ?_
    refine lv_lmul hx hb dJ9_floorDiv_f86c9_16 ?_
    refine lv_lload_n hx hb dJ9_floorDiv_f86c9_17 rfl (lv_at hl 1 rfl) ?_
    refine bl_eq (tgt := 27) hx hb dJ9_floorDiv_f86c9_18 dJ9_floorDiv_f86c9_19 (by decide) (fun c3 => ?_) (fun c3 => ?_)
    · have hw := hw.1 c3
      refine lv_lload hx hb dJ9_floorDiv_f86c9_27 (lv_at hl 0 rfl) ?_
      exact W.lret (v := (v0 / v2)) hx hb hr (fun t ht hWm => ⟨_, rfl, hw, ht⟩) t_nil dJ9_floorDiv_f86c9_29
    · have hw := hw.2 c3
      refine lv_lload hx hb dJ9_floorDiv_f86c9_22 (lv_at hl 0 rfl) ?_
      refine lv_lconst (v := 1) hx hb dJ9_floorDiv_f86c9_24 (by decide) ?_
      refine lv_lsub hx hb dJ9_floorDiv_f86c9_25 ?_
      exact W.lret (v := ((v0 / v2) - 1)) hx hb hr (fun t ht hWm => ⟨_, rfl, hw, ht⟩) t_nil dJ9_floorDiv_f86c9_26

def wX0_cosinePart (post : Int64 → Prop) (v0 : Int64) (v2 : Int64) : Prop := ((0 < v2 → (¬ v2 = 0 ∧ (((((64 * v0) / v2)).toInt32 < 0 → (post 32768)) ∧ (¬ (((64 * v0) / v2)).toInt32 < 0 → ((((((64 * v0) / v2)).toInt32 + 1) < 65 → (vp_in ((((64 * v0) / v2)).toInt32 + 1) 65 ∧ (vp_in (((64 * v0) / v2)).toInt32 65 ∧ (vp_in (((64 * v0) / v2)).toInt32 65 ∧ (¬ v2 = 0 ∧ (post (((cosT ((((64 * v0) / v2)).toInt32).toNatClampNeg)).toInt64 + (((((cosT (((((64 * v0) / v2)).toInt32 + 1)).toNatClampNeg) - (cosT ((((64 * v0) / v2)).toInt32).toNatClampNeg))).toInt64 * ((64 * v0) - (((((64 * v0) / v2)).toInt32).toInt64 * v2))) / v2)))))))) ∧ (¬ ((((64 * v0) / v2)).toInt32 + 1) < 65 → (post 32768))))))) ∧ (¬ 0 < v2 → (post 32768)))

set_option maxHeartbeats 4000000 in
set_option maxRecDepth 100000 in
theorem mX0_cosinePart (l : Launch) (tC tS : Nat) (v0 : Int64) (v2 : Int64) (post : Int64 → Prop) : Met l yX0_cosinePart wsX0_cosinePart ({ frames := 0, cells := 0, slots := 0, locals := 0 } : Room) (va_Pc [.long v0, .long v2] (fun U => SW nA tC tS U U.heap ∧ wX0_cosinePart post v0 v2)) (vp_Sl post) 0 0 nA := by
  refine Met.ofW (cc := cX0_cosinePart) (maxL := 9) (ret := (some .long)) (by decide +kernel) rfl ?_
  intro p e s m args below meth c s₁ B hml hv
  obtain ⟨rfl, hW, hw⟩ := hv
  have hx := B.exec
  have hb := B.bytes
  have hr := B.returns
  have hts := atoms_spec (ws := wsX0_cosinePart) B.pre
  have hown : s.vm.findClass RX0 = some m.cls := findClass_of_methodNamed B.named
  have hlocks := B.notSynchronized
  have hl := lv_entry ([.long v0, .long v2]) (n := 9) (Nat.le_of_ble_eq_true rfl)
  rw [lg_entry_eq]
  generalize (lg_sl ([.long v0, .long v2]) ++ List.replicate (9 - (lg_sl ([.long v0, .long v2])).length) Slot.unset).toArray = ls at hl ⊢
  have hl : lv_has ls 9 [(0, .long v0), (2, .long v2)] := hl
  unfold wX0_cosinePart at hw
  refine lv_lload_n hx hb dX0_cosinePart_0 rfl (lv_at hl 1 rfl) ?_
  refine lv_lconst (v := 0) hx hb dX0_cosinePart_1 (by decide) ?_
  refine bl_gt (tgt := 10) hx hb dX0_cosinePart_2 dX0_cosinePart_3 (by decide) (fun c1 => ?_) (fun c1 => ?_)
  · have hw := hw.1 c1
    refine lv_ldc2 (v := 64) hx hb hown (hts (.constantLong RX0 209 (64)) (by decide +kernel)) dX0_cosinePart_10 ?_
    refine lv_lload_n hx hb dX0_cosinePart_13 rfl (lv_at hl 0 rfl) ?_
    refine lv_lmul hx hb dX0_cosinePart_14 ?_
    refine lv_lstore (lv' := [(4, .long (64 * v0)), (0, .long v0), (2, .long v2)]) hx hb dX0_cosinePart_15 hl (by decide) rfl (fun ls hl => ?_)
    refine lv_lload hx hb dX0_cosinePart_17 (lv_at hl 0 rfl) ?_
    refine lv_lload_n hx hb dX0_cosinePart_19 rfl (lv_at hl 2 rfl) ?_
    obtain ⟨h2, hw⟩ := hw
    refine lv_ldiv hx hb dX0_cosinePart_20 h2 ?_
    refine lv_l2i (v := (((64 * v0) / v2)).toInt32) hx hb dX0_cosinePart_21 rfl ?_
    refine lv_istore (lv' := [(6, .int (((64 * v0) / v2)).toInt32), (4, .long (64 * v0)), (0, .long v0), (2, .long v2)]) hx hb dX0_cosinePart_22 hl (by decide) rfl (fun ls hl => ?_)
    refine lv_iload hx hb dX0_cosinePart_24 (lv_at hl 0 rfl) ?_
    refine lv_if_lt (tgt := 40) hx hb dX0_cosinePart_26 (by decide) (fun c3 => ?_) (fun c3 => ?_)
    · have hw := hw.1 c3
      refine lv_ldc2 (v := 32768) hx hb hown (hts (.constantLong RX0 202 (32768)) (by decide +kernel)) dX0_cosinePart_40 ?_
      exact W.lret (v := 32768) hx hb hr (fun t ht hWm => ⟨_, rfl, hw, ht⟩) t_nil dX0_cosinePart_43
    · have hw := hw.2 c3
      refine lv_iload hx hb dX0_cosinePart_29 (lv_at hl 0 rfl) ?_
      refine lv_iconst (v := 1) hx hb dX0_cosinePart_31 (by decide) ?_
      refine lv_iadd hx hb dX0_cosinePart_32 ?_
      refine va_gets hx hb hW.1 nS hown (hts (.fieldLink RX0 120 "TideDepths" "COSINE" "[I") (by decide +kernel)) (fun _ h9 => h9) dX0_cosinePart_33 ?_
      refine va_tlen (v := 65) hx hb hW.2.1 nS (by decide) dX0_cosinePart_36 ?_
      refine lv_icmp_lt (tgt := 44) hx hb dX0_cosinePart_37 (by decide) (fun c4 => ?_) (fun c4 => ?_)
      · have hw := hw.1 c4
        refine va_gets hx hb hW.1 nS hown (hts (.fieldLink RX0 120 "TideDepths" "COSINE" "[I") (by decide +kernel)) (fun _ h9 => h9) dX0_cosinePart_44 ?_
        refine lv_iload hx hb dX0_cosinePart_47 (lv_at hl 0 rfl) ?_
        refine lv_iconst (v := 1) hx hb dX0_cosinePart_49 (by decide) ?_
        refine lv_iadd hx hb dX0_cosinePart_50 ?_
        obtain ⟨h5, hw⟩ := hw
        refine va_ti (v := .int (cosT (((((64 * v0) / v2)).toInt32 + 1)).toNatClampNeg)) hx hb hW.2.1 nS h5 rfl dX0_cosinePart_51 ?_
        refine va_gets hx hb hW.1 nS hown (hts (.fieldLink RX0 120 "TideDepths" "COSINE" "[I") (by decide +kernel)) (fun _ h9 => h9) dX0_cosinePart_52 ?_
        refine lv_iload hx hb dX0_cosinePart_55 (lv_at hl 0 rfl) ?_
        obtain ⟨h6, hw⟩ := hw
        refine va_ti (v := .int (cosT ((((64 * v0) / v2)).toInt32).toNatClampNeg)) hx hb hW.2.1 nS h6 rfl dX0_cosinePart_57 ?_
        refine lv_isub hx hb dX0_cosinePart_58 ?_
        refine lv_i2l (v := (((cosT (((((64 * v0) / v2)).toInt32 + 1)).toNatClampNeg) - (cosT ((((64 * v0) / v2)).toInt32).toNatClampNeg))).toInt64) hx hb dX0_cosinePart_59 rfl ?_
        refine lv_lstore (lv' := [(7, .long (((cosT (((((64 * v0) / v2)).toInt32 + 1)).toNatClampNeg) - (cosT ((((64 * v0) / v2)).toInt32).toNatClampNeg))).toInt64), (6, .int (((64 * v0) / v2)).toInt32), (4, .long (64 * v0)), (0, .long v0), (2, .long v2)]) hx hb dX0_cosinePart_60 hl (by decide) rfl (fun ls hl => ?_)
        refine va_gets hx hb hW.1 nS hown (hts (.fieldLink RX0 120 "TideDepths" "COSINE" "[I") (by decide +kernel)) (fun _ h9 => h9) dX0_cosinePart_62 ?_
        refine lv_iload hx hb dX0_cosinePart_65 (lv_at hl 1 rfl) ?_
        obtain ⟨h7, hw⟩ := hw
        refine va_ti (v := .int (cosT ((((64 * v0) / v2)).toInt32).toNatClampNeg)) hx hb hW.2.1 nS h7 rfl dX0_cosinePart_67 ?_
        refine lv_i2l (v := ((cosT ((((64 * v0) / v2)).toInt32).toNatClampNeg)).toInt64) hx hb dX0_cosinePart_68 rfl ?_
        refine lv_lload hx hb dX0_cosinePart_69 (lv_at hl 0 rfl) ?_
        refine lv_lload hx hb dX0_cosinePart_71 (lv_at hl 2 rfl) ?_
        refine lv_iload hx hb dX0_cosinePart_73 (lv_at hl 1 rfl) ?_
        refine lv_i2l (v := ((((64 * v0) / v2)).toInt32).toInt64) hx hb dX0_cosinePart_75 rfl ?_
        refine lv_lload_n hx hb dX0_cosinePart_76 rfl (lv_at hl 4 rfl) ?_
        refine lv_lmul hx hb dX0_cosinePart_77 ?_
        refine lv_lsub hx hb dX0_cosinePart_78 ?_
        refine lv_lmul hx hb dX0_cosinePart_79 ?_
        refine lv_lload_n hx hb dX0_cosinePart_80 rfl (lv_at hl 4 rfl) ?_
        obtain ⟨h8, hw⟩ := hw
        refine lv_ldiv hx hb dX0_cosinePart_81 h8 ?_
        refine lv_ladd hx hb dX0_cosinePart_82 ?_
        exact W.lret (v := (((cosT ((((64 * v0) / v2)).toInt32).toNatClampNeg)).toInt64 + (((((cosT (((((64 * v0) / v2)).toInt32 + 1)).toNatClampNeg) - (cosT ((((64 * v0) / v2)).toInt32).toNatClampNeg))).toInt64 * ((64 * v0) - (((((64 * v0) / v2)).toInt32).toInt64 * v2))) / v2))) hx hb hr (fun t ht hWm => ⟨_, rfl, hw, ht⟩) t_nil dX0_cosinePart_83
      · have hw := hw.2 c4
        refine lv_ldc2 (v := 32768) hx hb hown (hts (.constantLong RX0 202 (32768)) (by decide +kernel)) dX0_cosinePart_40 ?_
        exact W.lret (v := 32768) hx hb hr (fun t ht hWm => ⟨_, rfl, hw, ht⟩) t_nil dX0_cosinePart_43
  · have hw := hw.2 c1
    refine lv_ldc2 (v := 32768) hx hb hown (hts (.constantLong RX0 202 (32768)) (by decide +kernel)) dX0_cosinePart_6 ?_
    exact W.lret (v := 32768) hx hb hr (fun t ht hWm => ⟨_, rfl, hw, ht⟩) t_nil dX0_cosinePart_9

def wX0_lastNotBehind_L5 (post : Int32 → Prop) (N : Nat) (f : Nat → Int64) (v0 : Int64) : Nat → Int32 → Prop
  | 0, _ => False
  | n + 1, v4 => ((v4 < 0 → (post (-1))) ∧ (¬ v4 < 0 → (vp_in v4 N ∧ ((v0 < (f (v4).toNatClampNeg) → (wX0_lastNotBehind_L5 post N f v0 n (v4 + (-1)))) ∧ (¬ v0 < (f (v4).toNatClampNeg) → (post v4))))))
def wX0_lastNotBehind (post : Int32 → Prop) (N : Nat) (f : Nat → Int64) (v0 : Int64) (v3 : Int32) : Prop := (∃ n4 : Nat, wX0_lastNotBehind_L5 post N f v0 n4 (v3 - 1))
set_option maxHeartbeats 4000000 in
set_option maxRecDepth 100000 in
theorem kX0_lastNotBehind_L5 {p : Program} {l : Launch} {e : Env} {s : State} {m : MethodId} {args : Array Value} {below : List Frame} {meth : Method} {c : Code} {D : va_G} {cJ : ClassId} {a N : Nat} {f : Nat → Int64} {post : Int32 → Prop} (hx : p.tables.exec = Jvm.exec) (hb : c.code = cX0_lastNotBehind) (hr : meth.sig.returnType = (some .int)) (hml : c.maxLocals = 5) (hown : s.vm.findClass RX0 = some m.cls) (hlocks : meth.locks = false) (hts : ∀ w ∈ wsX0_lastNotBehind, w.before args s = true) (hW : AW D cJ a N f s s.heap) (v0 : Int64) (v3 : Int32) : ∀ (n : Nat) (v4 : Int32) (ls : Array Slot), lv_has ls 5 [(0, .long v0), (2, .ref a), (3, .int v3), (4, .int v4)] → wX0_lastNotBehind_L5 post N f v0 n v4 → W p l e ({ frames := 0, cells := 0, slots := 0, locals := 0 } : Room) s m args below meth c s.heap [] 0 0 (MQ below (vp_Si post) args s 0 0 nA) (F0 m 5 ls []) := by
  intro n
  induction n with
  | zero =>
    intro v4 ls hl hw
    exact hw.elim
  | succ n ih =>
    intro v4 ls hl hw
    rw [wX0_lastNotBehind_L5] at hw
    refine lv_iload hx hb dX0_lastNotBehind_5 (lv_at hl 3 rfl) ?_
    refine lv_if_lt (tgt := 28) hx hb dX0_lastNotBehind_7 (by decide) (fun c1 => ?_) (fun c1 => ?_)
    · have hw := hw.1 c1
      refine lv_iconst (v := (-1)) hx hb dX0_lastNotBehind_28 (by decide) ?_
      exact W.iret (v := (-1)) hx hb hr (fun t ht hWm => ⟨_, rfl, hw, ht⟩) t_nil dX0_lastNotBehind_29
    · have hw := hw.2 c1
      refine lv_aload_n hx hb dX0_lastNotBehind_10 rfl (lv_at hl 1 rfl) ?_
      refine lv_iload hx hb dX0_lastNotBehind_11 (lv_at hl 3 rfl) ?_
      obtain ⟨h2, hw⟩ := hw
      refine va_lald hx hb hW.2 hW.1 0 0 rfl rfl h2 dX0_lastNotBehind_13 ?_
      refine lv_lload_n hx hb dX0_lastNotBehind_14 rfl (lv_at hl 0 rfl) ?_
      refine bl_gt (tgt := 22) hx hb dX0_lastNotBehind_15 dX0_lastNotBehind_16 (by decide) (fun c3 => ?_) (fun c3 => ?_)
      · have hw := hw.1 c3
        refine lv_iinc (v := (v4 + (-1))) (lv' := [(4, .int (v4 + (-1))), (0, .long v0), (2, .ref a), (3, .int v3)]) hx hb dX0_lastNotBehind_22 hl (k := 3) rfl (by first | rfl | exact congrArg (fun z => v4 + z) (by decide)) (by decide) rfl (fun ls hl => ?_)
        refine lv_goto (tgt := 5) hx hb dX0_lastNotBehind_25 (by decide) ?_
        exact ih (v4 + (-1)) ls (lv_sub hl [1, 2, 3, 0] rfl) hw
      · have hw := hw.2 c3
        refine lv_iload hx hb dX0_lastNotBehind_19 (lv_at hl 3 rfl) ?_
        exact W.iret (v := v4) hx hb hr (fun t ht hWm => ⟨_, rfl, hw, ht⟩) t_nil dX0_lastNotBehind_21
set_option maxHeartbeats 4000000 in
set_option maxRecDepth 100000 in
theorem mX0_lastNotBehind (l : Launch) (D : va_G) (cJ : ClassId) (a N : Nat) (f : Nat → Int64) (v0 : Int64) (v3 : Int32) (post : Int32 → Prop) : Met l yX0_lastNotBehind wsX0_lastNotBehind ({ frames := 0, cells := 0, slots := 0, locals := 0 } : Room) (va_Pc [.long v0, .ref a, .int v3] (fun U => AW D cJ a N f U U.heap ∧ wX0_lastNotBehind post N f v0 v3)) (vp_Si post) 0 0 nA := by
  refine Met.ofW (cc := cX0_lastNotBehind) (maxL := 5) (ret := (some .int)) (by decide +kernel) rfl ?_
  intro p e s m args below meth c s₁ B hml hv
  obtain ⟨rfl, hW, hw⟩ := hv
  have hx := B.exec
  have hb := B.bytes
  have hr := B.returns
  have hts := atoms_spec (ws := wsX0_lastNotBehind) B.pre
  have hown : s.vm.findClass RX0 = some m.cls := findClass_of_methodNamed B.named
  have hlocks := B.notSynchronized
  have hl := lv_entry ([.long v0, .ref a, .int v3]) (n := 5) (Nat.le_of_ble_eq_true rfl)
  rw [lg_entry_eq]
  generalize (lg_sl ([.long v0, .ref a, .int v3]) ++ List.replicate (5 - (lg_sl ([.long v0, .ref a, .int v3])).length) Slot.unset).toArray = ls at hl ⊢
  have hl : lv_has ls 5 [(0, .long v0), (2, .ref a), (3, .int v3)] := hl
  unfold wX0_lastNotBehind at hw
  refine lv_iload_n hx hb dX0_lastNotBehind_0 rfl (lv_at hl 2 rfl) ?_
  refine lv_iconst (v := 1) hx hb dX0_lastNotBehind_1 (by decide) ?_
  refine lv_isub hx hb dX0_lastNotBehind_2 ?_
  refine lv_istore (lv' := [(4, .int (v3 - 1)), (0, .long v0), (2, .ref a), (3, .int v3)]) hx hb dX0_lastNotBehind_3 hl (by decide) rfl (fun ls hl => ?_)
  obtain ⟨n4, hw⟩ := hw
  exact kX0_lastNotBehind_L5 hx hb hr hml hown hlocks hts hW v0 v3 n4 (v3 - 1) ls (lv_sub hl [1, 2, 3, 0] rfl) hw
